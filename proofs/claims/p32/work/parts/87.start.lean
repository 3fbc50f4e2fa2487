theorem arrO {C : String} {args : Array Value} {s : State} (h : (Cond.arrayOver (.object C)).before args s = true) : ∃ cA : ClassId, ArrOfT s cA (.object C) ∧ va_RA s cA (.object C) := by
  obtain ⟨comp, c, k, h1, h2, h3, h4, h5⟩ := Cond.arrayOver_spec h
  exact ⟨c, fun n z => ⟨(fun k h => by cases h), k, h3, comp, h4⟩, k, comp, h3, h4, h1, h5⟩
theorem nI_u (x : Int32) : nI x.toUInt32.toNat = x := by
  apply Int32.toBitVec_inj.mp
  show BitVec.ofNat 32 x.toBitVec.toNat = x.toBitVec
  simp

theorem law_K {args : Array Value} {s : State} (hts : ∀ w ∈ lw_tbl, w.before args s = true) : ∃ (D : va_G) (z : Nat → ClassId), va_K D vwCl (ty6 z) s ∧ ArrOfT s (z 6) (.object "java/lang/String") ∧ va_RA s (z 6) (.object "java/lang/String") := by
  obtain ⟨c0, i0, K0⟩ := u_known (C := RJ0) (T := TJ0) (N := 4) (n := 4) hts (by decide +kernel) (hts _ (by decide +kernel))
  obtain ⟨c1, i1, K1⟩ := u_known (C := RJ4) (T := TJ4) (N := 4) (n := 4) hts (by decide +kernel) (hts _ (by decide +kernel))
  obtain ⟨c2, i2, K2⟩ := u_known (C := RX0) (T := TX0) (N := 6) (n := 6) hts (by decide +kernel) (hts _ (by decide +kernel))
  obtain ⟨c3, i3, K3⟩ := u_known (C := RX1) (T := TX1) (N := 3) (n := 3) hts (by decide +kernel) (hts _ (by decide +kernel))
  obtain ⟨c4, i4, K4⟩ := u_known (C := RX2) (T := TX2) (N := 8) (n := 8) hts (by decide +kernel) (hts _ (by decide +kernel))
  obtain ⟨c5, i5, K5⟩ := u_known (C := RX3) (T := TX3) (N := 8) (n := 8) hts (by decide +kernel) (hts _ (by decide +kernel))
  obtain ⟨c6, i6, K6⟩ := u_known (C := RX4) (T := TX4) (N := 15) (n := 15) hts (by decide +kernel) (hts _ (by decide +kernel))
  obtain ⟨c7, i7, K7⟩ := u_known (C := RX5) (T := TX5) (N := 5) (n := 5) hts (by decide +kernel) (hts _ (by decide +kernel))
  obtain ⟨c8, i8, K8⟩ := u_known (C := RX6) (T := TX6) (N := 4) (n := 4) hts (by decide +kernel) (hts _ (by decide +kernel))
  obtain ⟨c9, i9, K9⟩ := u_known (C := RX7) (T := TX7) (N := 9) (n := 9) hts (by decide +kernel) (hts _ (by decide +kernel))
  obtain ⟨c10, i10, K10⟩ := u_known (C := RX8) (T := TX8) (N := 5) (n := 5) hts (by decide +kernel) (hts _ (by decide +kernel))
  obtain ⟨c11, i11, K11⟩ := u_known (C := RX9) (T := TX9) (N := 11) (n := 11) hts (by decide +kernel) (hts _ (by decide +kernel))
  obtain ⟨c12, i12, K12⟩ := u_known (C := RX10) (T := TX10) (N := 2) (n := 2) hts (by decide +kernel) (hts _ (by decide +kernel))
  obtain ⟨c13, i13, K13⟩ := u_known (C := RX11) (T := TX11) (N := 13) (n := 13) hts (by decide +kernel) (hts _ (by decide +kernel))
  obtain ⟨z0, A0, B0⟩ := ax_arr (ty := .byte) (hts _ (by decide +kernel))
  obtain ⟨z1, A1, B1⟩ := ax_arr (ty := .int) (hts _ (by decide +kernel))
  obtain ⟨z2, A2, B2⟩ := ax_arr (ty := .long) (hts _ (by decide +kernel))
  obtain ⟨z3, A3, B3⟩ := arrO (C := RX2) (hts _ (by decide +kernel))
  obtain ⟨z4, A4, B4⟩ := arrO (C := RX5) (hts _ (by decide +kernel))
  obtain ⟨z5, A5, B5⟩ := arrO (C := RX7) (hts _ (by decide +kernel))
  obtain ⟨z6, A6, B6⟩ := arrO (C := "java/lang/String") (hts _ (by decide +kernel))
  refine ⟨(fun k => match k with | 0 => c0 | 1 => c1 | 2 => c2 | 3 => c3 | 4 => c4 | 5 => c5 | 6 => c6 | 7 => c7 | 8 => c8 | 9 => c9 | 10 => c10 | 11 => c11 | 12 => c12 | _ => c13, fun k => match k with | 0 => i0 | 1 => i1 | 2 => i2 | 3 => i3 | 4 => i4 | 5 => i5 | 6 => i6 | 7 => i7 | 8 => i8 | 9 => i9 | 10 => i10 | 11 => i11 | 12 => i12 | _ => i13), (fun k => match k with | 0 => z0 | 1 => z1 | 2 => z2 | 3 => z3 | 4 => z4 | 5 => z5 | _ => z6), ⟨fun k q hq => ?_, fun k q hq => ?_⟩, A6, B6⟩
  · match k, hq with
    | 0, hq => cases hq; exact K0
    | 1, hq => cases hq; exact K1
    | 2, hq => cases hq; exact K2
    | 3, hq => cases hq; exact K3
    | 4, hq => cases hq; exact K4
    | 5, hq => cases hq; exact K5
    | 6, hq => cases hq; exact K6
    | 7, hq => cases hq; exact K7
    | 8, hq => cases hq; exact K8
    | 9, hq => cases hq; exact K9
    | 10, hq => cases hq; exact K10
    | 11, hq => cases hq; exact K11
    | 12, hq => cases hq; exact K12
    | 13, hq => cases hq; exact K13
    | k + 14, hq => simp at hq
  · match k, hq with
    | 0, hq => cases hq; exact ⟨A0, B0⟩
    | 1, hq => cases hq; exact ⟨A1, B1⟩
    | 2, hq => cases hq; exact ⟨A2, B2⟩
    | 3, hq => cases hq; exact ⟨A3, B3⟩
    | 4, hq => cases hq; exact ⟨A4, B4⟩
    | 5, hq => cases hq; exact ⟨A5, B5⟩
    | k + 6, hq => simp [ty6] at hq

theorem law_nw {args : Array Value} {s : State} (hts : ∀ w ∈ lw_tbl, w.before args s = true) : nwOK s := by
  refine ⟨⟨?_, ?_, ?_, ?_, ?_, ?_, ?_, ?_⟩, ⟨?_, ?_⟩, ?_, ?_, ?_, ?_⟩
  all_goals first
    | exact va_tabs (A := args) rfl rfl (hts _ (by decide +kernel))
    | exact va_AO.of (A := args) (hts _ (by decide +kernel))

def isNE : Cond → Bool
  | .not (.eq (.string _ _) (.string _ _)) => true
  | _ => false
def prs9 : List (Nat × Nat) := [(1, 2), (1, 3), (2, 3), (1, 15), (2, 15), (3, 15), (1, 16), (2, 16), (3, 16), (15, 16), (1, 17), (2, 17), (3, 17), (15, 17), (16, 17), (1, 18), (2, 18), (3, 18), (15, 18), (16, 18), (17, 18), (1, 4), (2, 4), (3, 4), (15, 4), (16, 4), (17, 4), (18, 4), (1, 5), (2, 5), (3, 5), (15, 5), (16, 5), (17, 5), (18, 5), (4, 5), (1, 6), (2, 6), (3, 6), (15, 6), (16, 6), (17, 6), (18, 6), (4, 6), (5, 6), (1, 7), (2, 7), (3, 7), (15, 7), (16, 7), (17, 7), (18, 7), (4, 7), (5, 7), (6, 7), (1, 8), (2, 8), (3, 8), (15, 8), (16, 8), (17, 8), (18, 8), (4, 8), (5, 8), (6, 8), (7, 8), (1, 9), (2, 9), (3, 9), (15, 9), (16, 9), (17, 9), (18, 9), (4, 9), (5, 9), (6, 9), (7, 9), (8, 9), (1, 10), (2, 10), (3, 10), (15, 10), (16, 10), (17, 10), (18, 10), (4, 10), (5, 10), (6, 10), (7, 10), (8, 10), (9, 10), (1, 11), (2, 11), (3, 11), (15, 11), (16, 11), (17, 11), (18, 11), (4, 11), (5, 11), (6, 11), (7, 11), (8, 11), (9, 11), (10, 11), (1, 12), (2, 12), (3, 12), (15, 12), (16, 12), (17, 12), (18, 12), (4, 12), (5, 12), (6, 12), (7, 12), (8, 12), (9, 12), (10, 12), (11, 12), (1, 13), (2, 13), (3, 13), (15, 13), (16, 13), (17, 13), (18, 13), (4, 13), (5, 13), (6, 13), (7, 13), (8, 13), (9, 13), (10, 13), (11, 13), (12, 13), (1, 14), (2, 14), (3, 14), (15, 14), (16, 14), (17, 14), (18, 14), (4, 14), (5, 14), (6, 14), (7, 14), (8, 14), (9, 14), (10, 14), (11, 14), (12, 14), (13, 14), (1, 0), (2, 0), (3, 0), (15, 0), (16, 0), (17, 0), (18, 0), (4, 0), (5, 0), (6, 0), (7, 0), (8, 0), (9, 0), (10, 0), (11, 0), (12, 0), (13, 0), (14, 0)]
def ne9 (i j : Nat) : Cond := Cond.not (Cond.eq (.string "SessionEndsLaw" (kIx.getD i 0)) (.string "SessionEndsLaw" (kIx.getD j 0)))
set_option maxRecDepth 100000 in
set_option maxHeartbeats 8000000 in
theorem ne_list : (flatC (Jvm.Cond.and given_1 narrow_1)).filter isNE = prs9.map (fun q => ne9 q.1 q.2) := rfl
theorem ne_all : ∀ i, i < 19 → ∀ j, j < 19 → (i = j ∨ (i, j) ∈ prs9 ∨ (j, i) ∈ prs9) := by decide +kernel
theorem ne_mem {i j : Nat} (h : (i, j) ∈ prs9) : ne9 i j ∈ flatC (Jvm.Cond.and given_1 narrow_1) := by
  have h1 : ne9 i j ∈ (flatC (Jvm.Cond.and given_1 narrow_1)).filter isNE := by
    rw [ne_list]
    exact List.mem_map.mpr ⟨(i, j), h, rfl⟩
  exact (List.mem_filter.mp h1).1

set_option maxRecDepth 100000 in
set_option maxHeartbeats 8000000 in
theorem law_S {args : Array Value} {s : State} {b L : Nat} {xs : Nat → Int32} (hts : ∀ w ∈ lw_tbl, w.before args s = true) (hg : (Jvm.Cond.and given_1 narrow_1).before args s = true) (hX : va_X b L xs s s.heap) (hb : b < s.heap.size) (hL : L ≤ 260) : ∃ kr kv : Nat → Nat, SXw s.heap.size s.heap kr kv s ∧ kr 19 = b := by
  have hs := flat_of_before _ hg
  have hA : ∀ a : Nat, a < s.heap.size → ¬ (fun q => s.heap.size ≤ q) a := fun a h1 h2 => by have h3 : s.heap.size ≤ a := h2; omega
  have e1 : ∀ i, i < 19 → (Cond.exactly (.string "SessionEndsLaw" (kIx.getD i 0)) "java/lang/String") ∈ flatC (Jvm.Cond.and given_1 narrow_1) := by decide +kernel
  have e2 : ∀ i, i < 19 → (Cond.eq (.field (.string "SessionEndsLaw" (kIx.getD i 0)) "java/lang/String" "coder" "B") (.int 0)) ∈ flatC (Jvm.Cond.and given_1 narrow_1) := by decide +kernel
  have e3 : ∀ i, i < 19 → (Cond.arrayOf (.field (.string "SessionEndsLaw" (kIx.getD i 0)) "java/lang/String" "value" "[B") .byte) ∈ flatC (Jvm.Cond.and given_1 narrow_1) := by decide +kernel
  have e4 : ∀ i, i < 19 → (Cond.eq (.length (.field (.string "SessionEndsLaw" (kIx.getD i 0)) "java/lang/String" "value" "[B")) (.int (Int32.ofNat (kLn.getD i 0)))) ∈ flatC (Jvm.Cond.and given_1 narrow_1) := by decide +kernel
  have e5 : ∀ i, i < 19 → ∀ j, j < kLn.getD i 0 → (Cond.eq (.elem (.field (.string "SessionEndsLaw" (kIx.getD i 0)) "java/lang/String" "value" "[B") (.int (Int32.ofNat j))) (.int ((kBy.getD i []).getD j 0))) ∈ flatC (Jvm.Cond.and given_1 narrow_1) := by decide +kernel
  have e6 : ∀ i, i < 19 → ∀ j, j < 19 → i ≠ j → ne9 i j ∈ flatC (Jvm.Cond.and given_1 narrow_1) ∨ ne9 j i ∈ flatC (Jvm.Cond.and given_1 narrow_1) := fun i hi j hj hij => ((ne_all i hi j hj).resolve_left hij).imp ne_mem ne_mem
  have e7 : ∀ i, i < 19 → Cond.stringRef RL (kIx.getD i 0) (kTx.getD i "") ∈ lw_tbl := by decide +kernel
  obtain ⟨adK, adV, hK, hev⟩ := vk_Sof (A := fun q => s.heap.size ≤ q) (N := 19) (tm := fun i => .string "SessionEndsLaw" (kIx.getD i 0)) (len := kLn) (byt := kBy) (by decide) (fun i hi => hs _ (e1 i hi)) (fun i hi => hs _ (e2 i hi)) (fun i hi => hs _ (e3 i hi)) (fun i hi => hs _ (e4 i hi)) (fun i hi j hj => hs _ (e5 i hi j hj)) (fun i j hi hj hij => (e6 i hi j hj hij).imp (fun h => hs _ h) (fun h => hs _ h)) hA
  refine ⟨fun i => if i < 19 then adK i else b, fun i => if i < 19 then adV i else if i = 19 then L else (xs (i - 20)).toUInt32.toNat, ⟨va_Zof (hts _ (by decide +kernel)) (hts _ (by decide +kernel)) (va_eqi (hs _ (by decide +kernel))) hA, va_Zqof (hts _ (by decide +kernel)) (hts _ (by decide +kernel)) (hs _ (by decide +kernel)) hA, ⟨fun i hi => ?_, fun i j hi hj e => ?_⟩, fun i hi => ?_, ?_, ?_, ?_⟩, rfl⟩
  · simp only [if_pos hi]; exact hK.1 i hi
  · simp only [if_pos hi, if_pos hj] at e; exact hK.2 i j hi hj e
  · simp only [if_pos hi]; exact vk_R.of (A := args) (hts _ (e7 i hi)) (hev i hi)
  · obtain ⟨scr, x1, x2, x3, x4, x5⟩ := hX
    refine ⟨scr, x1, x2, x3, x4, fun j hj => ?_⟩
    have := x5 j hj
    show scr.slots[j]? = some (.int (nI (if 20 + j < 19 then adV (20 + j) else if 20 + j = 19 then L else (xs (20 + j - 20)).toUInt32.toNat)))
    rw [if_neg (by omega), if_neg (by omega), show 20 + j - 20 = j by omega, nI_u]
    exact this
  · exact hb
  · exact hL
