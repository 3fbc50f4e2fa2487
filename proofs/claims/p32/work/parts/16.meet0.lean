/-! letters, lines, PLACES: numbers -/
theorem i64n (x : Nat) (hx : x < 2 ^ 31) : (nI x).toInt64 = Int64.ofNat x := by
  apply Int64.toInt_inj.mp
  rw [Int32.toInt_toInt64, nI_toInt hx, Int64.toInt_ofNat_of_lt (by omega)]
theorem i64_shl (x k : Nat) (K : Int64) (hK : (K.toBitVec.smod 64).toNat = k) : Int64.ofNat x <<< K = Int64.ofNat (x * 2 ^ k) := by
  apply Int64.toBitVec_inj.mp
  rw [Int64.toBitVec_shiftLeft, BitVec.shiftLeft_eq', hK]
  apply BitVec.eq_of_toNat_eq
  rw [BitVec.toNat_shiftLeft]
  show (x % 2 ^ 64) <<< k % 2 ^ 64 = (x * 2 ^ k) % 2 ^ 64
  rw [Nat.shiftLeft_eq, Nat.mul_mod, Nat.mod_mod, ← Nat.mul_mod]
theorem i64_or (A b k : Nat) (hb : b < 2 ^ k) : Int64.ofNat (A * 2 ^ k) ||| Int64.ofNat b = Int64.ofNat (A * 2 ^ k + b) := by
  apply Int64.toBitVec_inj.mp
  rw [Int64.toBitVec_or]
  show BitVec.ofNat 64 (A * 2 ^ k) ||| BitVec.ofNat 64 b = BitVec.ofNat 64 (A * 2 ^ k + b)
  rw [← BitVec.ofNat_or]
  congr 1
  rw [← Nat.shiftLeft_eq, Nat.shiftLeft_add_eq_or_of_lt hb]
theorem i64_shr (x k : Nat) (K : Int64) (hK : (K.toBitVec.smod 64).toNat = k) (hx : x < 2 ^ 63) : Int64.ofNat x >>> K = Int64.ofNat (x / 2 ^ k) := by
  apply Int64.toBitVec_inj.mp
  rw [Int64.toBitVec_shiftRight, BitVec.sshiftRight', hK]
  show (BitVec.ofNat 64 x).sshiftRight k = BitVec.ofNat 64 (x / 2 ^ k)
  rw [BitVec.sshiftRight_eq_of_msb_false]
  · apply BitVec.eq_of_toNat_eq
    rw [BitVec.toNat_ushiftRight, BitVec.toNat_ofNat, BitVec.toNat_ofNat, Nat.shiftRight_eq_div_pow, Nat.mod_eq_of_lt (by omega)]
    have : x / 2 ^ k ≤ x := Nat.div_le_self _ _
    exact (Nat.mod_eq_of_lt (by omega)).symm
  · rw [BitVec.msb_eq_false_iff_two_mul_lt, BitVec.toNat_ofNat]
    omega
theorem i64_i (x : Nat) : (Int64.ofNat x).toInt32 = nI x := by
  apply Int32.toBitVec_inj.mp
  rw [Int64.toBitVec_toInt32]
  first | rw [BitVec.signExtend_eq_setWidth_of_le _ (by decide)] | rw [BitVec.signExtend_eq_setWidth_of_lt _ (by decide)]
  show (BitVec.ofNat 64 x).setWidth 32 = BitVec.ofNat 32 x
  apply BitVec.eq_of_toNat_eq
  rw [BitVec.toNat_setWidth, BitVec.toNat_ofNat, BitVec.toNat_ofNat]
  omega
theorem i32_and (x k : Nat) : nI x &&& nI (2 ^ k - 1) = nI (x % 2 ^ k) := by
  apply Int32.toBitVec_inj.mp
  rw [Int32.toBitVec_and]
  show BitVec.ofNat 32 x &&& BitVec.ofNat 32 (2 ^ k - 1) = BitVec.ofNat 32 (x % 2 ^ k)
  rw [← BitVec.ofNat_and, Nat.and_two_pow_sub_one_eq_mod]
theorem i32_nat (x : Int32) : nI x.toBitVec.toNat = x := by
  apply Int32.toBitVec_inj.mp
  show BitVec.ofNat 32 x.toBitVec.toNat = x.toBitVec
  rw [BitVec.ofNat_toNat, BitVec.setWidth_eq]
theorem i32_and_in (x : Int32) : vp_in (x &&& 8191) 8192 := by
  have h := i32_and x.toBitVec.toNat 13
  rw [i32_nat] at h
  have h2 : x &&& 8191 = nI (x.toBitVec.toNat % 2 ^ 13) := h
  rw [h2]
  exact vp_in_nI (by have := Nat.mod_lt x.toBitVec.toNat (show 0 < 2 ^ 13 by decide); omega) (by decide)
theorem i32_shr7 (x : Nat) (hx : x < 2 ^ 31) : nI x >>> ((7 : Int32) &&& 31) = nI (x / 128) := by
  apply Int32.toBitVec_inj.mp
  rw [Int32.toBitVec_shiftRight, BitVec.sshiftRight', show ((((7 : Int32) &&& 31).toBitVec.smod 32)).toNat = 7 by decide]
  show (BitVec.ofNat 32 x).sshiftRight 7 = BitVec.ofNat 32 (x / 128)
  rw [BitVec.sshiftRight_eq_of_msb_false]
  · apply BitVec.eq_of_toNat_eq
    rw [BitVec.toNat_ushiftRight, BitVec.toNat_ofNat, BitVec.toNat_ofNat, Nat.shiftRight_eq_div_pow]
    omega
  · rw [BitVec.msb_eq_false_iff_two_mul_lt, BitVec.toNat_ofNat]
    omega
theorem i32_shl7 (x : Nat) : nI x <<< ((7 : Int32) &&& 31) = nI (x * 128) := by
  apply Int32.toBitVec_inj.mp
  rw [Int32.toBitVec_shiftLeft, BitVec.shiftLeft_eq', show ((((7 : Int32) &&& 31).toBitVec.smod 32)).toNat = 7 by decide]
  apply BitVec.eq_of_toNat_eq
  rw [BitVec.toNat_shiftLeft]
  show (x % 2 ^ 32) <<< 7 % 2 ^ 32 = (x * 128) % 2 ^ 32
  rw [Nat.shiftLeft_eq]
  omega
theorem i32_or7 (x y : Nat) (hx : x < 128) : nI x ||| nI (y * 128) = nI (x + 128 * y) := by
  apply Int32.toBitVec_inj.mp
  rw [Int32.toBitVec_or]
  show BitVec.ofNat 32 x ||| BitVec.ofNat 32 (y * 128) = BitVec.ofNat 32 (x + 128 * y)
  rw [← BitVec.ofNat_or]
  congr 1
  have h := Nat.shiftLeft_add_eq_or_of_lt (i := 7) hx y
  rw [Nat.shiftLeft_eq] at h
  rw [Nat.or_comm, ← h]
  omega
def pkN (a b l0 l1 : Nat) : Nat := ((l1 * 2 ^ 14 + l0) * 2 ^ 6 + b) * 2 ^ 6 + a
def lyf (x : Int32) : Int32 := if x = 0 then 0 else if x >>> ((7 : Int32) &&& 31) = 0 then 1 else 2
theorem lyf_nI (l : Nat) (hl : l < 2 ^ 31) : lyf (nI l) = if l = 0 then 0 else if l < 128 then 1 else 2 := by
  unfold lyf
  rw [i32_shr7 l hl]
  by_cases h0 : l = 0
  · subst h0; rfl
  · rw [if_neg (nI_ne0 (by omega) hl), if_neg h0]
    by_cases h1 : l < 128
    · rw [if_pos h1, if_pos (by rw [show l / 128 = 0 by omega]; rfl)]
    · rw [if_neg h1, if_neg (nI_ne0 (by omega) (by omega))]
theorem ua00 (f : Nat → Int32) (v : Int32) : upd f (0 : Int32).toNatClampNeg v 0 = v := by simp [upd, show (0 : Int32).toNatClampNeg = 0 from rfl]
theorem ua01 (f : Nat → Int32) (v : Int32) : upd f (0 : Int32).toNatClampNeg v 1 = f 1 := by simp [upd, show (0 : Int32).toNatClampNeg = 0 from rfl]
theorem ua10 (f : Nat → Int32) (v : Int32) : upd f (1 : Int32).toNatClampNeg v 0 = f 0 := by simp [upd, show (1 : Int32).toNatClampNeg = 1 from rfl]
theorem ua11 (f : Nat → Int32) (v : Int32) : upd f (1 : Int32).toNatClampNeg v 1 = v := by simp [upd, show (1 : Int32).toNatClampNeg = 1 from rfl]
/-! what can lie where, when two PROTOCOLS fit -/
def sndR (T : PT) (u x a : Nat) : Prop := (pK T u = 1 ∧ x = 1 + u ∧ a = stp T u 0) ∨ (pK T u = 3 ∧ ∃ j, j < nlab T u ∧ x = 61 + j ∧ a = stp T u j)
def MeetW (P Q : PT) (W : Nat → Nat → Prop) : Prop := ∀ u v, W u v → u < pcap P ∧ v < pcap Q ∧ ((pK P u = 0 ∧ pK Q v = 0) ∨ (pK P u = 1 ∧ pK Q v = 2 ∧ pS P u = pS Q v ∧ (pS Q v = 40 → Fit Q P (inn Q v) (inn P u)) ∧ W (stp P u 0) (stp Q v 0)) ∨ (pK P u = 2 ∧ pK Q v = 1 ∧ pS Q v = pS P u ∧ (pS P u = 40 → Fit P Q (inn P u) (inn Q v)) ∧ W (stp P u 0) (stp Q v 0)) ∨ (pK P u = 3 ∧ pK Q v = 4 ∧ nlab P u ≤ nlab Q v ∧ ∀ j, j < nlab P u → W (stp P u j) (stp Q v j)) ∨ (pK P u = 4 ∧ pK Q v = 3 ∧ nlab Q v ≤ nlab P u ∧ ∀ j, j < nlab Q v → W (stp P u j) (stp Q v j)))
theorem MeetW.flip {P Q : PT} {W : Nat → Nat → Prop} (h : MeetW P Q W) : MeetW Q P (fun v u => W u v) := by
  intro v u hw
  obtain ⟨a, b, r⟩ := h u v hw
  refine ⟨b, a, ?_⟩
  rcases r with ⟨x, y⟩ | ⟨x, y, r1, r2, r3⟩ | ⟨x, y, r1, r2, r3⟩ | ⟨x, y, r1, r2⟩ | ⟨x, y, r1, r2⟩
  · exact Or.inl ⟨y, x⟩
  · exact Or.inr (Or.inr (Or.inl ⟨y, x, r1, r2, r3⟩))
  · exact Or.inr (Or.inl ⟨y, x, r1, r2, r3⟩)
  · exact Or.inr (Or.inr (Or.inr (Or.inr ⟨y, x, r1, r2⟩)))
  · exact Or.inr (Or.inr (Or.inr (Or.inl ⟨y, x, r1, r2⟩)))
def half (A : PT) (W : Nat → Nat → Prop) (la a b : Nat) : Prop := (∃ u x, W u b ∧ sndR A u x a ∧ la = x) ∨ (∃ u x u1 y, W u b ∧ sndR A u x u1 ∧ sndR A u1 y a ∧ la = x + 128 * y)
def PlaceOK (P Q : PT) (W : Nat → Nat → Prop) (a b l0 l1 : Nat) : Prop := (l0 = 0 ∧ l1 = 0 ∧ W a b) ∨ (l1 = 0 ∧ half P W l0 a b) ∨ (l0 = 0 ∧ half Q (fun v u => W u v) l1 b a)
theorem PlaceOK.flip {P Q : PT} {W : Nat → Nat → Prop} {a b l0 l1 : Nat} (h : PlaceOK P Q W a b l0 l1) : PlaceOK Q P (fun v u => W u v) b a l1 l0 := by
  rcases h with ⟨x, y, w⟩ | ⟨x, y⟩ | ⟨x, y⟩
  · exact Or.inl ⟨y, x, w⟩
  · exact Or.inr (Or.inr ⟨x, y⟩)
  · exact Or.inr (Or.inl ⟨x, y⟩)
theorem sndR.b {A : PT} {u x a : Nat} (hw : wfP A) (h : sndR A u x a) (hu : u < pcap A) : 1 ≤ x ∧ x < 64 ∧ a < pcap A := by
  have h60 := hw.1
  rcases h with ⟨-, rfl, rfl⟩ | ⟨-, j, hj, rfl, rfl⟩
  · exact ⟨by omega, by omega, (stp_eq hw u 0).2⟩
  · have := (nlab_eq hw hu).2
    exact ⟨by omega, by omega, (stp_eq hw u j).2⟩
theorem half.b {A : PT} {W : Nat → Nat → Prop} {N la a b : Nat} (hw : wfP A) (hW : ∀ u v, W u v → u < pcap A ∧ v < N) (h : half A W la a b) : a < pcap A ∧ b < N ∧ la < 16384 ∧ 0 < la % 128 := by
  rcases h with ⟨u, x, w, s, rfl⟩ | ⟨u, x, u1, y, w, s, t, rfl⟩
  · obtain ⟨b1, b2⟩ := hW _ _ w
    obtain ⟨c1, c2, c3⟩ := s.b hw b1
    exact ⟨c3, b2, by omega, by omega⟩
  · obtain ⟨b1, b2⟩ := hW _ _ w
    obtain ⟨c1, c2, c3⟩ := s.b hw b1
    obtain ⟨d1, d2, d3⟩ := t.b hw c3
    exact ⟨d3, b2, by omega, by omega⟩
theorem PlaceOK.bnd {P Q : PT} {W : Nat → Nat → Prop} {a b l0 l1 : Nat} (hP : wfP P) (hQ : wfP Q) (hM : MeetW P Q W) (h : PlaceOK P Q W a b l0 l1) : a < pcap P ∧ b < pcap Q ∧ l0 < 16384 ∧ l1 < 16384 ∧ (l0 % 128 = 0 → l0 = 0) ∧ (l1 % 128 = 0 → l1 = 0) := by
  rcases h with ⟨rfl, rfl, w⟩ | ⟨rfl, y⟩ | ⟨rfl, y⟩
  · exact ⟨(hM _ _ w).1, (hM _ _ w).2.1, by omega, by omega, fun _ => rfl, fun _ => rfl⟩
  · obtain ⟨q1, q2, q3, q4⟩ := y.b hP (N := pcap Q) (fun u v w => ⟨(hM _ _ w).1, (hM _ _ w).2.1⟩)
    exact ⟨q1, q2, q3, by omega, fun _ => by omega, fun _ => rfl⟩
  · obtain ⟨q1, q2, q3, q4⟩ := y.b hQ (N := pcap P) (fun u v w => ⟨(hM _ _ w).2.1, (hM _ _ w).1⟩)
    exact ⟨q2, q1, by omega, q3, fun _ => rfl, fun _ => by omega⟩
def TakeI (A B : PT) (a x : Nat) : Prop := (pK A a = 2 ∧ ∃ u, u < pcap B ∧ x = 1 + u ∧ pS B u = pS A a ∧ (pS A a = 40 → Fit A B (inn A a) (inn B u))) ∨ (pK A a = 4 ∧ ∃ j, j < nlab A a ∧ x = 61 + j)
theorem lab_e (j : Nat) : nI (61 + j) - 1 - 60 = nI j := by
  rw [show 61 + j = (60 + j) + 1 by omega, nI_pred, show (60 + j) = j + 60 by omega, ← nI_add]
  exact Int32.add_sub_cancel _ _
theorem k_ne {x : Int32} {i j : Int32} (h : x = i) (h2 : x = j) (hij : ¬ i = j) : False := hij (h.symm.trans h2)
theorem take_one {P Q : PT} {W : Nat → Nat → Prop} {a u x c : Nat} (hP : wfP P) (hM : MeetW P Q W) (w : W a u) (s : sndR Q u x c) : TakeI P Q a x ∧ ∃ a', behf P (nI a) (nI x - 1 - 60) = nI a' ∧ W a' c := by
  obtain ⟨ha, hu, r⟩ := hM _ _ w
  have h60 := hP.1
  rcases s with ⟨k, rfl, rfl⟩ | ⟨k, j, hj, rfl, rfl⟩
  · rcases r with ⟨-, y⟩ | ⟨-, y, -⟩ | ⟨x, y, r1, r2, r3⟩ | ⟨-, y, -⟩ | ⟨-, y, -⟩
    · exact (k_ne k y (by decide)).elim
    · exact (k_ne k y (by decide)).elim
    · refine ⟨Or.inl ⟨x, u, hu, rfl, r1, r2⟩, stp P a 0, ?_, r3⟩
      rw [behf, rd_nat ha (by omega), if_pos (Or.inr x)]
      exact (stp_eq hP a 0).1
    · exact (k_ne k y (by decide)).elim
    · exact (k_ne k y (by decide)).elim
  · rcases r with ⟨-, y⟩ | ⟨-, y, -⟩ | ⟨-, y, -⟩ | ⟨-, y, -⟩ | ⟨x, y, r1, r2⟩
    · exact (k_ne k y (by decide)).elim
    · exact (k_ne k y (by decide)).elim
    · exact (k_ne k y (by decide)).elim
    · exact (k_ne k y (by decide)).elim
    · refine ⟨Or.inr ⟨x, j, by omega, rfl⟩, stp P a j, ?_, r2 j hj⟩
      rw [lab_e]
      exact behf_lab hP ha (by rintro (q | q) <;> exact k_ne x q (by decide)) (by omega)
theorem PlaceOK.take0 {P Q : PT} {W : Nat → Nat → Prop} {a b l0 l1 : Nat} (hP : wfP P) (hQ : wfP Q) (hM : MeetW P Q W) (h : PlaceOK P Q W a b l0 l1) (hl : ¬ l1 = 0) : TakeI P Q a (l1 % 128) ∧ ∃ a', behf P (nI a) (nI (l1 % 128) - 1 - 60) = nI a' ∧ PlaceOK P Q W a' b l0 (l1 / 128) := by
  rcases h with ⟨-, q, -⟩ | ⟨q, -⟩ | ⟨rfl, y⟩
  · exact absurd q hl
  · exact absurd q hl
  · rcases y with ⟨u, x, w, s, rfl⟩ | ⟨u, x, u1, y, w, s, t, rfl⟩
    · obtain ⟨b1, b2, -⟩ := hM _ _ w
      obtain ⟨c1, c2, c3⟩ := s.b hQ b2
      rw [show l1 % 128 = l1 by omega, show l1 / 128 = 0 by omega]
      obtain ⟨t1, a', t2, t3⟩ := take_one hP hM w s
      exact ⟨t1, a', t2, Or.inl ⟨rfl, rfl, t3⟩⟩
    · obtain ⟨b1, b2, -⟩ := hM _ _ w
      obtain ⟨c1, c2, c3⟩ := s.b hQ b2
      obtain ⟨d1, d2, d3⟩ := t.b hQ c3
      rw [show (x + 128 * y) % 128 = x by omega, show (x + 128 * y) / 128 = y by omega]
      obtain ⟨t1, a', t2, t3⟩ := take_one hP hM w s
      exact ⟨t1, a', t2, Or.inr (Or.inr ⟨rfl, Or.inl ⟨u1, y, t3, t, rfl⟩⟩)⟩
theorem PlaceOK.send0 {P Q : PT} {W : Nat → Nat → Prop} {a b l0 x a' : Nat} (hP : wfP P) (hQ : wfP Q) (hM : MeetW P Q W) (h : PlaceOK P Q W a b l0 0) (hs : sndR P a x a') (hl : l0 < 128) : PlaceOK P Q W a' b (if l0 = 0 then x else l0 + 128 * x) 0 := by
  rcases h with ⟨rfl, -, w⟩ | ⟨-, y⟩ | ⟨rfl, y⟩
  · rw [if_pos rfl]
    exact Or.inr (Or.inl ⟨rfl, Or.inl ⟨a, x, w, hs, rfl⟩⟩)
  · rcases y with ⟨u, z, w, s, rfl⟩ | ⟨u, z, u1, y, w, s, t, rfl⟩
    · obtain ⟨b1, b2, -⟩ := hM _ _ w
      obtain ⟨c1, c2, c3⟩ := s.b hP b1
      rw [if_neg (by omega)]
      exact Or.inr (Or.inl ⟨rfl, Or.inr ⟨u, _, a, x, w, s, hs, rfl⟩⟩)
    · obtain ⟨b1, b2, -⟩ := hM _ _ w
      obtain ⟨c1, c2, c3⟩ := s.b hP b1
      obtain ⟨d1, d2, d3⟩ := t.b hP c3
      omega
  · obtain ⟨q1, q2, q3, q4⟩ := y.b hQ (N := pcap P) (fun u v w => ⟨(hM _ _ w).2.1, (hM _ _ w).1⟩)
    omega
theorem PlaceOK.dead {P Q : PT} {W : Nat → Nat → Prop} {a b : Nat} (hP : wfP P) (hQ : wfP Q) (hM : MeetW P Q W) (h : PlaceOK P Q W a b 0 0) (p1 : ¬ pK P a = 1) (p3 : ¬ pK P a = 3) (q1 : ¬ pK Q b = 1) (q3 : ¬ pK Q b = 3) : pK P a = 0 ∧ pK Q b = 0 := by
  rcases h with ⟨-, -, w⟩ | ⟨-, y⟩ | ⟨-, y⟩
  · obtain ⟨-, -, r⟩ := hM _ _ w
    rcases r with ⟨x, y⟩ | ⟨x, -⟩ | ⟨-, y, -⟩ | ⟨x, -⟩ | ⟨-, y, -⟩
    · exact ⟨x, y⟩
    · exact absurd x p1
    · exact absurd y q1
    · exact absurd x p3
    · exact absurd y q3
  · obtain ⟨-, -, -, q4⟩ := y.b hP (N := pcap Q) (fun u v w => ⟨(hM _ _ w).1, (hM _ _ w).2.1⟩)
    omega
  · obtain ⟨-, -, -, q4⟩ := y.b hQ (N := pcap P) (fun u v w => ⟨(hM _ _ w).2.1, (hM _ _ w).1⟩)
    omega
def PP (P Q : PT) (W : Nat → Nat → Prop) (x : Int64) : Prop := ∃ a b l0 l1, x = Int64.ofNat (pkN a b l0 l1) ∧ PlaceOK P Q W a b l0 l1
theorem PP_add {P Q : PT} {W : Nat → Nat → Prop} {pl : Nat → Int64} {fo : Nat} {x : Int64} (h : ∀ i, i < fo → PP P Q W (pl i)) (hx : PP P Q W x) : ∀ i, i < fo + 1 → PP P Q W (vp_updL pl fo x i) := by
  intro i hi
  by_cases he : i = fo
  · subst he; simpa [vp_updL] using hx
  · simp only [vp_updL, if_neg he]; exact h i (by omega)
theorem ft_set {ft : Nat → Int32} (h : ∀ i, i < 7200 → ft i = 0 ∨ ft i = 1) (k : Nat) : ∀ i, i < 7200 → upd ft k (vp_nar .byte 1) i = 0 ∨ upd ft k (vp_nar .byte 1) i = 1 := by
  intro i hi
  by_cases he : i = k
  · subst he; right; simp [upd]; decide
  · simp only [upd, if_neg he]; exact h i hi
def MtX (z : Nat → ClassId) (h : Nat → Option va_E) (mt cm aP aT : Nat) (nr : Int32) (P Q : PT) (W : Nat → Nat → Prop) (a b l0 l1 : Nat) : Prop := ∃ (fo : Nat) (most over : Int32) (pl : Nat → Int64) (mv sl ft : Nat → Int32) (tk : Nat → Option Nat) (ats lns : Nat → Int32), h mt = some (.inr (6, [.int (nI fo), .int 0, .int 0, .int (-2), .int most, .ref cm, .ref (mt + 1), .ref (mt + 2), .ref (mt + 3), .ref (mt + 4), .ref (mt + 5), .ref (mt + 6), .ref (mt + 7), .int nr, .int over])) ∧ h (mt + 1) = some (.inl (z 2, 3000, .inr (.inl pl))) ∧ h (mt + 2) = some (.inl (z 1, 3000, .inl mv)) ∧ h (mt + 3) = some (.inl (z 1, 8192, .inl sl)) ∧ h (mt + 4) = some (.inl (z 0, 7200, .inl ft)) ∧ h (mt + 5) = some (.inl (z 5, 2, .inr (.inr (.inr (.inr tk))))) ∧ h (mt + 6) = some (.inl (z 1, 2, .inl ats)) ∧ h (mt + 7) = some (.inl (z 1, 2, .inl lns)) ∧ fo ≤ 3000 ∧ (over = 0 ∨ over = 1) ∧ tk 0 = some aP ∧ tk 1 = some aT ∧ ats 0 = nI a ∧ ats 1 = nI b ∧ lns 0 = nI l0 ∧ lns 1 = nI l1 ∧ (∀ i, i < fo → PP P Q W (pl i)) ∧ (∀ i, i < 7200 → ft i = 0 ∨ ft i = 1)
theorem MtX.kept {z : Nat → ClassId} {h h' : Nat → Option va_E} {mt cm aP aT : Nat} {nr : Int32} {P Q : PT} {W : Nat → Nat → Prop} {a b l0 l1 : Nat} (q : MtX z h mt cm aP aT nr P Q W a b l0 l1) (hf : ∀ q, mt ≤ q → q < mt + 8 → h' q = h q) : MtX z h' mt cm aP aT nr P Q W a b l0 l1 := by
  obtain ⟨fo, most, over, pl, mv, sl, ft, tk, ats, lns, q0, q1, q2, q3, q4, q5, q6, q7, r⟩ := q
  exact ⟨fo, most, over, pl, mv, sl, ft, tk, ats, lns, (hf _ (by omega) (by omega)).trans q0, (hf _ (by omega) (by omega)).trans q1, (hf _ (by omega) (by omega)).trans q2, (hf _ (by omega) (by omega)).trans q3, (hf _ (by omega) (by omega)).trans q4, (hf _ (by omega) (by omega)).trans q5, (hf _ (by omega) (by omega)).trans q6, (hf _ (by omega) (by omega)).trans q7, r⟩
