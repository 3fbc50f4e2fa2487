set_option maxRecDepth 100000 in
set_option maxHeartbeats 4000000 in
theorem law_2 {p : Program} {l : Launch} {e : Env} {s : State} {m : MethodId} {args : Array Value} {below : List Frame} {meth : Method} {c : Code} {D : va_G} {z : Nat → ClassId} {B : Heap} {lo : Nat} {kr kv : Nat → Nat} {Q : State → Prop} (hC : Cx p s m args c cL_law 10 wsL_law RL D vwCl (ty6 z)) (hX : XSw lo B kr kv s) (hC7 : Cx p s m args c cL_law 10 wsL_law RL D vwCl (ty6 z ++ [(z 6, .object RJ0)])) {hi o sp vp sq vq sr vr : Nat} {h : Nat → Option va_E} {tp tq tr : List Nat} (hlo : lo ≤ o) (hoh : o + 147 ≤ hi) (hOb : Obj0 z h o) (hsp : StV kr kv h sp vp) (hbp : ByA z kv h vp tp) (hsq : StV kr kv h sq vq) (hbq : ByA z kv h vq tq) (hsr : StV kr kv h sr vr) (hbr : ByA z kv h vr tr) (htp : tp.length ≤ 92) (htq : tq.length ≤ 92) (htr : tr.length ≤ 92) (ub1 : sp < hi) (ub2 : vp < hi) (ub3 : sq < hi) (ub4 : vq < hi) (ub5 : sr < hi) (ub6 : vr < hi) (hK : ∀ (hi4 : Nat) (h4 : Nat → Option va_E) (f : Nat → Option Nat) (s3 v3 s4 v4 : Nat), (Obj0 z h4 o) → (h4 hi = some (.inl (z 6, 5, .inr (.inr (.inr (.inr f)))))) → (f 0 = some sp ∧ f 1 = some sq ∧ f 2 = some sr ∧ f 3 = some s3 ∧ f 4 = some s4) → (StV kr kv h4 sp vp ∧ ByA z kv h4 vp tp) → (StV kr kv h4 sq vq ∧ ByA z kv h4 vq tq) → (StV kr kv h4 sr vr ∧ ByA z kv h4 vr tr) → (StV kr kv h4 s3 v3 ∧ ByA z kv h4 v3 (kT 0 ++ tp)) → (StV kr kv h4 s4 v4 ∧ ByA z kv h4 v4 (kT 0 ++ tq)) → (hi ≤ s3 ∧ hi ≤ v3 ∧ hi ≤ s4 ∧ hi ≤ v4 ∧ s3 < hi4 ∧ v3 < hi4 ∧ s4 < hi4 ∧ v4 < hi4) → (hi < hi4) → Gx p l e room_1 s m args below meth c D vwCl B lo 10 Q hi4 h4 2400 470000 [(6, .int 0), (5, .ref hi), (1, .ref o), (0, .ref (kr 19))] 116 []) : Gx p l e room_1 s m args below meth c D vwCl B lo 10 Q hi h 2301 464001 [(3, .ref sq), (2, .ref sp), (1, .ref o), (0, .ref (kr 19))] 48 [.ref sr] := by
  have iJ4 : ∀ w ∈ u_ws RJ4 TJ4 4, w ∈ wsL_law := by decide +kernel
  have cl0 : (0 : Int32).toNatClampNeg = 0 := rfl
  have cl1 : (1 : Int32).toNatClampNeg = 1 := rfl
  have cl2 : (2 : Int32).toNatClampNeg = 2 := rfl
  have cl3 : (3 : Int32).toNatClampNeg = 3 := rfl
  have cl4 : (4 : Int32).toNatClampNeg = 4 := rfl
  refine ax_astore hC [(4, .ref sr), (3, .ref sq), (2, .ref sp), (1, .ref o), (0, .ref (kr 19))] dL_law_48 (by decide) rfl ?_
  refine ax_iconst (v := 5) hC dL_law_50 (by decide) ?_
  refine ax_newq (C := RJ0) (N' := 5) hC7 6 rfl (by decide +kernel) hC.2.2.2.2.2.2.2 (by decide) (by decide) (Nat.le_of_ble_eq_true rfl) (Nat.le_of_ble_eq_true rfl) (Nat.le_of_ble_eq_true rfl) dL_law_51 (fun h1 e2 f3 => ?_)
  have e2 : h1 hi = some (.inl (z 6, 5, .inr (.inr (.inr (.inr (fun _ => none)))))) := e2
  have sv4 : StV kr kv h1 sp vp := hsp.kept (f3 _ (by omega))
  have sv5 : StV kr kv h1 sq vq := hsq.kept (f3 _ (by omega))
  have sv6 : StV kr kv h1 sr vr := hsr.kept (f3 _ (by omega))
  have by7 : ByA z kv h1 vp tp := hbp.kept (f3 _ (by omega))
  have by8 : ByA z kv h1 vq tq := hbq.kept (f3 _ (by omega))
  have by9 : ByA z kv h1 vr tr := hbr.kept (f3 _ (by omega))
  have ob10 := hOb.kept (fun q _ _ => f3 q (by omega))
  refine ax_dup hC dL_law_54 rfl ?_
  refine ax_iconst (v := 0) hC dL_law_55 (by decide) ?_
  refine ax_aload_n hC 2 dL_law_56 rfl rfl ?_
  refine ax_aastS hC7 hX e2 6 rfl sv4 rfl (vp_in_iff.mpr (by decide)) dL_law_57 (fun h11 e12 f13 => ?_)
  have sv14 : StV kr kv h11 sp vp := sv4.kept (f13 _ (by omega))
  have sv15 : StV kr kv h11 sq vq := sv5.kept (f13 _ (by omega))
  have sv16 : StV kr kv h11 sr vr := sv6.kept (f13 _ (by omega))
  have by17 : ByA z kv h11 vp tp := by7.kept (f13 _ (by omega))
  have by18 : ByA z kv h11 vq tq := by8.kept (f13 _ (by omega))
  have by19 : ByA z kv h11 vr tr := by9.kept (f13 _ (by omega))
  have ob20 := ob10.kept (fun q _ _ => f13 q (by omega))
  refine ax_dup hC dL_law_58 rfl ?_
  refine ax_iconst (v := 1) hC dL_law_59 (by decide) ?_
  refine ax_aload_n hC 1 dL_law_60 rfl rfl ?_
  refine ax_aastS hC7 hX e12 6 rfl sv15 rfl (vp_in_iff.mpr (by decide)) dL_law_61 (fun h21 e22 f23 => ?_)
  have sv24 : StV kr kv h21 sp vp := sv14.kept (f23 _ (by omega))
  have sv25 : StV kr kv h21 sq vq := sv15.kept (f23 _ (by omega))
  have sv26 : StV kr kv h21 sr vr := sv16.kept (f23 _ (by omega))
  have by27 : ByA z kv h21 vp tp := by17.kept (f23 _ (by omega))
  have by28 : ByA z kv h21 vq tq := by18.kept (f23 _ (by omega))
  have by29 : ByA z kv h21 vr tr := by19.kept (f23 _ (by omega))
  have ob30 := ob20.kept (fun q _ _ => f23 q (by omega))
  refine ax_dup hC dL_law_62 rfl ?_
  refine ax_iconst (v := 2) hC dL_law_63 (by decide) ?_
  refine ax_aload hC 0 dL_law_64 rfl ?_
  refine ax_aastS hC7 hX e22 6 rfl sv26 rfl (vp_in_iff.mpr (by decide)) dL_law_66 (fun h31 e32 f33 => ?_)
  have sv34 : StV kr kv h31 sp vp := sv24.kept (f33 _ (by omega))
  have sv35 : StV kr kv h31 sq vq := sv25.kept (f33 _ (by omega))
  have sv36 : StV kr kv h31 sr vr := sv26.kept (f33 _ (by omega))
  have by37 : ByA z kv h31 vp tp := by27.kept (f33 _ (by omega))
  have by38 : ByA z kv h31 vq tq := by28.kept (f33 _ (by omega))
  have by39 : ByA z kv h31 vr tr := by29.kept (f33 _ (by omega))
  have ob40 := ob30.kept (fun q _ _ => f33 q (by omega))
  refine ax_dup hC dL_law_67 rfl ?_
  refine ax_iconst (v := 3) hC dL_law_68 (by decide) ?_
  refine ax_new (C := RJ4) (T := TJ4) (N := 4) (ci := 1) (fs := [.null, .int 0, .int 0, .int 0]) hC tyJ4 iJ4 tyJ4_ok (by decide +kernel) (by decide +kernel) (by decide +kernel) rfl (fun j hj => by rcases (show j = 0 ∨ j = 1 ∨ j = 2 ∨ j = 3 by omega) with rfl | rfl | rfl | rfl <;> rfl) (Nat.le_of_ble_eq_true rfl) (Nat.le_of_ble_eq_true rfl) dL_law_69 (fun h41 e42 f43 => ?_)
  have e42 : h41 (hi + 1) = some (.inr (1, [.null, .int 0, .int 0, .int 0])) := e42
  have x44 : h41 hi = some (.inl (z 6, 5, .inr (.inr (.inr (.inr (va_up (va_up (va_up (fun _ => none) (0 : Int32).toNatClampNeg (some sp)) (1 : Int32).toNatClampNeg (some sq)) (2 : Int32).toNatClampNeg (some sr))))))) := (f43 _ (by omega)).trans e32
  have sv45 : StV kr kv h41 sp vp := sv34.kept (f43 _ (by omega))
  have sv46 : StV kr kv h41 sq vq := sv35.kept (f43 _ (by omega))
  have sv47 : StV kr kv h41 sr vr := sv36.kept (f43 _ (by omega))
  have by48 : ByA z kv h41 vp tp := by37.kept (f43 _ (by omega))
  have by49 : ByA z kv h41 vq tq := by38.kept (f43 _ (by omega))
  have by50 : ByA z kv h41 vr tr := by39.kept (f43 _ (by omega))
  have ob51 := ob40.kept (fun q _ _ => f43 q (by omega))
  refine ax_dup hC dL_law_72 rfl ?_
  refine ax_sIv (mc := 1) (ms := 16) (st := [.ref (hi + 1), .int 3, .ref hi, .ref hi]) hC hX [] (c_J4_init_da8c8 l D z B lo _ _ kr kv (hi + 1) e42) (cwI 0 hC.1.2.2.2.2 gL_law_J4_init_da8c8 rfl rfl rfl (hC.1.2.2.2.2 _ (by decide +kernel)) (hC.1.2.2.2.2 _ (by decide +kernel)) (hC.1.2.2.2.2 _ (by decide +kernel)) rfl (by decide +kernel) ⟨Nat.le_of_ble_eq_true rfl, Nat.le_of_ble_eq_true rfl⟩) rfl rfl (Nat.le_of_ble_eq_true rfl) dL_law_73 ⟨Nat.le_of_ble_eq_true rfl, Nat.le_of_ble_eq_true rfl⟩ (fun hi52 h53 hp54 => ?_)
  obtain ⟨i_h53, b_h53, v_h53, f_h53⟩ := hp54
  have j_h53 : hi52 = hi + 2 + 1 := i_h53
  have x55 : h53 hi = some (.inl (z 6, 5, .inr (.inr (.inr (.inr (va_up (va_up (va_up (fun _ => none) (0 : Int32).toNatClampNeg (some sp)) (1 : Int32).toNatClampNeg (some sq)) (2 : Int32).toNatClampNeg (some sr))))))) := (f_h53 _ (by omega) (by omega)).trans x44
  have sv56 : StV kr kv h53 sp vp := sv45.kept (f_h53 _ (by omega) (by omega))
  have sv57 : StV kr kv h53 sq vq := sv46.kept (f_h53 _ (by omega) (by omega))
  have sv58 : StV kr kv h53 sr vr := sv47.kept (f_h53 _ (by omega) (by omega))
  have by59 : ByA z kv h53 vp tp := by48.kept (f_h53 _ (by omega) (by omega))
  have by60 : ByA z kv h53 vq tq := by49.kept (f_h53 _ (by omega) (by omega))
  have by61 : ByA z kv h53 vr tr := by50.kept (f_h53 _ (by omega) (by omega))
  have ob62 := ob51.kept (fun q _ _ => (f_h53 q (by omega) (by omega)))
  have s_h53 : SbA z h53 (hi + 1) (hi + 2) [] := SbA.born b_h53 v_h53
  refine ax_ldcS hC hX 0 (by decide) rfl dL_law_76 ?_
  have sv63 : StV kr kv h53 (kr 0) (kv 0) := Or.inr ⟨0, by decide, rfl, rfl⟩
  have by64 : ByA z kv h53 (kv 0) (kT 0) := Or.inr ⟨0, by decide, rfl, rfl⟩
  have lt_0 := hX.lt (i := 0) (by decide)
  have lk_0 : (kT 0).length = 3 := by decide
  have ln0 : ([] : List Nat).length = 0 := rfl
  refine ax_sVq (mc := 1) (ms := 256) (st := [.int 3, .ref hi, .ref hi]) hC hX [.ref (kr 0)] (s_h53.rc hC) (c_J4_append_15ec4 l D z B lo _ _ kr kv (hi + 1) (hi + 2) ([] : List Nat) (kr 0) (kv 0) (kT 0) s_h53 sv63 by64 (by omega) (by omega) (by omega) (by omega) (by omega) (by omega)) (cwV 1 hC.1.2.2.2.2 gL_law_J4_append_15ec4 rfl rfl rfl (by decide +kernel) ⟨Nat.le_of_ble_eq_true rfl, Nat.le_of_ble_eq_true rfl⟩) rfl rfl (Nat.le_of_ble_eq_true rfl) dL_law_78 ⟨Nat.le_of_ble_eq_true rfl, Nat.le_of_ble_eq_true rfl⟩ (fun r65 hi66 h67 hp68 => ?_)
  obtain ⟨rfl, ⟨vw69, s_h67, j_h67, k_h67⟩, i1_h67, i2_h67, f_h67⟩ := hp68
  have m_h67 : hi + 1 + 1 ≤ vw69 := by omega
  clear j_h67
  have x71 : h67 hi = some (.inl (z 6, 5, .inr (.inr (.inr (.inr (va_up (va_up (va_up (fun _ => none) (0 : Int32).toNatClampNeg (some sp)) (1 : Int32).toNatClampNeg (some sq)) (2 : Int32).toNatClampNeg (some sr))))))) := (f_h67 _ (by omega) (by omega) (by omega)).trans x55
  have sv72 : StV kr kv h67 sp vp := sv56.kept (f_h67 _ (by omega) (by omega) (by omega))
  have sv73 : StV kr kv h67 sq vq := sv57.kept (f_h67 _ (by omega) (by omega) (by omega))
  have sv74 : StV kr kv h67 sr vr := sv58.kept (f_h67 _ (by omega) (by omega) (by omega))
  have sv75 : StV kr kv h67 (kr 0) (kv 0) := sv63.kept (f_h67 _ (by omega) (by omega) (by omega))
  have by76 : ByA z kv h67 vp tp := by59.kept (f_h67 _ (by omega) (by omega) (by omega))
  have by77 : ByA z kv h67 vq tq := by60.kept (f_h67 _ (by omega) (by omega) (by omega))
  have by78 : ByA z kv h67 vr tr := by61.kept (f_h67 _ (by omega) (by omega) (by omega))
  have by79 : ByA z kv h67 (kv 0) (kT 0) := by64.kept (f_h67 _ (by omega) (by omega) (by omega))
  have ob80 := ob62.kept (fun q _ _ => (f_h67 q (by omega) (by omega) (by omega)))
  obtain ⟨tt70, e_tt70⟩ : ∃ u9 : List Nat, u9 = ([] : List Nat) ++ kT 0 := ⟨_, rfl⟩
  have l_tt70 : tt70.length = ([] : List Nat).length + (kT 0).length := by rw [e_tt70, List.length_append]
  rw [← e_tt70] at s_h67
  refine ax_aload_n hC 2 dL_law_81 rfl rfl ?_
  refine ax_sVq (mc := 1) (ms := 256) (st := [.int 3, .ref hi, .ref hi]) hC hX [.ref sp] (s_h67.rc hC) (c_J4_append_15ec4 l D z B lo _ _ kr kv (hi + 1) vw69 tt70 sp vp tp s_h67 sv72 by76 (by omega) (by omega) (by omega) (by omega) (by omega) (by omega)) (cwV 1 hC.1.2.2.2.2 gL_law_J4_append_15ec4 rfl rfl rfl (by decide +kernel) ⟨Nat.le_of_ble_eq_true rfl, Nat.le_of_ble_eq_true rfl⟩) rfl rfl (Nat.le_of_ble_eq_true rfl) dL_law_82 ⟨Nat.le_of_ble_eq_true rfl, Nat.le_of_ble_eq_true rfl⟩ (fun r81 hi82 h83 hp84 => ?_)
  obtain ⟨rfl, ⟨vw85, s_h83, j_h83, k_h83⟩, i1_h83, i2_h83, f_h83⟩ := hp84
  have m_h83 : hi + 1 + 1 ≤ vw85 := by omega
  clear j_h83
  have x87 : h83 hi = some (.inl (z 6, 5, .inr (.inr (.inr (.inr (va_up (va_up (va_up (fun _ => none) (0 : Int32).toNatClampNeg (some sp)) (1 : Int32).toNatClampNeg (some sq)) (2 : Int32).toNatClampNeg (some sr))))))) := (f_h83 _ (by omega) (by omega) (by omega)).trans x71
  have sv88 : StV kr kv h83 sp vp := sv72.kept (f_h83 _ (by omega) (by omega) (by omega))
  have sv89 : StV kr kv h83 sq vq := sv73.kept (f_h83 _ (by omega) (by omega) (by omega))
  have sv90 : StV kr kv h83 sr vr := sv74.kept (f_h83 _ (by omega) (by omega) (by omega))
  have sv91 : StV kr kv h83 (kr 0) (kv 0) := sv75.kept (f_h83 _ (by omega) (by omega) (by omega))
  have by92 : ByA z kv h83 vp tp := by76.kept (f_h83 _ (by omega) (by omega) (by omega))
  have by93 : ByA z kv h83 vq tq := by77.kept (f_h83 _ (by omega) (by omega) (by omega))
  have by94 : ByA z kv h83 vr tr := by78.kept (f_h83 _ (by omega) (by omega) (by omega))
  have by95 : ByA z kv h83 (kv 0) (kT 0) := by79.kept (f_h83 _ (by omega) (by omega) (by omega))
  have ob96 := ob80.kept (fun q _ _ => (f_h83 q (by omega) (by omega) (by omega)))
  obtain ⟨tt86, e_tt86⟩ : ∃ u9 : List Nat, u9 = tt70 ++ tp := ⟨_, rfl⟩
  have l_tt86 : tt86.length = tt70.length + tp.length := by rw [e_tt86, List.length_append]
  rw [← e_tt86] at s_h83
  refine ax_sVq (mc := 2) (ms := 114) (st := [.int 3, .ref hi, .ref hi]) hC hX [] (s_h83.rc hC) (c_J4_toString_0e30d l D z B lo _ _ kr kv (hi + 1) vw85 tt86 s_h83 (by omega)) (cwV 0 hC.1.2.2.2.2 gL_law_J4_toString_0e30d rfl rfl rfl (by decide +kernel) ⟨Nat.le_of_ble_eq_true rfl, Nat.le_of_ble_eq_true rfl⟩) rfl rfl (Nat.le_of_ble_eq_true rfl) dL_law_85 ⟨Nat.le_of_ble_eq_true rfl, Nat.le_of_ble_eq_true rfl⟩ (fun r97 hi98 h99 hp100 => ?_)
  obtain ⟨rfl, s_h99, y_h99, i_h99, f_h99⟩ := hp100
  have x102 : h99 hi = some (.inl (z 6, 5, .inr (.inr (.inr (.inr (va_up (va_up (va_up (fun _ => none) (0 : Int32).toNatClampNeg (some sp)) (1 : Int32).toNatClampNeg (some sq)) (2 : Int32).toNatClampNeg (some sr))))))) := (f_h99 _ (by omega)).trans x87
  have sv103 : StV kr kv h99 sp vp := sv88.kept (f_h99 _ (by omega))
  have sv104 : StV kr kv h99 sq vq := sv89.kept (f_h99 _ (by omega))
  have sv105 : StV kr kv h99 sr vr := sv90.kept (f_h99 _ (by omega))
  have sv106 : StV kr kv h99 (kr 0) (kv 0) := sv91.kept (f_h99 _ (by omega))
  have by107 : ByA z kv h99 vp tp := by92.kept (f_h99 _ (by omega))
  have by108 : ByA z kv h99 vq tq := by93.kept (f_h99 _ (by omega))
  have by109 : ByA z kv h99 vr tr := by94.kept (f_h99 _ (by omega))
  have by110 : ByA z kv h99 (kv 0) (kT 0) := by95.kept (f_h99 _ (by omega))
  have ob111 := ob96.kept (fun q _ _ => (f_h99 q (by omega)))
  refine ax_aastS hC7 hX x102 6 rfl s_h99 rfl (vp_in_iff.mpr (by decide)) dL_law_88 (fun h112 e113 f114 => ?_)
  have sv115 : StV kr kv h112 sp vp := sv103.kept (f114 _ (by omega))
  have sv116 : StV kr kv h112 sq vq := sv104.kept (f114 _ (by omega))
  have sv117 : StV kr kv h112 sr vr := sv105.kept (f114 _ (by omega))
  have sv118 : StV kr kv h112 (kr 0) (kv 0) := sv106.kept (f114 _ (by omega))
  have sv119 : StV kr kv h112 hi82 (hi82 + 1) := s_h99.kept (f114 _ (by omega))
  have by120 : ByA z kv h112 vp tp := by107.kept (f114 _ (by omega))
  have by121 : ByA z kv h112 vq tq := by108.kept (f114 _ (by omega))
  have by122 : ByA z kv h112 vr tr := by109.kept (f114 _ (by omega))
  have by123 : ByA z kv h112 (kv 0) (kT 0) := by110.kept (f114 _ (by omega))
  have by124 : ByA z kv h112 (hi82 + 1) tt86 := y_h99.kept (f114 _ (by omega))
  have ob125 := ob111.kept (fun q _ _ => f114 q (by omega))
  refine ax_dup hC dL_law_89 rfl ?_
  refine ax_iconst (v := 4) hC dL_law_90 (by decide) ?_
  refine ax_new (C := RJ4) (T := TJ4) (N := 4) (ci := 1) (fs := [.null, .int 0, .int 0, .int 0]) hC tyJ4 iJ4 tyJ4_ok (by decide +kernel) (by decide +kernel) (by decide +kernel) rfl (fun j hj => by rcases (show j = 0 ∨ j = 1 ∨ j = 2 ∨ j = 3 by omega) with rfl | rfl | rfl | rfl <;> rfl) (Nat.le_of_ble_eq_true rfl) (Nat.le_of_ble_eq_true rfl) dL_law_91 (fun h126 e127 f128 => ?_)
  have e127 : h126 hi98 = some (.inr (1, [.null, .int 0, .int 0, .int 0])) := e127
  have x129 : h126 hi = some (.inl (z 6, 5, .inr (.inr (.inr (.inr (va_up (va_up (va_up (va_up (fun _ => none) (0 : Int32).toNatClampNeg (some sp)) (1 : Int32).toNatClampNeg (some sq)) (2 : Int32).toNatClampNeg (some sr)) (3 : Int32).toNatClampNeg (some hi82))))))) := (f128 _ (by omega)).trans e113
  have sv130 : StV kr kv h126 sp vp := sv115.kept (f128 _ (by omega))
  have sv131 : StV kr kv h126 sq vq := sv116.kept (f128 _ (by omega))
  have sv132 : StV kr kv h126 sr vr := sv117.kept (f128 _ (by omega))
  have sv133 : StV kr kv h126 (kr 0) (kv 0) := sv118.kept (f128 _ (by omega))
  have sv134 : StV kr kv h126 hi82 (hi82 + 1) := sv119.kept (f128 _ (by omega))
  have by135 : ByA z kv h126 vp tp := by120.kept (f128 _ (by omega))
  have by136 : ByA z kv h126 vq tq := by121.kept (f128 _ (by omega))
  have by137 : ByA z kv h126 vr tr := by122.kept (f128 _ (by omega))
  have by138 : ByA z kv h126 (kv 0) (kT 0) := by123.kept (f128 _ (by omega))
  have by139 : ByA z kv h126 (hi82 + 1) tt86 := by124.kept (f128 _ (by omega))
  have ob140 := ob125.kept (fun q _ _ => f128 q (by omega))
  refine ax_dup hC dL_law_94 rfl ?_
  refine ax_sIv (mc := 1) (ms := 16) (st := [.ref hi98, .int 4, .ref hi, .ref hi]) hC hX [] (c_J4_init_da8c8 l D z B lo _ _ kr kv hi98 e127) (cwI 0 hC.1.2.2.2.2 gL_law_J4_init_da8c8 rfl rfl rfl (hC.1.2.2.2.2 _ (by decide +kernel)) (hC.1.2.2.2.2 _ (by decide +kernel)) (hC.1.2.2.2.2 _ (by decide +kernel)) rfl (by decide +kernel) ⟨Nat.le_of_ble_eq_true rfl, Nat.le_of_ble_eq_true rfl⟩) rfl rfl (Nat.le_of_ble_eq_true rfl) dL_law_95 ⟨Nat.le_of_ble_eq_true rfl, Nat.le_of_ble_eq_true rfl⟩ (fun hi141 h142 hp143 => ?_)
  obtain ⟨i_h142, b_h142, v_h142, f_h142⟩ := hp143
  have j_h142 : hi141 = hi98 + 1 + 1 := i_h142
  have x144 : h142 hi = some (.inl (z 6, 5, .inr (.inr (.inr (.inr (va_up (va_up (va_up (va_up (fun _ => none) (0 : Int32).toNatClampNeg (some sp)) (1 : Int32).toNatClampNeg (some sq)) (2 : Int32).toNatClampNeg (some sr)) (3 : Int32).toNatClampNeg (some hi82))))))) := (f_h142 _ (by omega) (by omega)).trans x129
  have sv145 : StV kr kv h142 sp vp := sv130.kept (f_h142 _ (by omega) (by omega))
  have sv146 : StV kr kv h142 sq vq := sv131.kept (f_h142 _ (by omega) (by omega))
  have sv147 : StV kr kv h142 sr vr := sv132.kept (f_h142 _ (by omega) (by omega))
  have sv148 : StV kr kv h142 (kr 0) (kv 0) := sv133.kept (f_h142 _ (by omega) (by omega))
  have sv149 : StV kr kv h142 hi82 (hi82 + 1) := sv134.kept (f_h142 _ (by omega) (by omega))
  have by150 : ByA z kv h142 vp tp := by135.kept (f_h142 _ (by omega) (by omega))
  have by151 : ByA z kv h142 vq tq := by136.kept (f_h142 _ (by omega) (by omega))
  have by152 : ByA z kv h142 vr tr := by137.kept (f_h142 _ (by omega) (by omega))
  have by153 : ByA z kv h142 (kv 0) (kT 0) := by138.kept (f_h142 _ (by omega) (by omega))
  have by154 : ByA z kv h142 (hi82 + 1) tt86 := by139.kept (f_h142 _ (by omega) (by omega))
  have ob155 := ob140.kept (fun q _ _ => (f_h142 q (by omega) (by omega)))
  have s_h142 : SbA z h142 hi98 (hi98 + 1) [] := SbA.born b_h142 v_h142
  refine ax_ldcS hC hX 0 (by decide) rfl dL_law_98 ?_
  refine ax_sVq (mc := 1) (ms := 256) (st := [.int 4, .ref hi, .ref hi]) hC hX [.ref (kr 0)] (s_h142.rc hC) (c_J4_append_15ec4 l D z B lo _ _ kr kv hi98 (hi98 + 1) ([] : List Nat) (kr 0) (kv 0) (kT 0) s_h142 sv148 by153 (by omega) (by omega) (by omega) (by omega) (by omega) (by omega)) (cwV 1 hC.1.2.2.2.2 gL_law_J4_append_15ec4 rfl rfl rfl (by decide +kernel) ⟨Nat.le_of_ble_eq_true rfl, Nat.le_of_ble_eq_true rfl⟩) rfl rfl (Nat.le_of_ble_eq_true rfl) dL_law_100 ⟨Nat.le_of_ble_eq_true rfl, Nat.le_of_ble_eq_true rfl⟩ (fun r156 hi157 h158 hp159 => ?_)
  obtain ⟨rfl, ⟨vw160, s_h158, j_h158, k_h158⟩, i1_h158, i2_h158, f_h158⟩ := hp159
  have m_h158 : hi98 + 1 ≤ vw160 := by omega
  clear j_h158
  have x162 : h158 hi = some (.inl (z 6, 5, .inr (.inr (.inr (.inr (va_up (va_up (va_up (va_up (fun _ => none) (0 : Int32).toNatClampNeg (some sp)) (1 : Int32).toNatClampNeg (some sq)) (2 : Int32).toNatClampNeg (some sr)) (3 : Int32).toNatClampNeg (some hi82))))))) := (f_h158 _ (by omega) (by omega) (by omega)).trans x144
  have sv163 : StV kr kv h158 sp vp := sv145.kept (f_h158 _ (by omega) (by omega) (by omega))
  have sv164 : StV kr kv h158 sq vq := sv146.kept (f_h158 _ (by omega) (by omega) (by omega))
  have sv165 : StV kr kv h158 sr vr := sv147.kept (f_h158 _ (by omega) (by omega) (by omega))
  have sv166 : StV kr kv h158 (kr 0) (kv 0) := sv148.kept (f_h158 _ (by omega) (by omega) (by omega))
  have sv167 : StV kr kv h158 hi82 (hi82 + 1) := sv149.kept (f_h158 _ (by omega) (by omega) (by omega))
  have by168 : ByA z kv h158 vp tp := by150.kept (f_h158 _ (by omega) (by omega) (by omega))
  have by169 : ByA z kv h158 vq tq := by151.kept (f_h158 _ (by omega) (by omega) (by omega))
  have by170 : ByA z kv h158 vr tr := by152.kept (f_h158 _ (by omega) (by omega) (by omega))
  have by171 : ByA z kv h158 (kv 0) (kT 0) := by153.kept (f_h158 _ (by omega) (by omega) (by omega))
  have by172 : ByA z kv h158 (hi82 + 1) tt86 := by154.kept (f_h158 _ (by omega) (by omega) (by omega))
  have ob173 := ob155.kept (fun q _ _ => (f_h158 q (by omega) (by omega) (by omega)))
  obtain ⟨tt161, e_tt161⟩ : ∃ u9 : List Nat, u9 = ([] : List Nat) ++ kT 0 := ⟨_, rfl⟩
  have l_tt161 : tt161.length = ([] : List Nat).length + (kT 0).length := by rw [e_tt161, List.length_append]
  rw [← e_tt161] at s_h158
  refine ax_aload_n hC 1 dL_law_103 rfl rfl ?_
  refine ax_sVq (mc := 1) (ms := 256) (st := [.int 4, .ref hi, .ref hi]) hC hX [.ref sq] (s_h158.rc hC) (c_J4_append_15ec4 l D z B lo _ _ kr kv hi98 vw160 tt161 sq vq tq s_h158 sv164 by169 (by omega) (by omega) (by omega) (by omega) (by omega) (by omega)) (cwV 1 hC.1.2.2.2.2 gL_law_J4_append_15ec4 rfl rfl rfl (by decide +kernel) ⟨Nat.le_of_ble_eq_true rfl, Nat.le_of_ble_eq_true rfl⟩) rfl rfl (Nat.le_of_ble_eq_true rfl) dL_law_104 ⟨Nat.le_of_ble_eq_true rfl, Nat.le_of_ble_eq_true rfl⟩ (fun r174 hi175 h176 hp177 => ?_)
  obtain ⟨rfl, ⟨vw178, s_h176, j_h176, k_h176⟩, i1_h176, i2_h176, f_h176⟩ := hp177
  have m_h176 : hi98 + 1 ≤ vw178 := by omega
  clear j_h176
  have x180 : h176 hi = some (.inl (z 6, 5, .inr (.inr (.inr (.inr (va_up (va_up (va_up (va_up (fun _ => none) (0 : Int32).toNatClampNeg (some sp)) (1 : Int32).toNatClampNeg (some sq)) (2 : Int32).toNatClampNeg (some sr)) (3 : Int32).toNatClampNeg (some hi82))))))) := (f_h176 _ (by omega) (by omega) (by omega)).trans x162
  have sv181 : StV kr kv h176 sp vp := sv163.kept (f_h176 _ (by omega) (by omega) (by omega))
  have sv182 : StV kr kv h176 sq vq := sv164.kept (f_h176 _ (by omega) (by omega) (by omega))
  have sv183 : StV kr kv h176 sr vr := sv165.kept (f_h176 _ (by omega) (by omega) (by omega))
  have sv184 : StV kr kv h176 (kr 0) (kv 0) := sv166.kept (f_h176 _ (by omega) (by omega) (by omega))
  have sv185 : StV kr kv h176 hi82 (hi82 + 1) := sv167.kept (f_h176 _ (by omega) (by omega) (by omega))
  have by186 : ByA z kv h176 vp tp := by168.kept (f_h176 _ (by omega) (by omega) (by omega))
  have by187 : ByA z kv h176 vq tq := by169.kept (f_h176 _ (by omega) (by omega) (by omega))
  have by188 : ByA z kv h176 vr tr := by170.kept (f_h176 _ (by omega) (by omega) (by omega))
  have by189 : ByA z kv h176 (kv 0) (kT 0) := by171.kept (f_h176 _ (by omega) (by omega) (by omega))
  have by190 : ByA z kv h176 (hi82 + 1) tt86 := by172.kept (f_h176 _ (by omega) (by omega) (by omega))
  have ob191 := ob173.kept (fun q _ _ => (f_h176 q (by omega) (by omega) (by omega)))
  obtain ⟨tt179, e_tt179⟩ : ∃ u9 : List Nat, u9 = tt161 ++ tq := ⟨_, rfl⟩
  have l_tt179 : tt179.length = tt161.length + tq.length := by rw [e_tt179, List.length_append]
  rw [← e_tt179] at s_h176
  refine ax_sVq (mc := 2) (ms := 114) (st := [.int 4, .ref hi, .ref hi]) hC hX [] (s_h176.rc hC) (c_J4_toString_0e30d l D z B lo _ _ kr kv hi98 vw178 tt179 s_h176 (by omega)) (cwV 0 hC.1.2.2.2.2 gL_law_J4_toString_0e30d rfl rfl rfl (by decide +kernel) ⟨Nat.le_of_ble_eq_true rfl, Nat.le_of_ble_eq_true rfl⟩) rfl rfl (Nat.le_of_ble_eq_true rfl) dL_law_107 ⟨Nat.le_of_ble_eq_true rfl, Nat.le_of_ble_eq_true rfl⟩ (fun r192 hi193 h194 hp195 => ?_)
  obtain ⟨rfl, s_h194, y_h194, i_h194, f_h194⟩ := hp195
  have x197 : h194 hi = some (.inl (z 6, 5, .inr (.inr (.inr (.inr (va_up (va_up (va_up (va_up (fun _ => none) (0 : Int32).toNatClampNeg (some sp)) (1 : Int32).toNatClampNeg (some sq)) (2 : Int32).toNatClampNeg (some sr)) (3 : Int32).toNatClampNeg (some hi82))))))) := (f_h194 _ (by omega)).trans x180
  have sv198 : StV kr kv h194 sp vp := sv181.kept (f_h194 _ (by omega))
  have sv199 : StV kr kv h194 sq vq := sv182.kept (f_h194 _ (by omega))
  have sv200 : StV kr kv h194 sr vr := sv183.kept (f_h194 _ (by omega))
  have sv201 : StV kr kv h194 (kr 0) (kv 0) := sv184.kept (f_h194 _ (by omega))
  have sv202 : StV kr kv h194 hi82 (hi82 + 1) := sv185.kept (f_h194 _ (by omega))
  have by203 : ByA z kv h194 vp tp := by186.kept (f_h194 _ (by omega))
  have by204 : ByA z kv h194 vq tq := by187.kept (f_h194 _ (by omega))
  have by205 : ByA z kv h194 vr tr := by188.kept (f_h194 _ (by omega))
  have by206 : ByA z kv h194 (kv 0) (kT 0) := by189.kept (f_h194 _ (by omega))
  have by207 : ByA z kv h194 (hi82 + 1) tt86 := by190.kept (f_h194 _ (by omega))
  have ob208 := ob191.kept (fun q _ _ => (f_h194 q (by omega)))
  refine ax_aastS hC7 hX x197 6 rfl s_h194 rfl (vp_in_iff.mpr (by decide)) dL_law_110 (fun h209 e210 f211 => ?_)
  have sv212 : StV kr kv h209 sp vp := sv198.kept (f211 _ (by omega))
  have sv213 : StV kr kv h209 sq vq := sv199.kept (f211 _ (by omega))
  have sv214 : StV kr kv h209 sr vr := sv200.kept (f211 _ (by omega))
  have sv215 : StV kr kv h209 (kr 0) (kv 0) := sv201.kept (f211 _ (by omega))
  have sv216 : StV kr kv h209 hi82 (hi82 + 1) := sv202.kept (f211 _ (by omega))
  have sv217 : StV kr kv h209 hi175 (hi175 + 1) := s_h194.kept (f211 _ (by omega))
  have by218 : ByA z kv h209 vp tp := by203.kept (f211 _ (by omega))
  have by219 : ByA z kv h209 vq tq := by204.kept (f211 _ (by omega))
  have by220 : ByA z kv h209 vr tr := by205.kept (f211 _ (by omega))
  have by221 : ByA z kv h209 (kv 0) (kT 0) := by206.kept (f211 _ (by omega))
  have by222 : ByA z kv h209 (hi82 + 1) tt86 := by207.kept (f211 _ (by omega))
  have by223 : ByA z kv h209 (hi175 + 1) tt179 := y_h194.kept (f211 _ (by omega))
  have ob224 := ob208.kept (fun q _ _ => f211 q (by omega))
  refine ax_astore hC [(5, .ref hi), (4, .ref sr), (3, .ref sq), (2, .ref sp), (1, .ref o), (0, .ref (kr 19))] dL_law_111 (by decide) rfl ?_
  refine ax_iconst (v := 0) hC dL_law_113 (by decide) ?_
  refine ax_istore hC [(6, .int 0), (5, .ref hi), (4, .ref sr), (3, .ref sq), (2, .ref sp), (1, .ref o), (0, .ref (kr 19))] dL_law_114 (by decide) rfl ?_
  refine ax_locals [0, 1, 5, 6] (L' := [(6, .int 0), (5, .ref hi), (1, .ref o), (0, .ref (kr 19))]) rfl ?_
  refine ax_widen (k := 2400) (n := 470000) (Nat.le_of_ble_eq_true rfl) (Nat.le_of_ble_eq_true rfl) ?_
  subst e_tt179; subst e_tt161; subst e_tt86; subst e_tt70
  exact hK _ _ _ _ _ _ _ ob224 e210 ⟨by simp [va_up, cl0, cl1, cl2, cl3, cl4], by simp [va_up, cl0, cl1, cl2, cl3, cl4], by simp [va_up, cl0, cl1, cl2, cl3, cl4], by simp [va_up, cl0, cl1, cl2, cl3, cl4], by simp [va_up, cl0, cl1, cl2, cl3, cl4]⟩ ⟨sv212, by218⟩ ⟨sv213, by219⟩ ⟨sv214, by220⟩ ⟨sv216, by222⟩ ⟨sv217, by223⟩ ⟨by omega, by omega, by omega, by omega, by omega, by omega, by omega, by omega⟩ (by omega)
