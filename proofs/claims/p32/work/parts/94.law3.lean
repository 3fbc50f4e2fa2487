set_option maxRecDepth 100000 in
set_option maxHeartbeats 4000000 in
theorem law_3 {p : Program} {l : Launch} {e : Env} {s : State} {m : MethodId} {args : Array Value} {below : List Frame} {meth : Method} {c : Code} {D : va_G} {z : Nat → ClassId} {B : Heap} {lo : Nat} {kr kv : Nat → Nat} {Q : State → Prop} (hC : Cx p s m args c cL_law 10 wsL_law RL D vwCl (ty6 z)) (hX : XSw lo B kr kv s) (hC7 : Cx p s m args c cL_law 10 wsL_law RL D vwCl (ty6 z ++ [(z 6, .object RJ0)])) {hi o : Nat} {h : Nat → Option va_E} {pa : Nat → Option Nat} {hi0 x cs ss k : Nat} {sa va nv : Nat → Nat} {wv : Nat → Bool} {TT : Nat → Tre} {f : Nat → Option Nat} (hO : ObS h o 0 0) (hPs : PsS z h o pa) (hA : WA z h o) (hB : WB z h o) (hW : WC z h o) (hT : Txs z kr kv h o hi0 sa va nv wv TT) (hP : Prs z h o hi pa nv wv TT k) (hx : h x = some (.inl (z 6, 5, .inr (.inr (.inr (.inr f)))))) (hfx : ∀ j, j < 5 → f j = some (sa j)) (ga : o + 147 ≤ x) (gb : x < hi0) (gc : hi0 ≤ hi) (hk : k < 5) (hcs : cs ≤ 10000) (hss : ss ≤ 1000000) (hK : ∀ (h9 : Nat → Option va_E) (pa9 : Nat → Option Nat), ObS h9 o 0 0 → PsS z h9 o pa9 → WA z h9 o → WB z h9 o → WC z h9 o → Txs z kr kv h9 o hi0 sa va nv wv TT → Prs z h9 o (hi + 18) pa9 nv wv TT (k + 1) → h9 x = some (.inl (z 6, 5, .inr (.inr (.inr (.inr f))))) → Gx p l e room_1 s m args below meth c D vwCl B lo 10 Q (hi + 18) h9 (cs + 18) (ss + 5778) [(6, .int (nI (k + 1))), (5, .ref x), (1, .ref o), (0, .ref (kr 19))] 116 []) : Gx p l e room_1 s m args below meth c D vwCl B lo 10 Q hi h cs ss [(6, .int (nI k)), (5, .ref x), (1, .ref o), (0, .ref (kr 19))] 116 [] := by
  obtain ⟨ty0, hTy⟩ := hA.2
  obtain ⟨svk, byk, lnk, okk, szk, nvk, ua, ub, uc, ud⟩ := hT k hk
  refine ax_iload hC 0 dL_law_116 rfl ?_
  refine ax_iconst (v := 5) hC dL_law_118 (by decide) ?_
  refine ax_icmp_ge (tgt := 174) hC dL_law_119 (by decide) (fun c1 => ?_) (fun c1 => ?_)
  · exact absurd ((nI_leI (a := 5) (by decide) (by omega)).mp c1) (by omega)
  · refine ax_aload_n hC 2 dL_law_122 rfl rfl ?_
    refine ax_iload hC 0 dL_law_123 rfl ?_
    refine ax_aload hC 1 dL_law_125 rfl ?_
    refine ax_iload hC 0 dL_law_127 rfl ?_
    refine ax_aald hC7 hx 6 rfl (vp_in_nI (by omega) (by omega)) dL_law_129 ?_
    refine ax_eqq (y := some (sa k)) (by rw [nI_clamp (by omega)]; exact hfx _ hk) ?_
    refine ax_aload hC 1 dL_law_130 rfl ?_
    refine ax_iload hC 0 dL_law_132 rfl ?_
    refine ax_aald hC7 hx 6 rfl (vp_in_nI (by omega) (by omega)) dL_law_134 ?_
    refine ax_eqq (y := some (sa k)) (by rw [nI_clamp (by omega)]; exact hfx _ hk) ?_
    refine ax_sSp (mc := 0) (ms := 0) (st := [.ref (sa k), .int (nI k), .ref o]) hC hX [.ref (sa k)] (c_L_nodes l D z B lo _ _ kr kv (sa k) _ _ svk byk (by omega) (txt_hdo okk)) (va_cwS 1 hC.1.2.2.2.2 gL_law_L_nodes rfl rfl rfl (by decide +kernel) ⟨Nat.le_of_ble_eq_true rfl, Nat.le_of_ble_eq_true rfl⟩) rfl rfl (Nat.le_of_ble_eq_true rfl) dL_law_135 ⟨show cs + 0 ≤ 600000 by omega, show ss + 0 ≤ 7302250 by omega⟩ (fun r2 er3 => ?_)
    subst er3
    refine ax_eqi (y := nI (siz (nv k) (wv k) (TT k))) (congrArg nI (txt_nd okk)) ?_
    refine ax_sSi (mc := 9) (ms := 2889) (st := []) hC hX [.ref o, .int (nI k), .ref (sa k), .int (nI (siz (nv k) (wv k) (TT k)))] (c_L_told l D z B lo _ _ kr kv o 0 ty0 (sa k) (va k) (txt (nv k) (wv k) 0 (TT k)) k (nv k) (wv k) (TT k) pa hO hTy svk byk (by omega) (txt_ch okk) (by omega) (by omega) (by omega) (by omega) hPs hA.1 (by omega) okk rfl (by omega) (by omega) (by omega)) (va_cwS 4 hC.1.2.2.2.2 gL_law_L_told rfl rfl rfl (by decide +kernel) ⟨Nat.le_of_ble_eq_true rfl, Nat.le_of_ble_eq_true rfl⟩) rfl rfl (Nat.le_of_ble_eq_true rfl) dL_law_138 ⟨show cs + 0 + 9 ≤ 600000 by omega, show ss + 0 + 2889 ≤ 7302250 by omega⟩ (fun r4 hi5 h6 hp7 => ?_)
    obtain ⟨rfl, ih_h6, fh_h6, O_h6, Ps_h6, R_h6, ⟨ty_h6, Ty_h6⟩, P_h6, pr_h6, mp_h6⟩ := hp7
    subst ih_h6
    have B_h6 := hB.kept (fun q _ _ => fh_h6 q (by omega) (by omega) (by omega) (by omega))
    have C_h6 := hW.kept (fun q _ _ => fh_h6 q (by omega) (by omega) (by omega) (by omega))
    have T_h6 := hT.kept (fun q (u9 : q < o ∨ o + 147 ≤ q) v9 => fh_h6 q (by omega) (by omega) (by omega) (by omega))
    have X_h6 : h6 x = some (.inl (z 6, 5, .inr (.inr (.inr (.inr f))))) := (fh_h6 x (by omega) (by omega) (by omega) (by omega)).trans hx
    have pq_h6 : PrC z h6 hi (nI (pcap P_h6)) P_h6 := by
      rw [mp_h6.1]
      exact pr_h6
    have mc_h6 : pcap P_h6 ≤ 60 := by
      rw [mp_h6.1]
      exact szk
    refine ax_if_eq (tgt := 166) hC dL_law_141 (by decide) (fun c8 => ?_) (fun c8 => ?_)
    · exact absurd c8 (by decide)
    · refine ax_aload_n hC 2 dL_law_144 rfl rfl ?_
      refine ax_iload hC 0 dL_law_145 rfl ?_
      refine ax_bipush (v := 8) hC dL_law_147 (by decide) ?_
      refine ax_iload hC 0 dL_law_149 rfl ?_
      refine ax_iadd hC dL_law_151 ?_
      refine ax_eqi (y := nI (8 + k)) (nI_add 8 k) ?_
      refine ax_callVi (st := []) hC [.int (nI k), .int (nI (8 + k))] O_h6 rfl (c_X11_dual l D z B lo _ h6 o 0 0 k (8 + k) hi P_h6 (va_up pa k (some hi)) O_h6 Ps_h6 (by omega) (by omega) (va_up_self ..) pq_h6 mc_h6 (by omega) (by omega)) (cwV 2 hC.1.2.2.2.2 gL_law_X11_dual rfl rfl rfl (by decide +kernel) ⟨Nat.le_of_ble_eq_true rfl, Nat.le_of_ble_eq_true rfl⟩) rfl rfl (Nat.le_of_ble_eq_true rfl) dL_law_152 ⟨show cs + 0 + 9 + 9 ≤ 600000 by omega, show ss + 0 + 2889 + 2889 ≤ 7302250 by omega⟩ (fun r9 hi10 h11 hp12 => ?_)
      obtain ⟨rfl, ih_h11, fh_h11, Ps_h11, P_h11, pr_h11, td_h11⟩ := hp12
      subst ih_h11
      have O_h11 := O_h6.kept (fun q _ _ => fh_h11 q (by omega) (by omega))
      have R_h11 := R_h6.kept (fun q _ _ => fh_h11 q (by omega) (by omega))
      have Ty_h11 := Ty_h6.kept (fun q _ _ => fh_h11 q (by omega) (by omega))
      have B_h11 := B_h6.kept (fun q _ _ => fh_h11 q (by omega) (by omega))
      have C_h11 := C_h6.kept (fun q _ _ => fh_h11 q (by omega) (by omega))
      have T_h11 := T_h6.kept (fun q (u9 : q < o ∨ o + 147 ≤ q) v9 => fh_h11 q (by omega) (by omega))
      have X_h11 : h11 x = some (.inl (z 6, 5, .inr (.inr (.inr (.inr f))))) := (fh_h11 x (by omega) (by omega)).trans X_h6
      have Q_h11 := hP.step hk (by omega) (fun q u9 v9 => (fh_h11 q (by omega) (by omega)).trans (fh_h6 q (by omega) (by omega) (by omega) (by omega))) (pq_h6.kept (fun q _ _ => fh_h11 q (by omega) (by omega))) pr_h11 mp_h6 td_h11
      obtain ⟨sv_h11, by_h11, -⟩ := T_h11 k hk
      refine ax_eqi (y := nI (siz (nv k) (wv k) (TT k))) (congrArg nI mp_h6.1) ?_
      refine ax_aload hC 1 dL_law_155 rfl ?_
      refine ax_iload hC 0 dL_law_157 rfl ?_
      refine ax_aald hC7 X_h11 6 rfl (vp_in_nI (by omega) (by omega)) dL_law_159 ?_
      refine ax_eqq (y := some (sa k)) (by rw [nI_clamp (by omega)]; exact hfx _ hk) ?_
      refine ax_sSp (mc := 0) (ms := 0) (st := [.int (nI (siz (nv k) (wv k) (TT k)))]) hC hX [.ref (sa k)] (c_L_nodes l D z B lo _ _ kr kv (sa k) _ _ sv_h11 by_h11 (by omega) (txt_hdo okk)) (va_cwS 1 hC.1.2.2.2.2 gL_law_L_nodes rfl rfl rfl (by decide +kernel) ⟨Nat.le_of_ble_eq_true rfl, Nat.le_of_ble_eq_true rfl⟩) rfl rfl (Nat.le_of_ble_eq_true rfl) dL_law_160 ⟨show cs + 0 + 9 + 9 + 0 ≤ 600000 by omega, show ss + 0 + 2889 + 2889 + 0 ≤ 7302250 by omega⟩ (fun r13 er14 => ?_)
      subst er14
      refine ax_eqi (y := nI (siz (nv k) (wv k) (TT k))) (congrArg nI (txt_nd okk)) ?_
      refine ax_icmp_eq (tgt := 168) hC dL_law_163 (by decide) (fun c15 => ?_) (fun c15 => ?_)
      · refine ax_iinc (v := nI (k + 1)) hC 0 [(6, .int (nI (k + 1))), (5, .ref x), (1, .ref o), (0, .ref (kr 19))] dL_law_168 rfl (nI_1 _) (by decide) rfl ?_
        refine ax_goto (tgt := 116) hC dL_law_171 (by decide) ?_
        refine ax_locals [0, 1, 2, 3] (L' := [(6, .int (nI (k + 1))), (5, .ref x), (1, .ref o), (0, .ref (kr 19))]) rfl ?_
        refine ax_widen (k := cs + 18) (n := ss + 5778) (by omega) (by omega) ?_
        refine ax_eqs (hi' := hi + 18) (cs' := cs + 18) (ss' := ss + 5778) (by omega) rfl rfl ?_
        exact hK _ _ O_h11 Ps_h11 ⟨R_h11, _, Ty_h11⟩ B_h11 C_h11 T_h11 Q_h11 X_h11
      · exact absurd rfl c15

set_option maxRecDepth 100000 in
set_option maxHeartbeats 4000000 in
theorem law_3x {p : Program} {l : Launch} {e : Env} {s : State} {m : MethodId} {args : Array Value} {below : List Frame} {meth : Method} {c : Code} {D : va_G} {z : Nat → ClassId} {B : Heap} {lo : Nat} {kr kv : Nat → Nat} {Q : State → Prop} (hC : Cx p s m args c cL_law 10 wsL_law RL D vwCl (ty6 z)) (hX : XSw lo B kr kv s) {hi o : Nat} {h : Nat → Option va_E} {x cs ss k : Nat} (hk : k = 5) (hK : Gx p l e room_1 s m args below meth c D vwCl B lo 10 Q hi h cs ss [(6, .int 0), (1, .ref o), (0, .ref (kr 19))] 177 []) : Gx p l e room_1 s m args below meth c D vwCl B lo 10 Q hi h cs ss [(6, .int (nI k)), (5, .ref x), (1, .ref o), (0, .ref (kr 19))] 116 [] := by
  refine ax_iload hC 0 dL_law_116 rfl ?_
  refine ax_iconst (v := 5) hC dL_law_118 (by decide) ?_
  refine ax_icmp_ge (tgt := 174) hC dL_law_119 (by decide) (fun c1 => ?_) (fun c1 => ?_)
  · refine ax_iconst (v := 0) hC dL_law_174 (by decide) ?_
    refine ax_istore hC [(6, .int 0), (5, .ref x), (1, .ref o), (0, .ref (kr 19))] dL_law_175 (by decide) rfl ?_
    refine ax_locals [0, 2, 3] (L' := [(6, .int 0), (1, .ref o), (0, .ref (kr 19))]) rfl ?_
    exact hK
  · exact absurd (nI_le (a := 5) (by omega) (by omega)) c1
