theorem upd_text {ty : Nat → Int32} {tx : List Nat} {i : Nat} (h : ∀ j, j < i → ty j = nI (tx.getD j 0)) : ∀ j, j < i + 1 → upd ty i (nI (tx.getD i 0)) j = nI (tx.getD j 0) := by
  intro j hj
  by_cases e : j = i
  · rw [e, upd_self]
  · rw [upd_ne _ _ _ e]; exact h j (by omega)
theorem TxA_of {ty : Nat → Int32} : ∀ {tx : List Nat} {a : Nat}, (∀ j, j < tx.length → ty (a + j) = nI (tx.getD j 0)) → TxA ty a tx
  | [], _, _ => trivial
  | c9 :: l, a, h => ⟨h 0 (by simp), TxA_of (tx := l) (a := a + 1) (fun j hj => by
    have := h (j + 1) (by simp only [List.length_cons]; omega)
    rw [show a + (j + 1) = a + 1 + j by omega] at this
    exact this)⟩

abbrev rmL_tell : Room := { frames := 4, cells := 0, slots := 0, locals := 85 }
set_option maxRecDepth 100000 in
set_option maxHeartbeats 4000000 in
theorem c_L_tell (l : Launch) (D : va_G) (z : Nat → ClassId) (B : Heap) (lo hi : Nat) (h : Nat → Option va_E) (kr kv : Nat → Nat) (o : Nat) (kp : Int32) (ty0 : Nat → Int32) (sa va : Nat) (tx : List Nat) (hO : ObS h o (nI 0) kp) (hT : TpS z h o ty0) (hs : StV kr kv h sa va) (ht : ByA z kv h va tx) (hl : tx.length ≤ 199) (hch : ∀ j, j < tx.length → 1 ≤ tx.getD j 0) (hn1 : sa ≠ o) (hn2 : va ≠ o) (hn3 : sa ≠ o + 2) (hn4 : va ≠ o + 2) : Met l yL_tell wsL_tell rmL_tell (KPs D vwCl B lo hi h kr kv (ty6 z) [.ref o, .ref sa]) (KQi D vwCl B lo (ty6 z) (fun r hi' h' => r = 1 ∧ hi' = hi ∧ (∀ q, ¬ q = o → ¬ q = o + 2 → h' q = h q) ∧ ObS h' o (nI tx.length) kp ∧ ∃ ty, TpS z h' o ty ∧ ∀ j, j < tx.length → ty j = nI (tx.getD j 0))) 0 0 (fun q => lo ≤ q) := by
  refine ax_metS (by decide) rfl (Nat.le_of_ble_eq_true rfl) (L0 := [(0, .ref o), (1, .ref sa)]) rfl ?_
  intro p e s m args below meth c hC hX hr hlocks hnm hargs
  have loop : ∀ (n : Nat) (ii : Nat) (hx : Nat → Option va_E) (ty : Nat → Int32), ii + n = tx.length → ObS hx o (nI ii) kp → TpS z hx o ty → (∀ j, j < ii → ty j = nI (tx.getD j 0)) → (∀ q, ¬ q = o → ¬ q = o + 2 → hx q = h q) → StV kr kv hx sa va → ByA z kv hx va tx → Gx p l e rmL_tell s m args below meth c D vwCl B lo 3 (MQ below (KQi D vwCl B lo (ty6 z) (fun r hi' h' => r = 1 ∧ hi' = hi ∧ (∀ q, ¬ q = o → ¬ q = o + 2 → h' q = h q) ∧ ObS h' o (nI tx.length) kp ∧ ∃ ty, TpS z h' o ty ∧ ∀ j, j < tx.length → ty j = nI (tx.getD j 0))) args s 0 0 (fun q => lo ≤ q)) hi hx 0 0 [(2, .int (nI ii)), (0, .ref o), (1, .ref sa)] 2 [] := by
    intro n
    induction n with
    | zero =>
      intro ii hx ty hkn hOx hTx hty hfr hsx htx
      refine ax_iload_n hC 0 dL_tell_2 rfl rfl ?_
      refine ax_aload_n hC 2 dL_tell_3 rfl rfl ?_
      refine ax_sVp (mc := 0) (ms := 0) (st := [.int (nI ii)]) hC hX [] (rc_s hC hX hsx rfl) (c_J0_length_8abf5 l D z B lo _ _ kr kv sa _ _ hsx htx (by omega)) (cwV 0 hC.1.2.2.2.2 gL_tell_J0_length_8abf5 rfl rfl rfl (by decide +kernel) ⟨Nat.le_of_ble_eq_true rfl, Nat.le_of_ble_eq_true rfl⟩) rfl rfl (Nat.le_of_ble_eq_true rfl) dL_tell_4 ⟨Nat.le_of_ble_eq_true rfl, Nat.le_of_ble_eq_true rfl⟩ (fun r143001 er143002 => ?_)
      subst er143002
      refine ax_icmp_ge (tgt := 33) hC dL_tell_7 (by decide) (fun c143003 => ?_) (fun c143003 => ?_)
      · refine ax_aload_n hC 1 dL_tell_33 rfl rfl ?_
        refine ax_iconst (v := 2) hC dL_tell_34 (by decide) ?_
        refine ax_callVp (st := []) hC [.int 2] hOx rfl (c_X11_count_2 l D z B lo _ hx o (nI ii) kp hOx) (cwV 1 hC.1.2.2.2.2 gL_tell_X11_count rfl rfl rfl (by decide +kernel) ⟨Nat.le_of_ble_eq_true rfl, Nat.le_of_ble_eq_true rfl⟩) rfl rfl (Nat.le_of_ble_eq_true rfl) dL_tell_35 ⟨Nat.le_of_ble_eq_true rfl, Nat.le_of_ble_eq_true rfl⟩ (fun r143004 er143005 => ?_)
        subst er143005
        refine ax_aload_n hC 2 dL_tell_38 rfl rfl ?_
        refine ax_sVp (mc := 0) (ms := 0) (st := [.int (nI ii)]) hC hX [] (rc_s hC hX hsx rfl) (c_J0_length_8abf5 l D z B lo _ _ kr kv sa _ _ hsx htx (by omega)) (cwV 0 hC.1.2.2.2.2 gL_tell_J0_length_8abf5 rfl rfl rfl (by decide +kernel) ⟨Nat.le_of_ble_eq_true rfl, Nat.le_of_ble_eq_true rfl⟩) rfl rfl (Nat.le_of_ble_eq_true rfl) dL_tell_39 ⟨Nat.le_of_ble_eq_true rfl, Nat.le_of_ble_eq_true rfl⟩ (fun r143006 er143007 => ?_)
        subst er143007
        refine ax_icmp_ne (tgt := 49) hC dL_tell_42 (by decide) (fun c143008 => ?_) (fun c143008 => ?_)
        · exact absurd (congrArg nI (show ii = tx.length by omega)) c143008
        · refine ax_iconst (v := 1) hC dL_tell_45 (by decide) ?_
          refine ax_goto (tgt := 50) hC dL_tell_46 (by decide) ?_
          refine ax_zret hC hr hlocks dL_tell_50 (by decide) ?_
          obtain rfl : ii = tx.length := by omega
          exact ⟨rfl, rfl, hfr, hOx, _, hTx, hty⟩
      · exact absurd (nI_le (a := tx.length) (b := ii) (by omega) (by omega)) c143003
    | succ n ih =>
      intro ii hx ty hkn hOx hTx hty hfr hsx htx
      refine ax_iload_n hC 0 dL_tell_2 rfl rfl ?_
      refine ax_aload_n hC 2 dL_tell_3 rfl rfl ?_
      refine ax_sVp (mc := 0) (ms := 0) (st := [.int (nI ii)]) hC hX [] (rc_s hC hX hsx rfl) (c_J0_length_8abf5 l D z B lo _ _ kr kv sa _ _ hsx htx (by omega)) (cwV 0 hC.1.2.2.2.2 gL_tell_J0_length_8abf5 rfl rfl rfl (by decide +kernel) ⟨Nat.le_of_ble_eq_true rfl, Nat.le_of_ble_eq_true rfl⟩) rfl rfl (Nat.le_of_ble_eq_true rfl) dL_tell_4 ⟨Nat.le_of_ble_eq_true rfl, Nat.le_of_ble_eq_true rfl⟩ (fun r144001 er144002 => ?_)
      subst er144002
      refine ax_icmp_ge (tgt := 33) hC dL_tell_7 (by decide) (fun c144003 => ?_) (fun c144003 => ?_)
      · exact absurd ((nI_leI (by omega) (by omega)).mp c144003) (by omega)
      · refine ax_aload_n hC 1 dL_tell_10 rfl rfl ?_
        refine ax_aload_n hC 2 dL_tell_11 rfl rfl ?_
        refine ax_iload_n hC 0 dL_tell_12 rfl rfl ?_
        refine ax_sVp (mc := 0) (ms := 0) (st := [.ref o]) hC hX [.int (nI ii)] (rc_s hC hX hsx rfl) (c_J0_charAt_5068e l D z B lo _ _ kr kv sa _ _ ii hsx htx (by omega) (by omega)) (cwV 1 hC.1.2.2.2.2 gL_tell_J0_charAt_5068e rfl rfl rfl (by decide +kernel) ⟨Nat.le_of_ble_eq_true rfl, Nat.le_of_ble_eq_true rfl⟩) rfl rfl (Nat.le_of_ble_eq_true rfl) dL_tell_13 ⟨Nat.le_of_ble_eq_true rfl, Nat.le_of_ble_eq_true rfl⟩ (fun r144004 er144005 => ?_)
        subst er144005
        refine ax_callVi (st := []) hC [.int (nI (tx.getD ii 0))] hOx rfl (c_X11_feed l D z B lo _ hx o kp ii (tx.getD ii 0) ty hOx hTx (by omega) (hch _ (by omega)) (by have := htx.lt (j := ii) (by omega); omega)) (cwV 1 hC.1.2.2.2.2 gL_tell_X11_feed rfl rfl rfl (by decide +kernel) ⟨Nat.le_of_ble_eq_true rfl, Nat.le_of_ble_eq_true rfl⟩) rfl rfl (Nat.le_of_ble_eq_true rfl) dL_tell_16 ⟨Nat.le_of_ble_eq_true rfl, Nat.le_of_ble_eq_true rfl⟩ (fun r144006 hi144007 h144008 hp144009 => ?_)
        obtain ⟨rfl, i_h144008, f_h144008, o_h144008, t_h144008⟩ := hp144009
        subst i_h144008
        have sv144010 : StV kr kv h144008 sa va := hsx.kept (f_h144008 _ (by omega) (by omega))
        have by144011 : ByA z kv h144008 va tx := htx.kept (f_h144008 _ (by omega) (by omega))
        refine ax_iload_n hC 0 dL_tell_19 rfl rfl ?_
        refine ax_iconst (v := 1) hC dL_tell_20 (by decide) ?_
        refine ax_iadd hC dL_tell_21 ?_
        refine ax_eqi (y := nI (ii + 1)) (nI_1 ii) ?_
        refine ax_icmp_eq (tgt := 27) hC dL_tell_22 (by decide) (fun c144012 => ?_) (fun c144012 => ?_)
        · refine ax_iinc (v := nI (ii + 1)) hC 0 [(2, .int (nI (ii + 1))), (0, .ref o), (1, .ref sa)] dL_tell_27 rfl (nI_1 _) (by decide) rfl ?_
          refine ax_goto (tgt := 2) hC dL_tell_30 (by decide) ?_
          refine ax_locals [0, 1, 2] (L' := [(2, .int (nI (ii + 1))), (0, .ref o), (1, .ref sa)]) rfl ?_
          exact ih (ii + 1) h144008 _ (by omega) o_h144008 t_h144008 (upd_text hty) (fun q g1 g2 => (f_h144008 q g1 g2).trans (hfr q g1 g2)) sv144010 by144011
        · exact absurd rfl c144012
  refine ax_iconst (v := 0) hC dL_tell_0 (by decide) ?_
  refine ax_istore_n hC [(2, .int 0), (0, .ref o), (1, .ref sa)] dL_tell_1 rfl (by decide) rfl ?_
  refine ax_locals [0, 1, 2] (L' := [(2, .int 0), (0, .ref o), (1, .ref sa)]) rfl ?_
  exact loop tx.length 0 h ty0 (by omega) hO hT (fun j hj => absurd hj (by omega)) (fun _ _ _ => rfl) hs ht

abbrev rmL_told : Room := { frames := 32, cells := 9, slots := 2889, locals := 1445 }
set_option maxRecDepth 100000 in
set_option maxHeartbeats 4000000 in
theorem c_L_told (l : Launch) (D : va_G) (z : Nat → ClassId) (B : Heap) (lo hi : Nat) (h : Nat → Option va_E) (kr kv : Nat → Nat) (o : Nat) (kp : Int32) (ty0 : Nat → Int32) (sa va : Nat) (tx : List Nat) (k nv : Nat) (w9 : Bool) (T : Tre) (pa : Nat → Option Nat) (hO : ObS h o (nI 0) kp) (hT : TpS z h o ty0) (hs : StV kr kv h sa va) (ht : ByA z kv h va tx) (hl : tx.length ≤ 199) (hch : ∀ j, j < tx.length → 1 ≤ tx.getD j 0) (hn1 : sa ≠ o) (hn2 : va ≠ o) (hn3 : sa ≠ o + 2) (hn4 : va ≠ o + 2) (hPs : PsS z h o pa) (hRd : RdI z h (o + 3)) (hk : k < 16) (hok : okT nv 0 T) (htx : tx = txt nv w9 0 T) (hsz : siz nv w9 T ≤ 60) (hnv : nv ≤ 4) (hbig : o + 147 ≤ hi) : Met l yL_told wsL_told rmL_told (KPs D vwCl B lo hi h kr kv (ty6 z) [.ref o, .int (nI k), .ref sa, .int (nI (siz nv w9 T))]) (KQi D vwCl B lo (ty6 z) (fun r hi' h' => r = 1 ∧ hi' = hi + 9 ∧ (∀ q, q < hi → ¬ q = o → ¬ q = o + 1 → (q < o + 2 ∨ o + 14 ≤ q) → h' q = h q) ∧ ObS h' o 0 kp ∧ PsS z h' o (va_up pa k (some hi)) ∧ RdI z h' (o + 3) ∧ (∃ ty, TpS z h' o ty) ∧ ∃ P, PrC z h' hi (nI (siz nv w9 T)) P ∧ MadeP nv w9 T P)) 9 2889 (fun q => lo ≤ q) := by
  refine ax_metS (by decide) rfl (Nat.le_of_ble_eq_true rfl) (L0 := [(0, .ref o), (1, .int (nI k)), (2, .ref sa), (3, .int (nI (siz nv w9 T)))]) rfl ?_
  intro p e s m args below meth c hC hX hr hlocks hnm hargs
  refine ax_aload_n hC 0 dL_told_0 rfl rfl ?_
  refine ax_aload_n hC 2 dL_told_1 rfl rfl ?_
  refine ax_sSi (mc := 0) (ms := 0) (st := []) hC hX [.ref o, .ref sa] (c_L_tell l D z B lo _ _ kr kv o kp ty0 sa va tx hO hT hs ht hl hch hn1 hn2 hn3 hn4) (va_cwS 2 hC.1.2.2.2.2 gL_told_L_tell rfl rfl rfl (by decide +kernel) ⟨Nat.le_of_ble_eq_true rfl, Nat.le_of_ble_eq_true rfl⟩) rfl rfl (Nat.le_of_ble_eq_true rfl) dL_told_2 ⟨Nat.le_of_ble_eq_true rfl, Nat.le_of_ble_eq_true rfl⟩ (fun r1 hi2 h3 hp4 => ?_)
  obtain ⟨rfl, i_h3, f_h3, o_h3, ty1, t_h3, y_h3⟩ := hp4
  subst i_h3
  have p_h3 : PsS z h3 o pa := hPs.kept (fun q _ _ => f_h3 q (by omega) (by omega))
  have r_h3 : RdI z h3 (o + 3) := hRd.kept (fun q _ _ => f_h3 q (by omega) (by omega))
  refine ax_if_eq (tgt := 29) hC dL_told_5 (by decide) (fun c5 => ?_) (fun c5 => ?_)
  · exact absurd c5 (by decide)
  · refine ax_aload_n hC 0 dL_told_8 rfl rfl ?_
    refine ax_iload_n hC 1 dL_told_9 rfl rfl ?_
    refine ax_callVi (st := []) hC [.int (nI k)] o_h3 rfl (c_X11_define l D z B lo _ h3 o kp k tx.length nv w9 T ty1 pa o_h3 t_h3 p_h3 r_h3 hk hok (TxA_of (a := 0) (fun j hj => by rw [Nat.zero_add, ← htx]; exact y_h3 j (by rw [htx]; exact hj))) (by rw [htx]) (by omega) hsz hnv hbig) (cwV 1 hC.1.2.2.2.2 gL_told_X11_define rfl rfl rfl (by decide +kernel) ⟨Nat.le_of_ble_eq_true rfl, Nat.le_of_ble_eq_true rfl⟩) rfl rfl (Nat.le_of_ble_eq_true rfl) dL_told_10 ⟨Nat.le_of_ble_eq_true rfl, Nat.le_of_ble_eq_true rfl⟩ (fun r6 hi7 h8 hp9 => ?_)
    obtain ⟨rfl, i_h8, f_h8, o_h8, p_h8, r_h8, m_h8⟩ := hp9
    subst i_h8
    refine ax_iload_n hC 3 dL_told_13 rfl rfl ?_
    refine ax_icmp_ne (tgt := 29) hC dL_told_14 (by decide) (fun c10 => ?_) (fun c10 => ?_)
    · exact absurd rfl c10
    · refine ax_aload_n hC 0 dL_told_17 rfl rfl ?_
      refine ax_iconst (v := 2) hC dL_told_18 (by decide) ?_
      refine ax_callVp (st := []) hC [.int 2] o_h8 rfl (c_X11_count_2 l D z B lo _ h8 o 0 kp o_h8) (cwV 1 hC.1.2.2.2.2 gL_told_X11_count rfl rfl rfl (by decide +kernel) ⟨Nat.le_of_ble_eq_true rfl, Nat.le_of_ble_eq_true rfl⟩) rfl rfl (Nat.le_of_ble_eq_true rfl) dL_told_19 ⟨Nat.le_of_ble_eq_true rfl, Nat.le_of_ble_eq_true rfl⟩ (fun r11 er12 => ?_)
      subst er12
      refine ax_if_ne (tgt := 29) hC dL_told_22 (by decide) (fun c13 => ?_) (fun c13 => ?_)
      · exact absurd c13 (by decide)
      · refine ax_iconst (v := 1) hC dL_told_25 (by decide) ?_
        refine ax_goto (tgt := 30) hC dL_told_26 (by decide) ?_
        refine ax_zret hC hr hlocks dL_told_30 (by decide) ?_
        exact ⟨rfl, rfl, fun q g1 g2 g3 g4 => (f_h8 q (by omega) g2 g3 (by omega)).trans (f_h3 q g2 (by omega)), o_h8, p_h8, r_h8, ⟨ty1, (f_h8 _ (by omega) (by omega) (by omega) (by omega)).trans t_h3⟩, m_h8⟩
