theorem ObS.kept {h h' : Nat → Option va_E} {o : Nat} {on kp : Int32} (q : ObS h o on kp) (hf : ∀ q, o ≤ q → q < o + 1 → h' q = h q) : ObS h' o on kp := (hf _ (by omega) (by omega)).trans q
/-- the row of PROTOCOLS -/
def PsS (z : Nat → ClassId) (h : Nat → Option va_E) (o : Nat) (pa : Nat → Option Nat) : Prop := h (o + 1) = some (.inl (z 5, 16, .inr (.inr (.inr (.inr pa)))))
theorem PsS.kept {z : Nat → ClassId} {h h' : Nat → Option va_E} {o : Nat} {pa : Nat → Option Nat} (q : PsS z h o pa) (hf : ∀ q, o + 1 ≤ q → q < o + 2 → h' q = h q) : PsS z h' o pa := (hf _ (by omega) (by omega)).trans q
/-- THE TAPE -/
def TpS (z : Nat → ClassId) (h : Nat → Option va_E) (o : Nat) (tx : Nat → Int32) : Prop := h (o + 2) = some (.inl (z 1, 200, .inl tx))
theorem TpS.kept {z : Nat → ClassId} {h h' : Nat → Option va_E} {o : Nat} {tx : Nat → Int32} (q : TpS z h o tx) (hf : ∀ q, o + 2 ≤ q → q < o + 3 → h' q = h q) : TpS z h' o tx := (hf _ (by omega) (by omega)).trans q
def NrS (z : Nat → ClassId) (h : Nat → Option va_E) (o : Nat) : Prop := ∃ g : Nat → Int32, h (o + 40) = some (.inl (z 1, 60, .inl g))
theorem NrS.kept {z : Nat → ClassId} {h h' : Nat → Option va_E} {o : Nat} (q : NrS z h o) (hf : ∀ q, o + 40 ≤ q → q < o + 41 → h' q = h q) : NrS z h' o := by
  obtain ⟨g, hg⟩ := q
  exact ⟨g, (hf _ (by omega) (by omega)).trans hg⟩
abbrev rmX11_feed : Room := { frames := 0, cells := 0, slots := 0, locals := 0 }
set_option maxRecDepth 100000 in
set_option maxHeartbeats 4000000 in
theorem c_X11_feed (l : Launch) (D : va_G) (z : Nat → ClassId) (B : Heap) (lo hi : Nat) (h : Nat → Option va_E) (o : Nat) (kp : Int32) (t ch : Nat) (tx : Nat → Int32) (hO : ObS h o (nI t) kp) (hT : TpS z h o tx) (ht : t < 200) (hc1 : 1 ≤ ch) (hc2 : ch ≤ 255) : Met l yX11_feed wsX11_feed rmX11_feed (KP D vwCl B lo hi h (ty6 z) [.ref o, .int (nI ch)]) (KQi D vwCl B lo (ty6 z) (fun r hi' h' => r = nI (t + 1) ∧ hi' = hi ∧ (∀ q, ¬ q = o → ¬ q = o + 2 → h' q = h q) ∧ ObS h' o (nI (t + 1)) kp ∧ TpS z h' o (upd tx t (nI ch)))) 0 0 (fun q => lo ≤ q) := by
  refine ax_met (by decide) rfl (Nat.le_of_ble_eq_true rfl) (L0 := [(0, .ref o), (1, .int (nI ch))]) rfl ?_
  intro p e s m args below meth c hC hr hlocks hnm hargs
  have iX11 : ∀ w ∈ u_ws RX11 TX11 13, w ∈ wsX11_feed := by decide +kernel
  refine ax_iload_n hC 1 dX11_feed_0 rfl rfl ?_
  refine ax_iconst (v := 1) hC dX11_feed_1 (by decide) ?_
  refine ax_icmp_lt (tgt := 12) hC dX11_feed_2 (by decide) (fun c1 => ?_) (fun c1 => ?_)
  · exact absurd c1 (nI_nlt (a := ch) (b := 1) hc1 (by omega))
  · refine ax_iload_n hC 1 dX11_feed_5 rfl rfl ?_
    refine ax_sipush (v := 255) hC dX11_feed_6 (by decide) ?_
    refine ax_icmp_le (tgt := 14) hC dX11_feed_9 (by decide) (fun c2 => ?_) (fun c2 => ?_)
    · refine ax_aload_n hC 0 dX11_feed_14 rfl rfl ?_
      refine ax_getf (v := .int (nI t)) hC hO iX11 rfl 2 (by decide) (by decide +kernel) rfl rfl dX11_feed_15 ?_
      refine ax_if_lt (tgt := 33) hC dX11_feed_18 (by decide) (fun c3 => ?_) (fun c3 => ?_)
      · exact absurd c3 (nI_pos (by omega))
      · refine ax_aload_n hC 0 dX11_feed_21 rfl rfl ?_
        refine ax_getf (v := .int (nI t)) hC hO iX11 rfl 2 (by decide) (by decide +kernel) rfl rfl dX11_feed_22 ?_
        refine ax_aload_n hC 0 dX11_feed_25 rfl rfl ?_
        refine ax_getf (v := .ref (o + 2)) hC hO iX11 rfl 1 (by decide) (by decide +kernel) rfl rfl dX11_feed_26 ?_
        refine ax_alen (v := 200) hC hT 1 rfl rfl dX11_feed_29 ?_
        refine ax_icmp_lt (tgt := 36) hC dX11_feed_30 (by decide) (fun c4 => ?_) (fun c4 => ?_)
        · refine ax_aload_n hC 0 dX11_feed_36 rfl rfl ?_
          refine ax_getf (v := .ref (o + 2)) hC hO iX11 rfl 1 (by decide) (by decide +kernel) rfl rfl dX11_feed_37 ?_
          refine ax_aload_n hC 0 dX11_feed_40 rfl rfl ?_
          refine ax_getf (v := .int (nI t)) hC hO iX11 rfl 2 (by decide) (by decide +kernel) rfl rfl dX11_feed_41 ?_
          refine ax_iload_n hC 1 dX11_feed_44 rfl rfl ?_
          have b5 : vp_in (nI t) 200 := vp_in_nI (by omega) (by omega)
          refine ax_iast hC hT 1 rfl b5 dX11_feed_45 (fun h6 e7 f8 => ?_)
          rw [nI_clamp (by omega)] at e7
          have x9 : h6 o = some (.inr (13, [.ref (o + 1), .ref (o + 2), .int (nI t), .ref (o + 3), .ref (o + 15), .ref (o + 21), .ref (o + 23), .ref (o + 26), .ref (o + 32), .ref (o + 40), .ref (o + 41), .ref (o + 94), .int kp])) := (f8 _ (by omega)).trans hO
          refine ax_aload_n hC 0 dX11_feed_46 rfl rfl ?_
          refine ax_dup hC dX11_feed_47 rfl ?_
          refine ax_getf (v := .int (nI t)) hC x9 iX11 rfl 2 (by decide) (by decide +kernel) rfl rfl dX11_feed_48 ?_
          refine ax_iconst (v := 1) hC dX11_feed_51 (by decide) ?_
          refine ax_iadd hC dX11_feed_52 ?_
          refine ax_eqi (y := nI (t + 1)) (nI_1 t) ?_
          refine ax_putf (v := .int (nI (t + 1))) (ty := .int) hC tyX11 x9 iX11 tyX11_ok nmX11 rfl 2 (by decide) (by decide +kernel) rfl rfl (by decide +kernel) (rfl) rfl (Nat.le_of_ble_eq_true rfl) dX11_feed_53 (fun h10 e11 f12 => ?_)
          have e11 : h10 o = some (.inr (13, [.ref (o + 1), .ref (o + 2), .int (nI (t + 1)), .ref (o + 3), .ref (o + 15), .ref (o + 21), .ref (o + 23), .ref (o + 26), .ref (o + 32), .ref (o + 40), .ref (o + 41), .ref (o + 94), .int kp])) := e11
          have x13 : h10 (o + 2) = some (.inl (z 1, 200, .inl (upd tx t (nI ch)))) := (f12 _ (by omega)).trans e7
          refine ax_aload_n hC 0 dX11_feed_56 rfl rfl ?_
          refine ax_getf (v := .int (nI (t + 1))) hC e11 iX11 rfl 2 (by decide) (by decide +kernel) rfl rfl dX11_feed_57 ?_
          refine ax_iret hC hr hlocks dX11_feed_60 ?_
          exact ⟨rfl, rfl, fun q hq hq2 => ((f12 q (by omega)).trans (f8 q (by omega))), e11, x13⟩
        · exact absurd (nI_lt (a := t) (b := 200) ht (by decide)) c4
    · exact absurd (nI_le (a := ch) (b := 255) hc2 (by decide)) c2

abbrev rmX11_protocolAt : Room := { frames := 0, cells := 0, slots := 0, locals := 0 }
set_option maxRecDepth 100000 in
set_option maxHeartbeats 4000000 in
theorem c_X11_protocolAt (l : Launch) (D : va_G) (z : Nat → ClassId) (B : Heap) (lo hi : Nat) (h : Nat → Option va_E) (o : Nat) (on kp : Int32) (k : Nat) (pa : Nat → Option Nat) (hO : ObS h o on kp) (hPs : PsS z h o pa) (hk : k < 16) : Met l yX11_protocolAt wsX11_protocolAt rmX11_protocolAt (KP D vwCl B lo hi h (ty6 z) [.ref o, .int (nI k)]) (KQq D vwCl B lo (ty6 z) (fun r hi' h' => r = pa k ∧ hi' = hi ∧ h' = h)) 0 0 (fun q => lo ≤ q) := by
  refine ax_met (by decide) rfl (Nat.le_of_ble_eq_true rfl) (L0 := [(0, .ref o), (1, .int (nI k))]) rfl ?_
  intro p e s m args below meth c hC hr hlocks hnm hargs
  have iX11 : ∀ w ∈ u_ws RX11 TX11 13, w ∈ wsX11_protocolAt := by decide +kernel
  refine ax_iload_n hC 1 dX11_protocolAt_0 rfl rfl ?_
  refine ax_if_lt (tgt := 22) hC dX11_protocolAt_1 (by decide) (fun c1 => ?_) (fun c1 => ?_)
  · exact absurd c1 (nI_pos (by omega))
  · refine ax_iload_n hC 1 dX11_protocolAt_4 rfl rfl ?_
    refine ax_aload_n hC 0 dX11_protocolAt_5 rfl rfl ?_
    refine ax_getf (v := .ref (o + 1)) hC hO iX11 rfl 0 (by decide) (by decide +kernel) rfl rfl dX11_protocolAt_6 ?_
    refine ax_alen (v := 16) hC hPs 5 rfl rfl dX11_protocolAt_9 ?_
    refine ax_icmp_ge (tgt := 22) hC dX11_protocolAt_10 (by decide) (fun c2 => ?_) (fun c2 => ?_)
    · exact absurd c2 (nI_ge (a := k) (b := 16) (by omega) (by decide))
    · refine ax_aload_n hC 0 dX11_protocolAt_13 rfl rfl ?_
      refine ax_getf (v := .ref (o + 1)) hC hO iX11 rfl 0 (by decide) (by decide +kernel) rfl rfl dX11_protocolAt_14 ?_
      refine ax_iload_n hC 1 dX11_protocolAt_17 rfl rfl ?_
      have b3 : vp_in (nI k) 16 := vp_in_nI (by omega) (by omega)
      refine ax_aald hC hPs 5 rfl b3 dX11_protocolAt_18 ?_
      refine ax_eqq (y := pa k) (by rw [nI_clamp (by omega)] <;> rfl) ?_
      refine ax_goto (tgt := 23) hC dX11_protocolAt_19 (by decide) ?_
      refine ax_aret hC (pa k) hr hlocks dX11_protocolAt_23 ?_
      exact ⟨rfl, rfl, rfl⟩

abbrev rmX11_isParty : Room := { frames := 0, cells := 0, slots := 0, locals := 0 }
set_option maxRecDepth 100000 in
set_option maxHeartbeats 4000000 in
theorem c_X11_isParty (l : Launch) (D : va_G) (z : Nat → ClassId) (B : Heap) (lo hi : Nat) (h : Nat → Option va_E) (o : Nat) (on kp : Int32) (x : Nat) (hO : ObS h o on kp) (hx : x < 4) : Met l yX11_isParty wsX11_isParty rmX11_isParty (KP D vwCl B lo hi h (ty6 z) [.ref o, .int (nI x)]) (KQp D vwCl B lo hi h (ty6 z) (fun r => r = 1)) 0 0 (fun q => lo ≤ q) := by
  refine ax_met (by decide) rfl (Nat.le_of_ble_eq_true rfl) (L0 := [(0, .ref o), (1, .int (nI x))]) rfl ?_
  intro p e s m args below meth c hC hr hlocks hnm hargs
  refine ax_iload_n hC 1 dX11_isParty_0 rfl rfl ?_
  refine ax_if_lt (tgt := 13) hC dX11_isParty_1 (by decide) (fun c1 => ?_) (fun c1 => ?_)
  · exact absurd c1 (nI_pos (by omega))
  · refine ax_iload_n hC 1 dX11_isParty_4 rfl rfl ?_
    refine ax_iconst (v := 4) hC dX11_isParty_5 (by decide) ?_
    refine ax_icmp_ge (tgt := 13) hC dX11_isParty_6 (by decide) (fun c2 => ?_) (fun c2 => ?_)
    · exact absurd c2 (nI_ge (a := x) (b := 4) (by omega) (by decide))
    · refine ax_iconst (v := 1) hC dX11_isParty_9 (by decide) ?_
      refine ax_goto (tgt := 14) hC dX11_isParty_10 (by decide) ?_
      refine ax_zret hC hr hlocks dX11_isParty_14 (by decide) ?_
      exact ⟨rfl, rfl, rfl⟩

abbrev rmX11_isEnd : Room := { frames := 0, cells := 0, slots := 0, locals := 0 }
set_option maxRecDepth 100000 in
set_option maxHeartbeats 4000000 in
theorem c_X11_isEnd (l : Launch) (D : va_G) (z : Nat → ClassId) (B : Heap) (lo hi : Nat) (h : Nat → Option va_E) (o : Nat) (on kp : Int32) (x sn : Nat) (rm st dn wt br gv ed : Int32) (hO : ObS h o on kp) (hRm : RmS z h (o + 41) (nI sn) rm st dn wt br gv ed) (hsn : sn ≤ 8) (hx : x < 2 * sn) : Met l yX11_isEnd wsX11_isEnd rmX11_isEnd (KP D vwCl B lo hi h (ty6 z) [.ref o, .int (nI x)]) (KQp D vwCl B lo hi h (ty6 z) (fun r => r = 1)) 0 0 (fun q => lo ≤ q) := by
  refine ax_met (by decide) rfl (Nat.le_of_ble_eq_true rfl) (L0 := [(0, .ref o), (1, .int (nI x))]) rfl ?_
  intro p e s m args below meth c hC hr hlocks hnm hargs
  have iX11 : ∀ w ∈ u_ws RX11 TX11 13, w ∈ wsX11_isEnd := by decide +kernel
  have iX9 : ∀ w ∈ u_ws RX9 TX9 11, w ∈ wsX11_isEnd := by decide +kernel
  refine ax_iload_n hC 1 dX11_isEnd_0 rfl rfl ?_
  refine ax_if_lt (tgt := 27) hC dX11_isEnd_1 (by decide) (fun c1 => ?_) (fun c1 => ?_)
  · exact absurd c1 (nI_pos (by omega))
  · refine ax_iload_n hC 1 dX11_isEnd_4 rfl rfl ?_
    refine ax_iconst (v := 2) hC dX11_isEnd_5 (by decide) ?_
    refine ax_aload_n hC 0 dX11_isEnd_6 rfl rfl ?_
    refine ax_getf (v := .ref (o + 41)) hC hO iX11 rfl 10 (by decide) (by decide +kernel) rfl rfl dX11_isEnd_7 ?_
    refine ax_getf (v := .int (nI sn)) hC hRm.1 iX9 rfl 3 (by decide) (by decide +kernel) rfl rfl dX11_isEnd_10 ?_
    refine ax_imul hC dX11_isEnd_13 ?_
    refine ax_eqi (y := nI (2 * sn)) (nI_mul' 2 sn) ?_
    refine ax_icmp_ge (tgt := 27) hC dX11_isEnd_14 (by decide) (fun c2 => ?_) (fun c2 => ?_)
    · exact absurd c2 (nI_ge (a := x) (b := 2 * sn) (by omega) (by omega))
    · refine ax_iload_n hC 1 dX11_isEnd_17 rfl rfl ?_
      refine ax_bipush (v := 16) hC dX11_isEnd_18 (by decide) ?_
      refine ax_icmp_ge (tgt := 27) hC dX11_isEnd_20 (by decide) (fun c3 => ?_) (fun c3 => ?_)
      · exact absurd c3 (nI_ge (a := x) (b := 16) (by omega) (by decide))
      · refine ax_iconst (v := 1) hC dX11_isEnd_23 (by decide) ?_
        refine ax_goto (tgt := 28) hC dX11_isEnd_24 (by decide) ?_
        refine ax_zret hC hr hlocks dX11_isEnd_28 (by decide) ?_
        exact ⟨rfl, rfl, rfl⟩
