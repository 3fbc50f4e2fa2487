theorem shr0 (x : Int32) : x >>> ((0 : Int32) &&& 31) = x := by
  rw [show ((0 : Int32) &&& 31) = 0 from by decide]
  exact Int32.shiftRight_zero
theorem shl0 (x : Int32) : x <<< ((0 : Int32) &&& 31) = x := by
  rw [show ((0 : Int32) &&& 31) = 0 from by decide]
  exact Int32.shiftLeft_zero
theorem nI_sub {a b : Nat} (h : b ≤ a) : nI a - nI b = nI (a - b) := by
  have e : nI a = nI (a - b) + nI b := by rw [nI_add, Nat.sub_add_cancel h]
  rw [e, Int32.add_sub_cancel]
theorem nI_255 : ∀ x : Nat, x < 128 → nI x &&& 255 = nI x ∧ ((nI x &&& 255).toUInt32 % 65536).toInt32 = nI x ∧ ((nI x).toUInt32 % 65536).toInt32 = nI x ∧ (nI x).toInt8.toInt32 = nI x ∧ vp_nar .byte (nI x) = nI x ∧ fits .byte (.int (nI x)) = true ∧ narrow .char (.int (nI x)) = .int (nI x) := by decide +kernel
theorem ByA.lt {z : Nat → ClassId} {kv : Nat → Nat} {h : Nat → Option va_E} {v : Nat} {t : List Nat} (hb : ByA z kv h v t) {j : Nat} (hj : j < t.length) : t.getD j 0 < 128 := by
  rcases hb with ⟨f, -, hf⟩ | ⟨i, hi, -, rfl⟩
  · exact (hf j hj).2
  · exact ((kBy_get i hi).2.2 j hj).2
theorem gD_l {t u : List Nat} {j : Nat} (h : j < t.length) : (t ++ u).getD j 0 = t.getD j 0 := by rw [List.getD_eq_getElem?_getD, List.getD_eq_getElem?_getD, List.getElem?_append_left h]
theorem gD_r {t u : List Nat} {j : Nat} (h : t.length ≤ j) : (t ++ u).getD j 0 = u.getD (j - t.length) 0 := by rw [List.getD_eq_getElem?_getD, List.getD_eq_getElem?_getD, List.getElem?_append_right h]
/-- bytes f' are f with the text t put in at n -/
def ExB (f' f : Nat → Int32) (n : Nat) (t : List Nat) : Prop := (∀ j, j < n → f' j = f j) ∧ (∀ j, j < t.length → f' (n + j) = nI (t.getD j 0)) ∧ ∀ j, n + t.length ≤ j → f' j = f j
theorem ExB.cpy {f g : Nat → Int32} {n : Nat} {t : List Nat} (hf : ∀ j, j < t.length → f j = nI (t.getD j 0) ∧ t.getD j 0 < 128) : ExB (va_cpy f g 0 n t.length) g n t := by
  refine ⟨fun j hj => ?_, fun j hj => ?_, fun j hj => ?_⟩
  · unfold va_cpy; rw [if_neg (by omega)]
  · unfold va_cpy; rw [if_pos (by omega), show 0 + (n + j - n) = j by omega]; exact (hf j hj).1
  · unfold va_cpy; rw [if_neg (by omega)]
theorem ExB.fit {f' f : Nat → Int32} {n : Nat} {t : List Nat} (he : ExB f' f n t) (ht : ∀ j, j < t.length → t.getD j 0 < 128) (hf : ∀ j, fits .byte (.int (f j)) = true) : ∀ j, fits .byte (.int (f' j)) = true := by
  intro j
  by_cases h1 : j < n
  · rw [he.1 j h1]; exact hf j
  · by_cases h2 : j < n + t.length
    · have := he.2.1 (j - n) (by omega)
      rw [show n + (j - n) = j by omega] at this
      rw [this]; exact (nI_255 _ (ht _ (by omega))).2.2.2.2.2.1
    · rw [he.2.2 j (by omega)]; exact hf j
/-- bytes f tell the text t -/
def BtT (f : Nat → Int32) (t : List Nat) : Prop := (∀ j, j < t.length → f j = nI (t.getD j 0) ∧ t.getD j 0 < 128) ∧ ∀ j, fits .byte (.int (f j)) = true
theorem BtT.ex {f' f : Nat → Int32} {t u : List Nat} (hb : BtT f t) (he : ExB f' f t.length u) (ht : ∀ j, j < u.length → u.getD j 0 < 128) : BtT f' (t ++ u) := by
  refine ⟨fun j hj => ?_, he.fit ht hb.2⟩
  rw [List.length_append] at hj
  by_cases h1 : j < t.length
  · rw [gD_l h1, he.1 j h1]; exact hb.1 j h1
  · have := he.2.1 (j - t.length) (by omega)
    rw [show t.length + (j - t.length) = j by omega] at this
    rw [gD_r (by omega), this]
    exact ⟨rfl, ht _ (by omega)⟩
/-- a builder at b that tells t, its bytes at v -/
def SbA (z : Nat → ClassId) (h : Nat → Option va_E) (b v : Nat) (t : List Nat) : Prop := ∃ (ml : Int32) (cap : Nat) (f : Nat → Int32), h b = some (.inr (1, [.ref v, .int 0, .int ml, .int (nI t.length)])) ∧ h v = some (.inl (z 0, cap, .inl f)) ∧ t.length ≤ cap ∧ cap ≤ 2 * t.length + 18 ∧ BtT f t
theorem SbA.kept {z : Nat → ClassId} {h h1 : Nat → Option va_E} {b v : Nat} {t : List Nat} (hs : SbA z h b v t) (e1 : h1 b = h b) (e2 : h1 v = h v) : SbA z h1 b v t := by
  obtain ⟨ml, cap, f, a1, a2, a3⟩ := hs
  exact ⟨ml, cap, f, e1.trans a1, e2.trans a2, a3⟩
section AP
variable {p : Program} {l : Launch} {e : Env} {R : Room} {s : State} {m : MethodId} {args : Array Value} {below : List Frame} {meth : Method} {c : Code} {D : va_G} {cl : List vw_C} {B : Heap} {lo nL : Nat} {Q : State → Prop} {hi : Nat} {h : Nat → Option va_E} {cs ss : Nat} {L : List (Nat × Value)} {pc : Nat} {st : List Value} {cc : ByteArray} {Ts : List Cond} {own : String} {tys : List (ClassId × FieldType)} {kr kv : Nat → Nat}
theorem SbA.rc {z : Nat → ClassId} {b v : Nat} {t : List Nat} (hs : SbA z h b v t) (hC : Cx p s m args c cc nL Ts own D vwCl tys) : RcV D vwCl B lo hi h s RJ4 b := by
  obtain ⟨ml, cap, f, a1, -⟩ := hs
  exact rc_h hC a1 rfl
theorem ax_sVp (hC : Cx p s m args c cc nL Ts own D cl tys) (hX : XSw lo B kr kv s) {y : MethodName} {bytes : ByteArray} {maxL index mc ms n : Nat} {ret : Option FieldType} {ws : List Cond} {rm : Room} {b : Nat} {C : String} {P : Int32 → Prop} {stk : List Value} (As : List Value) (hrc : RcV D cl B lo hi h s C b) (hM : Met l y ws rm (KPs D cl B lo hi h kr kv tys (.ref b :: As)) (KQp D cl B lo hi h tys P) mc ms (fun q => lo ≤ q)) (cw : CallW R s args own C index y bytes maxL ret ws rm mc ms n) (hst : stk = As.reverse ++ .ref b :: st) (hn : As.length = n) (hW : (st.map fun v => v.category).sum ≤ 8) (hdg : decode cc pc = .ok (.invokevirtual index, 3)) (hf : cs + mc ≤ R.cells ∧ ss + ms ≤ R.slots)
    (kk : ∀ r : Int32, P r → Gx p l e R s m args below meth c D cl B lo nL Q hi h (cs + mc) (ss + ms) L (pc + 3) (.int r :: st)) : Gx p l e R s m args below meth c D cl B lo nL Q hi h cs ss L pc stk := by
  refine ax_sVi hC hX As hrc hM cw hst hn hW hdg hf (fun r hi1 h1 hp => ?_)
  obtain ⟨h2, h3, h4⟩ := hp
  subst h3
  subst h4
  exact kk r h2
theorem ax_sUp (hC : Cx p s m args c cc nL Ts own D cl tys) (hX : XSw lo B kr kv s) {y : MethodName} {bytes : ByteArray} {maxL index mc ms n : Nat} {ret : Option FieldType} {ws : List Cond} {rm : Room} {b : Nat} {C : String} {owner : String} {xm : MethodName} {P : Int32 → Prop} {stk : List Value} (As : List Value) (hrc : RcV D cl B lo hi h s C b) (hM : Met l y ws rm (KPs D cl B lo hi h kr kv tys (.ref b :: As)) (KQp D cl B lo hi h tys P) mc ms (fun q => lo ≤ q)) (cw : va_CU R s args own C owner index xm y bytes maxL ret ws rm mc ms n) (hst : stk = As.reverse ++ .ref b :: st) (hn : As.length = n) (hW : (st.map fun v => v.category).sum ≤ 8) (hdg : decode cc pc = .ok (.invokevirtual index, 3)) (hf : cs + mc ≤ R.cells ∧ ss + ms ≤ R.slots)
    (kk : ∀ r : Int32, P r → Gx p l e R s m args below meth c D cl B lo nL Q hi h (cs + mc) (ss + ms) L (pc + 3) (.int r :: st)) : Gx p l e R s m args below meth c D cl B lo nL Q hi h cs ss L pc stk := by
  refine ax_sUi hC hX As hrc hM cw hst hn hW hdg hf (fun r hi1 h1 hp => ?_)
  obtain ⟨h2, h3, h4⟩ := hp
  subst h3
  subst h4
  exact kk r h2
theorem ax_sSUp (hC : Cx p s m args c cc nL Ts own D cl tys) (hX : XSw lo B kr kv s) {y : MethodName} {bytes : ByteArray} {maxL index mc ms n : Nat} {ret : Option FieldType} {ws : List Cond} {rm : Room} {b : Nat} {C : String} {cC : ClassId} {P : Int32 → Prop} {stk : List Value} (As : List Value) (hrc : RcV D cl B lo hi h s C b) (hat : ClassAt s C cC) (hM : Met l y ws rm (KPs D cl B lo hi h kr kv tys (.ref b :: As)) (KQp D cl B lo hi h tys P) mc ms (fun q => lo ≤ q)) (cw : va_CS R s args own index y bytes maxL ret ws rm mc ms n) (hst : stk = As.reverse ++ .ref b :: st) (hn : As.length = n) (hW : (st.map fun v => v.category).sum ≤ 8) (hdg : decode cc pc = .ok (.invokespecial index, 3)) (hf : cs + mc ≤ R.cells ∧ ss + ms ≤ R.slots)
    (kk : ∀ r : Int32, P r → Gx p l e R s m args below meth c D cl B lo nL Q hi h (cs + mc) (ss + ms) L (pc + 3) (.int r :: st)) : Gx p l e R s m args below meth c D cl B lo nL Q hi h cs ss L pc stk := by
  refine ax_sSUi hC hX As hrc hat hM cw hst hn hW hdg hf (fun r hi1 h1 hp => ?_)
  obtain ⟨h2, h3, h4⟩ := hp
  subst h3
  subst h4
  exact kk r h2
theorem ax_sSp (hC : Cx p s m args c cc nL Ts own D cl tys) (hX : XSw lo B kr kv s) {y : MethodName} {bytes : ByteArray} {maxL index mc ms n : Nat} {ret : Option FieldType} {ws : List Cond} {rm : Room} {P : Int32 → Prop} {stk : List Value} (As : List Value) (hM : Met l y ws rm (KPs D cl B lo hi h kr kv tys As) (KQp D cl B lo hi h tys P) mc ms (fun q => lo ≤ q)) (cw : CallB R s args own index y bytes maxL ret ws rm mc ms n ∧ (Cond.static y).before args s = true) (hst : stk = As.reverse ++ st) (hn : As.length = n) (hW : (st.map fun v => v.category).sum ≤ 8) (hdg : decode cc pc = .ok (.invokestatic index, 3)) (hf : cs + mc ≤ R.cells ∧ ss + ms ≤ R.slots)
    (kk : ∀ r : Int32, P r → Gx p l e R s m args below meth c D cl B lo nL Q hi h (cs + mc) (ss + ms) L (pc + 3) (.int r :: st)) : Gx p l e R s m args below meth c D cl B lo nL Q hi h cs ss L pc stk := by
  refine ax_sSi hC hX As hM cw hst hn hW hdg hf (fun r hi1 h1 hp => ?_)
  obtain ⟨h2, h3, h4⟩ := hp
  subst h3
  subst h4
  exact kk r h2
theorem ax_sSn (hC : Cx p s m args c cc nL Ts own D cl tys) (hX : XSw lo B kr kv s) {y : MethodName} {bytes : ByteArray} {maxL index mc ms n : Nat} {ret : Option FieldType} {ws : List Cond} {rm : Room} {stk : List Value} (As : List Value) (hM : Met l y ws rm (KPs D cl B lo hi h kr kv tys As) (KQv D cl B lo tys (fun hi9 h9 => hi9 = hi ∧ h9 = h)) mc ms (fun q => lo ≤ q)) (cw : CallB R s args own index y bytes maxL ret ws rm mc ms n ∧ (Cond.static y).before args s = true) (hst : stk = As.reverse ++ st) (hn : As.length = n) (hW : (st.map fun v => v.category).sum ≤ 8) (hdg : decode cc pc = .ok (.invokestatic index, 3)) (hf : cs + mc ≤ R.cells ∧ ss + ms ≤ R.slots)
    (kk : Gx p l e R s m args below meth c D cl B lo nL Q hi h (cs + mc) (ss + ms) L (pc + 3) st) : Gx p l e R s m args below meth c D cl B lo nL Q hi h cs ss L pc stk := by
  refine ax_sSv hC hX As hM cw hst hn hW hdg hf (fun hi1 h1 hp => ?_)
  obtain ⟨h3, h4⟩ := hp
  subst h3
  subst h4
  exact kk
theorem ax_sUn (hC : Cx p s m args c cc nL Ts own D cl tys) (hX : XSw lo B kr kv s) {y : MethodName} {bytes : ByteArray} {maxL index mc ms n : Nat} {ret : Option FieldType} {ws : List Cond} {rm : Room} {b : Nat} {C : String} {owner : String} {xm : MethodName} {stk : List Value} (As : List Value) (hrc : RcV D cl B lo hi h s C b) (hM : Met l y ws rm (KPs D cl B lo hi h kr kv tys (.ref b :: As)) (KQv D cl B lo tys (fun hi9 h9 => hi9 = hi ∧ h9 = h)) mc ms (fun q => lo ≤ q)) (cw : va_CU R s args own C owner index xm y bytes maxL ret ws rm mc ms n) (hst : stk = As.reverse ++ .ref b :: st) (hn : As.length = n) (hW : (st.map fun v => v.category).sum ≤ 8) (hdg : decode cc pc = .ok (.invokevirtual index, 3)) (hf : cs + mc ≤ R.cells ∧ ss + ms ≤ R.slots)
    (kk : Gx p l e R s m args below meth c D cl B lo nL Q hi h (cs + mc) (ss + ms) L (pc + 3) st) : Gx p l e R s m args below meth c D cl B lo nL Q hi h cs ss L pc stk := by
  refine ax_sUv hC hX As hrc hM cw hst hn hW hdg hf (fun hi1 h1 hp => ?_)
  obtain ⟨h3, h4⟩ := hp
  subst h3
  subst h4
  exact kk
theorem ax_sUr (hC : Cx p s m args c cc nL Ts own D cl tys) (hX : XSw lo B kr kv s) {y : MethodName} {bytes : ByteArray} {maxL index mc ms n : Nat} {ret : Option FieldType} {ws : List Cond} {rm : Room} {b : Nat} {C : String} {owner : String} {xm : MethodName} {w : Nat} {stk : List Value} (As : List Value) (hrc : RcV D cl B lo hi h s C b) (hM : Met l y ws rm (KPs D cl B lo hi h kr kv tys (.ref b :: As)) (KQq D cl B lo tys (fun r hi9 h9 => r = some w ∧ hi9 = hi ∧ h9 = h)) mc ms (fun q => lo ≤ q)) (cw : va_CU R s args own C owner index xm y bytes maxL ret ws rm mc ms n) (hst : stk = As.reverse ++ .ref b :: st) (hn : As.length = n) (hW : (st.map fun v => v.category).sum ≤ 8) (hdg : decode cc pc = .ok (.invokevirtual index, 3)) (hf : cs + mc ≤ R.cells ∧ ss + ms ≤ R.slots)
    (kk : Gx p l e R s m args below meth c D cl B lo nL Q hi h (cs + mc) (ss + ms) L (pc + 3) (.ref w :: st)) : Gx p l e R s m args below meth c D cl B lo nL Q hi h cs ss L pc stk := by
  refine ax_sUq hC hX As hrc hM cw hst hn hW hdg hf (fun r hi1 h1 hp => ?_)
  obtain ⟨h2, h3, h4⟩ := hp
  subst h2
  subst h3
  subst h4
  exact kk
end AP
