/-! THE LAYER: the heap from lo on is told by a function h; rows speak of h alone. -/
def hup (h : Nat → Option va_E) (a : Nat) (e : va_E) : Nat → Option va_E := fun q => if q = a then some e else h q
def ah (D : va_G) (cl : List vw_C) (B : Heap) (lo hi : Nat) (h : Nat → Option va_E) (H : Heap) : Prop := (lo ≤ hi ∧ ∀ q : Nat, q < lo → H[q]? = B[q]?) ∧ H.size = hi ∧ ∀ (q : Nat) (e : va_E), h q = some e → lo ≤ q ∧ va_at D cl (q, e) H
theorem ah_one {D : va_G} {cl : List vw_C} {B : Heap} {lo hi : Nat} {h : Nat → Option va_E} {H : Heap} (hA : ah D cl B lo hi h H) {a : Nat} {e : va_E} (he : h a = some e) : va_P D cl [(a, e)] H := by
  intro k q hk
  match k, hk with
  | 0, hk => cases hk; exact (hA.2.2 a e he).2
  | k + 1, hk => simp at hk
theorem ah_lt {D : va_G} {cl : List vw_C} {B : Heap} {lo hi : Nat} {h : Nat → Option va_E} {H : Heap} (hA : ah D cl B lo hi h H) {a : Nat} {e : va_E} (he : h a = some e) : lo ≤ a ∧ a < hi := ⟨(hA.2.2 a e he).1, by rw [← hA.2.1]; exact va_at.lt (q := (a, e)) (hA.2.2 a e he).2⟩
theorem ah_put {D : va_G} {cl : List vw_C} {B : Heap} {lo hi : Nat} {h : Nat → Option va_E} {H H1 : Heap} (hA : ah D cl B lo hi h H) {a : Nat} {e : va_E} (hlo : lo ≤ a) (he : va_at D cl (a, e) H1) (z : H1.size = H.size) (oq : ∀ q : Nat, q ≠ a → H1[q]? = H[q]?) : ah D cl B lo hi (hup h a e) H1 := by
  refine ⟨⟨hA.1.1, fun q hq => (oq q (by omega)).trans (hA.1.2 q hq)⟩, z.trans hA.2.1, fun q e2 h2 => ?_⟩
  by_cases hq : q = a
  · subst hq
    rw [hup, if_pos rfl] at h2
    cases h2
    exact ⟨hlo, he⟩
  · rw [hup, if_neg hq] at h2
    exact ⟨(hA.2.2 q e2 h2).1, (hA.2.2 q e2 h2).2.kept (oq q hq)⟩
theorem ah_new {D : va_G} {cl : List vw_C} {B : Heap} {lo hi : Nat} {h : Nat → Option va_E} {H H1 : Heap} (hA : ah D cl B lo hi h H) {e : va_E} (he : va_at D cl (hi, e) H1) (z : H1.size = hi + 1) (oq : ∀ q : Nat, q < hi → H1[q]? = H[q]?) : ah D cl B lo (hi + 1) (hup h hi e) H1 := by
  refine ⟨⟨Nat.le_succ_of_le hA.1.1, fun q hq => (oq q (Nat.lt_of_lt_of_le hq hA.1.1)).trans (hA.1.2 q hq)⟩, z, fun q e2 h2 => ?_⟩
  by_cases hq : q = hi
  · subst hq
    rw [hup, if_pos rfl] at h2
    cases h2
    exact ⟨hA.1.1, he⟩
  · rw [hup, if_neg hq] at h2
    exact ⟨(hA.2.2 q e2 h2).1, (hA.2.2 q e2 h2).2.kept (oq q (ah_lt hA h2).2)⟩
theorem ah_none {D : va_G} {cl : List vw_C} {B : Heap} {lo hi : Nat} {h : Nat → Option va_E} {H : Heap} (hA : ah D cl B lo hi h H) {q : Nat} (hq : hi ≤ q) : h q = none := by
  cases he : h q with
  | none => rfl
  | some e => exact absurd (ah_lt hA he).2 (by omega)
theorem hup_self (h : Nat → Option va_E) (a : Nat) (e : va_E) : hup h a e a = some e := by simp [hup]
theorem hup_ne (h : Nat → Option va_E) (a : Nat) (e : va_E) {q : Nat} (hq : q ≠ a) : hup h a e q = h q := by simp [hup, hq]
/-- the words that no list of words bears: nest mates' constructors, clones, arrays of references -/
def nwOK (U : State) : Prop := (va_Nw (.methodLinkNest RX11 21 yX8_init "SessionEnds") U ∧ va_Nw (.methodLinkNest RX11 28 yX6_init "SessionEnds") U ∧ va_Nw (.methodLinkNest RX6 11 yX5_init "SessionEnds") U ∧ va_Nw (.methodLinkNest RX11 35 yX10_init "SessionEnds") U ∧ va_Nw (.methodLinkNest RX11 42 yX1_init "SessionEnds") U ∧ va_Nw (.methodLinkNest RX9 25 yX0_init "SessionEnds") U ∧ va_Nw (.methodLinkNest RX9 34 yX2_init "SessionEnds") U ∧ va_Nw (.methodLinkNest RX9 35 yX5_init "SessionEnds") U) ∧ (va_Nw (.castable "[I" "java/lang/Cloneable") U ∧ va_Nw (.castable "[B" "java/lang/Cloneable") U) ∧ va_AO RX7 U ∧ va_AO RX2 U ∧ va_AO RX5 U ∧ va_AO "java/lang/String" U
theorem nwOK_warm {s U : State} (hW : s.WarmedH U.vm) (h : nwOK s) : nwOK U := by
  obtain ⟨⟨a1, a2, a3, a4, a5, a6, a7, a8⟩, ⟨b1, b2⟩, c1, c2, c3, c4⟩ := h
  exact ⟨⟨a1.warmM hW, a2.warmM hW, a3.warmM hW, a4.warmM hW, a5.warmM hW, a6.warmM hW, a7.warmM hW, a8.warmM hW⟩, ⟨b1.warmC hW, b2.warmC hW⟩, va_AO.moved hW.alike c1, va_AO.moved hW.alike c2, va_AO.moved hW.alike c3, va_AO.moved hW.alike c4⟩
theorem nwOK_same {s U : State} (hv : s.vm = U.vm) (h : nwOK s) : nwOK U := by
  obtain ⟨⟨a1, a2, a3, a4, a5, a6, a7, a8⟩, ⟨b1, b2⟩, c1, c2, c3, c4⟩ := h
  exact ⟨⟨a1.same rfl hv, a2.same rfl hv, a3.same rfl hv, a4.same rfl hv, a5.same rfl hv, a6.same rfl hv, a7.same rfl hv, a8.same rfl hv⟩, ⟨b1.same rfl hv, b2.same rfl hv⟩, va_AO.moved (hv ▸ Vm.Alike.refl _) c1, va_AO.moved (hv ▸ Vm.Alike.refl _) c2, va_AO.moved (hv ▸ Vm.Alike.refl _) c3, va_AO.moved (hv ▸ Vm.Alike.refl _) c4⟩
/-- what stands fixed through a method's walk -/
def Cx (p : Program) (s : State) (m : MethodId) (args : Array Value) (c : Code) (cc : ByteArray) (nL : Nat) (Ts : List Cond) (own : String) (D : va_G) (cl : List vw_C) (tys : List (ClassId × FieldType)) : Prop := CallFix p m c cc nL s args Ts own ∧ va_K D cl tys s ∧ nwOK s
/-- the walk's goal, over every heap that h tells -/
def Gx (p : Program) (l : Launch) (e : Env) (R : Room) (s : State) (m : MethodId) (args : Array Value) (below : List Frame) (meth : Method) (c : Code) (D : va_G) (cl : List vw_C) (B : Heap) (lo nL : Nat) (Q : State → Prop) (hi : Nat) (h : Nat → Option va_E) (cs ss : Nat) (L : List (Nat × Value)) (pc : Nat) (st : List Value) : Prop :=
  ∀ (H : Heap) (locs : List Loc), ah D cl B lo hi h H → va_S (fun q => lo ≤ q) s.heap H locs → ∀ ls : Array Slot, lv_has ls nL L → W p l e R s m args below meth c H locs cs ss Q (F0 m pc ls st)
section AX
variable {p : Program} {l : Launch} {e : Env} {R : Room} {s : State} {m : MethodId} {args : Array Value} {below : List Frame} {meth : Method} {c : Code} {D : va_G} {cl : List vw_C} {B : Heap} {lo nL : Nat} {Q : State → Prop} {hi : Nat} {h : Nat → Option va_E} {cs ss : Nat} {L : List (Nat × Value)} {pc : Nat} {st : List Value} {cc : ByteArray} {Ts : List Cond} {own : String} {tys : List (ClassId × FieldType)}
theorem ax_iconst (hC : Cx p s m args c cc nL Ts own D cl tys) {n : Int} {v : Int32} (hdg : decode cc pc = .ok (.iconst n, 1)) (hv : Int32.ofInt n = v) (kk : Gx p l e R s m args below meth c D cl B lo nL Q hi h cs ss L (pc + 1) (.int v :: st)) : Gx p l e R s m args below meth c D cl B lo nL Q hi h cs ss L pc (st) :=
  fun H locs hA hS ls hL => lv_iconst hC.1.1 hC.1.2.1 hdg  hv (kk H locs hA hS ls hL)
theorem ax_bipush (hC : Cx p s m args c cc nL Ts own D cl tys) {n : Int} {v : Int32} (hdg : decode cc pc = .ok (.bipush n, 2)) (hv : (Int8.ofInt n).toInt32 = v) (kk : Gx p l e R s m args below meth c D cl B lo nL Q hi h cs ss L (pc + 2) (.int v :: st)) : Gx p l e R s m args below meth c D cl B lo nL Q hi h cs ss L pc (st) :=
  fun H locs hA hS ls hL => lv_bipush hC.1.1 hC.1.2.1 hdg  hv (kk H locs hA hS ls hL)
theorem ax_sipush (hC : Cx p s m args c cc nL Ts own D cl tys) {n : Int} {v : Int32} (hdg : decode cc pc = .ok (.sipush n, 3)) (hv : (Int16.ofInt n).toInt32 = v) (kk : Gx p l e R s m args below meth c D cl B lo nL Q hi h cs ss L (pc + 3) (.int v :: st)) : Gx p l e R s m args below meth c D cl B lo nL Q hi h cs ss L pc (st) :=
  fun H locs hA hS ls hL => lv_sipush hC.1.1 hC.1.2.1 hdg  hv (kk H locs hA hS ls hL)
theorem ax_lconst (hC : Cx p s m args c cc nL Ts own D cl tys) {n : Fin 2} {v : Int64} (hdg : decode cc pc = .ok (.lconst n, 1)) (hv : Int64.ofNat (n : Nat) = v) (kk : Gx p l e R s m args below meth c D cl B lo nL Q hi h cs ss L (pc + 1) (.long v :: st)) : Gx p l e R s m args below meth c D cl B lo nL Q hi h cs ss L pc (st) :=
  fun H locs hA hS ls hL => lv_lconst hC.1.1 hC.1.2.1 hdg  hv (kk H locs hA hS ls hL)
theorem ax_iadd (hC : Cx p s m args c cc nL Ts own D cl tys) {x y : Int32} (hdg : decode cc pc = .ok (.iadd, 1))  (kk : Gx p l e R s m args below meth c D cl B lo nL Q hi h cs ss L (pc + 1) (.int (x + y) :: st)) : Gx p l e R s m args below meth c D cl B lo nL Q hi h cs ss L pc (.int y :: .int x :: st) :=
  fun H locs hA hS ls hL => lv_iadd hC.1.1 hC.1.2.1 hdg   (kk H locs hA hS ls hL)
theorem ax_isub (hC : Cx p s m args c cc nL Ts own D cl tys) {x y : Int32} (hdg : decode cc pc = .ok (.isub, 1))  (kk : Gx p l e R s m args below meth c D cl B lo nL Q hi h cs ss L (pc + 1) (.int (x - y) :: st)) : Gx p l e R s m args below meth c D cl B lo nL Q hi h cs ss L pc (.int y :: .int x :: st) :=
  fun H locs hA hS ls hL => lv_isub hC.1.1 hC.1.2.1 hdg   (kk H locs hA hS ls hL)
theorem ax_imul (hC : Cx p s m args c cc nL Ts own D cl tys) {x y : Int32} (hdg : decode cc pc = .ok (.imul, 1))  (kk : Gx p l e R s m args below meth c D cl B lo nL Q hi h cs ss L (pc + 1) (.int (x * y) :: st)) : Gx p l e R s m args below meth c D cl B lo nL Q hi h cs ss L pc (.int y :: .int x :: st) :=
  fun H locs hA hS ls hL => lv_imul hC.1.1 hC.1.2.1 hdg   (kk H locs hA hS ls hL)
theorem ax_iand (hC : Cx p s m args c cc nL Ts own D cl tys) {x y : Int32} (hdg : decode cc pc = .ok (.iand, 1))  (kk : Gx p l e R s m args below meth c D cl B lo nL Q hi h cs ss L (pc + 1) (.int (x &&& y) :: st)) : Gx p l e R s m args below meth c D cl B lo nL Q hi h cs ss L pc (.int y :: .int x :: st) :=
  fun H locs hA hS ls hL => lv_iand hC.1.1 hC.1.2.1 hdg   (kk H locs hA hS ls hL)
theorem ax_ior (hC : Cx p s m args c cc nL Ts own D cl tys) {x y : Int32} (hdg : decode cc pc = .ok (.ior, 1))  (kk : Gx p l e R s m args below meth c D cl B lo nL Q hi h cs ss L (pc + 1) (.int (x ||| y) :: st)) : Gx p l e R s m args below meth c D cl B lo nL Q hi h cs ss L pc (.int y :: .int x :: st) :=
  fun H locs hA hS ls hL => lv_ior hC.1.1 hC.1.2.1 hdg   (kk H locs hA hS ls hL)
theorem ax_ixor (hC : Cx p s m args c cc nL Ts own D cl tys) {x y : Int32} (hdg : decode cc pc = .ok (.ixor, 1))  (kk : Gx p l e R s m args below meth c D cl B lo nL Q hi h cs ss L (pc + 1) (.int (x ^^^ y) :: st)) : Gx p l e R s m args below meth c D cl B lo nL Q hi h cs ss L pc (.int y :: .int x :: st) :=
  fun H locs hA hS ls hL => lv_ixor hC.1.1 hC.1.2.1 hdg   (kk H locs hA hS ls hL)
theorem ax_ishl (hC : Cx p s m args c cc nL Ts own D cl tys) {x y : Int32} (hdg : decode cc pc = .ok (.ishl, 1))  (kk : Gx p l e R s m args below meth c D cl B lo nL Q hi h cs ss L (pc + 1) (.int (x <<< (y &&& 31)) :: st)) : Gx p l e R s m args below meth c D cl B lo nL Q hi h cs ss L pc (.int y :: .int x :: st) :=
  fun H locs hA hS ls hL => lv_ishl hC.1.1 hC.1.2.1 hdg   (kk H locs hA hS ls hL)
theorem ax_ishr (hC : Cx p s m args c cc nL Ts own D cl tys) {x y : Int32} (hdg : decode cc pc = .ok (.ishr, 1))  (kk : Gx p l e R s m args below meth c D cl B lo nL Q hi h cs ss L (pc + 1) (.int (x >>> (y &&& 31)) :: st)) : Gx p l e R s m args below meth c D cl B lo nL Q hi h cs ss L pc (.int y :: .int x :: st) :=
  fun H locs hA hS ls hL => lv_ishr hC.1.1 hC.1.2.1 hdg   (kk H locs hA hS ls hL)
theorem ax_idiv (hC : Cx p s m args c cc nL Ts own D cl tys) {x y : Int32} (hdg : decode cc pc = .ok (.idiv, 1)) (hne : ¬ y = 0) (kk : Gx p l e R s m args below meth c D cl B lo nL Q hi h cs ss L (pc + 1) (.int (x / y) :: st)) : Gx p l e R s m args below meth c D cl B lo nL Q hi h cs ss L pc (.int y :: .int x :: st) :=
  fun H locs hA hS ls hL => lv_idiv hC.1.1 hC.1.2.1 hdg  hne (kk H locs hA hS ls hL)
theorem ax_irem (hC : Cx p s m args c cc nL Ts own D cl tys) {x y : Int32} (hdg : decode cc pc = .ok (.irem, 1)) (hne : ¬ y = 0) (kk : Gx p l e R s m args below meth c D cl B lo nL Q hi h cs ss L (pc + 1) (.int (x - (x / y) * y) :: st)) : Gx p l e R s m args below meth c D cl B lo nL Q hi h cs ss L pc (.int y :: .int x :: st) :=
  fun H locs hA hS ls hL => lv_irem hC.1.1 hC.1.2.1 hdg  hne (kk H locs hA hS ls hL)
theorem ax_lmul (hC : Cx p s m args c cc nL Ts own D cl tys) {x y : Int64} (hdg : decode cc pc = .ok (.lmul, 1))  (kk : Gx p l e R s m args below meth c D cl B lo nL Q hi h cs ss L (pc + 1) (.long (x * y) :: st)) : Gx p l e R s m args below meth c D cl B lo nL Q hi h cs ss L pc (.long y :: .long x :: st) :=
  fun H locs hA hS ls hL => lv_lmul hC.1.1 hC.1.2.1 hdg   (kk H locs hA hS ls hL)
theorem ax_land (hC : Cx p s m args c cc nL Ts own D cl tys) {x y : Int64} (hdg : decode cc pc = .ok (.land, 1))  (kk : Gx p l e R s m args below meth c D cl B lo nL Q hi h cs ss L (pc + 1) (.long (x &&& y) :: st)) : Gx p l e R s m args below meth c D cl B lo nL Q hi h cs ss L pc (.long y :: .long x :: st) :=
  fun H locs hA hS ls hL => lv_land hC.1.1 hC.1.2.1 hdg   (kk H locs hA hS ls hL)
theorem ax_lor (hC : Cx p s m args c cc nL Ts own D cl tys) {x y : Int64} (hdg : decode cc pc = .ok (.lor, 1))  (kk : Gx p l e R s m args below meth c D cl B lo nL Q hi h cs ss L (pc + 1) (.long (x ||| y) :: st)) : Gx p l e R s m args below meth c D cl B lo nL Q hi h cs ss L pc (.long y :: .long x :: st) :=
  fun H locs hA hS ls hL => lv_lor hC.1.1 hC.1.2.1 hdg   (kk H locs hA hS ls hL)
theorem ax_i2l (hC : Cx p s m args c cc nL Ts own D cl tys) {x : Int32} {v : Int64} (hdg : decode cc pc = .ok (.i2l, 1)) (hv : x.toInt64 = v) (kk : Gx p l e R s m args below meth c D cl B lo nL Q hi h cs ss L (pc + 1) (.long v :: st)) : Gx p l e R s m args below meth c D cl B lo nL Q hi h cs ss L pc (.int x :: st) :=
  fun H locs hA hS ls hL => lv_i2l hC.1.1 hC.1.2.1 hdg  hv (kk H locs hA hS ls hL)
theorem ax_l2i (hC : Cx p s m args c cc nL Ts own D cl tys) {x : Int64} {v : Int32} (hdg : decode cc pc = .ok (.l2i, 1)) (hv : x.toInt32 = v) (kk : Gx p l e R s m args below meth c D cl B lo nL Q hi h cs ss L (pc + 1) (.int v :: st)) : Gx p l e R s m args below meth c D cl B lo nL Q hi h cs ss L pc (.long x :: st) :=
  fun H locs hA hS ls hL => lv_l2i hC.1.1 hC.1.2.1 hdg  hv (kk H locs hA hS ls hL)
theorem ax_i2b (hC : Cx p s m args c cc nL Ts own D cl tys) {x : Int32} {v : Int32} (hdg : decode cc pc = .ok (.i2b, 1)) (hv : x.toInt8.toInt32 = v) (kk : Gx p l e R s m args below meth c D cl B lo nL Q hi h cs ss L (pc + 1) (.int v :: st)) : Gx p l e R s m args below meth c D cl B lo nL Q hi h cs ss L pc (.int x :: st) :=
  fun H locs hA hS ls hL => lv_i2b hC.1.1 hC.1.2.1 hdg  hv (kk H locs hA hS ls hL)
theorem ax_i2c (hC : Cx p s m args c cc nL Ts own D cl tys) {x : Int32} {v : Int32} (hdg : decode cc pc = .ok (.i2c, 1)) (hv : (x.toUInt32 % 65536).toInt32 = v) (kk : Gx p l e R s m args below meth c D cl B lo nL Q hi h cs ss L (pc + 1) (.int v :: st)) : Gx p l e R s m args below meth c D cl B lo nL Q hi h cs ss L pc (.int x :: st) :=
  fun H locs hA hS ls hL => lv_i2c hC.1.1 hC.1.2.1 hdg  hv (kk H locs hA hS ls hL)
theorem ax_lushr (hC : Cx p s m args c cc nL Ts own D cl tys) {x v : Int64} {y : Int32} (hdg : decode cc pc = .ok (.lushr, 1)) (hv : (x.toUInt64 >>> (y.toInt64.toUInt64 &&& Int64.toUInt64 63)).toInt64 = v) (kk : Gx p l e R s m args below meth c D cl B lo nL Q hi h cs ss L (pc + 1) (.long v :: st)) : Gx p l e R s m args below meth c D cl B lo nL Q hi h cs ss L pc (.int y :: .long x :: st) :=
  fun H locs hA hS ls hL => lv_lushr hC.1.1 hC.1.2.1 hdg  hv (kk H locs hA hS ls hL)
theorem ax_lshl (hC : Cx p s m args c cc nL Ts own D cl tys) {x v : Int64} {y : Int32} (hdg : decode cc pc = .ok (.lshl, 1)) (hv : x <<< (y.toInt64 &&& 63) = v) (kk : Gx p l e R s m args below meth c D cl B lo nL Q hi h cs ss L (pc + 1) (.long v :: st)) : Gx p l e R s m args below meth c D cl B lo nL Q hi h cs ss L pc (.int y :: .long x :: st) :=
  fun H locs hA hS ls hL => lv_lshl hC.1.1 hC.1.2.1 hdg  hv (kk H locs hA hS ls hL)
theorem ax_lshr (hC : Cx p s m args c cc nL Ts own D cl tys) {x v : Int64} {y : Int32} (hdg : decode cc pc = .ok (.lshr, 1)) (hv : x >>> (y.toInt64 &&& 63) = v) (kk : Gx p l e R s m args below meth c D cl B lo nL Q hi h cs ss L (pc + 1) (.long v :: st)) : Gx p l e R s m args below meth c D cl B lo nL Q hi h cs ss L pc (.int y :: .long x :: st) :=
  fun H locs hA hS ls hL => lv_lshr hC.1.1 hC.1.2.1 hdg  hv (kk H locs hA hS ls hL)
theorem ax_dup (hC : Cx p s m args c cc nL Ts own D cl tys) {v : Value} (hdg : decode cc pc = .ok (.dup, 1)) (hv : v.category = 1) (kk : Gx p l e R s m args below meth c D cl B lo nL Q hi h cs ss L (pc + 1) (v :: v :: st)) : Gx p l e R s m args below meth c D cl B lo nL Q hi h cs ss L pc (v :: st) :=
  fun H locs hA hS ls hL => lv_dup hC.1.1 hC.1.2.1 hdg  hv (kk H locs hA hS ls hL)
theorem ax_pop (hC : Cx p s m args c cc nL Ts own D cl tys) {v : Value} (hdg : decode cc pc = .ok (.pop, 1)) (hv : v.category = 1) (kk : Gx p l e R s m args below meth c D cl B lo nL Q hi h cs ss L (pc + 1) (st)) : Gx p l e R s m args below meth c D cl B lo nL Q hi h cs ss L pc (v :: st) :=
  fun H locs hA hS ls hL => lv_pop hC.1.1 hC.1.2.1 hdg  hv (kk H locs hA hS ls hL)
theorem ax_dup2_11 (hC : Cx p s m args c cc nL Ts own D cl tys) {v u : Value} (hdg : decode cc pc = .ok (.dup2, 1)) (hv : v.category = 1) (hu : u.category = 1) (kk : Gx p l e R s m args below meth c D cl B lo nL Q hi h cs ss L (pc + 1) (v :: u :: v :: u :: st)) : Gx p l e R s m args below meth c D cl B lo nL Q hi h cs ss L pc (v :: u :: st) :=
  fun H locs hA hS ls hL => lv_dup2_11 hC.1.1 hC.1.2.1 hdg  hv hu (kk H locs hA hS ls hL)
theorem ax_dup_x2 (hC : Cx p s m args c cc nL Ts own D cl tys) {v u z : Value} (hdg : decode cc pc = .ok (.dup_x2, 1)) (hv : v.category = 1) (hu : u.category = 1) (hz : z.category = 1) (kk : Gx p l e R s m args below meth c D cl B lo nL Q hi h cs ss L (pc + 1) (v :: u :: z :: v :: st)) : Gx p l e R s m args below meth c D cl B lo nL Q hi h cs ss L pc (v :: u :: z :: st) :=
  fun H locs hA hS ls hL => lv_dup_x2 hC.1.1 hC.1.2.1 hdg  hv hu hz (kk H locs hA hS ls hL)
theorem ax_iload_n (hC : Cx p s m args c cc nL Ts own D cl tys) (j : Nat) {k : Fin 4} {i : Nat} {x : Int32} (hdg : decode cc pc = .ok (.iload_n k, 1)) (hk : (k : Nat) = i) (hj : L[j]? = some (i, .int x)) (kk : Gx p l e R s m args below meth c D cl B lo nL Q hi h cs ss L (pc + 1) (.int x :: st)) : Gx p l e R s m args below meth c D cl B lo nL Q hi h cs ss L pc st :=
  fun H locs hA hS ls hL => lv_iload_n hC.1.1 hC.1.2.1 hdg hk (lv_at hL j hj) (kk H locs hA hS ls hL)
theorem ax_iload (hC : Cx p s m args c cc nL Ts own D cl tys) (j : Nat) {i : Nat} {x : Int32} (hdg : decode cc pc = .ok (.iload i, 2)) (hj : L[j]? = some (i, .int x)) (kk : Gx p l e R s m args below meth c D cl B lo nL Q hi h cs ss L (pc + 2) (.int x :: st)) : Gx p l e R s m args below meth c D cl B lo nL Q hi h cs ss L pc st :=
  fun H locs hA hS ls hL => lv_iload hC.1.1 hC.1.2.1 hdg (lv_at hL j hj) (kk H locs hA hS ls hL)
theorem ax_lload_n (hC : Cx p s m args c cc nL Ts own D cl tys) (j : Nat) {k : Fin 4} {i : Nat} {x : Int64} (hdg : decode cc pc = .ok (.lload_n k, 1)) (hk : (k : Nat) = i) (hj : L[j]? = some (i, .long x)) (kk : Gx p l e R s m args below meth c D cl B lo nL Q hi h cs ss L (pc + 1) (.long x :: st)) : Gx p l e R s m args below meth c D cl B lo nL Q hi h cs ss L pc st :=
  fun H locs hA hS ls hL => lv_lload_n hC.1.1 hC.1.2.1 hdg hk (lv_at hL j hj) (kk H locs hA hS ls hL)
theorem ax_aload_n (hC : Cx p s m args c cc nL Ts own D cl tys) (j : Nat) {k : Fin 4} {i : Nat} {x : Nat} (hdg : decode cc pc = .ok (.aload_n k, 1)) (hk : (k : Nat) = i) (hj : L[j]? = some (i, .ref x)) (kk : Gx p l e R s m args below meth c D cl B lo nL Q hi h cs ss L (pc + 1) (.ref x :: st)) : Gx p l e R s m args below meth c D cl B lo nL Q hi h cs ss L pc st :=
  fun H locs hA hS ls hL => lv_aload_n hC.1.1 hC.1.2.1 hdg hk (lv_at hL j hj) (kk H locs hA hS ls hL)
theorem ax_aload (hC : Cx p s m args c cc nL Ts own D cl tys) (j : Nat) {i : Nat} {x : Nat} (hdg : decode cc pc = .ok (.aload i, 2)) (hj : L[j]? = some (i, .ref x)) (kk : Gx p l e R s m args below meth c D cl B lo nL Q hi h cs ss L (pc + 2) (.ref x :: st)) : Gx p l e R s m args below meth c D cl B lo nL Q hi h cs ss L pc st :=
  fun H locs hA hS ls hL => lv_aload hC.1.1 hC.1.2.1 hdg (lv_at hL j hj) (kk H locs hA hS ls hL)
theorem ax_aload_nN (hC : Cx p s m args c cc nL Ts own D cl tys) (j : Nat) {k : Fin 4} {i : Nat} (hdg : decode cc pc = .ok (.aload_n k, 1)) (hk : (k : Nat) = i) (hj : L[j]? = some (i, .null)) (kk : Gx p l e R s m args below meth c D cl B lo nL Q hi h cs ss L (pc + 1) (.null :: st)) : Gx p l e R s m args below meth c D cl B lo nL Q hi h cs ss L pc st :=
  fun H locs hA hS ls hL => lv_aload_nN hC.1.1 hC.1.2.1 hdg hk (lv_at hL j hj) (kk H locs hA hS ls hL)
theorem ax_aloadN (hC : Cx p s m args c cc nL Ts own D cl tys) (j : Nat) {i : Nat} (hdg : decode cc pc = .ok (.aload i, 2)) (hj : L[j]? = some (i, .null)) (kk : Gx p l e R s m args below meth c D cl B lo nL Q hi h cs ss L (pc + 2) (.null :: st)) : Gx p l e R s m args below meth c D cl B lo nL Q hi h cs ss L pc st :=
  fun H locs hA hS ls hL => lv_aloadN hC.1.1 hC.1.2.1 hdg (lv_at hL j hj) (kk H locs hA hS ls hL)
theorem ax_istore_n (hC : Cx p s m args c cc nL Ts own D cl tys) {k : Fin 4} {i : Nat} {x : Int32} (L' : List (Nat × Value)) (hdg : decode cc pc = .ok (.istore_n k, 1)) (hk : (k : Nat) = i) (hn : i < nL) (hl : (i, Value.int x) :: L.filter (fun q => !(q.1 == i) && !(q.1 + 1 == i && q.2.category == 2)) = L') (kk : Gx p l e R s m args below meth c D cl B lo nL Q hi h cs ss L' (pc + 1) st) : Gx p l e R s m args below meth c D cl B lo nL Q hi h cs ss L pc (.int x :: st) :=
  fun H locs hA hS ls hL => lv_istore_n hC.1.1 hC.1.2.1 hdg hk hL hn hl (fun ls1 hL1 => kk H locs hA hS ls1 hL1)
theorem ax_istore (hC : Cx p s m args c cc nL Ts own D cl tys) {i : Nat} {x : Int32} (L' : List (Nat × Value)) (hdg : decode cc pc = .ok (.istore i, 2)) (hn : i < nL) (hl : (i, Value.int x) :: L.filter (fun q => !(q.1 == i) && !(q.1 + 1 == i && q.2.category == 2)) = L') (kk : Gx p l e R s m args below meth c D cl B lo nL Q hi h cs ss L' (pc + 2) st) : Gx p l e R s m args below meth c D cl B lo nL Q hi h cs ss L pc (.int x :: st) :=
  fun H locs hA hS ls hL => lv_istore hC.1.1 hC.1.2.1 hdg hL hn hl (fun ls1 hL1 => kk H locs hA hS ls1 hL1)
theorem ax_astore_n (hC : Cx p s m args c cc nL Ts own D cl tys) {k : Fin 4} {i : Nat} {x : Nat} (L' : List (Nat × Value)) (hdg : decode cc pc = .ok (.astore_n k, 1)) (hk : (k : Nat) = i) (hn : i < nL) (hl : (i, Value.ref x) :: L.filter (fun q => !(q.1 == i) && !(q.1 + 1 == i && q.2.category == 2)) = L') (kk : Gx p l e R s m args below meth c D cl B lo nL Q hi h cs ss L' (pc + 1) st) : Gx p l e R s m args below meth c D cl B lo nL Q hi h cs ss L pc (.ref x :: st) :=
  fun H locs hA hS ls hL => lv_astore_n hC.1.1 hC.1.2.1 hdg hk hL hn hl (fun ls1 hL1 => kk H locs hA hS ls1 hL1)
theorem ax_astore (hC : Cx p s m args c cc nL Ts own D cl tys) {i : Nat} {x : Nat} (L' : List (Nat × Value)) (hdg : decode cc pc = .ok (.astore i, 2)) (hn : i < nL) (hl : (i, Value.ref x) :: L.filter (fun q => !(q.1 == i) && !(q.1 + 1 == i && q.2.category == 2)) = L') (kk : Gx p l e R s m args below meth c D cl B lo nL Q hi h cs ss L' (pc + 2) st) : Gx p l e R s m args below meth c D cl B lo nL Q hi h cs ss L pc (.ref x :: st) :=
  fun H locs hA hS ls hL => lv_astore hC.1.1 hC.1.2.1 hdg hL hn hl (fun ls1 hL1 => kk H locs hA hS ls1 hL1)
theorem ax_astore_nN (hC : Cx p s m args c cc nL Ts own D cl tys) {k : Fin 4} {i : Nat} (L' : List (Nat × Value)) (hdg : decode cc pc = .ok (.astore_n k, 1)) (hk : (k : Nat) = i) (hn : i < nL) (hl : (i, Value.null) :: L.filter (fun q => !(q.1 == i) && !(q.1 + 1 == i && q.2.category == 2)) = L') (kk : Gx p l e R s m args below meth c D cl B lo nL Q hi h cs ss L' (pc + 1) st) : Gx p l e R s m args below meth c D cl B lo nL Q hi h cs ss L pc (.null :: st) :=
  fun H locs hA hS ls hL => lv_astore_nN hC.1.1 hC.1.2.1 hdg hk hL hn hl (fun ls1 hL1 => kk H locs hA hS ls1 hL1)
theorem ax_astoreN (hC : Cx p s m args c cc nL Ts own D cl tys) {i : Nat} (L' : List (Nat × Value)) (hdg : decode cc pc = .ok (.astore i, 2)) (hn : i < nL) (hl : (i, Value.null) :: L.filter (fun q => !(q.1 == i) && !(q.1 + 1 == i && q.2.category == 2)) = L') (kk : Gx p l e R s m args below meth c D cl B lo nL Q hi h cs ss L' (pc + 2) st) : Gx p l e R s m args below meth c D cl B lo nL Q hi h cs ss L pc (.null :: st) :=
  fun H locs hA hS ls hL => lv_astoreN hC.1.1 hC.1.2.1 hdg hL hn hl (fun ls1 hL1 => kk H locs hA hS ls1 hL1)
theorem ax_lstore_n (hC : Cx p s m args c cc nL Ts own D cl tys) {k : Fin 4} {i : Nat} {x : Int64} (L' : List (Nat × Value)) (hdg : decode cc pc = .ok (.lstore_n k, 1)) (hk : (k : Nat) = i) (hn : i + 1 < nL) (hl : (i, Value.long x) :: L.filter (fun q => !(q.1 == i) && (!(q.1 == i + 1) && !(q.1 + 1 == i && q.2.category == 2))) = L') (kk : Gx p l e R s m args below meth c D cl B lo nL Q hi h cs ss L' (pc + 1) st) : Gx p l e R s m args below meth c D cl B lo nL Q hi h cs ss L pc (.long x :: st) :=
  fun H locs hA hS ls hL => lv_lstore_n hC.1.1 hC.1.2.1 hdg hk hL hn hl (fun ls1 hL1 => kk H locs hA hS ls1 hL1)
theorem ax_iinc (hC : Cx p s m args c cc nL Ts own D cl tys) (j : Nat) {i : Nat} {n : Int} {x v : Int32} (L' : List (Nat × Value)) (hdg : decode cc pc = .ok (.iinc i n, 3)) (hj : L[j]? = some (i, .int x)) (hv : x + Int32.ofInt n = v) (hn : i < nL) (hl : (i, Value.int v) :: L.filter (fun q => !(q.1 == i) && !(q.1 + 1 == i && q.2.category == 2)) = L') (kk : Gx p l e R s m args below meth c D cl B lo nL Q hi h cs ss L' (pc + 3) st) : Gx p l e R s m args below meth c D cl B lo nL Q hi h cs ss L pc st :=
  fun H locs hA hS ls hL => lv_iinc hC.1.1 hC.1.2.1 hdg hL hj hv hn hl (fun ls1 hL1 => kk H locs hA hS ls1 hL1)
theorem ax_locals {L' : List (Nat × Value)} (ks : List Nat) (hl : lv_pick L ks = L') (kk : Gx p l e R s m args below meth c D cl B lo nL Q hi h cs ss L' pc st) : Gx p l e R s m args below meth c D cl B lo nL Q hi h cs ss L pc st := fun H locs hA hS ls hL => kk H locs hA hS ls (lv_sub hL ks hl)
theorem ax_goto (hC : Cx p s m args c cc nL Ts own D cl tys) {off : Int} {tgt : Nat} (hdg : decode cc pc = .ok (.goto off, 3)) (ht : (pc : Int) + off = (tgt : Int)) (kk : Gx p l e R s m args below meth c D cl B lo nL Q hi h cs ss L tgt st) : Gx p l e R s m args below meth c D cl B lo nL Q hi h cs ss L pc st :=
  fun H locs hA hS ls hL => lv_goto hC.1.1 hC.1.2.1 hdg ht (kk H locs hA hS ls hL)
theorem ax_if_eq (hC : Cx p s m args c cc nL Ts own D cl tys) {x : Int32} {off : Int} {tgt : Nat} (hdg : decode cc pc = .ok (.ifCond .eq off, 3)) (ht : (pc : Int) + off = (tgt : Int)) (kt : x = 0 → Gx p l e R s m args below meth c D cl B lo nL Q hi h cs ss L tgt st) (kf : ¬ x = 0 → Gx p l e R s m args below meth c D cl B lo nL Q hi h cs ss L (pc + 3) st) : Gx p l e R s m args below meth c D cl B lo nL Q hi h cs ss L pc (.int x :: st) :=
  fun H locs hA hS ls hL => lv_if_eq hC.1.1 hC.1.2.1 hdg ht (fun z => kt z H locs hA hS ls hL) (fun z => kf z H locs hA hS ls hL)
theorem ax_if_ne (hC : Cx p s m args c cc nL Ts own D cl tys) {x : Int32} {off : Int} {tgt : Nat} (hdg : decode cc pc = .ok (.ifCond .ne off, 3)) (ht : (pc : Int) + off = (tgt : Int)) (kt : ¬ x = 0 → Gx p l e R s m args below meth c D cl B lo nL Q hi h cs ss L tgt st) (kf : x = 0 → Gx p l e R s m args below meth c D cl B lo nL Q hi h cs ss L (pc + 3) st) : Gx p l e R s m args below meth c D cl B lo nL Q hi h cs ss L pc (.int x :: st) :=
  fun H locs hA hS ls hL => lv_if_ne hC.1.1 hC.1.2.1 hdg ht (fun z => kt z H locs hA hS ls hL) (fun z => kf z H locs hA hS ls hL)
theorem ax_if_lt (hC : Cx p s m args c cc nL Ts own D cl tys) {x : Int32} {off : Int} {tgt : Nat} (hdg : decode cc pc = .ok (.ifCond .lt off, 3)) (ht : (pc : Int) + off = (tgt : Int)) (kt : x < 0 → Gx p l e R s m args below meth c D cl B lo nL Q hi h cs ss L tgt st) (kf : ¬ x < 0 → Gx p l e R s m args below meth c D cl B lo nL Q hi h cs ss L (pc + 3) st) : Gx p l e R s m args below meth c D cl B lo nL Q hi h cs ss L pc (.int x :: st) :=
  fun H locs hA hS ls hL => lv_if_lt hC.1.1 hC.1.2.1 hdg ht (fun z => kt z H locs hA hS ls hL) (fun z => kf z H locs hA hS ls hL)
theorem ax_if_ge (hC : Cx p s m args c cc nL Ts own D cl tys) {x : Int32} {off : Int} {tgt : Nat} (hdg : decode cc pc = .ok (.ifCond .ge off, 3)) (ht : (pc : Int) + off = (tgt : Int)) (kt : 0 ≤ x → Gx p l e R s m args below meth c D cl B lo nL Q hi h cs ss L tgt st) (kf : ¬ 0 ≤ x → Gx p l e R s m args below meth c D cl B lo nL Q hi h cs ss L (pc + 3) st) : Gx p l e R s m args below meth c D cl B lo nL Q hi h cs ss L pc (.int x :: st) :=
  fun H locs hA hS ls hL => lv_if_ge hC.1.1 hC.1.2.1 hdg ht (fun z => kt z H locs hA hS ls hL) (fun z => kf z H locs hA hS ls hL)
theorem ax_if_gt (hC : Cx p s m args c cc nL Ts own D cl tys) {x : Int32} {off : Int} {tgt : Nat} (hdg : decode cc pc = .ok (.ifCond .gt off, 3)) (ht : (pc : Int) + off = (tgt : Int)) (kt : 0 < x → Gx p l e R s m args below meth c D cl B lo nL Q hi h cs ss L tgt st) (kf : ¬ 0 < x → Gx p l e R s m args below meth c D cl B lo nL Q hi h cs ss L (pc + 3) st) : Gx p l e R s m args below meth c D cl B lo nL Q hi h cs ss L pc (.int x :: st) :=
  fun H locs hA hS ls hL => lv_if_gt hC.1.1 hC.1.2.1 hdg ht (fun z => kt z H locs hA hS ls hL) (fun z => kf z H locs hA hS ls hL)
theorem ax_if_le (hC : Cx p s m args c cc nL Ts own D cl tys) {x : Int32} {off : Int} {tgt : Nat} (hdg : decode cc pc = .ok (.ifCond .le off, 3)) (ht : (pc : Int) + off = (tgt : Int)) (kt : x ≤ 0 → Gx p l e R s m args below meth c D cl B lo nL Q hi h cs ss L tgt st) (kf : ¬ x ≤ 0 → Gx p l e R s m args below meth c D cl B lo nL Q hi h cs ss L (pc + 3) st) : Gx p l e R s m args below meth c D cl B lo nL Q hi h cs ss L pc (.int x :: st) :=
  fun H locs hA hS ls hL => lv_if_le hC.1.1 hC.1.2.1 hdg ht (fun z => kt z H locs hA hS ls hL) (fun z => kf z H locs hA hS ls hL)
theorem ax_icmp_eq (hC : Cx p s m args c cc nL Ts own D cl tys) {x y : Int32} {off : Int} {tgt : Nat} (hdg : decode cc pc = .ok (.if_icmp .eq off, 3)) (ht : (pc : Int) + off = (tgt : Int)) (kt : x = y → Gx p l e R s m args below meth c D cl B lo nL Q hi h cs ss L tgt st) (kf : ¬ x = y → Gx p l e R s m args below meth c D cl B lo nL Q hi h cs ss L (pc + 3) st) : Gx p l e R s m args below meth c D cl B lo nL Q hi h cs ss L pc (.int y :: .int x :: st) :=
  fun H locs hA hS ls hL => lv_icmp_eq hC.1.1 hC.1.2.1 hdg ht (fun z => kt z H locs hA hS ls hL) (fun z => kf z H locs hA hS ls hL)
theorem ax_icmp_ne (hC : Cx p s m args c cc nL Ts own D cl tys) {x y : Int32} {off : Int} {tgt : Nat} (hdg : decode cc pc = .ok (.if_icmp .ne off, 3)) (ht : (pc : Int) + off = (tgt : Int)) (kt : ¬ x = y → Gx p l e R s m args below meth c D cl B lo nL Q hi h cs ss L tgt st) (kf : x = y → Gx p l e R s m args below meth c D cl B lo nL Q hi h cs ss L (pc + 3) st) : Gx p l e R s m args below meth c D cl B lo nL Q hi h cs ss L pc (.int y :: .int x :: st) :=
  fun H locs hA hS ls hL => lv_icmp_ne hC.1.1 hC.1.2.1 hdg ht (fun z => kt z H locs hA hS ls hL) (fun z => kf z H locs hA hS ls hL)
theorem ax_icmp_lt (hC : Cx p s m args c cc nL Ts own D cl tys) {x y : Int32} {off : Int} {tgt : Nat} (hdg : decode cc pc = .ok (.if_icmp .lt off, 3)) (ht : (pc : Int) + off = (tgt : Int)) (kt : x < y → Gx p l e R s m args below meth c D cl B lo nL Q hi h cs ss L tgt st) (kf : ¬ x < y → Gx p l e R s m args below meth c D cl B lo nL Q hi h cs ss L (pc + 3) st) : Gx p l e R s m args below meth c D cl B lo nL Q hi h cs ss L pc (.int y :: .int x :: st) :=
  fun H locs hA hS ls hL => lv_icmp_lt hC.1.1 hC.1.2.1 hdg ht (fun z => kt z H locs hA hS ls hL) (fun z => kf z H locs hA hS ls hL)
theorem ax_icmp_ge (hC : Cx p s m args c cc nL Ts own D cl tys) {x y : Int32} {off : Int} {tgt : Nat} (hdg : decode cc pc = .ok (.if_icmp .ge off, 3)) (ht : (pc : Int) + off = (tgt : Int)) (kt : y ≤ x → Gx p l e R s m args below meth c D cl B lo nL Q hi h cs ss L tgt st) (kf : ¬ y ≤ x → Gx p l e R s m args below meth c D cl B lo nL Q hi h cs ss L (pc + 3) st) : Gx p l e R s m args below meth c D cl B lo nL Q hi h cs ss L pc (.int y :: .int x :: st) :=
  fun H locs hA hS ls hL => lv_icmp_ge hC.1.1 hC.1.2.1 hdg ht (fun z => kt z H locs hA hS ls hL) (fun z => kf z H locs hA hS ls hL)
theorem ax_icmp_gt (hC : Cx p s m args c cc nL Ts own D cl tys) {x y : Int32} {off : Int} {tgt : Nat} (hdg : decode cc pc = .ok (.if_icmp .gt off, 3)) (ht : (pc : Int) + off = (tgt : Int)) (kt : y < x → Gx p l e R s m args below meth c D cl B lo nL Q hi h cs ss L tgt st) (kf : ¬ y < x → Gx p l e R s m args below meth c D cl B lo nL Q hi h cs ss L (pc + 3) st) : Gx p l e R s m args below meth c D cl B lo nL Q hi h cs ss L pc (.int y :: .int x :: st) :=
  fun H locs hA hS ls hL => lv_icmp_gt hC.1.1 hC.1.2.1 hdg ht (fun z => kt z H locs hA hS ls hL) (fun z => kf z H locs hA hS ls hL)
theorem ax_icmp_le (hC : Cx p s m args c cc nL Ts own D cl tys) {x y : Int32} {off : Int} {tgt : Nat} (hdg : decode cc pc = .ok (.if_icmp .le off, 3)) (ht : (pc : Int) + off = (tgt : Int)) (kt : x ≤ y → Gx p l e R s m args below meth c D cl B lo nL Q hi h cs ss L tgt st) (kf : ¬ x ≤ y → Gx p l e R s m args below meth c D cl B lo nL Q hi h cs ss L (pc + 3) st) : Gx p l e R s m args below meth c D cl B lo nL Q hi h cs ss L pc (.int y :: .int x :: st) :=
  fun H locs hA hS ls hL => lv_icmp_le hC.1.1 hC.1.2.1 hdg ht (fun z => kt z H locs hA hS ls hL) (fun z => kf z H locs hA hS ls hL)
theorem ax_acmp_ne (hC : Cx p s m args c cc nL Ts own D cl tys) {rx ry : Option Nat} {off : Int} {tgt : Nat} (hdg : decode cc pc = .ok (.if_acmp .ne off, 3)) (ht : (pc : Int) + off = (tgt : Int)) (kt : ¬ rx = ry → Gx p l e R s m args below meth c D cl B lo nL Q hi h cs ss L tgt st) (kf : rx = ry → Gx p l e R s m args below meth c D cl B lo nL Q hi h cs ss L (pc + 3) st) : Gx p l e R s m args below meth c D cl B lo nL Q hi h cs ss L pc (va_rf ry :: va_rf rx :: st) :=
  fun H locs hA hS ls hL => lv_acmp_ne hC.1.1 hC.1.2.1 hdg ht (fun z => kt z H locs hA hS ls hL) (fun z => kf z H locs hA hS ls hL)
theorem ax_ifnull (hC : Cx p s m args c cc nL Ts own D cl tys) {x : Nat} {off : Int} (hdg : decode cc pc = .ok (.ifnull off, 3)) (kk : Gx p l e R s m args below meth c D cl B lo nL Q hi h cs ss L (pc + 3) st) : Gx p l e R s m args below meth c D cl B lo nL Q hi h cs ss L pc (.ref x :: st) :=
  fun H locs hA hS ls hL => lv_ifnull hC.1.1 hC.1.2.1 hdg (kk H locs hA hS ls hL)
theorem ax_ifnullN (hC : Cx p s m args c cc nL Ts own D cl tys) {off : Int} {tgt : Nat} (hdg : decode cc pc = .ok (.ifnull off, 3)) (ht : (pc : Int) + off = (tgt : Int)) (kk : Gx p l e R s m args below meth c D cl B lo nL Q hi h cs ss L tgt st) : Gx p l e R s m args below meth c D cl B lo nL Q hi h cs ss L pc (.null :: st) :=
  fun H locs hA hS ls hL => lv_ifnullN hC.1.1 hC.1.2.1 hdg ht (kk H locs hA hS ls hL)
theorem ax_ifnonnull (hC : Cx p s m args c cc nL Ts own D cl tys) {x : Nat} {off : Int} {tgt : Nat} (hdg : decode cc pc = .ok (.ifnonnull off, 3)) (ht : (pc : Int) + off = (tgt : Int)) (kk : Gx p l e R s m args below meth c D cl B lo nL Q hi h cs ss L tgt st) : Gx p l e R s m args below meth c D cl B lo nL Q hi h cs ss L pc (.ref x :: st) :=
  fun H locs hA hS ls hL => lv_ifnonnull hC.1.1 hC.1.2.1 hdg ht (kk H locs hA hS ls hL)
theorem ax_ifnonnullN (hC : Cx p s m args c cc nL Ts own D cl tys) {off : Int} (hdg : decode cc pc = .ok (.ifnonnull off, 3)) (kk : Gx p l e R s m args below meth c D cl B lo nL Q hi h cs ss L (pc + 3) st) : Gx p l e R s m args below meth c D cl B lo nL Q hi h cs ss L pc (.null :: st) :=
  fun H locs hA hS ls hL => lv_ifnonnullN hC.1.1 hC.1.2.1 hdg (kk H locs hA hS ls hL)
theorem ax_tableOut (hC : Cx p s m args c cc nL Ts own D cl tys) {dflt lo1 hi1 : Int} {offs : Array Int} {len : Nat} {x : Int32} {tgt : Nat} (hdg : decode cc pc = .ok (.tableswitch dflt lo1 hi1 offs, len)) (hx : x.toInt < lo1 ∨ hi1 < x.toInt) (ht : (pc : Int) + dflt = (tgt : Int)) (kk : Gx p l e R s m args below meth c D cl B lo nL Q hi h cs ss L tgt st) : Gx p l e R s m args below meth c D cl B lo nL Q hi h cs ss L pc (.int x :: st) :=
  fun H locs hA hS ls hL => lv_tableOut hC.1.1 hC.1.2.1 hdg hx ht (kk H locs hA hS ls hL)
theorem ax_tableIn (hC : Cx p s m args c cc nL Ts own D cl tys) {dflt lo1 hi1 : Int} {offs : Array Int} {len : Nat} {x : Int32} {off : Int} {tgt : Nat} (hdg : decode cc pc = .ok (.tableswitch dflt lo1 hi1 offs, len)) (h1 : ¬ x.toInt < lo1) (h2 : ¬ hi1 < x.toInt) (ho : offs[(x.toInt - lo1).toNat]? = some off) (ht : (pc : Int) + off = (tgt : Int)) (kk : Gx p l e R s m args below meth c D cl B lo nL Q hi h cs ss L tgt st) : Gx p l e R s m args below meth c D cl B lo nL Q hi h cs ss L pc (.int x :: st) :=
  fun H locs hA hS ls hL => lv_tableIn hC.1.1 hC.1.2.1 hdg h1 h2 ho ht (kk H locs hA hS ls hL)
theorem ax_lookup (hC : Cx p s m args c cc nL Ts own D cl tys) {dflt : Int} {ps : Array (Int × Int)} {len : Nat} {x : Int32} {off : Int} {tgt : Nat} (hdg : decode cc pc = .ok (.lookupswitch dflt ps, len)) (hp : (ps.toList.zip (ps.toList.drop 1)).all (fun (a, next) => a.1 < next.1) = true) (ho : Op.lookupswitch.offset ps.toList dflt x.toInt = off) (ht : (pc : Int) + off = (tgt : Int)) (kk : Gx p l e R s m args below meth c D cl B lo nL Q hi h cs ss L tgt st) : Gx p l e R s m args below meth c D cl B lo nL Q hi h cs ss L pc (.int x :: st) :=
  fun H locs hA hS ls hL => lv_lookup hC.1.1 hC.1.2.1 hdg hp ho ht (kk H locs hA hS ls hL)
theorem ax_ldc (hC : Cx p s m args c cc nL Ts own D cl tys) {index : Nat} {v : Int32} (hw : Cond.constant own index v ∈ Ts) (hdg : decode cc pc = .ok (.ldc index, 2)) (kk : Gx p l e R s m args below meth c D cl B lo nL Q hi h cs ss L (pc + 2) (.int v :: st)) : Gx p l e R s m args below meth c D cl B lo nL Q hi h cs ss L pc st :=
  fun H locs hA hS ls hL => lv_ldc hC.1.1 hC.1.2.1 hC.1.2.2.2.1 (hC.1.2.2.2.2 _ hw) hdg (kk H locs hA hS ls hL)
theorem ax_ldc2 (hC : Cx p s m args c cc nL Ts own D cl tys) {index : Nat} {v : Int64} (hw : Cond.constantLong own index v ∈ Ts) (hdg : decode cc pc = .ok (.ldc2_w index, 3)) (kk : Gx p l e R s m args below meth c D cl B lo nL Q hi h cs ss L (pc + 3) (.long v :: st)) : Gx p l e R s m args below meth c D cl B lo nL Q hi h cs ss L pc st :=
  fun H locs hA hS ls hL => lv_ldc2 hC.1.1 hC.1.2.1 hC.1.2.2.2.1 (hC.1.2.2.2.2 _ hw) hdg (kk H locs hA hS ls hL)
theorem ax_top {v : Value} (kk : ∀ u : Value, u = v → Gx p l e R s m args below meth c D cl B lo nL Q hi h cs ss L pc (u :: st)) : Gx p l e R s m args below meth c D cl B lo nL Q hi h cs ss L pc (v :: st) := kk v rfl
theorem ax_topi {x : Int32} (kk : ∀ y : Int32, y = x → Gx p l e R s m args below meth c D cl B lo nL Q hi h cs ss L pc (.int y :: st)) : Gx p l e R s m args below meth c D cl B lo nL Q hi h cs ss L pc (.int x :: st) := kk x rfl
theorem ax_eqi {x y : Int32} (hxy : x = y) (kk : Gx p l e R s m args below meth c D cl B lo nL Q hi h cs ss L pc (.int y :: st)) : Gx p l e R s m args below meth c D cl B lo nL Q hi h cs ss L pc (.int x :: st) := hxy ▸ kk
theorem ax_widen {k n : Nat} (h1 : cs ≤ k) (h2 : ss ≤ n) (kk : Gx p l e R s m args below meth c D cl B lo nL Q hi h k n L pc st) : Gx p l e R s m args below meth c D cl B lo nL Q hi h cs ss L pc st := fun H locs hA hS ls hL => W.widen h1 h2 (kk H locs hA hS ls hL)
theorem ax_eql {x y : Int64} (hxy : x = y) (kk : Gx p l e R s m args below meth c D cl B lo nL Q hi h cs ss L pc (.long y :: st)) : Gx p l e R s m args below meth c D cl B lo nL Q hi h cs ss L pc (.long x :: st) := hxy ▸ kk
theorem ax_eqq {x y : Option Nat} (hxy : x = y) (kk : Gx p l e R s m args below meth c D cl B lo nL Q hi h cs ss L pc (va_rf y :: st)) : Gx p l e R s m args below meth c D cl B lo nL Q hi h cs ss L pc (va_rf x :: st) := hxy ▸ kk
/-- fewer cells told -/
theorem ax_less {h' : Nat → Option va_E} (hh : ∀ q e, h' q = some e → h q = some e) (kk : Gx p l e R s m args below meth c D cl B lo nL Q hi h' cs ss L pc st) : Gx p l e R s m args below meth c D cl B lo nL Q hi h cs ss L pc st := fun H locs hA hS ls hL => kk H locs ⟨hA.1, hA.2.1, fun q e he => hA.2.2 q e (hh q e he)⟩ hS ls hL
theorem ax_getf (hC : Cx p s m args c cc nL Ts own D cl tys) {ref C : String} {T : u_T} {N ci index a : Nat} {fs : List Value} {v : Value} (he : h a = some (.inr (ci, fs))) (hin : ∀ w ∈ u_ws C T N, w ∈ Ts) (hc : cl[ci]? = some (C, T, N)) (k : Nat) (hk : k < N) (hlink : Cond.fieldLink own index ref (T k).2.1 (T k).2.2.1 ∈ Ts) (hsame : ref = (T k).1) (hv : fs[k]? = some v) (hdg : decode cc pc = .ok (.getfield index, 3)) (kk : Gx p l e R s m args below meth c D cl B lo nL Q hi h cs ss L (pc + 3) (v :: st)) : Gx p l e R s m args below meth c D cl B lo nL Q hi h cs ss L pc (.ref a :: st) :=
  fun H locs hA hS ls hL => va_get (ws := [(a, .inr (ci, fs))]) hC.1.1 hC.1.2.1 hC.1.2.2.2.2 hin hC.1.2.2.2.1 hC.2.1 (ah_one hA he) 0 rfl hc k hk (hC.1.2.2.2.2 _ hlink) (fun x hx => by rw [hsame]; exact hx) hv hdg (kk H locs hA hS ls hL)
theorem ax_putf (hC : Cx p s m args c cc nL Ts own D cl tys) {ref C : String} {T : u_T} {N ci index a : Nat} {fs : List Value} {v : Value} {ty : FieldType} (ty0 : Nat → FieldType) (he : h a = some (.inr (ci, fs))) (hin : ∀ w ∈ u_ws C T N, w ∈ Ts) (hty : ∀ k, k < N → parseFieldDescriptor (T k).2.2.1 = some (ty0 k)) (hnm : ∀ a, a < N → ∀ b, b < N → a ≠ b → (T a).2.1 ≠ (T b).2.1) (hc : cl[ci]? = some (C, T, N)) (k : Nat) (hk : k < N) (hlink : Cond.fieldLink own index ref (T k).2.1 (T k).2.2.1 ∈ Ts) (hsame : ref = (T k).1) (hfin : (T k).2.2.2 = false) (hd : parseFieldDescriptor (T k).2.2.1 = some ty) (hn : narrow ty v = v) (hfit : fits ty v = true) (hl : k < fs.length) (hdg : decode cc pc = .ok (.putfield index, 3))
    (kk : ∀ h1, h1 a = some (.inr (ci, fs.set k v)) → (∀ q, q ≠ a → h1 q = h q) → Gx p l e R s m args below meth c D cl B lo nL Q hi h1 cs ss L (pc + 3) st) : Gx p l e R s m args below meth c D cl B lo nL Q hi h cs ss L pc (v :: .ref a :: st) := by
  intro H locs hA hS ls hL
  obtain ⟨⟨hx, hb, hml, hown, hts⟩, hK, hNw⟩ := hC
  have hap := va_apart (own := own) hts hin ty0 hty hnm hK hc
  obtain ⟨hlo, r, h1, cell, q1, q2, q3, q4⟩ := hA.2.2 a _ he
  have hr : r = (C, T, N) := Option.some.inj (h1.symm.trans hc)
  subst hr
  obtain ⟨hS1, hfc, kC, hkC, hkind⟩ := hK.1 ci _ hc
  obtain ⟨cf, kf, fi, f, hi1, hsl⟩ := hS1 k hk
  have hlay := hts _ (hin _ (u_in_lay hk))
  unfold u_lay at hlay
  rw [if_neg (by rw [hfin]; decide)] at hlay
  have hst := (u_facts hfc hkC (u_lays hts hin hk) hi1).1
  have h6 := u_store hfc hkC hkind hlay hi1 hd hn hfit
  refine W.putK hx hb (f := f) ⟨hown, hts _ hlink, ⟨_, _, _, by rw [hsame]; exact hi1⟩, hst⟩ (by rw [q2]; exact h6) q1 q3 (by rw [hsl]; exact k2_hasslot (q4 k hk)) rfl rfl hdg fun H' e1 e2 e3 => ?_
  rw [hsl] at e1 ⊢
  exact kk (hup h a (.inr (ci, fs.set k v))) (hup_self ..) (fun q hq => hup_ne _ _ _ hq) H' _ (ah_put hA hlo ⟨_, hc, t_OB.to (V := updV (vp_V fs) k v) ⟨_, e1, q2, q3, t_set q4 hap hk v⟩ (fun j _ => vp_updV_set hl v j)⟩ e2 e3) (hS.put e2 e3 hlo) ls hL
theorem ax_putF (hC : Cx p s m args c cc nL Ts own D cl tys) {ref C : String} {T : u_T} {N ci index a : Nat} {fs : List Value} {v : Value} {ty : FieldType} (ty0 : Nat → FieldType) (he : h a = some (.inr (ci, fs))) (hin : ∀ w ∈ u_ws C T N, w ∈ Ts) (hty : ∀ k, k < N → parseFieldDescriptor (T k).2.2.1 = some (ty0 k)) (hnm : ∀ a, a < N → ∀ b, b < N → a ≠ b → (T a).2.1 ≠ (T b).2.1) (hc : cl[ci]? = some (C, T, N)) (k : Nat) (hk : k < N) (hlink : Cond.fieldLink own index ref (T k).2.1 (T k).2.2.1 ∈ Ts) (hsame : ref = (T k).1) (hfin : (T k).2.2.2 = true) (hin2 : meth.name = "<init>") (hdecl : (T k).1 = own) (hd : parseFieldDescriptor (T k).2.2.1 = some ty) (hn : narrow ty v = v) (hfit : fits ty v = true) (hl : k < fs.length) (hdg : decode cc pc = .ok (.putfield index, 3))
    (kk : ∀ h1, h1 a = some (.inr (ci, fs.set k v)) → (∀ q, q ≠ a → h1 q = h q) → Gx p l e R s m args below meth c D cl B lo nL Q hi h1 cs ss L (pc + 3) st) : Gx p l e R s m args below meth c D cl B lo nL Q hi h cs ss L pc (v :: .ref a :: st) := by
  intro H locs hA hS ls hL
  obtain ⟨⟨hx, hb, hml, hown, hts⟩, hK, hNw⟩ := hC
  have hap := va_apart (own := own) hts hin ty0 hty hnm hK hc
  obtain ⟨hlo, r, h1, cell, q1, q2, q3, q4⟩ := hA.2.2 a _ he
  have hr : r = (C, T, N) := Option.some.inj (h1.symm.trans hc)
  subst hr
  obtain ⟨hS1, hfc, kC, hkC, hkind⟩ := hK.1 ci _ hc
  obtain ⟨cf, kf, fi, f, hi1, hsl⟩ := hS1 k hk
  have hlay := hts _ (hin _ (u_in_lay hk))
  unfold u_lay at hlay
  rw [if_pos hfin] at hlay
  have hst := (u_facts hfc hkC (u_lays hts hin hk) hi1).1
  have hcf : m.cls = cf := by
    obtain ⟨_, _, c', _, _, _, -, -, hf', -, -, -, hown2, -⟩ := Cond.laysFinal_spec hlay
    have e1 : c' = cf := by have := hi1.symm.trans hf'; simp at this; exact this.1.symm
    rw [hdecl] at hown2
    rw [← e1]; exact Option.some.inj (hown.symm.trans hown2)
  have h6 := u_fits hfc hkC hkind (Or.inr hlay) hi1 hd hn hfit
  refine W.putFinK hx hb hown (hts _ hlink) (by rw [hsame]; exact hi1) hst hcf hin2 (by rw [q2]; exact h6) q1 q3 (by rw [hsl]; exact k2_hasslot (q4 k hk)) rfl rfl hdg fun H' e1 e2 e3 => ?_
  rw [hsl] at e1 ⊢
  exact kk (hup h a (.inr (ci, fs.set k v))) (hup_self ..) (fun q hq => hup_ne _ _ _ hq) H' _ (ah_put hA hlo ⟨_, hc, t_OB.to (V := updV (vp_V fs) k v) ⟨_, e1, q2, q3, t_set q4 hap hk v⟩ (fun j _ => vp_updV_set hl v j)⟩ e2 e3) (hS.put e2 e3 hlo) ls hL
theorem ax_alen (hC : Cx p s m args c cc nL Ts own D cl tys) {a : Nat} {cA : ClassId} {x : vp_A} {ty : FieldType} {v : Int32} (he : h a = some (.inl (cA, x))) (t0 : Nat) (ht : tys[t0]? = some (cA, ty)) (hv : Int32.ofNat x.1 = v) (hdg : decode cc pc = .ok (.arraylength, 1)) (kk : Gx p l e R s m args below meth c D cl B lo nL Q hi h cs ss L (pc + 1) (.int v :: st)) : Gx p l e R s m args below meth c D cl B lo nL Q hi h cs ss L pc (.ref a :: st) :=
  fun H locs hA hS ls hL => va_alen (ws := [(a, .inl (cA, x))]) hC.1.1 hC.1.2.1 hC.2.1 (ah_one hA he) 0 t0 rfl ht hv hdg (kk H locs hA hS ls hL)
theorem ax_aald (hC : Cx p s m args c cc nL Ts own D cl tys) {a n : Nat} {cA : ClassId} {f : Nat → Option Nat} {C : String} {i : Int32} (he : h a = some (.inl (cA, n, .inr (.inr (.inr (.inr f)))))) (t0 : Nat) (ht : tys[t0]? = some (cA, .object C)) (hin : vp_in i n) (hdg : decode cc pc = .ok (.aaload, 1)) (kk : Gx p l e R s m args below meth c D cl B lo nL Q hi h cs ss L (pc + 1) (va_rf (f i.toNatClampNeg) :: st)) : Gx p l e R s m args below meth c D cl B lo nL Q hi h cs ss L pc (.int i :: .ref a :: st) :=
  fun H locs hA hS ls hL => va_aldq (ws := [(a, .inl (cA, n, .inr (.inr (.inr (.inr f)))))]) hC.1.1 hC.1.2.1 hC.2.1 (ah_one hA he) 0 t0 rfl ht hin hdg (kk H locs hA hS ls hL)
theorem ax_iald (hC : Cx p s m args c cc nL Ts own D cl tys) {a n : Nat} {cA : ClassId} {f : Nat → Int32} {i : Int32} (he : h a = some (.inl (cA, n, .inl f))) (t0 : Nat) (ht : tys[t0]? = some (cA, .int)) (hin : vp_in i n) (hdg : decode cc pc = .ok (.iaload, 1)) (kk : Gx p l e R s m args below meth c D cl B lo nL Q hi h cs ss L (pc + 1) (.int (f i.toNatClampNeg) :: st)) : Gx p l e R s m args below meth c D cl B lo nL Q hi h cs ss L pc (.int i :: .ref a :: st) :=
  fun H locs hA hS ls hL => va_iald (ws := [(a, .inl (cA, n, .inl f))]) hC.1.1 hC.1.2.1 hC.2.1 (ah_one hA he) 0 t0 rfl ht hin hdg (kk H locs hA hS ls hL)
theorem ax_bald (hC : Cx p s m args c cc nL Ts own D cl tys) {a n : Nat} {cA : ClassId} {f : Nat → Int32} {i : Int32} (he : h a = some (.inl (cA, n, .inl f))) (t0 : Nat) (ht : tys[t0]? = some (cA, .byte)) (hin : vp_in i n) (hdg : decode cc pc = .ok (.baload, 1)) (kk : Gx p l e R s m args below meth c D cl B lo nL Q hi h cs ss L (pc + 1) (.int (f i.toNatClampNeg) :: st)) : Gx p l e R s m args below meth c D cl B lo nL Q hi h cs ss L pc (.int i :: .ref a :: st) :=
  fun H locs hA hS ls hL => va_bald (ws := [(a, .inl (cA, n, .inl f))]) hC.1.1 hC.1.2.1 hC.2.1 (ah_one hA he) 0 t0 rfl ht hin hdg (kk H locs hA hS ls hL)
theorem ax_lald (hC : Cx p s m args c cc nL Ts own D cl tys) {a n : Nat} {cA : ClassId} {f : Nat → Int64} {i : Int32} (he : h a = some (.inl (cA, n, .inr (.inl f)))) (t0 : Nat) (ht : tys[t0]? = some (cA, .long)) (hin : vp_in i n) (hdg : decode cc pc = .ok (.laload, 1)) (kk : Gx p l e R s m args below meth c D cl B lo nL Q hi h cs ss L (pc + 1) (.long (f i.toNatClampNeg) :: st)) : Gx p l e R s m args below meth c D cl B lo nL Q hi h cs ss L pc (.int i :: .ref a :: st) :=
  fun H locs hA hS ls hL => va_lald (ws := [(a, .inl (cA, n, .inr (.inl f)))]) hC.1.1 hC.1.2.1 hC.2.1 (ah_one hA he) 0 t0 rfl ht hin hdg (kk H locs hA hS ls hL)
theorem ax_iast (hC : Cx p s m args c cc nL Ts own D cl tys) {a n : Nat} {cA : ClassId} {f : Nat → Int32} {i : Int32} {x : Int32} (he : h a = some (.inl (cA, n, .inl (f)))) (t0 : Nat) (ht : tys[t0]? = some (cA, .int)) (hin : vp_in i n) (hdg : decode cc pc = .ok (.iastore, 1))
    (kk : ∀ h1, h1 a = some (.inl (cA, n, .inl (upd f i.toNatClampNeg x))) → (∀ q, q ≠ a → h1 q = h q) → Gx p l e R s m args below meth c D cl B lo nL Q hi h1 cs ss L (pc + 1) st) : Gx p l e R s m args below meth c D cl B lo nL Q hi h cs ss L pc (.int x :: .int i :: .ref a :: st) := by
  intro H locs hA hS ls hL
  obtain ⟨⟨hx, hb, -, -, -⟩, hK, hNw⟩ := hC
  refine W.iast hx hb (ah_one hA he 0 _ rfl) ((hK.2 t0 _ ht).1 n (fun j => .int (f j))) (fun q => by cases q) (by show ¬ (i < 0 ∨ (arrV _ _ _).slots.size ≤ _); rw [arrV_size]; exact hin) rfl rfl hdg fun H1 e1 z oq => ?_
  refine kk (hup h a _) (hup_self ..) (fun q hq => hup_ne _ _ _ hq) H1 _ (ah_put hA (hA.2.2 a _ he).1 ?_ z oq) (hS.put z oq (hA.2.2 a _ he).1) ls hL
  show H1[a]? = some (vp_cell _ _)
  rw [e1, vp_cell_i, vp_cell_i, arrV_store]
  congr 2
  funext q
  by_cases hq : q = i.toNatClampNeg
  · subst hq
    simp [updV, upd]
    try rfl
  · simp [updV, upd, hq]
theorem ax_bast (hC : Cx p s m args c cc nL Ts own D cl tys) {a n : Nat} {cA : ClassId} {f : Nat → Int32} {i : Int32} {x : Int32} (he : h a = some (.inl (cA, n, .inl (f)))) (t0 : Nat) (ht : tys[t0]? = some (cA, .byte)) (hin : vp_in i n) (hdg : decode cc pc = .ok (.bastore, 1))
    (kk : ∀ h1, h1 a = some (.inl (cA, n, .inl (upd f i.toNatClampNeg (vp_nar .byte x)))) → (∀ q, q ≠ a → h1 q = h q) → Gx p l e R s m args below meth c D cl B lo nL Q hi h1 cs ss L (pc + 1) st) : Gx p l e R s m args below meth c D cl B lo nL Q hi h cs ss L pc (.int x :: .int i :: .ref a :: st) := by
  intro H locs hA hS ls hL
  obtain ⟨⟨hx, hb, -, -, -⟩, hK, hNw⟩ := hC
  refine W.bast hx hb (ah_one hA he 0 _ rfl) ((hK.2 t0 _ ht).1 n (fun j => .int (f j))) (fun q => by cases q) (by show ¬ (i < 0 ∨ (arrV _ _ _).slots.size ≤ _); rw [arrV_size]; exact hin) rfl rfl hdg fun H1 e1 z oq => ?_
  refine kk (hup h a _) (hup_self ..) (fun q hq => hup_ne _ _ _ hq) H1 _ (ah_put hA (hA.2.2 a _ he).1 ?_ z oq) (hS.put z oq (hA.2.2 a _ he).1) ls hL
  show H1[a]? = some (vp_cell _ _)
  rw [e1, vp_cell_i, vp_cell_i, arrV_store]
  congr 2
  funext q
  by_cases hq : q = i.toNatClampNeg
  · subst hq
    simp [updV, upd, vp_nar]
    try rfl
  · simp [updV, upd, vp_nar, hq]
theorem ax_last (hC : Cx p s m args c cc nL Ts own D cl tys) {a n : Nat} {cA : ClassId} {f : Nat → Int64} {i : Int32} {x : Int64} (he : h a = some (.inl (cA, n, .inr (.inl (f))))) (t0 : Nat) (ht : tys[t0]? = some (cA, .long)) (hin : vp_in i n) (hdg : decode cc pc = .ok (.lastore, 1))
    (kk : ∀ h1, h1 a = some (.inl (cA, n, .inr (.inl (vp_updL f i.toNatClampNeg x)))) → (∀ q, q ≠ a → h1 q = h q) → Gx p l e R s m args below meth c D cl B lo nL Q hi h1 cs ss L (pc + 1) st) : Gx p l e R s m args below meth c D cl B lo nL Q hi h cs ss L pc (.long x :: .int i :: .ref a :: st) := by
  intro H locs hA hS ls hL
  obtain ⟨⟨hx, hb, -, -, -⟩, hK, hNw⟩ := hC
  refine W.last hx hb (ah_one hA he 0 _ rfl) ((hK.2 t0 _ ht).1 n (fun j => .long (f j))) (fun q => by cases q) (by show ¬ (i < 0 ∨ (arrV _ _ _).slots.size ≤ _); rw [arrV_size]; exact hin) rfl rfl hdg fun H1 e1 z oq => ?_
  refine kk (hup h a _) (hup_self ..) (fun q hq => hup_ne _ _ _ hq) H1 _ (ah_put hA (hA.2.2 a _ he).1 ?_ z oq) (hS.put z oq (hA.2.2 a _ he).1) ls hL
  show H1[a]? = some (vp_cell _ _)
  rw [e1, vp_cell_l, vp_cell_l, arrV_store]
  congr 2
  funext q
  by_cases hq : q = i.toNatClampNeg
  · subst hq
    simp [updV, vp_updL]
    try rfl
  · simp [updV, vp_updL, hq]
theorem ax_aast (hC : Cx p s m args c cc nL Ts own D cl tys) {a n v ci : Nat} {cA : ClassId} {r : vw_C} {vs : List Value} {f : Nat → Option Nat} {i : Int32} (he : h a = some (.inl (cA, n, .inr (.inr (.inr (.inr f)))))) (t0 : Nat) (ht : tys[t0]? = some (cA, .object r.1)) (hv : h v = some (.inr (ci, vs))) (hc : cl[ci]? = some r) (hin : vp_in i n) (hdg : decode cc pc = .ok (.aastore, 1))
    (kk : ∀ h1, h1 a = some (.inl (cA, n, .inr (.inr (.inr (.inr (va_up f i.toNatClampNeg (some v))))))) → (∀ q, q ≠ a → h1 q = h q) → Gx p l e R s m args below meth c D cl B lo nL Q hi h1 cs ss L (pc + 1) st) : Gx p l e R s m args below meth c D cl B lo nL Q hi h cs ss L pc (.ref v :: .int i :: .ref a :: st) := by
  intro H locs hA hS ls hL
  obtain ⟨⟨hx, hb, -, -, -⟩, hK, hNw⟩ := hC
  have hlt : i.toNatClampNeg < n := Nat.not_le.mp fun q => hin (Or.inr q)
  have h0 : ¬ i < 0 := fun q => hin (Or.inl q)
  obtain ⟨r', hr', cellV, g1, g2, g3, -⟩ := ah_one hA hv 0 _ rfl
  have hcls := (hK.1 ci r hc).2
  obtain ⟨kA, comp, k1, k2, k3, -⟩ := (hK.2 t0 _ ht).2
  have hcomp : comp = D.1 ci := Option.some.inj (k3.symm.trans hcls.1)
  subst hcomp
  obtain ⟨kC, hkC, -⟩ := hcls.2
  refine W.aast hx hb (ah_one hA he 0 _ rfl) (fun q h => by cases h) (fun h => by cases h) k1 k2 rfl hkC ⟨h0, by show _ < (arrV _ _ _).slots.size; rw [arrV_size]; exact hlt⟩ g1 (fun q h => by rw [g3] at h; cases h) (by rw [g2]; exact hkC) (by rw [g2]; exact va_assign hcls) rfl rfl hdg fun H1 e1 z oq => ?_
  refine kk (hup h a _) (hup_self ..) (fun q hq => hup_ne _ _ _ hq) H1 _ (ah_put hA (hA.2.2 a _ he).1 ?_ z oq) (hS.put z oq (hA.2.2 a _ he).1) ls hL
  show H1[a]? = some (vp_cell _ _)
  rw [e1, vp_cell_q, vp_cell_q, arrV_store]
  congr 2
  funext q
  by_cases hq : q = i.toNatClampNeg
  · subst hq
    simp [updV, va_up, va_rf]
  · simp [updV, va_up, hq]
theorem ax_new (hC : Cx p s m args c cc nL Ts own D cl tys) {C : String} {T : u_T} {N ci index : Nat} {fs : List Value} (ty : Nat → FieldType) (hin : ∀ w ∈ u_ws C T N, w ∈ Ts) (hty : ∀ k, k < N → parseFieldDescriptor (T k).2.2.1 = some (ty k)) (hcl : Cond.classLink own index C ∈ Ts) (hins : Cond.instantiable C N ∈ Ts) (hini : Cond.initialized C ∈ Ts) (hc : cl[ci]? = some (C, T, N)) (hfs : ∀ j, j < N → defaultValue (ty j) = vp_V fs j) (hcells : cs + 1 ≤ R.cells) (hslots : ss + N ≤ R.slots) (hdg : decode cc pc = .ok (.new index, 3))
    (kk : ∀ h1, h1 hi = some (.inr (ci, fs)) → (∀ q, q ≠ hi → h1 q = h q) → Gx p l e R s m args below meth c D cl B lo nL Q (hi + 1) h1 (cs + 1) (ss + N) L (pc + 3) (.ref hi :: st)) : Gx p l e R s m args below meth c D cl B lo nL Q hi h cs ss L pc st := by
  intro H locs hA hS ls hL
  obtain ⟨⟨hx, hb, hml, hown, hts⟩, hK, hNw⟩ := hC
  have hKn := hK.1 ci _ hc
  refine W.newcK hx hb hown (hts _ hcl) (hts _ hins) (hts _ hini) rfl hdg hcells hslots hKn.2.1 hA.2.1 fun H1 kC hkC e1 z1 o1 => ?_
  exact kk (hup h hi _) (hup_self ..) (fun q hq => hup_ne _ _ _ hq) H1 locs (ah_new hA ⟨_, hc, (u_born ty hts hin hKn hkC e1 hty).to hfs⟩ z1 o1) ⟨Nat.le_trans hS.1 (by rw [hA.2.1]; omega), fun x h1 h2 => (o1 x (Nat.lt_of_lt_of_le h1 (by rw [← hA.2.1]; exact hS.1))).trans (hS.2.1 x h1 h2), hS.2.2⟩ ls hL
theorem ax_newa (hC : Cx p s m args c cc nL Ts own D cl tys) {atype : ArrayType} {ty : FieldType} {cA : ClassId} (t0 : Nat) (ht : tys[t0]? = some (cA, ty)) (hw : Cond.arrayClass (newarray.typeOf atype) ∈ Ts) (hty : newarray.typeOf atype = ty) (hob : ∀ C, ty ≠ .object C) {n : Int32} {N' : Nat} {a0 : vp_A} (ha : ∀ cA : ClassId, vp_cell cA a0 = arrV cA N' (fun _ => defaultValue ty)) (hn : ¬ n < 0) (hN : n.toNatClampNeg = N') (hbytes : N' * componentBytes ty ≤ 536870912) (hcells : cs + 1 ≤ R.cells) (hslots : ss + N' ≤ R.slots) (hdg : decode cc pc = .ok (.newarray atype, 2))
    (kk : ∀ h1, h1 hi = some (.inl (cA, a0)) → (∀ q, q ≠ hi → h1 q = h q) → Gx p l e R s m args below meth c D cl B lo nL Q (hi + 1) h1 (cs + 1) (ss + N') L (pc + 2) (.ref hi :: st)) : Gx p l e R s m args below meth c D cl B lo nL Q hi h cs ss L pc (.int n :: st) := by
  intro H locs hA hS ls hL
  obtain ⟨⟨hx, hb, hml, hown, hts⟩, hK, hNw⟩ := hC
  subst hty
  refine va_newaK hx hb (hts _ hw) rfl hdg rfl hn hN hbytes hcells hslots hA.2.1 fun H1 cA' e1 z1 o1 hAr hNm => ?_
  have hcA : cA' = cA := by
    have h2 := (hK.2 t0 _ ht).2
    have h3 : s.vm.findClass ("[" ++ (newarray.typeOf atype).toString) = some cA := by
      revert h2 hob
      cases newarray.typeOf atype <;> intro hob h2 <;> first | exact h2 | exact absurd rfl (hob _)
    exact Option.some.inj (hNm.symm.trans h3)
  subst hcA
  refine kk (hup h hi _) (hup_self ..) (fun q hq => hup_ne _ _ _ hq) H1 locs (ah_new hA ?_ z1 o1) ⟨Nat.le_trans hS.1 (by rw [hA.2.1]; omega), fun x h1 h2 => (o1 x (Nat.lt_of_lt_of_le h1 (by rw [← hA.2.1]; exact hS.1))).trans (hS.2.1 x h1 h2), hS.2.2⟩ ls hL
  show H1[hi]? = some (vp_cell _ _)
  rw [ha]
  exact e1
theorem ax_newq (hC : Cx p s m args c cc nL Ts own D cl tys) {C : String} {index : Nat} {cA : ClassId} (t0 : Nat) (ht : tys[t0]? = some (cA, .object C)) (hcl : Cond.classLink own index C ∈ Ts) (hover : va_AO C s) {n : Int32} {N' : Nat} (hn : ¬ n < 0) (hN : n.toNatClampNeg = N') (hbytes : N' * 4 ≤ 536870912) (hcells : cs + 1 ≤ R.cells) (hslots : ss + N' ≤ R.slots) (hdg : decode cc pc = .ok (.anewarray index, 3))
    (kk : ∀ h1, h1 hi = some (.inl (cA, N', .inr (.inr (.inr (.inr (fun _ => none)))))) → (∀ q, q ≠ hi → h1 q = h q) → Gx p l e R s m args below meth c D cl B lo nL Q (hi + 1) h1 (cs + 1) (ss + N') L (pc + 3) (.ref hi :: st)) : Gx p l e R s m args below meth c D cl B lo nL Q hi h cs ss L pc (.int n :: st) := by
  intro H locs hA hS ls hL
  obtain ⟨⟨hx, hb, hml, hown, hts⟩, hK, hNw⟩ := hC
  subst hN
  have hz := hA.2.1
  subst hz
  refine W.anew hx hb hown (hts _ hcl) (va_AO.use hover) rfl hdg rfl hn hbytes hcells hslots fun cA' kA comp f1 f2 f3 f4 => ?_
  have hcA : cA' = cA := by
    obtain ⟨kA2, comp2, -, -, -, g4⟩ := (hK.2 t0 _ ht).2
    exact Option.some.inj (f1.symm.trans g4)
  subst hcA
  generalize hH1 : H.push ({ cls := cA', slots := Array.replicate n.toNatClampNeg .null, vm := .none } : Cell) = H1
  have z1 : H1.size = H.size + 1 := by rw [← hH1, Array.size_push]
  have e1 : H1[H.size]? = some (arrV cA' n.toNatClampNeg (fun _ => .null)) := by rw [← hH1, Array.getElem?_push_size, ← arrV_new]
  have o1 : ∀ q : Nat, q < H.size → H1[q]? = H[q]? := fun q hq => by rw [← hH1, Array.getElem?_push, if_neg (Nat.ne_of_lt hq)]
  refine kk (hup h H.size _) (hup_self ..) (fun q hq => hup_ne _ _ _ hq) H1 locs (ah_new hA ?_ z1 o1) ⟨Nat.le_trans hS.1 (by omega), fun x h1 h2 => (o1 x (Nat.lt_of_lt_of_le h1 hS.1)).trans (hS.2.1 x h1 h2), hS.2.2⟩ ls hL
  show H1[H.size]? = some (vp_cell _ _)
  rw [vp_cell_q]
  exact e1
theorem ax_objInit (hC : Cx p s m args c cc nL Ts own D cl tys) {idx a : Nat} (hlink : Cond.methodLink own idx objectInit ∈ Ts) (hins : Cond.instanceMethod objectInit ∈ Ts) (hcode : Cond.code objectInit ⟨#[0xb1]⟩ 1 none ∈ Ts) (hdg : decode cc pc = .ok (.invokespecial idx, 3)) (hfr : 1 ≤ R.frames) (hlo : 2 * (F0 m pc #[] []).monitorRoom + (st.map fun v => v.category).sum + 12 ≤ R.locals) (kk : Gx p l e R s m args below meth c D cl B lo nL Q hi h cs ss L (pc + 3) st) : Gx p l e R s m args below meth c D cl B lo nL Q hi h cs ss L pc (.ref a :: st) := by
  intro H locs hA hS ls hL
  obtain ⟨⟨hx, hb, hml, hown, hts⟩, hK, hNw⟩ := hC
  refine W.objInit hx hb hown (hts _ hlink) (hts _ hins) (hts _ hcode) rfl (by rw [hml]; exact hL.1) rfl hdg hfr hlo ?_
  exact kk H locs hA hS ls hL
end AX
section AY
variable {p : Program} {l : Launch} {e : Env} {R : Room} {s : State} {m : MethodId} {args : Array Value} {below : List Frame} {meth : Method} {c : Code} {D : va_G} {cl : List vw_C} {B : Heap} {lo nL : Nat} {Q : State → Prop} {hi : Nat} {h : Nat → Option va_E} {cs ss : Nat} {L : List (Nat × Value)} {pc : Nat} {st : List Value} {cc : ByteArray} {Ts : List Cond} {own : String} {tys : List (ClassId × FieldType)}
theorem ax_iushr (hC : Cx p s m args c cc nL Ts own D cl tys) {x y v : Int32} (hdg : decode cc pc = .ok (.iushr, 1)) (hv : (x.toUInt32 >>> (y.toUInt32 &&& Int32.toUInt32 31)).toInt32 = v) (kk : Gx p l e R s m args below meth c D cl B lo nL Q hi h cs ss L (pc + 1) (.int v :: st)) : Gx p l e R s m args below meth c D cl B lo nL Q hi h cs ss L pc (.int y :: .int x :: st) :=
  fun H locs hA hS ls hL => lv_iushr hC.1.1 hC.1.2.1 hdg hv (kk H locs hA hS ls hL)
theorem ax_ldcw (hC : Cx p s m args c cc nL Ts own D cl tys) {index : Nat} {v : Int32} (hw : Cond.constant own index v ∈ Ts) (hdg : decode cc pc = .ok (.ldc_w index, 3)) (kk : Gx p l e R s m args below meth c D cl B lo nL Q hi h cs ss L (pc + 3) (.int v :: st)) : Gx p l e R s m args below meth c D cl B lo nL Q hi h cs ss L pc st :=
  fun H locs hA hS ls hL => lv_ldcw hC.1.1 hC.1.2.1 hC.1.2.2.2.1 (hC.1.2.2.2.2 _ hw) hdg (kk H locs hA hS ls hL)
theorem ax_lcmp (hC : Cx p s m args c cc nL Ts own D cl tys) {x y : Int64} (hdg : decode cc pc = .ok (.lcmp, 1)) (kk : Gx p l e R s m args below meth c D cl B lo nL Q hi h cs ss L (pc + 1) (.int (lg_cmp x y) :: st)) : Gx p l e R s m args below meth c D cl B lo nL Q hi h cs ss L pc (.long y :: .long x :: st) :=
  fun H locs hA hS ls hL => W.lcmp hC.1.1 hC.1.2.1 hdg (kk H locs hA hS ls hL)
theorem ax_mmax (hC : Cx p s m args c cc nL Ts own D cl tys) {index : Nat} {x y : Int32} (hlink : Cond.methodLink own index Lib.Math.max.name ∈ Ts) (hstat : Cond.static Lib.Math.max.name ∈ Ts) (hini : Cond.initialized "java/lang/Math" ∈ Ts) (hcode : Cond.code Lib.Math.max.name Lib.Math.max.code 2 (some .int) ∈ Ts) (hfr : 1 ≤ R.frames) (hlo : (st.map fun v => v.category).sum + 13 ≤ R.locals) (hcs : cs ≤ R.cells) (hss : ss ≤ R.slots) (hdg : decode cc pc = .ok (.invokestatic index, 3)) (kk : Gx p l e R s m args below meth c D cl B lo nL Q hi h cs ss L (pc + 3) (.int (if x < y then y else x) :: st)) : Gx p l e R s m args below meth c D cl B lo nL Q hi h cs ss L pc (.int y :: .int x :: st) :=
  fun H locs hA hS ls hL => va_mmax hC.1.1 hC.1.2.1 (hC.1.2.2.1.trans hL.1.symm) hC.1.2.2.2.1 (hC.1.2.2.2.2 _ hlink) (hC.1.2.2.2.2 _ hstat) (hC.1.2.2.2.2 _ hini) (hC.1.2.2.2.2 _ hcode) hfr hlo hcs hss hdg (kk H locs hA hS ls hL)
theorem ax_mmin (hC : Cx p s m args c cc nL Ts own D cl tys) {index : Nat} {x y : Int32} (hlink : Cond.methodLink own index Lib.Math.min.name ∈ Ts) (hstat : Cond.static Lib.Math.min.name ∈ Ts) (hini : Cond.initialized "java/lang/Math" ∈ Ts) (hcode : Cond.code Lib.Math.min.name Lib.Math.min.code 2 (some .int) ∈ Ts) (hfr : 1 ≤ R.frames) (hlo : (st.map fun v => v.category).sum + 13 ≤ R.locals) (hcs : cs ≤ R.cells) (hss : ss ≤ R.slots) (hdg : decode cc pc = .ok (.invokestatic index, 3)) (kk : Gx p l e R s m args below meth c D cl B lo nL Q hi h cs ss L (pc + 3) (.int (if y < x then y else x) :: st)) : Gx p l e R s m args below meth c D cl B lo nL Q hi h cs ss L pc (.int y :: .int x :: st) :=
  fun H locs hA hS ls hL => va_mmin hC.1.1 hC.1.2.1 (hC.1.2.2.1.trans hL.1.symm) hC.1.2.2.2.1 (hC.1.2.2.2.2 _ hlink) (hC.1.2.2.2.2 _ hstat) (hC.1.2.2.2.2 _ hini) (hC.1.2.2.2.2 _ hcode) hfr hlo hcs hss hdg (kk H locs hA hS ls hL)
end AY
/-- a contract's start and ends, over h -/
def KP (D : va_G) (cl : List vw_C) (B : Heap) (lo hi : Nat) (h : Nat → Option va_E) (tys : List (ClassId × FieldType)) (av : List Value) : Array Value → State → Prop := va_Pc av (fun U => ah D cl B lo hi h U.heap ∧ va_K D cl tys U ∧ nwOK U)
def KB (D : va_G) (cl : List vw_C) (B : Heap) (lo : Nat) (tys : List (ClassId × FieldType)) (u : Nat × (Nat → Option va_E)) (t : State) : Prop := ah D cl B lo u.1 u.2 t.heap ∧ va_K D cl tys t
def KQi (D : va_G) (cl : List vw_C) (B : Heap) (lo : Nat) (tys : List (ClassId × FieldType)) (post : Int32 → Nat → (Nat → Option va_E) → Prop) : Array Value → State → Outcome → State → Prop := va_Qi (S := Nat × (Nat → Option va_E)) (fun r u => post r u.1 u.2) (KB D cl B lo tys) (fun q => lo ≤ q)
def KQl (D : va_G) (cl : List vw_C) (B : Heap) (lo : Nat) (tys : List (ClassId × FieldType)) (post : Int64 → Nat → (Nat → Option va_E) → Prop) : Array Value → State → Outcome → State → Prop := va_Ql (S := Nat × (Nat → Option va_E)) (fun r u => post r u.1 u.2) (KB D cl B lo tys) (fun q => lo ≤ q)
def KQv (D : va_G) (cl : List vw_C) (B : Heap) (lo : Nat) (tys : List (ClassId × FieldType)) (post : Nat → (Nat → Option va_E) → Prop) : Array Value → State → Outcome → State → Prop := va_Qv (S := Nat × (Nat → Option va_E)) (fun u => post u.1 u.2) (KB D cl B lo tys) (fun q => lo ≤ q)
def KQq (D : va_G) (cl : List vw_C) (B : Heap) (lo : Nat) (tys : List (ClassId × FieldType)) (post : Option Nat → Nat → (Nat → Option va_E) → Prop) : Array Value → State → Outcome → State → Prop := va_Qq (S := Nat × (Nat → Option va_E)) (fun r u => post r u.1 u.2) (KB D cl B lo tys) (fun q => lo ≤ q)
theorem KP_blind (D : va_G) (cl : List vw_C) (B : Heap) (lo hi : Nat) (h : Nat → Option va_E) (tys : List (ClassId × FieldType)) (av : List Value) : FrameBlind (KP D cl B lo hi h tys av) := fun a U g mk q => ⟨q.1, q.2.1, va_K.moved (u := U) (U := U.calling g mk a) (Vm.Alike.refl U.vm) q.2.2.1, nwOK_same (s := U) (U := U.calling g mk a) rfl q.2.2.2⟩
theorem ax_met {l : Launch} {D : va_G} {cl : List vw_C} {B : Heap} {lo hi : Nat} {h : Nat → Option va_E} {tys : List (ClassId × FieldType)} {y : MethodName} {ws ws' : List Cond} {rm : Room} {mc ms : Nat} {cc : ByteArray} {maxL : Nat} {ret : Option FieldType} {Qc : Array Value → State → Outcome → State → Prop} {av : List Value}
    (hy : plainName y.cls = true) (hw : ws = Cond.code y cc maxL ret :: ws') (hsz : (lg_sl av).length ≤ maxL) {L0 : List (Nat × Value)} (hL0 : lv_args 0 av = L0)
    (body : ∀ (p : Program) (e : Env) (s : State) (m : MethodId) (args : Array Value) (below : List Frame) (meth : Method) (c : Code), Cx p s m args c cc maxL ws y.cls D cl tys → meth.sig.returnType = ret → meth.locks = false → meth.name = y.name → args = av.toArray → Gx p l e rm s m args below meth c D cl B lo maxL (MQ below Qc args s mc ms (fun q => lo ≤ q)) hi h 0 0 L0 0 []) : Met l y ws rm (KP D cl B lo hi h tys av) Qc mc ms (fun q => lo ≤ q) := by
  refine Met.ofW (cc := cc) (maxL := maxL) (ret := ret) hy hw ?_
  subst hL0
  intro p e s m args below meth c s₁ B hml hv
  obtain ⟨rfl, hA, hK, hN⟩ := hv
  have hts := atoms_spec (ws := ws) B.pre
  have hown : s.vm.findClass y.cls = some m.cls := findClass_of_methodNamed B.named
  have hl := lv_entry av (n := maxL) hsz
  rw [lg_entry_eq]
  exact body p e s m av.toArray below meth c ⟨⟨B.exec, B.bytes, hml, hown, hts⟩, hK, hN⟩ B.returns B.notSynchronized (name_of_methodNamed B.named B.method).1 rfl s.heap [] hA va_S.rf _ hl
section AR
variable {p : Program} {l : Launch} {e : Env} {R : Room} {s : State} {m : MethodId} {args : Array Value} {below : List Frame} {meth : Method} {c : Code} {D : va_G} {cl : List vw_C} {B : Heap} {lo nL : Nat} {Q : State → Prop} {hi : Nat} {h : Nat → Option va_E} {cs ss : Nat} {L : List (Nat × Value)} {pc : Nat} {st : List Value} {cc : ByteArray} {Ts : List Cond} {own : String} {tys : List (ClassId × FieldType)}
theorem ax_iret (hC : Cx p s m args c cc nL Ts own D cl tys) {post : Int32 → Nat → (Nat → Option va_E) → Prop} {v : Int32} (hr : meth.sig.returnType = some .int) (hlocks : meth.locks = false) (hdg : decode cc pc = .ok (.ireturn, 1)) (hp : post v hi h) : Gx p l e R s m args below meth c D cl B lo nL (MQ below (KQi D cl B lo tys post) args s cs ss (fun q => lo ≤ q)) hi h cs ss L pc [.int v] :=
  fun H locs hA hS ls hL => W.iret (v := v) hC.1.1 hC.1.2.1 hr (fun t ht hW => ⟨⟨v, (hi, h), rfl, hp, by rw [ht]; exact hA, va_K.moved hW.alike hC.2.1⟩, hS.F ht⟩) hS.2.2 hdg hlocks
theorem ax_zret (hC : Cx p s m args c cc nL Ts own D cl tys) {post : Int32 → Nat → (Nat → Option va_E) → Prop} {v : Int32} (hr : meth.sig.returnType = some .boolean) (hlocks : meth.locks = false) (hdg : decode cc pc = .ok (.ireturn, 1)) (hv : v = 0 ∨ v = 1) (hp : post v hi h) : Gx p l e R s m args below meth c D cl B lo nL (MQ below (KQi D cl B lo tys post) args s cs ss (fun q => lo ≤ q)) hi h cs ss L pc [.int v] :=
  fun H locs hA hS ls hL => W.zret (v := v) hC.1.1 hC.1.2.1 hr (by rcases hv with rfl | rfl <;> rfl) (fun t ht hW => ⟨⟨v, (hi, h), rfl, hp, by rw [ht]; exact hA, va_K.moved hW.alike hC.2.1⟩, hS.F ht⟩) hS.2.2 hdg hlocks
theorem ax_lret (hC : Cx p s m args c cc nL Ts own D cl tys) {post : Int64 → Nat → (Nat → Option va_E) → Prop} {v : Int64} (hr : meth.sig.returnType = some .long) (hlocks : meth.locks = false) (hdg : decode cc pc = .ok (.lreturn, 1)) (hp : post v hi h) : Gx p l e R s m args below meth c D cl B lo nL (MQ below (KQl D cl B lo tys post) args s cs ss (fun q => lo ≤ q)) hi h cs ss L pc [.long v] :=
  fun H locs hA hS ls hL => W.lret (v := v) hC.1.1 hC.1.2.1 hr (fun t ht hW => ⟨⟨v, (hi, h), rfl, hp, by rw [ht]; exact hA, va_K.moved hW.alike hC.2.1⟩, hS.F ht⟩) hS.2.2 hdg hlocks
theorem ax_vret (hC : Cx p s m args c cc nL Ts own D cl tys) {post : Nat → (Nat → Option va_E) → Prop} (hr : meth.sig.returnType = none) (hlocks : meth.locks = false) (hdg : decode cc pc = .ok (.return_, 1)) (hp : post hi h) : Gx p l e R s m args below meth c D cl B lo nL (MQ below (KQv D cl B lo tys post) args s cs ss (fun q => lo ≤ q)) hi h cs ss L pc [] :=
  fun H locs hA hS ls hL => W.vret hC.1.1 hC.1.2.1 hr (fun t ht hW => ⟨⟨(hi, h), rfl, hp, by rw [ht]; exact hA, va_K.moved hW.alike hC.2.1⟩, hS.F ht⟩) hS.2.2 hdg hlocks
theorem ax_aret (hC : Cx p s m args c cc nL Ts own D cl tys) {post : Option Nat → Nat → (Nat → Option va_E) → Prop} {C : String} (r : Option Nat) (hr : meth.sig.returnType = some (.object C)) (hlocks : meth.locks = false) (hdg : decode cc pc = .ok (.areturn, 1)) (hp : post r hi h) : Gx p l e R s m args below meth c D cl B lo nL (MQ below (KQq D cl B lo tys post) args s cs ss (fun q => lo ≤ q)) hi h cs ss L pc [va_rf r] :=
  fun H locs hA hS ls hL => W.aret (v := va_rf r) hC.1.1 hC.1.2.1 hr (Or.inl ⟨C, rfl⟩) (by cases r <;> simp [va_rf]) (fun t ht hW => ⟨⟨r, (hi, h), rfl, hp, by rw [ht]; exact hA, va_K.moved hW.alike hC.2.1⟩, hS.F ht⟩) hS.2.2 hdg hlocks
theorem ax_callVi (hC : Cx p s m args c cc nL Ts own D cl tys) {y : MethodName} {bytes : ByteArray} {maxL index mc ms n : Nat} {ret : Option FieldType} {ws : List Cond} {rm : Room} {b ci N : Nat} {fs : List Value} {C : String} {T : u_T} {post : Int32 → Nat → (Nat → Option va_E) → Prop} {stk : List Value} (As : List Value) (he : h b = some (.inr (ci, fs))) (hc : cl[ci]? = some (C, T, N)) (hM : Met l y ws rm (KP D cl B lo hi h tys (.ref b :: As)) (KQi D cl B lo tys post) mc ms (fun q => lo ≤ q)) (cw : CallW R s args own C index y bytes maxL ret ws rm mc ms n) (hst : stk = As.reverse ++ .ref b :: st) (hn : As.length = n) (hW : (st.map fun v => v.category).sum ≤ 8) (hdg : decode cc pc = .ok (.invokevirtual index, 3)) (hf : cs + mc ≤ R.cells ∧ ss + ms ≤ R.slots)
    (kk : ∀ (r : Int32) (hi' : Nat) (h' : Nat → Option va_E), post r hi' h' → Gx p l e R s m args below meth c D cl B lo nL Q hi' h' (cs + mc) (ss + ms) L (pc + 3) (.int r :: st)) : Gx p l e R s m args below meth c D cl B lo nL Q hi h cs ss L pc stk := by
  intro H locs hA hS ls hL
  refine va_calli (va_runV (As := As) (rest := st) hC.1 hM cw ⟨KP_blind _ _ _ _ _ _ _ _, by
      obtain ⟨r0, h1, cell, q1, q2, q3, -⟩ := ah_one hA he 0 _ rfl
      exact ⟨cell, q1, by rw [q3]; rfl, by rw [q2]; exact (hC.2.1.1 ci _ hc).2.1⟩, fun U hU hW => ⟨rfl, by rw [hU]; exact hA, va_K.moved hW.alike hC.2.1, nwOK_warm hW hC.2.2⟩⟩ rfl hn hL.1 hst (lv_room hW) hdg hf) hS (fun q _ h => h) (fun q h => h) (fun r u t H1 locs1 ht hvm hp hb hz hk hS1 => ?_)
  exact kk r u.1 u.2 hp H1 locs1 (by rw [← ht]; exact hb.1) hS1 ls hL
theorem ax_callVl (hC : Cx p s m args c cc nL Ts own D cl tys) {y : MethodName} {bytes : ByteArray} {maxL index mc ms n : Nat} {ret : Option FieldType} {ws : List Cond} {rm : Room} {b ci N : Nat} {fs : List Value} {C : String} {T : u_T} {post : Int64 → Nat → (Nat → Option va_E) → Prop} {stk : List Value} (As : List Value) (he : h b = some (.inr (ci, fs))) (hc : cl[ci]? = some (C, T, N)) (hM : Met l y ws rm (KP D cl B lo hi h tys (.ref b :: As)) (KQl D cl B lo tys post) mc ms (fun q => lo ≤ q)) (cw : CallW R s args own C index y bytes maxL ret ws rm mc ms n) (hst : stk = As.reverse ++ .ref b :: st) (hn : As.length = n) (hW : (st.map fun v => v.category).sum ≤ 8) (hdg : decode cc pc = .ok (.invokevirtual index, 3)) (hf : cs + mc ≤ R.cells ∧ ss + ms ≤ R.slots)
    (kk : ∀ (r : Int64) (hi' : Nat) (h' : Nat → Option va_E), post r hi' h' → Gx p l e R s m args below meth c D cl B lo nL Q hi' h' (cs + mc) (ss + ms) L (pc + 3) (.long r :: st)) : Gx p l e R s m args below meth c D cl B lo nL Q hi h cs ss L pc stk := by
  intro H locs hA hS ls hL
  refine va_calll (va_runV (As := As) (rest := st) hC.1 hM cw ⟨KP_blind _ _ _ _ _ _ _ _, by
      obtain ⟨r0, h1, cell, q1, q2, q3, -⟩ := ah_one hA he 0 _ rfl
      exact ⟨cell, q1, by rw [q3]; rfl, by rw [q2]; exact (hC.2.1.1 ci _ hc).2.1⟩, fun U hU hW => ⟨rfl, by rw [hU]; exact hA, va_K.moved hW.alike hC.2.1, nwOK_warm hW hC.2.2⟩⟩ rfl hn hL.1 hst (lv_room hW) hdg hf) hS (fun q _ h => h) (fun q h => h) (fun r u t H1 locs1 ht hvm hp hb hz hk hS1 => ?_)
  exact kk r u.1 u.2 hp H1 locs1 (by rw [← ht]; exact hb.1) hS1 ls hL
theorem ax_callVv (hC : Cx p s m args c cc nL Ts own D cl tys) {y : MethodName} {bytes : ByteArray} {maxL index mc ms n : Nat} {ret : Option FieldType} {ws : List Cond} {rm : Room} {b ci N : Nat} {fs : List Value} {C : String} {T : u_T} {post : Nat → (Nat → Option va_E) → Prop} {stk : List Value} (As : List Value) (he : h b = some (.inr (ci, fs))) (hc : cl[ci]? = some (C, T, N)) (hM : Met l y ws rm (KP D cl B lo hi h tys (.ref b :: As)) (KQv D cl B lo tys post) mc ms (fun q => lo ≤ q)) (cw : CallW R s args own C index y bytes maxL ret ws rm mc ms n) (hst : stk = As.reverse ++ .ref b :: st) (hn : As.length = n) (hW : (st.map fun v => v.category).sum ≤ 8) (hdg : decode cc pc = .ok (.invokevirtual index, 3)) (hf : cs + mc ≤ R.cells ∧ ss + ms ≤ R.slots)
    (kk : ∀ (hi' : Nat) (h' : Nat → Option va_E), post hi' h' → Gx p l e R s m args below meth c D cl B lo nL Q hi' h' (cs + mc) (ss + ms) L (pc + 3) st) : Gx p l e R s m args below meth c D cl B lo nL Q hi h cs ss L pc stk := by
  intro H locs hA hS ls hL
  refine va_callv (va_runV (As := As) (rest := st) hC.1 hM cw ⟨KP_blind _ _ _ _ _ _ _ _, by
      obtain ⟨r0, h1, cell, q1, q2, q3, -⟩ := ah_one hA he 0 _ rfl
      exact ⟨cell, q1, by rw [q3]; rfl, by rw [q2]; exact (hC.2.1.1 ci _ hc).2.1⟩, fun U hU hW => ⟨rfl, by rw [hU]; exact hA, va_K.moved hW.alike hC.2.1, nwOK_warm hW hC.2.2⟩⟩ rfl hn hL.1 hst (lv_room hW) hdg hf) hS (fun q _ h => h) (fun q h => h) (fun u t H1 locs1 ht hvm hp hb hz hk hS1 => ?_)
  exact kk u.1 u.2 hp H1 locs1 (by rw [← ht]; exact hb.1) hS1 ls hL
theorem ax_callVq (hC : Cx p s m args c cc nL Ts own D cl tys) {y : MethodName} {bytes : ByteArray} {maxL index mc ms n : Nat} {ret : Option FieldType} {ws : List Cond} {rm : Room} {b ci N : Nat} {fs : List Value} {C : String} {T : u_T} {post : Option Nat → Nat → (Nat → Option va_E) → Prop} {stk : List Value} (As : List Value) (he : h b = some (.inr (ci, fs))) (hc : cl[ci]? = some (C, T, N)) (hM : Met l y ws rm (KP D cl B lo hi h tys (.ref b :: As)) (KQq D cl B lo tys post) mc ms (fun q => lo ≤ q)) (cw : CallW R s args own C index y bytes maxL ret ws rm mc ms n) (hst : stk = As.reverse ++ .ref b :: st) (hn : As.length = n) (hW : (st.map fun v => v.category).sum ≤ 8) (hdg : decode cc pc = .ok (.invokevirtual index, 3)) (hf : cs + mc ≤ R.cells ∧ ss + ms ≤ R.slots)
    (kk : ∀ (r : Option Nat) (hi' : Nat) (h' : Nat → Option va_E), post r hi' h' → Gx p l e R s m args below meth c D cl B lo nL Q hi' h' (cs + mc) (ss + ms) L (pc + 3) (va_rf r :: st)) : Gx p l e R s m args below meth c D cl B lo nL Q hi h cs ss L pc stk := by
  intro H locs hA hS ls hL
  refine va_callq (va_runV (As := As) (rest := st) hC.1 hM cw ⟨KP_blind _ _ _ _ _ _ _ _, by
      obtain ⟨r0, h1, cell, q1, q2, q3, -⟩ := ah_one hA he 0 _ rfl
      exact ⟨cell, q1, by rw [q3]; rfl, by rw [q2]; exact (hC.2.1.1 ci _ hc).2.1⟩, fun U hU hW => ⟨rfl, by rw [hU]; exact hA, va_K.moved hW.alike hC.2.1, nwOK_warm hW hC.2.2⟩⟩ rfl hn hL.1 hst (lv_room hW) hdg hf) hS (fun q _ h => h) (fun q h => h) (fun r u t H1 locs1 ht hvm hp hb hz hk hS1 => ?_)
  exact kk r u.1 u.2 hp H1 locs1 (by rw [← ht]; exact hb.1) hS1 ls hL
theorem ax_callSi (hC : Cx p s m args c cc nL Ts own D cl tys) {y : MethodName} {bytes : ByteArray} {maxL index mc ms n : Nat} {ret : Option FieldType} {ws : List Cond} {rm : Room} {post : Int32 → Nat → (Nat → Option va_E) → Prop} {stk : List Value} (As : List Value) (hM : Met l y ws rm (KP D cl B lo hi h tys As) (KQi D cl B lo tys post) mc ms (fun q => lo ≤ q)) (cw : CallB R s args own index y bytes maxL ret ws rm mc ms n ∧ (Cond.static y).before args s = true) (hst : stk = As.reverse ++ st) (hn : As.length = n) (hW : (st.map fun v => v.category).sum ≤ 8) (hdg : decode cc pc = .ok (.invokestatic index, 3)) (hf : cs + mc ≤ R.cells ∧ ss + ms ≤ R.slots)
    (kk : ∀ (r : Int32) (hi' : Nat) (h' : Nat → Option va_E), post r hi' h' → Gx p l e R s m args below meth c D cl B lo nL Q hi' h' (cs + mc) (ss + ms) L (pc + 3) (.int r :: st)) : Gx p l e R s m args below meth c D cl B lo nL Q hi h cs ss L pc stk := by
  intro H locs hA hS ls hL
  refine va_calli (va_runS (As := As) (rest := st) hC.1 hM cw ⟨KP_blind _ _ _ _ _ _ _ _, fun U hU hW => ⟨rfl, by rw [hU]; exact hA, va_K.moved hW.alike hC.2.1, nwOK_warm hW hC.2.2⟩⟩ rfl hn hL.1 hst (lv_room hW) hdg hf) hS (fun q _ h => h) (fun q h => h) (fun r u t H1 locs1 ht hvm hp hb hz hk hS1 => ?_)
  exact kk r u.1 u.2 hp H1 locs1 (by rw [← ht]; exact hb.1) hS1 ls hL
theorem ax_callSl (hC : Cx p s m args c cc nL Ts own D cl tys) {y : MethodName} {bytes : ByteArray} {maxL index mc ms n : Nat} {ret : Option FieldType} {ws : List Cond} {rm : Room} {post : Int64 → Nat → (Nat → Option va_E) → Prop} {stk : List Value} (As : List Value) (hM : Met l y ws rm (KP D cl B lo hi h tys As) (KQl D cl B lo tys post) mc ms (fun q => lo ≤ q)) (cw : CallB R s args own index y bytes maxL ret ws rm mc ms n ∧ (Cond.static y).before args s = true) (hst : stk = As.reverse ++ st) (hn : As.length = n) (hW : (st.map fun v => v.category).sum ≤ 8) (hdg : decode cc pc = .ok (.invokestatic index, 3)) (hf : cs + mc ≤ R.cells ∧ ss + ms ≤ R.slots)
    (kk : ∀ (r : Int64) (hi' : Nat) (h' : Nat → Option va_E), post r hi' h' → Gx p l e R s m args below meth c D cl B lo nL Q hi' h' (cs + mc) (ss + ms) L (pc + 3) (.long r :: st)) : Gx p l e R s m args below meth c D cl B lo nL Q hi h cs ss L pc stk := by
  intro H locs hA hS ls hL
  refine va_calll (va_runS (As := As) (rest := st) hC.1 hM cw ⟨KP_blind _ _ _ _ _ _ _ _, fun U hU hW => ⟨rfl, by rw [hU]; exact hA, va_K.moved hW.alike hC.2.1, nwOK_warm hW hC.2.2⟩⟩ rfl hn hL.1 hst (lv_room hW) hdg hf) hS (fun q _ h => h) (fun q h => h) (fun r u t H1 locs1 ht hvm hp hb hz hk hS1 => ?_)
  exact kk r u.1 u.2 hp H1 locs1 (by rw [← ht]; exact hb.1) hS1 ls hL
theorem ax_callSv (hC : Cx p s m args c cc nL Ts own D cl tys) {y : MethodName} {bytes : ByteArray} {maxL index mc ms n : Nat} {ret : Option FieldType} {ws : List Cond} {rm : Room} {post : Nat → (Nat → Option va_E) → Prop} {stk : List Value} (As : List Value) (hM : Met l y ws rm (KP D cl B lo hi h tys As) (KQv D cl B lo tys post) mc ms (fun q => lo ≤ q)) (cw : CallB R s args own index y bytes maxL ret ws rm mc ms n ∧ (Cond.static y).before args s = true) (hst : stk = As.reverse ++ st) (hn : As.length = n) (hW : (st.map fun v => v.category).sum ≤ 8) (hdg : decode cc pc = .ok (.invokestatic index, 3)) (hf : cs + mc ≤ R.cells ∧ ss + ms ≤ R.slots)
    (kk : ∀ (hi' : Nat) (h' : Nat → Option va_E), post hi' h' → Gx p l e R s m args below meth c D cl B lo nL Q hi' h' (cs + mc) (ss + ms) L (pc + 3) st) : Gx p l e R s m args below meth c D cl B lo nL Q hi h cs ss L pc stk := by
  intro H locs hA hS ls hL
  refine va_callv (va_runS (As := As) (rest := st) hC.1 hM cw ⟨KP_blind _ _ _ _ _ _ _ _, fun U hU hW => ⟨rfl, by rw [hU]; exact hA, va_K.moved hW.alike hC.2.1, nwOK_warm hW hC.2.2⟩⟩ rfl hn hL.1 hst (lv_room hW) hdg hf) hS (fun q _ h => h) (fun q h => h) (fun u t H1 locs1 ht hvm hp hb hz hk hS1 => ?_)
  exact kk u.1 u.2 hp H1 locs1 (by rw [← ht]; exact hb.1) hS1 ls hL
theorem ax_callSq (hC : Cx p s m args c cc nL Ts own D cl tys) {y : MethodName} {bytes : ByteArray} {maxL index mc ms n : Nat} {ret : Option FieldType} {ws : List Cond} {rm : Room} {post : Option Nat → Nat → (Nat → Option va_E) → Prop} {stk : List Value} (As : List Value) (hM : Met l y ws rm (KP D cl B lo hi h tys As) (KQq D cl B lo tys post) mc ms (fun q => lo ≤ q)) (cw : CallB R s args own index y bytes maxL ret ws rm mc ms n ∧ (Cond.static y).before args s = true) (hst : stk = As.reverse ++ st) (hn : As.length = n) (hW : (st.map fun v => v.category).sum ≤ 8) (hdg : decode cc pc = .ok (.invokestatic index, 3)) (hf : cs + mc ≤ R.cells ∧ ss + ms ≤ R.slots)
    (kk : ∀ (r : Option Nat) (hi' : Nat) (h' : Nat → Option va_E), post r hi' h' → Gx p l e R s m args below meth c D cl B lo nL Q hi' h' (cs + mc) (ss + ms) L (pc + 3) (va_rf r :: st)) : Gx p l e R s m args below meth c D cl B lo nL Q hi h cs ss L pc stk := by
  intro H locs hA hS ls hL
  refine va_callq (va_runS (As := As) (rest := st) hC.1 hM cw ⟨KP_blind _ _ _ _ _ _ _ _, fun U hU hW => ⟨rfl, by rw [hU]; exact hA, va_K.moved hW.alike hC.2.1, nwOK_warm hW hC.2.2⟩⟩ rfl hn hL.1 hst (lv_room hW) hdg hf) hS (fun q _ h => h) (fun q h => h) (fun r u t H1 locs1 ht hvm hp hb hz hk hS1 => ?_)
  exact kk r u.1 u.2 hp H1 locs1 (by rw [← ht]; exact hb.1) hS1 ls hL
theorem ax_callI (hC : Cx p s m args c cc nL Ts own D cl tys) {y : MethodName} {bytes : ByteArray} {maxL index mc ms n : Nat} {ws : List Cond} {rm : Room} {b : Nat} {post : Nat → (Nat → Option va_E) → Prop} {stk : List Value} (As : List Value) (hM : Met l y ws rm (KP D cl B lo hi h tys (.ref b :: As)) (KQv D cl B lo tys post) mc ms (fun q => lo ≤ q)) (cw : CallB R s args own index y bytes maxL none ws rm mc ms n ∧ y.name = "<init>" ∧ (Cond.instanceMethod y).before args s = true) (hst : stk = As.reverse ++ .ref b :: st) (hn : As.length = n) (hW : (st.map fun v => v.category).sum ≤ 8) (hdg : decode cc pc = .ok (.invokespecial index, 3)) (hf : cs + mc ≤ R.cells ∧ ss + ms ≤ R.slots)
    (kk : ∀ (hi' : Nat) (h' : Nat → Option va_E), post hi' h' → Gx p l e R s m args below meth c D cl B lo nL Q hi' h' (cs + mc) (ss + ms) L (pc + 3) st) : Gx p l e R s m args below meth c D cl B lo nL Q hi h cs ss L pc stk := by
  intro H locs hA hS ls hL
  refine va_callv (va_runI (As := As) (rest := st) hC.1 hM cw ⟨KP_blind _ _ _ _ _ _ _ _, fun U hU hW => ⟨rfl, by rw [hU]; exact hA, va_K.moved hW.alike hC.2.1, nwOK_warm hW hC.2.2⟩⟩ rfl hn hL.1 hst (lv_room hW) hdg hf) hS (fun q _ h => h) (fun q h => h) (fun u t H1 locs1 ht hvm hp hb hz hk hS1 => ?_)
  exact kk u.1 u.2 hp H1 locs1 (by rw [← ht]; exact hb.1) hS1 ls hL
theorem ax_callIN (hC : Cx p s m args c cc nL Ts own D cl tys) {y : MethodName} {bytes : ByteArray} {maxL index mc ms n : Nat} {ws : List Cond} {rm : Room} {b : Nat} {host : String} {post : Nat → (Nat → Option va_E) → Prop} {stk : List Value} (As : List Value) (hM : Met l y ws rm (KP D cl B lo hi h tys (.ref b :: As)) (KQv D cl B lo tys post) mc ms (fun q => lo ≤ q)) (cw : va_CN R s args own index y host bytes maxL none ws rm mc ms n ∧ y.name = "<init>" ∧ (Cond.instanceMethod y).before args s = true) (hst : stk = As.reverse ++ .ref b :: st) (hn : As.length = n) (hW : (st.map fun v => v.category).sum ≤ 8) (hdg : decode cc pc = .ok (.invokespecial index, 3)) (hf : cs + mc ≤ R.cells ∧ ss + ms ≤ R.slots)
    (kk : ∀ (hi' : Nat) (h' : Nat → Option va_E), post hi' h' → Gx p l e R s m args below meth c D cl B lo nL Q hi' h' (cs + mc) (ss + ms) L (pc + 3) st) : Gx p l e R s m args below meth c D cl B lo nL Q hi h cs ss L pc stk := by
  intro H locs hA hS ls hL
  refine va_callv (va_runIN (As := As) (rest := st) hC.1 hM cw ⟨KP_blind _ _ _ _ _ _ _ _, fun U hU hW => ⟨rfl, by rw [hU]; exact hA, va_K.moved hW.alike hC.2.1, nwOK_warm hW hC.2.2⟩⟩ rfl hn hL.1 hst (lv_room hW) hdg hf) hS (fun q _ h => h) (fun q h => h) (fun u t H1 locs1 ht hvm hp hb hz hk hS1 => ?_)
  exact kk u.1 u.2 hp H1 locs1 (by rw [← ht]; exact hb.1) hS1 ls hL
/-- a method that only reads: what it answers, the heap as it was -/
abbrev KQp (D : va_G) (cl : List vw_C) (B : Heap) (lo hi : Nat) (h : Nat → Option va_E) (tys : List (ClassId × FieldType)) (P : Int32 → Prop) : Array Value → State → Outcome → State → Prop := KQi D cl B lo tys (fun r hi' h' => P r ∧ hi' = hi ∧ h' = h)
theorem ax_callVp (hC : Cx p s m args c cc nL Ts own D cl tys) {y : MethodName} {bytes : ByteArray} {maxL index mc ms n : Nat} {ret : Option FieldType} {ws : List Cond} {rm : Room} {b ci N : Nat} {fs : List Value} {C : String} {T : u_T} {P : Int32 → Prop} {stk : List Value} (As : List Value) (he : h b = some (.inr (ci, fs))) (hc : cl[ci]? = some (C, T, N)) (hM : Met l y ws rm (KP D cl B lo hi h tys (.ref b :: As)) (KQp D cl B lo hi h tys P) mc ms (fun q => lo ≤ q)) (cw : CallW R s args own C index y bytes maxL ret ws rm mc ms n) (hst : stk = As.reverse ++ .ref b :: st) (hn : As.length = n) (hW : (st.map fun v => v.category).sum ≤ 8) (hdg : decode cc pc = .ok (.invokevirtual index, 3)) (hf : cs + mc ≤ R.cells ∧ ss + ms ≤ R.slots)
    (kk : ∀ r : Int32, P r → Gx p l e R s m args below meth c D cl B lo nL Q hi h (cs + mc) (ss + ms) L (pc + 3) (.int r :: st)) : Gx p l e R s m args below meth c D cl B lo nL Q hi h cs ss L pc stk := by
  refine ax_callVi hC As he hc hM cw hst hn hW hdg hf (fun r hi1 h1 hp => ?_)
  obtain ⟨h2, h3, h4⟩ := hp
  subst h3
  subst h4
  exact kk r h2
theorem ax_callSp (hC : Cx p s m args c cc nL Ts own D cl tys) {y : MethodName} {bytes : ByteArray} {maxL index mc ms n : Nat} {ret : Option FieldType} {ws : List Cond} {rm : Room} {P : Int32 → Prop} {stk : List Value} (As : List Value) (hM : Met l y ws rm (KP D cl B lo hi h tys As) (KQp D cl B lo hi h tys P) mc ms (fun q => lo ≤ q)) (cw : CallB R s args own index y bytes maxL ret ws rm mc ms n ∧ (Cond.static y).before args s = true) (hst : stk = As.reverse ++ st) (hn : As.length = n) (hW : (st.map fun v => v.category).sum ≤ 8) (hdg : decode cc pc = .ok (.invokestatic index, 3)) (hf : cs + mc ≤ R.cells ∧ ss + ms ≤ R.slots)
    (kk : ∀ r : Int32, P r → Gx p l e R s m args below meth c D cl B lo nL Q hi h (cs + mc) (ss + ms) L (pc + 3) (.int r :: st)) : Gx p l e R s m args below meth c D cl B lo nL Q hi h cs ss L pc stk := by
  refine ax_callSi hC As hM cw hst hn hW hdg hf (fun r hi1 h1 hp => ?_)
  obtain ⟨h2, h3, h4⟩ := hp
  subst h3
  subst h4
  exact kk r h2
end AR
theorem ax_arr {ty : FieldType} {args : Array Value} {s : State} (h : (Cond.arrayClass ty).before args s = true) : ∃ cA : ClassId, ArrOfT s cA ty ∧ s.vm.findClass ("[" ++ ty.toString) = some cA := by
  obtain ⟨cA, kA, comp, hfind, hk, hkind⟩ := Cond.arrayClass_spec h
  exact ⟨cA, fun n z => ⟨(fun k h => by cases h), kA, hk, comp, hkind⟩, hfind⟩
