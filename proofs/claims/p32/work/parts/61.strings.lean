/-! THE STRINGS: the flag COMPACT_STRINGS, the law's 19 constants, strings and builders that the law makes -/
def kTs : List (List Nat) := [[33, 105, 46], [], [48], [33], [46], [63], [43, 123, 97, 58], [44, 98, 58], [44, 99, 58, 48, 125], [125], [38, 123, 97, 58], [42], [46, 33, 105, 46], [46, 63, 98, 46], [33, 105, 46, 48], [98], [105], [40], [41]]
def kT (i : Nat) : List Nat := kTs.getD i []
def kLn : List Nat := kTs.map List.length
def kBy : List (List Int32) := kTs.map (fun t => t.map nI)
def kIx : List Nat := [125, 43, 56, 58, 64, 70, 72, 74, 76, 78, 80, 82, 84, 86, 88, 90, 92, 94, 96]
def kTx : List String := ["!i.", "", "0", "!", ".", "?", "+{a:", ",b:", ",c:0}", "}", "&{a:", "*", ".!i.", ".?b.", "!i.0", "b", "i", "(", ")"]
theorem kBy_get : ∀ i, i < 19 → kLn.getD i 0 = (kT i).length ∧ (kT i).length < 7 ∧ ∀ j, j < (kT i).length → (kBy.getD i []).getD j 0 = nI ((kT i).getD j 0) ∧ (kT i).getD j 0 < 128 := by decide +kernel
def SXw (lo : Nat) (B : Heap) (kr kv : Nat → Nat) (U : State) : Prop := va_Z "java/lang/String" "COMPACT_STRINGS" "Z" (.int 1) (fun q => lo ≤ q) U B ∧ va_Zq "jdk/internal/util/Preconditions" "SIOOBE_FORMATTER" "Ljava/util/function/BiFunction;" (fun q => lo ≤ q) U B ∧ vk_S 19 kLn kBy kr kv (fun q => lo ≤ q) U B ∧ (∀ i, i < 19 → vk_R RL (kIx.getD i 0) (kTx.getD i "") (kr i) U) ∧ va_X (kr 19) (kv 19) (fun j => nI (kv (20 + j))) U B ∧ kr 19 < lo ∧ kv 19 ≤ 260
theorem SXw.warm {lo : Nat} {B : Heap} {kr kv : Nat → Nat} {s U : State} (hW : s.WarmedH U.vm) (h : SXw lo B kr kv s) : SXw lo B kr kv U := ⟨va_Z.moved hW.alike h.1, va_Zq.moved hW.alike h.2.1, vk_S.moved hW.alike h.2.2.1, fun i hi => vk_R.warm hW (h.2.2.2.1 i hi), va_X.moved hW.alike h.2.2.2.2.1, h.2.2.2.2.2⟩
theorem SXw.same {lo : Nat} {B : Heap} {kr kv : Nat → Nat} {s U : State} (hv : U.vm = s.vm) (h : SXw lo B kr kv s) : SXw lo B kr kv U := ⟨va_Z.moved (hv ▸ Vm.Alike.refl _) h.1, va_Zq.moved (hv ▸ Vm.Alike.refl _) h.2.1, vk_S.moved (hv ▸ Vm.Alike.refl _) h.2.2.1, fun i hi => vk_R.same hv (h.2.2.2.1 i hi), va_X.moved (hv ▸ Vm.Alike.refl _) h.2.2.2.2.1, h.2.2.2.2.2⟩
theorem SXw.kept {lo : Nat} {B H : Heap} {kr kv : Nat → Nat} {U : State} (hq : ∀ q : Nat, q < lo → H[q]? = B[q]?) (h : SXw lo B kr kv U) : SXw lo H kr kv U :=
  have hk : ∀ a : Nat, a < B.size → ¬ lo ≤ a → H[a]? = B[a]? := fun a _ ha => hq a (Nat.not_le.mp ha)
  ⟨h.1.kept hk, h.2.1.kept hk, h.2.2.1.kept hk, h.2.2.2.1, h.2.2.2.2.1.kept (hq _ h.2.2.2.2.2.1), h.2.2.2.2.2⟩
def KPs (D : va_G) (cl : List vw_C) (B : Heap) (lo hi : Nat) (h : Nat → Option va_E) (kr kv : Nat → Nat) (tys : List (ClassId × FieldType)) (av : List Value) : Array Value → State → Prop := va_Pc av (fun U => (ah D cl B lo hi h U.heap ∧ va_K D cl tys U ∧ nwOK U) ∧ SXw lo B kr kv U)
theorem KPs_blind (D : va_G) (cl : List vw_C) (B : Heap) (lo hi : Nat) (h : Nat → Option va_E) (kr kv : Nat → Nat) (tys : List (ClassId × FieldType)) (av : List Value) : FrameBlind (KPs D cl B lo hi h kr kv tys av) := fun a U g mk q => ⟨q.1, ⟨q.2.1.1, va_K.moved (u := U) (U := U.calling g mk a) (Vm.Alike.refl U.vm) q.2.1.2.1, nwOK_same (s := U) (U := U.calling g mk a) rfl q.2.1.2.2⟩, SXw.same (s := U) (U := U.calling g mk a) rfl q.2.2⟩
/-- what a walk among strings keeps at hand -/
def XSw (lo : Nat) (B : Heap) (kr kv : Nat → Nat) (s : State) : Prop := SXw lo B kr kv s ∧ SXw lo s.heap kr kv s
theorem ax_metS {l : Launch} {D : va_G} {cl : List vw_C} {B : Heap} {lo hi : Nat} {h : Nat → Option va_E} {kr kv : Nat → Nat} {tys : List (ClassId × FieldType)} {y : MethodName} {ws ws' : List Cond} {rm : Room} {mc ms : Nat} {cc : ByteArray} {maxL : Nat} {ret : Option FieldType} {Qc : Array Value → State → Outcome → State → Prop} {av : List Value}
    (hy : plainName y.cls = true) (hw : ws = Cond.code y cc maxL ret :: ws') (hsz : (lg_sl av).length ≤ maxL) {L0 : List (Nat × Value)} (hL0 : lv_args 0 av = L0)
    (body : ∀ (p : Program) (e : Env) (s : State) (m : MethodId) (args : Array Value) (below : List Frame) (meth : Method) (c : Code), Cx p s m args c cc maxL ws y.cls D cl tys → XSw lo B kr kv s → meth.sig.returnType = ret → meth.locks = false → meth.name = y.name → args = av.toArray → Gx p l e rm s m args below meth c D cl B lo maxL (MQ below Qc args s mc ms (fun q => lo ≤ q)) hi h 0 0 L0 0 []) : Met l y ws rm (KPs D cl B lo hi h kr kv tys av) Qc mc ms (fun q => lo ≤ q) := by
  refine Met.ofW (cc := cc) (maxL := maxL) (ret := ret) hy hw ?_
  subst hL0
  intro p e s m args below meth c s₁ B1 hml hv
  obtain ⟨rfl, ⟨hA, hK, hN⟩, hX⟩ := hv
  have hts := atoms_spec (ws := ws) B1.pre
  have hown : s.vm.findClass y.cls = some m.cls := findClass_of_methodNamed B1.named
  have hl := lv_entry av (n := maxL) hsz
  rw [lg_entry_eq]
  exact body p e s m av.toArray below meth c ⟨⟨B1.exec, B1.bytes, hml, hown, hts⟩, hK, hN⟩ ⟨hX, hX.kept hA.1.2⟩ B1.returns B1.notSynchronized (name_of_methodNamed B1.named B1.method).1 rfl s.heap [] hA va_S.rf _ hl
def StV (kr kv : Nat → Nat) (h : Nat → Option va_E) (q v : Nat) : Prop := (∃ x y : Value, h q = some (.inr (0, [.ref v, .int 0, x, y]))) ∨ ∃ i, i < 19 ∧ q = kr i ∧ v = kv i
def ByA (z : Nat → ClassId) (kv : Nat → Nat) (h : Nat → Option va_E) (v : Nat) (t : List Nat) : Prop := (∃ f : Nat → Int32, h v = some (.inl (z 0, t.length, .inl f)) ∧ ∀ j, j < t.length → f j = nI (t.getD j 0) ∧ t.getD j 0 < 128) ∨ ∃ i, i < 19 ∧ v = kv i ∧ t = kT i
theorem StV.kept {kr kv : Nat → Nat} {h h1 : Nat → Option va_E} {q v : Nat} (hs : StV kr kv h q v) (hq : h1 q = h q) : StV kr kv h1 q v := hs.imp (fun ⟨x, y, e⟩ => ⟨x, y, hq.trans e⟩) id
theorem ByA.kept {z : Nat → ClassId} {kv : Nat → Nat} {h h1 : Nat → Option va_E} {v : Nat} {t : List Nat} (hs : ByA z kv h v t) (hq : h1 v = h v) : ByA z kv h1 v t := hs.imp (fun ⟨f, e, k⟩ => ⟨f, hq.trans e, k⟩) id
section AS
variable {p : Program} {l : Launch} {e : Env} {R : Room} {s : State} {m : MethodId} {args : Array Value} {below : List Frame} {meth : Method} {c : Code} {D : va_G} {cl : List vw_C} {B : Heap} {lo nL : Nat} {Q : State → Prop} {hi : Nat} {h : Nat → Option va_E} {cs ss : Nat} {L : List (Nat × Value)} {pc : Nat} {st : List Value} {cc : ByteArray} {Ts : List Cond} {own : String} {tys : List (ClassId × FieldType)} {kr kv : Nat → Nat}
theorem ax_dup_x1 (hC : Cx p s m args c cc nL Ts own D cl tys) {v u : Value} (hdg : decode cc pc = .ok (.dup_x1, 1)) (hv : v.category = 1) (hu : u.category = 1) (kk : Gx p l e R s m args below meth c D cl B lo nL Q hi h cs ss L (pc + 1) (v :: u :: v :: st)) : Gx p l e R s m args below meth c D cl B lo nL Q hi h cs ss L pc (v :: u :: st) :=
  fun H locs hA hS ls hL => lv_dup_x1 hC.1.1 hC.1.2.1 hdg hv hu (kk H locs hA hS ls hL)
theorem ax_null (hC : Cx p s m args c cc nL Ts own D cl tys) (hdg : decode cc pc = .ok (.aconst_null, 1)) (kk : Gx p l e R s m args below meth c D cl B lo nL Q hi h cs ss L (pc + 1) (.null :: st)) : Gx p l e R s m args below meth c D cl B lo nL Q hi h cs ss L pc st :=
  fun H locs hA hS ls hL => lv_null hC.1.1 hC.1.2.1 hdg (kk H locs hA hS ls hL)
theorem ax_nret (hC : Cx p s m args c cc nL Ts own D cl tys) {post : Int32 → Nat → (Nat → Option va_E) → Prop} {v : Int32} {ty : FieldType} (hr : meth.sig.returnType = some ty) (hn : narrow ty (.int v) = .int v) (hlocks : meth.locks = false) (hdg : decode cc pc = .ok (.ireturn, 1)) (hp : post v hi h) : Gx p l e R s m args below meth c D cl B lo nL (MQ below (KQi D cl B lo tys post) args s cs ss (fun q => lo ≤ q)) hi h cs ss L pc [.int v] :=
  fun H locs hA hS ls hL => W.zret (v := v) hC.1.1 hC.1.2.1 hr hn (fun t ht hW => ⟨⟨v, (hi, h), rfl, hp, by rw [ht]; exact hA, va_K.moved hW.alike hC.2.1⟩, hS.F ht⟩) hS.2.2 hdg hlocks
theorem ax_getsC (hC : Cx p s m args c cc nL Ts own D cl tys) (hX : XSw lo B kr kv s) {index : Nat} (hlink : Cond.fieldLink own index "java/lang/String" "COMPACT_STRINGS" "Z" ∈ Ts) (hdg : decode cc pc = .ok (.getstatic index, 3)) (kk : Gx p l e R s m args below meth c D cl B lo nL Q hi h cs ss L (pc + 3) (.int 1 :: st)) : Gx p l e R s m args below meth c D cl B lo nL Q hi h cs ss L pc st :=
  fun H locs hA hS ls hL => va_gets hC.1.1 hC.1.2.1 hX.2.1 hS hC.1.2.2.2.1 (hC.1.2.2.2.2 _ hlink) (fun _ hx => hx) hdg (kk H locs hA hS ls hL)
theorem ax_getsF (hC : Cx p s m args c cc nL Ts own D cl tys) (hX : XSw lo B kr kv s) {index : Nat} (hlink : Cond.fieldLink own index "jdk/internal/util/Preconditions" "SIOOBE_FORMATTER" "Ljava/util/function/BiFunction;" ∈ Ts) (hdg : decode cc pc = .ok (.getstatic index, 3)) (k0 : Gx p l e R s m args below meth c D cl B lo nL Q hi h cs ss L (pc + 3) (.null :: st)) (k1 : ∀ t : Nat, Gx p l e R s m args below meth c D cl B lo nL Q hi h cs ss L (pc + 3) (.ref t :: st)) : Gx p l e R s m args below meth c D cl B lo nL Q hi h cs ss L pc st := by
  intro H locs hA hS ls hL
  rcases hX.2.2.1 with hz | ⟨t, hz⟩
  · exact va_gets hC.1.1 hC.1.2.1 hz hS hC.1.2.2.2.1 (hC.1.2.2.2.2 _ hlink) (fun _ hx => hx) hdg (k0 H locs hA hS ls hL)
  · exact va_gets hC.1.1 hC.1.2.1 hz hS hC.1.2.2.2.1 (hC.1.2.2.2.2 _ hlink) (fun _ hx => hx) hdg (k1 t H locs hA hS ls hL)
theorem ax_ldcS (hC : Cx p s m args c cc nL Ts RL D cl tys) (hX : XSw lo B kr kv s) (i : Nat) {index : Nat} (hi9 : i < 19) (hix : kIx.getD i 0 = index) (hdg : decode cc pc = .ok (.ldc index, 2)) (kk : Gx p l e R s m args below meth c D cl B lo nL Q hi h cs ss L (pc + 2) (.ref (kr i) :: st)) : Gx p l e R s m args below meth c D cl B lo nL Q hi h cs ss L pc st := by
  subst hix
  exact fun H locs hA hS ls hL => va_ldcS hC.1.1 hC.1.2.1 hC.1.2.2.2.1 (hX.1.2.2.2.1 i hi9) hdg (kk H locs hA hS ls hL)
theorem ax_getSv (hC : Cx p s m args c cc nL Ts own D cl tys) (hX : XSw lo B kr kv s) {q v index : Nat} (hv : StV kr kv h q v) (hin : ∀ w ∈ u_ws RJ0 TJ0 4, w ∈ Ts) (hc : cl[0]? = some (RJ0, TJ0, 4)) (hlink : Cond.fieldLink own index "java/lang/String" "value" "[B" ∈ Ts) (hdg : decode cc pc = .ok (.getfield index, 3)) (kk : Gx p l e R s m args below meth c D cl B lo nL Q hi h cs ss L (pc + 3) (.ref v :: st)) : Gx p l e R s m args below meth c D cl B lo nL Q hi h cs ss L pc (.ref q :: st) := by
  rcases hv with ⟨x, y, he⟩ | ⟨i, hi9, rfl, rfl⟩
  · exact ax_getf (v := .ref v) hC he hin hc 0 (by decide) hlink rfl rfl hdg kk
  · exact fun H locs hA hS ls hL => vk_getf hC.1.1 hC.1.2.1 (hX.2.2.2.1.1 i hi9).2.2.1 hS hC.1.2.2.2.1 (hC.1.2.2.2.2 _ hlink) (fun _ hx => hx) hdg (kk H locs hA hS ls hL)
theorem ax_getSc (hC : Cx p s m args c cc nL Ts own D cl tys) (hX : XSw lo B kr kv s) {q v index : Nat} (hv : StV kr kv h q v) (hin : ∀ w ∈ u_ws RJ0 TJ0 4, w ∈ Ts) (hc : cl[0]? = some (RJ0, TJ0, 4)) (hlink : Cond.fieldLink own index "java/lang/String" "coder" "B" ∈ Ts) (hdg : decode cc pc = .ok (.getfield index, 3)) (kk : Gx p l e R s m args below meth c D cl B lo nL Q hi h cs ss L (pc + 3) (.int 0 :: st)) : Gx p l e R s m args below meth c D cl B lo nL Q hi h cs ss L pc (.ref q :: st) := by
  rcases hv with ⟨x, y, he⟩ | ⟨i, hi9, rfl, rfl⟩
  · exact ax_getf (v := .int 0) hC he hin hc 1 (by decide) hlink rfl rfl hdg kk
  · exact fun H locs hA hS ls hL => vk_getf hC.1.1 hC.1.2.1 (hX.2.2.2.1.1 i hi9).2.1 hS hC.1.2.2.2.1 (hC.1.2.2.2.2 _ hlink) (fun _ hx => hx) hdg (kk H locs hA hS ls hL)
theorem ax_alenB {z : Nat → ClassId} (hC : Cx p s m args c cc nL Ts own D cl (ty6 z)) (hX : XSw lo B kr kv s) {v : Nat} {t : List Nat} (hv : ByA z kv h v t) (hdg : decode cc pc = .ok (.arraylength, 1)) (kk : Gx p l e R s m args below meth c D cl B lo nL Q hi h cs ss L (pc + 1) (.int (nI t.length) :: st)) : Gx p l e R s m args below meth c D cl B lo nL Q hi h cs ss L pc (.ref v :: st) := by
  rcases hv with ⟨f, he, -⟩ | ⟨i, hi9, rfl, rfl⟩
  · exact ax_alen (v := nI t.length) hC he 0 rfl rfl hdg kk
  · exact fun H locs hA hS ls hL => va_tlen hC.1.1 hC.1.2.1 (hX.2.2.2.1.1 i hi9).2.2.2 hS (v := nI (kT i).length) (by rw [(kBy_get i hi9).1]; rfl) hdg (kk H locs hA hS ls hL)
theorem ax_baldB {z : Nat → ClassId} (hC : Cx p s m args c cc nL Ts own D cl (ty6 z)) (hX : XSw lo B kr kv s) {v j : Nat} {t : List Nat} (hv : ByA z kv h v t) (hj : j < t.length) (ht : t.length < 2147483648) (hdg : decode cc pc = .ok (.baload, 1)) (kk : Gx p l e R s m args below meth c D cl B lo nL Q hi h cs ss L (pc + 1) (.int (nI (t.getD j 0)) :: st)) : Gx p l e R s m args below meth c D cl B lo nL Q hi h cs ss L pc (.int (nI j) :: .ref v :: st) := by
  rcases hv with ⟨f, he, hf⟩ | ⟨i, hi9, rfl, rfl⟩
  · refine ax_bald hC he 0 rfl (vp_in_nI hj (by omega)) hdg ?_
    rw [nI_clamp (by omega), (hf j hj).1]
    exact kk
  · exact fun H locs hA hS ls hL => va_tb hC.1.1 hC.1.2.1 (hX.2.2.2.1.1 i hi9).2.2.2 hS (v := .int (nI ((kT i).getD j 0))) (by rw [(kBy_get i hi9).1]; exact vp_in_nI hj (by omega)) (by rw [nI_clamp (by omega), ((kBy_get i hi9).2.2 j hj).1]) hdg (kk H locs hA hS ls hL)
theorem ax_copyT {z : Nat → ClassId} (hC : Cx p s m args c cc nL Ts own D cl (ty6 z)) (hX : XSw lo B kr kv s) {index a0 a n1 : Nat} {g : Nat → Int32} {t : List Nat} (hlink : Cond.methodLink own index arraycopyName ∈ Ts) (hnat : Cond.native arraycopyName ∈ Ts) (hstat : Cond.static arraycopyName ∈ Ts) (hini : Cond.initialized "java/lang/System" ∈ Ts)
    (he0 : ByA z kv h a0 t) (he1 : h a = some (.inl (z 0, n1, .inl g))) {dp : Int32} (h2 : ¬ dp < 0) (h4 : t.length < 2147483648) (h5 : dp.toNatClampNeg + t.length ≤ n1)
    (hframes : 1 ≤ R.frames) (hlocals : (st.map fun v => v.category).sum + (nativeFrameWords "java/lang/System" "arraycopy" 5 + 11) ≤ R.locals) (hdg : decode cc pc = .ok (.invokestatic index, 3))
    (kk : ∀ (h1 : Nat → Option va_E) (f : Nat → Int32), (∀ j, j < t.length → f j = nI (t.getD j 0) ∧ t.getD j 0 < 128) → h1 a = some (.inl (z 0, n1, .inl (va_cpy f g 0 dp.toNatClampNeg t.length))) → (∀ q, q ≠ a → h1 q = h q) → Gx p l e R s m args below meth c D cl B lo nL Q hi h1 cs ss L (pc + 3) st) : Gx p l e R s m args below meth c D cl B lo nL Q hi h cs ss L pc (.int (nI t.length) :: .int dp :: .ref a :: .int 0 :: .ref a0 :: st) := by
  have nn : ∀ z : Int32, ¬ z < 0 → z.toInt = (z.toNatClampNeg : Int) := by
    intro z hz
    have hz0 : (0 : Int) ≤ z.toInt := by
      have := Int32.not_lt.mp hz
      simpa using Int32.le_iff_toInt_le.mp this
    show z.toInt = ((z.toInt.toNat : Nat) : Int)
    omega
  have hcl : (nI t.length).toNatClampNeg = t.length := nI_clamp (by omega)
  have hc0 : (0 : Int32).toNatClampNeg = 0 := rfl
  have h3 : ¬ nI t.length < 0 := nI_pos (by omega)
  have h1 : ¬ (0 : Int32) < 0 := by decide
  have hfb : ∀ x : Nat, x < 128 → fits .byte (.int (nI x)) = true := by decide +kernel
  rcases he0 with ⟨f, he0, hf⟩ | ⟨i, hi9, rfl, rfl⟩
  · refine ax_copyA hC hlink hnat hstat hini he0 he1 0 0 rfl rfl rfl h1 h2 h3 (by rw [hcl, hc0]; omega) (by rw [hcl]; exact h5) (fun j hj => by rw [hcl] at hj; rw [hc0, Nat.zero_add, (hf j hj).1]; exact hfb _ (hf j hj).2) hframes hlocals hdg (fun h1 e1 f1 => ?_)
    rw [hcl, hc0] at e1
    exact kk h1 f hf e1 f1
  · intro H locs hA hS ls hL
    obtain ⟨⟨hx, hb, hml, hown, hts⟩, hK, hNw⟩ := hC
    obtain ⟨scr, hs1, hs2, hs3, hs4, -, hs5, hs7⟩ := (hX.2.2.2.1.1 i hi9).2.2.2
    obtain ⟨hk1, hk2, hk3⟩ := kBy_get i hi9
    rw [hk1] at hs4 hs5
    have hs5' : ∀ j : Nat, j < (kT i).length → scr.slots[j]? = some (.int (nI ((kT i).getD j 0))) := fun j hj => by
      rw [hs5 j hj]
      show some (Value.int _) = _
      rw [(hk3 j hj).1]
    have hcc0 : H[kv i]? = some scr := by rw [hS.2.1 _ (Array.getElem?_eq_some_iff.mp hs1).1 hs7]; exact hs1
    have hcc1 : H[a]? = some (vp_cell (z 0) (n1, .inl g)) := (hA.2.2 a _ he1).2
    have hlo : lo ≤ a := (hA.2.2 a _ he1).1
    intro T hT X
    obtain ⟨hs6, k0, hk0, cm0, hkk0⟩ := hs2
    obtain ⟨-, kk1, hkk, cm1, hkk1⟩ := (hK.2 0 _ rfl).1 n1 (fun j => .int (g j))
    obtain ⟨vm', X', step⟩ := X.arraycopy hx hown (hts _ hlink) (hts _ hnat) (hts _ hstat) (hts _ hini) (src := kv i) (dst := a) (cs := scr) (cd := vp_cell (z 0) (n1, .inl g)) (srcPos := 0) (destPos := dp) (n := nI (kT i).length) (by rw [hT]; exact hcc0) (by rw [hT]; exact hcc1)
      hs6 (fun _ h => by cases h) hs3 (fun h => by cases h) hk0 hkk hkk0 hkk1 (by simp [refKind]) h1 h2 h3
      (by rw [nn _ h1, nn _ h3, hcl, hc0]; omega)
      (by rw [nn dp h2, nn _ h3, hcl]; show ¬ _ > ((arrV (z 0) n1 (fun j => .int (g j))).slots.size : Int); rw [arrV_size]; omega)
      (fun vm₁ _ j hj => by
        rw [hcl] at hj
        have e : scr.slots.getD ((0 : Int32).toNatClampNeg + j) .null = .int (nI ((kT i).getD j 0)) := by
          rw [hc0, Nat.zero_add, Array.getD_eq_getD_getElem?, hs5' _ hj]
          rfl
        refine ⟨?_, ?_⟩
        · rw [e]
          exact hfb _ (hk3 j hj).2
        · rw [e]
          exact trivial)
      (g := F0 m pc ls (.int (nI (kT i).length) :: .int dp :: .ref a :: .int 0 :: .ref (kv i) :: st)) rfl (by rw [hml]; exact hL.1) (rest := st) rfl (by rw [hb]; exact hdg) hframes (by show 2 * 0 + _ + _ ≤ _; omega)
    have e1 : copied scr (vp_cell (z 0) (n1, .inl g)) 0 dp (nI (kT i).length) = vp_cell (z 0) (n1, .inl (va_cpy (fun j => nI ((kT i).getD j 0)) g (0 : Int32).toNatClampNeg dp.toNatClampNeg (nI (kT i).length).toNatClampNeg)) := va_copiedX (fun z => .int z) scr (z 0) (fun j => nI ((kT i).getD j 0)) g hs5' (by rw [hcl, hc0]; omega)
    rw [hc0, hcl] at e1
    rw [e1] at X' step
    have hl : a < H.size := (Array.getElem?_eq_some_iff.mp hcc1).1
    have hheap : ((T.setVm vm').setCell a (vp_cell (z 0) (n1, .inl (va_cpy (fun j => nI ((kT i).getD j 0)) g 0 dp.toNatClampNeg (kT i).length)))).heap = H.setIfInBounds a (vp_cell (z 0) (n1, .inl (va_cpy (fun j => nI ((kT i).getD j 0)) g 0 dp.toNatClampNeg (kT i).length))) := by rw [← hT]; rfl
    have oq : ∀ q : Nat, q ≠ a → (H.setIfInBounds a (vp_cell (z 0) (n1, .inl (va_cpy (fun j => nI ((kT i).getD j 0)) g 0 dp.toNatClampNeg (kT i).length))))[q]? = H[q]? := fun q hq => by simp [Array.getElem?_setIfInBounds, Ne.symm hq]
    obtain ⟨t, a1, b1⟩ := kk (hup h a _) (fun j => nI ((kT i).getD j 0)) (fun j hj => ⟨rfl, (hk3 j hj).2⟩) (hup_self ..) (fun q hq => hup_ne _ _ _ hq) _ _ (ah_put hA hlo (show (H.setIfInBounds a _)[a]? = some _ by simp [Array.getElem?_setIfInBounds, hl]) (by simp) oq) ⟨by simp; exact hS.1, fun q g1 g2 => by
        rw [oq q (fun e => g2 (by rw [e]; exact hlo))]
        exact hS.2.1 q g1 g2, fun q hq => by
        rcases List.mem_append.mp hq with h | h
        · exact hS.2.2 q h
        · obtain ⟨z, -, hz⟩ := List.mem_map.mp h
          rw [← hz]
          exact hlo⟩ ls hL _ hheap X'
    exact ⟨t, step t a1, b1⟩
/-- a receiver's cell -/
def RcV (D : va_G) (cl : List vw_C) (B : Heap) (lo hi : Nat) (h : Nat → Option va_E) (s : State) (C : String) (b : Nat) : Prop := ∀ (H : Heap) (locs : List Loc), ah D cl B lo hi h H → va_S (fun q => lo ≤ q) s.heap H locs → ∃ cell : Cell, H[b]? = some cell ∧ cell.vm.isStatics = false ∧ s.vm.findClass C = some cell.cls
theorem rc_h (hC : Cx p s m args c cc nL Ts own D cl tys) {b ci N : Nat} {fs : List Value} {C : String} {T : u_T} (he : h b = some (.inr (ci, fs))) (hc : cl[ci]? = some (C, T, N)) : RcV D cl B lo hi h s C b := by
  intro H locs hA hS
  obtain ⟨r0, h1, cell, q1, q2, q3, -⟩ := ah_one hA he 0 _ rfl
  cases h1.symm.trans hc
  exact ⟨cell, q1, by rw [q3]; rfl, by rw [q2]; exact (hC.2.1.1 ci _ hc).2.1⟩
theorem rc_s (hC : Cx p s m args c cc nL Ts own D cl tys) (hX : XSw lo B kr kv s) {q v : Nat} (hv : StV kr kv h q v) (hc : cl[0]? = some (RJ0, TJ0, 4)) : RcV D cl B lo hi h s RJ0 q := by
  rcases hv with ⟨x, y, he⟩ | ⟨i, hi9, rfl, rfl⟩
  · exact rc_h hC he hc
  · exact fun H locs hA hS => vk_recv hX.2.2.2.1 hi9 hS
theorem ax_sVi (hC : Cx p s m args c cc nL Ts own D cl tys) (hX : XSw lo B kr kv s) {y : MethodName} {bytes : ByteArray} {maxL index mc ms n : Nat} {ret : Option FieldType} {ws : List Cond} {rm : Room} {b : Nat} {C : String} {post : Int32 → Nat → (Nat → Option va_E) → Prop} {stk : List Value} (As : List Value) (hrc : RcV D cl B lo hi h s C b) (hM : Met l y ws rm (KPs D cl B lo hi h kr kv tys (.ref b :: As)) (KQi D cl B lo tys post) mc ms (fun q => lo ≤ q)) (cw : CallW R s args own C index y bytes maxL ret ws rm mc ms n) (hst : stk = As.reverse ++ .ref b :: st) (hn : As.length = n) (hW : (st.map fun v => v.category).sum ≤ 8) (hdg : decode cc pc = .ok (.invokevirtual index, 3)) (hf : cs + mc ≤ R.cells ∧ ss + ms ≤ R.slots)
    (kk : ∀ (r : Int32) (hi' : Nat) (h' : Nat → Option va_E), post r hi' h' → Gx p l e R s m args below meth c D cl B lo nL Q hi' h' (cs + mc) (ss + ms) L (pc + 3) (.int r :: st)) : Gx p l e R s m args below meth c D cl B lo nL Q hi h cs ss L pc stk := by
  intro H locs hA hS ls hL
  refine va_calli (va_runV (As := As) (rest := st) hC.1 hM cw ⟨KPs_blind _ _ _ _ _ _ _ _ _ _, hrc H locs hA hS, fun U hU hW => ⟨rfl, ⟨by rw [hU]; exact hA, va_K.moved hW.alike hC.2.1, nwOK_warm hW hC.2.2⟩, SXw.warm hW hX.1⟩⟩ rfl hn hL.1 hst (lv_room hW) hdg hf) hS (fun q _ h => h) (fun q h => h) (fun r u t H1 locs1 ht hvm hp hb hz hk hS1 => ?_)
  exact kk r u.1 u.2 hp H1 locs1 (by rw [← ht]; exact hb.1) hS1 ls hL
theorem ax_sVv (hC : Cx p s m args c cc nL Ts own D cl tys) (hX : XSw lo B kr kv s) {y : MethodName} {bytes : ByteArray} {maxL index mc ms n : Nat} {ret : Option FieldType} {ws : List Cond} {rm : Room} {b : Nat} {C : String} {post : Nat → (Nat → Option va_E) → Prop} {stk : List Value} (As : List Value) (hrc : RcV D cl B lo hi h s C b) (hM : Met l y ws rm (KPs D cl B lo hi h kr kv tys (.ref b :: As)) (KQv D cl B lo tys post) mc ms (fun q => lo ≤ q)) (cw : CallW R s args own C index y bytes maxL ret ws rm mc ms n) (hst : stk = As.reverse ++ .ref b :: st) (hn : As.length = n) (hW : (st.map fun v => v.category).sum ≤ 8) (hdg : decode cc pc = .ok (.invokevirtual index, 3)) (hf : cs + mc ≤ R.cells ∧ ss + ms ≤ R.slots)
    (kk : ∀ (hi' : Nat) (h' : Nat → Option va_E), post hi' h' → Gx p l e R s m args below meth c D cl B lo nL Q hi' h' (cs + mc) (ss + ms) L (pc + 3) st) : Gx p l e R s m args below meth c D cl B lo nL Q hi h cs ss L pc stk := by
  intro H locs hA hS ls hL
  refine va_callv (va_runV (As := As) (rest := st) hC.1 hM cw ⟨KPs_blind _ _ _ _ _ _ _ _ _ _, hrc H locs hA hS, fun U hU hW => ⟨rfl, ⟨by rw [hU]; exact hA, va_K.moved hW.alike hC.2.1, nwOK_warm hW hC.2.2⟩, SXw.warm hW hX.1⟩⟩ rfl hn hL.1 hst (lv_room hW) hdg hf) hS (fun q _ h => h) (fun q h => h) (fun u t H1 locs1 ht hvm hp hb hz hk hS1 => ?_)
  exact kk u.1 u.2 hp H1 locs1 (by rw [← ht]; exact hb.1) hS1 ls hL
theorem ax_sVq (hC : Cx p s m args c cc nL Ts own D cl tys) (hX : XSw lo B kr kv s) {y : MethodName} {bytes : ByteArray} {maxL index mc ms n : Nat} {ret : Option FieldType} {ws : List Cond} {rm : Room} {b : Nat} {C : String} {post : Option Nat → Nat → (Nat → Option va_E) → Prop} {stk : List Value} (As : List Value) (hrc : RcV D cl B lo hi h s C b) (hM : Met l y ws rm (KPs D cl B lo hi h kr kv tys (.ref b :: As)) (KQq D cl B lo tys post) mc ms (fun q => lo ≤ q)) (cw : CallW R s args own C index y bytes maxL ret ws rm mc ms n) (hst : stk = As.reverse ++ .ref b :: st) (hn : As.length = n) (hW : (st.map fun v => v.category).sum ≤ 8) (hdg : decode cc pc = .ok (.invokevirtual index, 3)) (hf : cs + mc ≤ R.cells ∧ ss + ms ≤ R.slots)
    (kk : ∀ (r : Option Nat) (hi' : Nat) (h' : Nat → Option va_E), post r hi' h' → Gx p l e R s m args below meth c D cl B lo nL Q hi' h' (cs + mc) (ss + ms) L (pc + 3) (va_rf r :: st)) : Gx p l e R s m args below meth c D cl B lo nL Q hi h cs ss L pc stk := by
  intro H locs hA hS ls hL
  refine va_callq (va_runV (As := As) (rest := st) hC.1 hM cw ⟨KPs_blind _ _ _ _ _ _ _ _ _ _, hrc H locs hA hS, fun U hU hW => ⟨rfl, ⟨by rw [hU]; exact hA, va_K.moved hW.alike hC.2.1, nwOK_warm hW hC.2.2⟩, SXw.warm hW hX.1⟩⟩ rfl hn hL.1 hst (lv_room hW) hdg hf) hS (fun q _ h => h) (fun q h => h) (fun r u t H1 locs1 ht hvm hp hb hz hk hS1 => ?_)
  exact kk r u.1 u.2 hp H1 locs1 (by rw [← ht]; exact hb.1) hS1 ls hL
theorem ax_sUi (hC : Cx p s m args c cc nL Ts own D cl tys) (hX : XSw lo B kr kv s) {y : MethodName} {bytes : ByteArray} {maxL index mc ms n : Nat} {ret : Option FieldType} {ws : List Cond} {rm : Room} {b : Nat} {C : String} {owner : String} {xm : MethodName} {post : Int32 → Nat → (Nat → Option va_E) → Prop} {stk : List Value} (As : List Value) (hrc : RcV D cl B lo hi h s C b) (hM : Met l y ws rm (KPs D cl B lo hi h kr kv tys (.ref b :: As)) (KQi D cl B lo tys post) mc ms (fun q => lo ≤ q)) (cw : va_CU R s args own C owner index xm y bytes maxL ret ws rm mc ms n) (hst : stk = As.reverse ++ .ref b :: st) (hn : As.length = n) (hW : (st.map fun v => v.category).sum ≤ 8) (hdg : decode cc pc = .ok (.invokevirtual index, 3)) (hf : cs + mc ≤ R.cells ∧ ss + ms ≤ R.slots)
    (kk : ∀ (r : Int32) (hi' : Nat) (h' : Nat → Option va_E), post r hi' h' → Gx p l e R s m args below meth c D cl B lo nL Q hi' h' (cs + mc) (ss + ms) L (pc + 3) (.int r :: st)) : Gx p l e R s m args below meth c D cl B lo nL Q hi h cs ss L pc stk := by
  intro H locs hA hS ls hL
  refine va_calli (va_runU (As := As) (rest := st) hC.1 hM cw ⟨KPs_blind _ _ _ _ _ _ _ _ _ _, hrc H locs hA hS, fun U hU hW => ⟨rfl, ⟨by rw [hU]; exact hA, va_K.moved hW.alike hC.2.1, nwOK_warm hW hC.2.2⟩, SXw.warm hW hX.1⟩⟩ rfl hn hL.1 hst (lv_room hW) hdg hf) hS (fun q _ h => h) (fun q h => h) (fun r u t H1 locs1 ht hvm hp hb hz hk hS1 => ?_)
  exact kk r u.1 u.2 hp H1 locs1 (by rw [← ht]; exact hb.1) hS1 ls hL
theorem ax_sUv (hC : Cx p s m args c cc nL Ts own D cl tys) (hX : XSw lo B kr kv s) {y : MethodName} {bytes : ByteArray} {maxL index mc ms n : Nat} {ret : Option FieldType} {ws : List Cond} {rm : Room} {b : Nat} {C : String} {owner : String} {xm : MethodName} {post : Nat → (Nat → Option va_E) → Prop} {stk : List Value} (As : List Value) (hrc : RcV D cl B lo hi h s C b) (hM : Met l y ws rm (KPs D cl B lo hi h kr kv tys (.ref b :: As)) (KQv D cl B lo tys post) mc ms (fun q => lo ≤ q)) (cw : va_CU R s args own C owner index xm y bytes maxL ret ws rm mc ms n) (hst : stk = As.reverse ++ .ref b :: st) (hn : As.length = n) (hW : (st.map fun v => v.category).sum ≤ 8) (hdg : decode cc pc = .ok (.invokevirtual index, 3)) (hf : cs + mc ≤ R.cells ∧ ss + ms ≤ R.slots)
    (kk : ∀ (hi' : Nat) (h' : Nat → Option va_E), post hi' h' → Gx p l e R s m args below meth c D cl B lo nL Q hi' h' (cs + mc) (ss + ms) L (pc + 3) st) : Gx p l e R s m args below meth c D cl B lo nL Q hi h cs ss L pc stk := by
  intro H locs hA hS ls hL
  refine va_callv (va_runU (As := As) (rest := st) hC.1 hM cw ⟨KPs_blind _ _ _ _ _ _ _ _ _ _, hrc H locs hA hS, fun U hU hW => ⟨rfl, ⟨by rw [hU]; exact hA, va_K.moved hW.alike hC.2.1, nwOK_warm hW hC.2.2⟩, SXw.warm hW hX.1⟩⟩ rfl hn hL.1 hst (lv_room hW) hdg hf) hS (fun q _ h => h) (fun q h => h) (fun u t H1 locs1 ht hvm hp hb hz hk hS1 => ?_)
  exact kk u.1 u.2 hp H1 locs1 (by rw [← ht]; exact hb.1) hS1 ls hL
theorem ax_sUq (hC : Cx p s m args c cc nL Ts own D cl tys) (hX : XSw lo B kr kv s) {y : MethodName} {bytes : ByteArray} {maxL index mc ms n : Nat} {ret : Option FieldType} {ws : List Cond} {rm : Room} {b : Nat} {C : String} {owner : String} {xm : MethodName} {post : Option Nat → Nat → (Nat → Option va_E) → Prop} {stk : List Value} (As : List Value) (hrc : RcV D cl B lo hi h s C b) (hM : Met l y ws rm (KPs D cl B lo hi h kr kv tys (.ref b :: As)) (KQq D cl B lo tys post) mc ms (fun q => lo ≤ q)) (cw : va_CU R s args own C owner index xm y bytes maxL ret ws rm mc ms n) (hst : stk = As.reverse ++ .ref b :: st) (hn : As.length = n) (hW : (st.map fun v => v.category).sum ≤ 8) (hdg : decode cc pc = .ok (.invokevirtual index, 3)) (hf : cs + mc ≤ R.cells ∧ ss + ms ≤ R.slots)
    (kk : ∀ (r : Option Nat) (hi' : Nat) (h' : Nat → Option va_E), post r hi' h' → Gx p l e R s m args below meth c D cl B lo nL Q hi' h' (cs + mc) (ss + ms) L (pc + 3) (va_rf r :: st)) : Gx p l e R s m args below meth c D cl B lo nL Q hi h cs ss L pc stk := by
  intro H locs hA hS ls hL
  refine va_callq (va_runU (As := As) (rest := st) hC.1 hM cw ⟨KPs_blind _ _ _ _ _ _ _ _ _ _, hrc H locs hA hS, fun U hU hW => ⟨rfl, ⟨by rw [hU]; exact hA, va_K.moved hW.alike hC.2.1, nwOK_warm hW hC.2.2⟩, SXw.warm hW hX.1⟩⟩ rfl hn hL.1 hst (lv_room hW) hdg hf) hS (fun q _ h => h) (fun q h => h) (fun r u t H1 locs1 ht hvm hp hb hz hk hS1 => ?_)
  exact kk r u.1 u.2 hp H1 locs1 (by rw [← ht]; exact hb.1) hS1 ls hL
theorem ax_sSUi (hC : Cx p s m args c cc nL Ts own D cl tys) (hX : XSw lo B kr kv s) {y : MethodName} {bytes : ByteArray} {maxL index mc ms n : Nat} {ret : Option FieldType} {ws : List Cond} {rm : Room} {b : Nat} {C : String} {cC : ClassId} {post : Int32 → Nat → (Nat → Option va_E) → Prop} {stk : List Value} (As : List Value) (hrc : RcV D cl B lo hi h s C b) (hat : ClassAt s C cC) (hM : Met l y ws rm (KPs D cl B lo hi h kr kv tys (.ref b :: As)) (KQi D cl B lo tys post) mc ms (fun q => lo ≤ q)) (cw : va_CS R s args own index y bytes maxL ret ws rm mc ms n) (hst : stk = As.reverse ++ .ref b :: st) (hn : As.length = n) (hW : (st.map fun v => v.category).sum ≤ 8) (hdg : decode cc pc = .ok (.invokespecial index, 3)) (hf : cs + mc ≤ R.cells ∧ ss + ms ≤ R.slots)
    (kk : ∀ (r : Int32) (hi' : Nat) (h' : Nat → Option va_E), post r hi' h' → Gx p l e R s m args below meth c D cl B lo nL Q hi' h' (cs + mc) (ss + ms) L (pc + 3) (.int r :: st)) : Gx p l e R s m args below meth c D cl B lo nL Q hi h cs ss L pc stk := by
  intro H locs hA hS ls hL
  refine va_calli (va_runSU (As := As) (rest := st) hat hC.1 hM cw ⟨KPs_blind _ _ _ _ _ _ _ _ _ _, hrc H locs hA hS, fun U hU hW => ⟨rfl, ⟨by rw [hU]; exact hA, va_K.moved hW.alike hC.2.1, nwOK_warm hW hC.2.2⟩, SXw.warm hW hX.1⟩⟩ rfl hn hL.1 hst (lv_room hW) hdg hf) hS (fun q _ h => h) (fun q h => h) (fun r u t H1 locs1 ht hvm hp hb hz hk hS1 => ?_)
  exact kk r u.1 u.2 hp H1 locs1 (by rw [← ht]; exact hb.1) hS1 ls hL
theorem ax_sSUq (hC : Cx p s m args c cc nL Ts own D cl tys) (hX : XSw lo B kr kv s) {y : MethodName} {bytes : ByteArray} {maxL index mc ms n : Nat} {ret : Option FieldType} {ws : List Cond} {rm : Room} {b : Nat} {C : String} {cC : ClassId} {post : Option Nat → Nat → (Nat → Option va_E) → Prop} {stk : List Value} (As : List Value) (hrc : RcV D cl B lo hi h s C b) (hat : ClassAt s C cC) (hM : Met l y ws rm (KPs D cl B lo hi h kr kv tys (.ref b :: As)) (KQq D cl B lo tys post) mc ms (fun q => lo ≤ q)) (cw : va_CS R s args own index y bytes maxL ret ws rm mc ms n) (hst : stk = As.reverse ++ .ref b :: st) (hn : As.length = n) (hW : (st.map fun v => v.category).sum ≤ 8) (hdg : decode cc pc = .ok (.invokespecial index, 3)) (hf : cs + mc ≤ R.cells ∧ ss + ms ≤ R.slots)
    (kk : ∀ (r : Option Nat) (hi' : Nat) (h' : Nat → Option va_E), post r hi' h' → Gx p l e R s m args below meth c D cl B lo nL Q hi' h' (cs + mc) (ss + ms) L (pc + 3) (va_rf r :: st)) : Gx p l e R s m args below meth c D cl B lo nL Q hi h cs ss L pc stk := by
  intro H locs hA hS ls hL
  refine va_callq (va_runSU (As := As) (rest := st) hat hC.1 hM cw ⟨KPs_blind _ _ _ _ _ _ _ _ _ _, hrc H locs hA hS, fun U hU hW => ⟨rfl, ⟨by rw [hU]; exact hA, va_K.moved hW.alike hC.2.1, nwOK_warm hW hC.2.2⟩, SXw.warm hW hX.1⟩⟩ rfl hn hL.1 hst (lv_room hW) hdg hf) hS (fun q _ h => h) (fun q h => h) (fun r u t H1 locs1 ht hvm hp hb hz hk hS1 => ?_)
  exact kk r u.1 u.2 hp H1 locs1 (by rw [← ht]; exact hb.1) hS1 ls hL
theorem ax_sSi (hC : Cx p s m args c cc nL Ts own D cl tys) (hX : XSw lo B kr kv s) {y : MethodName} {bytes : ByteArray} {maxL index mc ms n : Nat} {ret : Option FieldType} {ws : List Cond} {rm : Room} {post : Int32 → Nat → (Nat → Option va_E) → Prop} {stk : List Value} (As : List Value) (hM : Met l y ws rm (KPs D cl B lo hi h kr kv tys As) (KQi D cl B lo tys post) mc ms (fun q => lo ≤ q)) (cw : CallB R s args own index y bytes maxL ret ws rm mc ms n ∧ (Cond.static y).before args s = true) (hst : stk = As.reverse ++ st) (hn : As.length = n) (hW : (st.map fun v => v.category).sum ≤ 8) (hdg : decode cc pc = .ok (.invokestatic index, 3)) (hf : cs + mc ≤ R.cells ∧ ss + ms ≤ R.slots)
    (kk : ∀ (r : Int32) (hi' : Nat) (h' : Nat → Option va_E), post r hi' h' → Gx p l e R s m args below meth c D cl B lo nL Q hi' h' (cs + mc) (ss + ms) L (pc + 3) (.int r :: st)) : Gx p l e R s m args below meth c D cl B lo nL Q hi h cs ss L pc stk := by
  intro H locs hA hS ls hL
  refine va_calli (va_runS (As := As) (rest := st) hC.1 hM cw ⟨KPs_blind _ _ _ _ _ _ _ _ _ _, fun U hU hW => ⟨rfl, ⟨by rw [hU]; exact hA, va_K.moved hW.alike hC.2.1, nwOK_warm hW hC.2.2⟩, SXw.warm hW hX.1⟩⟩ rfl hn hL.1 hst (lv_room hW) hdg hf) hS (fun q _ h => h) (fun q h => h) (fun r u t H1 locs1 ht hvm hp hb hz hk hS1 => ?_)
  exact kk r u.1 u.2 hp H1 locs1 (by rw [← ht]; exact hb.1) hS1 ls hL
theorem ax_sSv (hC : Cx p s m args c cc nL Ts own D cl tys) (hX : XSw lo B kr kv s) {y : MethodName} {bytes : ByteArray} {maxL index mc ms n : Nat} {ret : Option FieldType} {ws : List Cond} {rm : Room} {post : Nat → (Nat → Option va_E) → Prop} {stk : List Value} (As : List Value) (hM : Met l y ws rm (KPs D cl B lo hi h kr kv tys As) (KQv D cl B lo tys post) mc ms (fun q => lo ≤ q)) (cw : CallB R s args own index y bytes maxL ret ws rm mc ms n ∧ (Cond.static y).before args s = true) (hst : stk = As.reverse ++ st) (hn : As.length = n) (hW : (st.map fun v => v.category).sum ≤ 8) (hdg : decode cc pc = .ok (.invokestatic index, 3)) (hf : cs + mc ≤ R.cells ∧ ss + ms ≤ R.slots)
    (kk : ∀ (hi' : Nat) (h' : Nat → Option va_E), post hi' h' → Gx p l e R s m args below meth c D cl B lo nL Q hi' h' (cs + mc) (ss + ms) L (pc + 3) st) : Gx p l e R s m args below meth c D cl B lo nL Q hi h cs ss L pc stk := by
  intro H locs hA hS ls hL
  refine va_callv (va_runS (As := As) (rest := st) hC.1 hM cw ⟨KPs_blind _ _ _ _ _ _ _ _ _ _, fun U hU hW => ⟨rfl, ⟨by rw [hU]; exact hA, va_K.moved hW.alike hC.2.1, nwOK_warm hW hC.2.2⟩, SXw.warm hW hX.1⟩⟩ rfl hn hL.1 hst (lv_room hW) hdg hf) hS (fun q _ h => h) (fun q h => h) (fun u t H1 locs1 ht hvm hp hb hz hk hS1 => ?_)
  exact kk u.1 u.2 hp H1 locs1 (by rw [← ht]; exact hb.1) hS1 ls hL
theorem ax_sSq (hC : Cx p s m args c cc nL Ts own D cl tys) (hX : XSw lo B kr kv s) {y : MethodName} {bytes : ByteArray} {maxL index mc ms n : Nat} {ret : Option FieldType} {ws : List Cond} {rm : Room} {post : Option Nat → Nat → (Nat → Option va_E) → Prop} {stk : List Value} (As : List Value) (hM : Met l y ws rm (KPs D cl B lo hi h kr kv tys As) (KQq D cl B lo tys post) mc ms (fun q => lo ≤ q)) (cw : CallB R s args own index y bytes maxL ret ws rm mc ms n ∧ (Cond.static y).before args s = true) (hst : stk = As.reverse ++ st) (hn : As.length = n) (hW : (st.map fun v => v.category).sum ≤ 8) (hdg : decode cc pc = .ok (.invokestatic index, 3)) (hf : cs + mc ≤ R.cells ∧ ss + ms ≤ R.slots)
    (kk : ∀ (r : Option Nat) (hi' : Nat) (h' : Nat → Option va_E), post r hi' h' → Gx p l e R s m args below meth c D cl B lo nL Q hi' h' (cs + mc) (ss + ms) L (pc + 3) (va_rf r :: st)) : Gx p l e R s m args below meth c D cl B lo nL Q hi h cs ss L pc stk := by
  intro H locs hA hS ls hL
  refine va_callq (va_runS (As := As) (rest := st) hC.1 hM cw ⟨KPs_blind _ _ _ _ _ _ _ _ _ _, fun U hU hW => ⟨rfl, ⟨by rw [hU]; exact hA, va_K.moved hW.alike hC.2.1, nwOK_warm hW hC.2.2⟩, SXw.warm hW hX.1⟩⟩ rfl hn hL.1 hst (lv_room hW) hdg hf) hS (fun q _ h => h) (fun q h => h) (fun r u t H1 locs1 ht hvm hp hb hz hk hS1 => ?_)
  exact kk r u.1 u.2 hp H1 locs1 (by rw [← ht]; exact hb.1) hS1 ls hL
theorem ax_sIv (hC : Cx p s m args c cc nL Ts own D cl tys) (hX : XSw lo B kr kv s) {y : MethodName} {bytes : ByteArray} {maxL index mc ms n : Nat} {ws : List Cond} {rm : Room} {b : Nat} {post : Nat → (Nat → Option va_E) → Prop} {stk : List Value} (As : List Value) (hM : Met l y ws rm (KPs D cl B lo hi h kr kv tys (.ref b :: As)) (KQv D cl B lo tys post) mc ms (fun q => lo ≤ q)) (cw : CallB R s args own index y bytes maxL none ws rm mc ms n ∧ y.name = "<init>" ∧ (Cond.instanceMethod y).before args s = true) (hst : stk = As.reverse ++ .ref b :: st) (hn : As.length = n) (hW : (st.map fun v => v.category).sum ≤ 8) (hdg : decode cc pc = .ok (.invokespecial index, 3)) (hf : cs + mc ≤ R.cells ∧ ss + ms ≤ R.slots)
    (kk : ∀ (hi' : Nat) (h' : Nat → Option va_E), post hi' h' → Gx p l e R s m args below meth c D cl B lo nL Q hi' h' (cs + mc) (ss + ms) L (pc + 3) st) : Gx p l e R s m args below meth c D cl B lo nL Q hi h cs ss L pc stk := by
  intro H locs hA hS ls hL
  refine va_callv (va_runI (As := As) (rest := st) hC.1 hM cw ⟨KPs_blind _ _ _ _ _ _ _ _ _ _, fun U hU hW => ⟨rfl, ⟨by rw [hU]; exact hA, va_K.moved hW.alike hC.2.1, nwOK_warm hW hC.2.2⟩, SXw.warm hW hX.1⟩⟩ rfl hn hL.1 hst (lv_room hW) hdg hf) hS (fun q _ h => h) (fun q h => h) (fun u t H1 locs1 ht hvm hp hb hz hk hS1 => ?_)
  exact kk u.1 u.2 hp H1 locs1 (by rw [← ht]; exact hb.1) hS1 ls hL
theorem ax_alenX (hC : Cx p s m args c cc nL Ts own D cl tys) (hX : XSw lo B kr kv s) (hdg : decode cc pc = .ok (.arraylength, 1)) (kk : Gx p l e R s m args below meth c D cl B lo nL Q hi h cs ss L (pc + 1) (.int (nI (kv 19)) :: st)) : Gx p l e R s m args below meth c D cl B lo nL Q hi h cs ss L pc (.ref (kr 19) :: st) := by
  intro H locs hA hS ls hL
  obtain ⟨scr, x1, x2, x3, x4, x5⟩ := hX.1.2.2.2.2.1
  exact W.alen (n := nI (kv 19)) hC.1.1 hC.1.2.1 (by rw [hA.1.2 _ hX.1.2.2.2.2.2.1]; exact x1) x2 (by rw [x4]; rfl) rfl rfl hdg (kk H locs hA hS ls hL)
theorem ax_ialdX (hC : Cx p s m args c cc nL Ts own D cl tys) (hX : XSw lo B kr kv s) {i : Nat} (hi9 : i < kv 19) (hdg : decode cc pc = .ok (.iaload, 1)) (kk : Gx p l e R s m args below meth c D cl B lo nL Q hi h cs ss L (pc + 1) (.int (nI (kv (20 + i))) :: st)) : Gx p l e R s m args below meth c D cl B lo nL Q hi h cs ss L pc (.int (nI i) :: .ref (kr 19) :: st) := by
  intro H locs hA hS ls hL
  obtain ⟨scr, x1, x2, x3, x4, x5⟩ := hX.1.2.2.2.2.1
  have hN := hX.1.2.2.2.2.2.2
  have ec : (nI i).toNatClampNeg = i := nI_clamp (by omega)
  have hin : ¬ (nI i < 0 ∨ scr.slots.size ≤ (nI i).toNatClampNeg) := by
    intro q
    rcases q with q | q
    · exact nI_pos (by omega) q
    · rw [ec, x4] at q; omega
  exact W.iald (v := .int (nI (kv (20 + i)))) hC.1.1 hC.1.2.1 (by rw [hA.1.2 _ hX.1.2.2.2.2.2.1]; exact x1) x2 x3 hin (by rw [ec]; exact x5 i hi9) rfl rfl hdg (kk H locs hA hS ls hL)
theorem XSw.lt {s : State} (hX : XSw lo B kr kv s) {i : Nat} (hi9 : i < 19) : kr i < lo ∧ kv i < lo := by
  obtain ⟨⟨cell, -, -, -, a1⟩, -, -, ⟨scr, -, -, -, -, -, -, a2⟩⟩ := hX.2.2.2.1.1 i hi9
  exact ⟨Nat.not_le.mp a1, Nat.not_le.mp a2⟩
theorem hat_J4 (hC : Cx p s m args c cc nL Ts own D cl tys) (hc : cl[1]? = some (RJ4, TJ4, 4)) : ClassAt s RJ4 (D.1 1) := (hC.2.1.1 1 _ hc).2
end AS
