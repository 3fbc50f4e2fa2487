section AZ
variable {p : Program} {l : Launch} {e : Env} {R : Room} {s : State} {m : MethodId} {args : Array Value} {below : List Frame} {meth : Method} {c : Code} {D : va_G} {cl : List vw_C} {B : Heap} {lo nL : Nat} {Q : State → Prop} {hi : Nat} {h : Nat → Option va_E} {cs ss : Nat} {L : List (Nat × Value)} {pc : Nat} {st : List Value} {cc : ByteArray} {Ts : List Cond} {own : String} {tys : List (ClassId × FieldType)}
theorem ax_clone (hC : Cx p s m args c cc nL Ts own D cl tys) {ad : String} {index a : Nat} {cA : ClassId} {x : vp_A} {ty : FieldType}
    (hlink : Cond.methodLink own index ⟨ad, "clone", "()Ljava/lang/Object;"⟩ ∈ Ts) (hsame : Cond.sameMethod ad "java/lang/Object" "clone" "()Ljava/lang/Object;" ∈ Ts) (hnat : Cond.native ⟨"java/lang/Object", "clone", "()Ljava/lang/Object;"⟩ ∈ Ts) (hinst : Cond.instanceMethod ⟨"java/lang/Object", "clone", "()Ljava/lang/Object;"⟩ ∈ Ts) (hsel : Cond.selects ad ⟨ad, "clone", "()Ljava/lang/Object;"⟩ ⟨"java/lang/Object", "clone", "()Ljava/lang/Object;"⟩ ∈ Ts) (hcl : va_Nw (.castable ad "java/lang/Cloneable") s)
    (he : h a = some (.inl (cA, x))) (t0 : Nat) (ht : tys[t0]? = some (cA, ty)) (hnm : s.vm.findClass ad = some cA) (hfit : ∀ (i : Nat) (v : Value), (vp_cell cA x).slots[i]? = some v → fits ty v = true)
    (hframes : 1 ≤ R.frames) (hlocals : (st.map fun v => v.category).sum + 14 ≤ R.locals) (hcells : cs + 1 ≤ R.cells) (hslots : ss + x.1 ≤ R.slots) (hdg : decode cc pc = .ok (.invokevirtual index, 3))
    (kk : ∀ h1, h1 hi = some (.inl (cA, x)) → (∀ q, q ≠ hi → h1 q = h q) → Gx p l e R s m args below meth c D cl B lo nL Q (hi + 1) h1 (cs + 1) (ss + x.1) L (pc + 3) (.ref hi :: st)) : Gx p l e R s m args below meth c D cl B lo nL Q hi h cs ss L pc (.ref a :: st) := by
  intro H locs hA hS ls hL
  obtain ⟨⟨hx, hb, hml, hown, hts⟩, hK, hNw⟩ := hC
  have hsz : (vp_cell cA x).slots.size = x.1 := by
    obtain ⟨n, f | f | f | f | f⟩ := x <;> exact arrV_size _ _ _
  have hvm0 : (vp_cell cA x).vm = .none := by
    obtain ⟨n, f | f | f | f | f⟩ := x <;> rfl
  have hcl0 : (vp_cell cA x).cls = cA := by
    obtain ⟨n, f | f | f | f | f⟩ := x <;> rfl
  have hcellE : ({ cls := (vp_cell cA x).cls, slots := (vp_cell cA x).slots } : Cell) = vp_cell cA x := by
    obtain ⟨n, f | f | f | f | f⟩ := x <;> rfl
  obtain ⟨c0, t0', f1, f2, f3⟩ := Cond.castable_spec (va_Nw.use (A := args) rfl hcl)
  cases hnm.symm.trans f1
  have hat : H[a]? = some (vp_cell cA x) := (hA.2.2 a _ he).2
  intro T hT X
  have hcellT : T.heap[a]? = some (vp_cell cA x) := by rw [hT]; exact hat
  obtain ⟨-, kA, hkA, comp, hkind⟩ := State.isArrayOf_alike X.warmed.alike ((hK.2 t0 _ ht).1 0 (fun _ => .null))
  obtain ⟨-, kS, hkS, compS, hkindS⟩ := (hK.2 t0 _ ht).1 0 (fun _ => .null)
  obtain ⟨vm', X', stp⟩ := X.cloneArray hx hown (hts _ hlink) (hts _ hsame) (hts _ hnat) (hts _ hinst) (hts _ hsel) (a := a) (cell := vp_cell cA x) hcellT (fun k h => by rw [hvm0] at h; cases h) (by rw [hvm0]; exact fun h => by cases h) (by rw [hcl0]; exact hnm) f2 (by rw [hcl0]; exact f3)
    (fun i v hv => by
      rw [hcl0]
      have hk' : T.vm.classes[cA]? = some kA := hkA
      simpa [State.fitsSlot, State.slotType?, hk', hkind] using hfit i v hv)
    (g := F0 m pc ls (.ref a :: st)) rfl (by rw [hml]; exact hL.1) rfl (by rw [hb]; exact hdg) hframes (by show 2 * 0 + _ + 14 ≤ _; omega) hcells (by rw [hsz]; exact hslots) (hloader := by rw [hcl0]; exact Vm.clonesLoader_of_array hkS hkindS)
  rw [hcellE, hsz] at X'
  generalize hH1 : H.push (vp_cell cA x) = H1
  have z0 := hA.2.1
  have z1 : H1.size = hi + 1 := by rw [← hH1, Array.size_push, z0]
  have e1 : H1[hi]? = some (vp_cell cA x) := by rw [← hH1, ← z0, Array.getElem?_push_size]
  have o1 : ∀ q : Nat, q < hi → H1[q]? = H[q]? := fun q hq => by rw [← hH1, Array.getElem?_push, if_neg (by omega)]
  obtain ⟨t, b1, b2⟩ := kk (hup h hi _) (hup_self ..) (fun q hq => hup_ne _ _ _ hq) H1 locs (ah_new hA e1 z1 o1) ⟨Nat.le_trans hS.1 (by omega), fun x h1 h2 => (o1 x (Nat.lt_of_lt_of_le h1 (by rw [← z0]; exact hS.1))).trans (hS.2.1 x h1 h2), hS.2.2⟩ ls hL ((T.setVm vm').pushCell (vp_cell cA x)) (by rw [← hH1, ← hT]; rfl) X'
  refine ⟨t, stp t ?_, b2⟩
  rw [hcellE, hT, z0]
  exact b1
theorem ax_tell {e0 : Env} {a : Nat} {e : va_E} (he : h a = some e) (kk : lo ≤ a ∧ a < hi → Gx p l e0 R s m args below meth c D cl B lo nL Q hi h cs ss L pc st) : Gx p l e0 R s m args below meth c D cl B lo nL Q hi h cs ss L pc st :=
  fun H locs hA hS ls hL => kk (ah_lt hA he) H locs hA hS ls hL
theorem ax_aretA (hC : Cx p s m args c cc nL Ts own D cl tys) {post : Option Nat → Nat → (Nat → Option va_E) → Prop} {ty : FieldType} (r : Option Nat) (hr : meth.sig.returnType = some (.array ty)) (hlocks : meth.locks = false) (hdg : decode cc pc = .ok (.areturn, 1)) (hp : post r hi h) : Gx p l e R s m args below meth c D cl B lo nL (MQ below (KQq D cl B lo tys post) args s cs ss (fun q => lo ≤ q)) hi h cs ss L pc [va_rf r] :=
  fun H locs hA hS ls hL => W.aret (v := va_rf r) hC.1.1 hC.1.2.1 hr (Or.inr ⟨ty, rfl⟩) (by cases r <;> simp [va_rf]) (fun t ht hW => ⟨⟨r, (hi, h), rfl, hp, by rw [ht]; exact hA, va_K.moved hW.alike hC.2.1⟩, hS.F ht⟩) hS.2.2 hdg hlocks
theorem ax_castA (hC : Cx p s m args c cc nL Ts own D cl tys) {nm : String} {index a : Nat} {cA : ClassId} {x : vp_A} (hlink : Cond.classLink own index nm ∈ Ts) (he : h a = some (.inl (cA, x))) (hnm : s.vm.findClass nm = some cA) (hdg : decode cc pc = .ok (.checkcast index, 3)) (kk : Gx p l e R s m args below meth c D cl B lo nL Q hi h cs ss L (pc + 3) (.ref a :: st)) : Gx p l e R s m args below meth c D cl B lo nL Q hi h cs ss L pc (.ref a :: st) :=
  fun H locs hA hS ls hL => va_castA (ws := [(a, .inl (cA, x))]) hC.1.1 hC.1.2.1 hC.1.2.2.2.1 (hC.1.2.2.2.2 _ hlink) (ah_one hA he) 0 rfl hnm hdg (kk H locs hA hS ls hL)
theorem ax_copyA (hC : Cx p s m args c cc nL Ts own D cl tys) {index a0 a n0 n1 : Nat} {c0 c1 : ClassId} {f g : Nat → Int32} {ty : FieldType} (hlink : Cond.methodLink own index arraycopyName ∈ Ts) (hnat : Cond.native arraycopyName ∈ Ts) (hstat : Cond.static arraycopyName ∈ Ts) (hini : Cond.initialized "java/lang/System" ∈ Ts)
    (he0 : h a0 = some (.inl (c0, n0, .inl f))) (he1 : h a = some (.inl (c1, n1, .inl g))) (t0 t1 : Nat) (ht0 : tys[t0]? = some (c0, ty)) (ht1 : tys[t1]? = some (c1, ty)) (hprim : refKind ty = false)
    {sp dp n : Int32} (h1 : ¬ sp < 0) (h2 : ¬ dp < 0) (h3 : ¬ n < 0) (h4 : sp.toNatClampNeg + n.toNatClampNeg ≤ n0) (h5 : dp.toNatClampNeg + n.toNatClampNeg ≤ n1) (hfit : ∀ i, i < n.toNatClampNeg → fits ty (.int (f (sp.toNatClampNeg + i))) = true)
    (hframes : 1 ≤ R.frames) (hlocals : (st.map fun v => v.category).sum + (nativeFrameWords "java/lang/System" "arraycopy" 5 + 11) ≤ R.locals) (hdg : decode cc pc = .ok (.invokestatic index, 3))
    (kk : ∀ h1, h1 a = some (.inl (c1, n1, .inl (va_cpy f g sp.toNatClampNeg dp.toNatClampNeg n.toNatClampNeg))) → (∀ q, q ≠ a → h1 q = h q) → Gx p l e R s m args below meth c D cl B lo nL Q hi h1 cs ss L (pc + 3) st) : Gx p l e R s m args below meth c D cl B lo nL Q hi h cs ss L pc (.int n :: .int dp :: .ref a :: .int sp :: .ref a0 :: st) := by
  have nn : ∀ z : Int32, ¬ z < 0 → z.toInt = (z.toNatClampNeg : Int) := by
    intro z hz
    have hz0 : (0 : Int) ≤ z.toInt := by
      have := Int32.not_lt.mp hz
      simpa using Int32.le_iff_toInt_le.mp this
    show z.toInt = ((z.toInt.toNat : Nat) : Int)
    omega
  intro H locs hA hS ls hL
  obtain ⟨⟨hx, hb, hml, hown, hts⟩, hK, hNw⟩ := hC
  have hc0 : H[a0]? = some (vp_cell c0 (n0, .inl f)) := (hA.2.2 a0 _ he0).2
  have hc1 : H[a]? = some (vp_cell c1 (n1, .inl g)) := (hA.2.2 a _ he1).2
  have hlo : lo ≤ a := (hA.2.2 a _ he1).1
  intro T hT X
  obtain ⟨-, k0, hk0, cm0, hkk0⟩ := (hK.2 t0 _ ht0).1 n0 (fun j => .int (f j))
  obtain ⟨-, k1, hk1, cm1, hkk1⟩ := (hK.2 t1 _ ht1).1 n1 (fun j => .int (g j))
  obtain ⟨vm', X', step⟩ := X.arraycopy hx hown (hts _ hlink) (hts _ hnat) (hts _ hstat) (hts _ hini) (src := a0) (dst := a) (cs := vp_cell c0 (n0, .inl f)) (cd := vp_cell c1 (n1, .inl g)) (srcPos := sp) (destPos := dp) (n := n) (by rw [hT]; exact hc0) (by rw [hT]; exact hc1)
    (fun _ h => by cases h) (fun _ h => by cases h) (fun h => by cases h) (fun h => by cases h) hk0 hk1 hkk0 hkk1 (by simp [hprim]) h1 h2 h3
    (by rw [nn sp h1, nn n h3]; show ¬ _ > ((arrV c0 n0 (fun j => .int (f j))).slots.size : Int); rw [arrV_size]; omega)
    (by rw [nn dp h2, nn n h3]; show ¬ _ > ((arrV c1 n1 (fun j => .int (g j))).slots.size : Int); rw [arrV_size]; omega)
    (fun vm₁ _ i hi => by
      have e : (vp_cell c0 (n0, .inl f)).slots.getD (sp.toNatClampNeg + i) .null = .int (f (sp.toNatClampNeg + i)) := by
        show (arrV c0 n0 (fun j => .int (f j))).slots.getD _ _ = _
        rw [Array.getD_eq_getD_getElem?, arrV_read _ _ (by omega)]
        rfl
      refine ⟨?_, ?_⟩
      · rw [e]
        exact hfit i hi
      · rw [e]
        exact trivial)
    (g := F0 m pc ls (.int n :: .int dp :: .ref a :: .int sp :: .ref a0 :: st)) rfl (by rw [hml]; exact hL.1) (rest := st) rfl (by rw [hb]; exact hdg) hframes (by show 2 * 0 + _ + _ ≤ _; omega)
  have e1 : copied (vp_cell c0 (n0, .inl f)) (vp_cell c1 (n1, .inl g)) sp dp n = vp_cell c1 (n1, .inl (va_cpy f g sp.toNatClampNeg dp.toNatClampNeg n.toNatClampNeg)) := va_copied (fun z => .int z) c0 c1 f g h4
  rw [e1] at X' step
  have hl : a < H.size := (Array.getElem?_eq_some_iff.mp hc1).1
  have hheap : ((T.setVm vm').setCell a (vp_cell c1 (n1, .inl (va_cpy f g sp.toNatClampNeg dp.toNatClampNeg n.toNatClampNeg)))).heap = H.setIfInBounds a (vp_cell c1 (n1, .inl (va_cpy f g sp.toNatClampNeg dp.toNatClampNeg n.toNatClampNeg))) := by rw [← hT]; rfl
  have oq : ∀ q : Nat, q ≠ a → (H.setIfInBounds a (vp_cell c1 (n1, .inl (va_cpy f g sp.toNatClampNeg dp.toNatClampNeg n.toNatClampNeg))))[q]? = H[q]? := fun q hq => by simp [Array.getElem?_setIfInBounds, Ne.symm hq]
  obtain ⟨t, a1, b1⟩ := kk (hup h a _) (hup_self ..) (fun q hq => hup_ne _ _ _ hq) _ _ (ah_put hA hlo (show (H.setIfInBounds a _)[a]? = some _ by simp [Array.getElem?_setIfInBounds, hl]) (by simp) oq) ⟨by simp; exact hS.1, fun q g1 g2 => by
      rw [oq q (fun e => g2 (by rw [e]; exact hlo))]
      exact hS.2.1 q g1 g2, fun q hq => by
      rcases List.mem_append.mp hq with h | h
      · exact hS.2.2 q h
      · obtain ⟨z, -, hz⟩ := List.mem_map.mp h
        rw [← hz]
        exact hlo⟩ ls hL _ hheap X'
  exact ⟨t, step t a1, b1⟩
end AZ
