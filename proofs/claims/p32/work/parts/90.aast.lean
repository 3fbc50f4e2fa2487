section AW
variable {p : Program} {l : Launch} {e : Env} {R : Room} {s : State} {m : MethodId} {args : Array Value} {below : List Frame} {meth : Method} {c : Code} {D : va_G} {cl : List vw_C} {B : Heap} {lo nL : Nat} {Q : State → Prop} {hi : Nat} {h : Nat → Option va_E} {cs ss : Nat} {L : List (Nat × Value)} {pc : Nat} {st : List Value} {cc : ByteArray} {Ts : List Cond} {own : String} {tys : List (ClassId × FieldType)} {kr kv : Nat → Nat}
/-- a string, made or a constant, is put into a row of Strings -/
theorem ax_aastS (hC : Cx p s m args c cc nL Ts own D cl tys) (hX : XSw lo B kr kv s) {a n v vv : Nat} {cA : ClassId} {f : Nat → Option Nat} {i : Int32} (he : h a = some (.inl (cA, n, .inr (.inr (.inr (.inr f)))))) (t0 : Nat) (ht : tys[t0]? = some (cA, .object RJ0)) (hv : StV kr kv h v vv) (hc : cl[0]? = some (RJ0, TJ0, 4)) (hin : vp_in i n) (hdg : decode cc pc = .ok (.aastore, 1))
    (kk : ∀ h1, h1 a = some (.inl (cA, n, .inr (.inr (.inr (.inr (va_up f i.toNatClampNeg (some v))))))) → (∀ q, q ≠ a → h1 q = h q) → Gx p l e R s m args below meth c D cl B lo nL Q hi h1 cs ss L (pc + 1) st) : Gx p l e R s m args below meth c D cl B lo nL Q hi h cs ss L pc (.ref v :: .int i :: .ref a :: st) := by
  intro H locs hA hS ls hL
  obtain ⟨cellV, g1, gs, g2⟩ := rc_s hC hX hv hc H locs hA hS
  obtain ⟨⟨hx, hb, -, -, -⟩, hK, hNw⟩ := hC
  have hlt : i.toNatClampNeg < n := Nat.not_le.mp fun q => hin (Or.inr q)
  have h0 : ¬ i < 0 := fun q => hin (Or.inl q)
  have hcls := (hK.1 0 _ hc).2
  obtain ⟨kA, comp, k1, k2, k3, -⟩ := (hK.2 t0 _ ht).2
  have hcomp : comp = D.1 0 := Option.some.inj (k3.symm.trans hcls.1)
  subst hcomp
  have hcv : cellV.cls = D.1 0 := Option.some.inj (g2.symm.trans hcls.1)
  obtain ⟨kC, hkC, -⟩ := id hcls.2
  refine W.aast hx hb (ah_one hA he 0 _ rfl) (fun q h => by cases h) (fun h => by cases h) k1 k2 rfl hkC ⟨h0, by show _ < (arrV _ _ _).slots.size; rw [arrV_size]; exact hlt⟩ g1 (fun q h => by rw [h] at gs; cases gs) (by rw [hcv]; exact hkC) (by rw [hcv]; exact va_assign hcls) rfl rfl hdg fun H1 e1 z oq => ?_
  refine kk (hup h a _) (hup_self ..) (fun q hq => hup_ne _ _ _ hq) H1 _ (ah_put hA (hA.2.2 a _ he).1 ?_ z oq) (hS.put z oq (hA.2.2 a _ he).1) ls hL
  show H1[a]? = some (vp_cell _ _)
  rw [e1, vp_cell_q, vp_cell_q, arrV_store]
  congr 2
  funext q
  by_cases hq : q = i.toNatClampNeg
  · subst hq
    simp [updV, va_up, va_rf]
  · simp [updV, va_up, hq]
end AW
