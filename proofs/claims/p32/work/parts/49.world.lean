/-! the object's own cells, in whole numbers of cells behind its address -/
theorem HinS.kept {z : Nat → ClassId} {h h' : Nat → Option va_E} {hn cm : Nat} (q : HinS z h hn cm) (hf : ∀ q, hn ≤ q → q < hn + 6 → h' q = h q) : HinS z h' hn cm := by
  obtain ⟨a, b, c, d, e, f, g, q0, q1, q2, q3, q4, q5⟩ := q
  exact ⟨a, b, c, d, e, f, g, (hf _ (by omega) (by omega)).trans q0, (hf _ (by omega) (by omega)).trans q1, (hf _ (by omega) (by omega)).trans q2, (hf _ (by omega) (by omega)).trans q3, (hf _ (by omega) (by omega)).trans q4, (hf _ (by omega) (by omega)).trans q5⟩
theorem MtC.kept {z : Nat → ClassId} {h h' : Nat → Option va_E} {mt cm : Nat} {t0 t1 : Option Nat} {nr ov : Int32} (q : MtC z h mt cm t0 t1 nr ov) (hf : ∀ q, mt ≤ q → q < mt + 8 → h' q = h q) : MtC z h' mt cm t0 t1 nr ov := by
  obtain ⟨a, b, c, d, e, f, g, i, j, k, l, m, q0, q1, q2, q3, q4, q5, q6, q7, r⟩ := q
  exact ⟨a, b, c, d, e, f, g, i, j, k, l, m, (hf _ (by omega) (by omega)).trans q0, (hf _ (by omega) (by omega)).trans q1, (hf _ (by omega) (by omega)).trans q2, (hf _ (by omega) (by omega)).trans q3, (hf _ (by omega) (by omega)).trans q4, (hf _ (by omega) (by omega)).trans q5, (hf _ (by omega) (by omega)).trans q6, (hf _ (by omega) (by omega)).trans q7, r⟩
/-- an END, its line -/
def EndS (z : Nat → ClassId) (h : Nat → Option va_E) (e : Nat) (hld : Int32) (tk : Option Nat) (nd en es ly mo : Int32) (lf : Nat → Int32) : Prop := h e = some (.inr (4, [.int hld, va_rf tk, .int nd, .int en, .int es, .int ly, .int mo, .ref (e + 1)])) ∧ h (e + 1) = some (.inl (z 1, 4, .inl lf))
theorem EndS.kept {z : Nat → ClassId} {h h' : Nat → Option va_E} {e : Nat} {hld : Int32} {tk : Option Nat} {nd en es ly mo : Int32} {lf : Nat → Int32} (q : EndS z h e hld tk nd en es ly mo lf) (hf : ∀ q, e ≤ q → q < e + 2 → h' q = h q) : EndS z h' e hld tk nd en es ly mo lf := ⟨(hf _ (by omega) (by omega)).trans q.1, (hf _ (by omega) (by omega)).trans q.2⟩
/-- THE BLAME -/
def BlmS (z : Nat → ClassId) (h : Nat → Option va_E) (o : Nat) (pa st nu en ca : Int32) (cf : Nat → Int32) : Prop := h o = some (.inr (2, [.int pa, .int st, .int nu, .int en, .int ca, .ref (o + 1)])) ∧ h (o + 1) = some (.inl (z 1, 3, .inl cf))
theorem BlmS.kept {z : Nat → ClassId} {h h' : Nat → Option va_E} {o : Nat} {pa st nu en ca : Int32} {cf : Nat → Int32} (q : BlmS z h o pa st nu en ca cf) (hf : ∀ q, o ≤ q → q < o + 2 → h' q = h q) : BlmS z h' o pa st nu en ca cf := ⟨(hf _ (by omega) (by omega)).trans q.1, (hf _ (by omega) (by omega)).trans q.2⟩
/-- what is kept of SESSIONS: the object, its row of ENDS -/
def RmS (z : Nat → ClassId) (h : Nat → Option va_E) (r : Nat) (ss rm st dn wt br gv ed : Int32) : Prop := h r = some (.inr (11, [.ref (r + 1), .ref (r + 2), .ref (r + 3), .int ss, .int rm, .int st, .int dn, .int wt, .int br, .int gv, .int ed])) ∧ ∃ ef : Nat → Option Nat, h (r + 1) = some (.inl (z 3, 16, .inr (.inr (.inr (.inr ef))))) ∧ ∀ i, i < 16 → ef i = some (r + 5 + 2 * i)
theorem RmS.kept {z : Nat → ClassId} {h h' : Nat → Option va_E} {r : Nat} {ss rm st dn wt br gv ed : Int32} (q : RmS z h r ss rm st dn wt br gv ed) (hf : ∀ q, r ≤ q → q < r + 2 → h' q = h q) : RmS z h' r ss rm st dn wt br gv ed := by
  obtain ⟨a, ef, b, c⟩ := q
  exact ⟨(hf _ (by omega) (by omega)).trans a, ef, (hf _ (by omega) (by omega)).trans b, c⟩
/-- the first k ENDS are as they were made -/
def Ends0 (z : Nat → ClassId) (h : Nat → Option va_E) (e k : Nat) : Prop := ∀ i, i < k → EndS z h (e + 2 * i) 9 none 0 0 0 0 0 (fun _ => 0)
theorem Ends0.kept {z : Nat → ClassId} {h h' : Nat → Option va_E} {e k : Nat} (q : Ends0 z h e k) (hf : ∀ q, e ≤ q → q < e + 2 * k → h' q = h q) : Ends0 z h' e k := fun i hi => (q i hi).kept (fun q h1 h2 => hf q (by omega) (by omega))
/-- the object itself -/
def ObS (h : Nat → Option va_E) (o : Nat) (on kp : Int32) : Prop := h o = some (.inr (13, [.ref (o + 1), .ref (o + 2), .int on, .ref (o + 3), .ref (o + 15), .ref (o + 21), .ref (o + 23), .ref (o + 26), .ref (o + 32), .ref (o + 40), .ref (o + 41), .ref (o + 94), .int kp]))
section AQ
variable {p : Program} {l : Launch} {e : Env} {R : Room} {s : State} {m : MethodId} {args : Array Value} {below : List Frame} {meth : Method} {c : Code} {D : va_G} {cl : List vw_C} {B : Heap} {lo nL : Nat} {Q : State → Prop} {hi : Nat} {h : Nat → Option va_E} {cs ss : Nat} {L : List (Nat × Value)} {pc : Nat} {st : List Value}
theorem ax_eqs {hi' cs' ss' : Nat} (h1 : hi = hi') (h2 : cs = cs') (h3 : ss = ss') (kk : Gx p l e R s m args below meth c D cl B lo nL Q hi' h cs' ss' L pc st) : Gx p l e R s m args below meth c D cl B lo nL Q hi h cs ss L pc st := by subst h1; subst h2; subst h3; exact kk
end AQ
