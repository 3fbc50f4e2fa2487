/-! the world of the law's own body: what its loops read and write -/
theorem Obj0.kept {z : Nat → ClassId} {h h' : Nat → Option va_E} {o : Nat} (q : Obj0 z h o) (hf : ∀ q, o ≤ q → q < o + 147 → h' q = h q) : Obj0 z h' o := by
  obtain ⟨a1, a2, a3, a4, a5, a6, a7, a8, a9, a10, a11⟩ := q
  exact ⟨a1.kept (fun q _ _ => hf q (by omega) (by omega)), (hf _ (by omega) (by omega)).trans a2, (hf _ (by omega) (by omega)).trans a3, a4.kept (fun q _ _ => hf q (by omega) (by omega)), a5.kept (fun q _ _ => hf q (by omega) (by omega)), a6.kept (fun q _ _ => hf q (by omega) (by omega)), a7.kept (fun q _ _ => hf q (by omega) (by omega)), (hf _ (by omega) (by omega)).trans a8, a9.kept (fun q _ _ => hf q (by omega) (by omega)), a10.kept (fun q _ _ => hf q (by omega) (by omega)), a11.kept (fun q _ _ => hf q (by omega) (by omega))⟩
/-- the reader, THE TAPE -/
def WA (z : Nat → ClassId) (h : Nat → Option va_E) (o : Nat) : Prop := RdI z h (o + 3) ∧ ∃ ty, TpS z h o ty
/-- compare, hindrance, meeting -/
def WB (z : Nat → ClassId) (h : Nat → Option va_E) (o : Nat) : Prop := CmpS z h (o + 23) ∧ HinS z h (o + 26) (o + 23) ∧ ∃ (t0 t1 : Option Nat) (nr ov : Int32), MtC z h (o + 32) (o + 23) t0 t1 nr ov
theorem WB.kept {z : Nat → ClassId} {h h' : Nat → Option va_E} {o : Nat} (q : WB z h o) (hf : ∀ q, o + 23 ≤ q → q < o + 40 → h' q = h q) : WB z h' o := by
  obtain ⟨a1, a2, t0, t1, nr, ov, a3⟩ := q
  exact ⟨a1.kept (fun q _ _ => hf q (by omega) (by omega)), a2.kept (fun q _ _ => hf q (by omega) (by omega)), t0, t1, nr, ov, a3.kept (fun q _ _ => hf q (by omega) (by omega))⟩
/-- what SESSIONS rest on, before the first is opened -/
def WC (z : Nat → ClassId) (h : Nat → Option va_E) (o : Nat) : Prop := NrS z h o ∧ RmS z h (o + 41) 0 2 0 0 0 0 0 0 ∧ BlmS z h (o + 44) 0 0 0 0 0 (fun _ => 0) ∧ Ends0 z h (o + 46) 16
theorem WC.kept {z : Nat → ClassId} {h h' : Nat → Option va_E} {o : Nat} (q : WC z h o) (hf : ∀ q, o + 40 ≤ q → q < o + 94 → h' q = h q) : WC z h' o := by
  obtain ⟨a1, a2, a3, a4⟩ := q
  exact ⟨a1.kept (fun q _ _ => hf q (by omega) (by omega)), a2.kept (fun q _ _ => hf q (by omega) (by omega)), a3.kept (fun q _ _ => hf q (by omega) (by omega)), a4.kept (fun q _ _ => hf q (by omega) (by omega))⟩
/-- the five texts -/
def Txs (z : Nat → ClassId) (kr kv : Nat → Nat) (h : Nat → Option va_E) (o hi : Nat) (sa va nv : Nat → Nat) (wv : Nat → Bool) (TT : Nat → Tre) : Prop := ∀ k, k < 5 → StV kr kv h (sa k) (va k) ∧ ByA z kv h (va k) (txt (nv k) (wv k) 0 (TT k)) ∧ (txt (nv k) (wv k) 0 (TT k)).length ≤ 110 ∧ okT (nv k) 0 (TT k) ∧ siz (nv k) (wv k) (TT k) ≤ 60 ∧ nv k ≤ 4 ∧ (sa k < o ∨ o + 147 ≤ sa k) ∧ (va k < o ∨ o + 147 ≤ va k) ∧ sa k < hi ∧ va k < hi
theorem Txs.kept {z : Nat → ClassId} {kr kv : Nat → Nat} {h h' : Nat → Option va_E} {o hi : Nat} {sa va nv : Nat → Nat} {wv : Nat → Bool} {TT : Nat → Tre} (q : Txs z kr kv h o hi sa va nv wv TT) (hf : ∀ q, (q < o ∨ o + 147 ≤ q) → q < hi → h' q = h q) : Txs z kr kv h' o hi sa va nv wv TT := fun k hk => by
  obtain ⟨a1, a2, a3, a4, a5, a6, a7, a8, a9, a10⟩ := q k hk
  exact ⟨a1.kept (hf _ a7 a9), a2.kept (hf _ a8 a10), a3, a4, a5, a6, a7, a8, a9, a10⟩
/-- the first k texts are PROTOCOLS, their DUALS stand behind the eighth -/
def Prs (z : Nat → ClassId) (h : Nat → Option va_E) (o hi : Nat) (pa : Nat → Option Nat) (nv : Nat → Nat) (wv : Nat → Bool) (TT : Nat → Tre) (k : Nat) : Prop := ∀ j, j < k → ∃ (a b : Nat) (P P' : PT), pa j = some a ∧ pa (8 + j) = some b ∧ PrC z h a (nI (pcap P)) P ∧ PrC z h b (nI (pcap P)) P' ∧ MadeP (nv j) (wv j) (TT j) P ∧ TurnD P P' ∧ o + 147 ≤ a ∧ a + 9 ≤ hi ∧ o + 147 ≤ b ∧ b + 9 ≤ hi
theorem Prs.kept {z : Nat → ClassId} {h h' : Nat → Option va_E} {o hi : Nat} {pa : Nat → Option Nat} {nv : Nat → Nat} {wv : Nat → Bool} {TT : Nat → Tre} {k : Nat} (q : Prs z h o hi pa nv wv TT k) (hf : ∀ q, o + 147 ≤ q → q < hi → h' q = h q) : Prs z h' o hi pa nv wv TT k := fun j hj => by
  obtain ⟨a, b, P, P', e1, e2, p1, p2, m, t, l1, l2, l3, l4⟩ := q j hj
  exact ⟨a, b, P, P', e1, e2, p1.kept (fun q _ _ => hf q (by omega) (by omega)), p2.kept (fun q _ _ => hf q (by omega) (by omega)), m, t, l1, l2, l3, l4⟩
theorem Prs.more {z : Nat → ClassId} {h : Nat → Option va_E} {o hi hi2 : Nat} {pa : Nat → Option Nat} {nv : Nat → Nat} {wv : Nat → Bool} {TT : Nat → Tre} {k : Nat} (q : Prs z h o hi pa nv wv TT k) (hh : hi ≤ hi2) : Prs z h o hi2 pa nv wv TT k := fun j hj => by
  obtain ⟨a, b, P, P', e1, e2, p1, p2, m, t, l1, l2, l3, l4⟩ := q j hj
  exact ⟨a, b, P, P', e1, e2, p1, p2, m, t, l1, by omega, l3, by omega⟩
theorem Prs.step {z : Nat → ClassId} {h h' : Nat → Option va_E} {o hi : Nat} {pa : Nat → Option Nat} {nv : Nat → Nat} {wv : Nat → Bool} {TT : Nat → Tre} {k : Nat} (q : Prs z h o hi pa nv wv TT k) (hk : k < 5) (hb : o + 147 ≤ hi) (hf : ∀ q, o + 147 ≤ q → q < hi → h' q = h q) {P P' : PT} (p1 : PrC z h' hi (nI (pcap P)) P) (p2 : PrC z h' (hi + 9) (nI (pcap P)) P') (m : MadeP (nv k) (wv k) (TT k) P) (t : TurnD P P') : Prs z h' o (hi + 18) (va_up (va_up pa k (some hi)) (8 + k) (some (hi + 9))) nv wv TT (k + 1) := fun j hj => by
  by_cases e : j = k
  · subst e
    exact ⟨hi, hi + 9, P, P', (va_up_ne _ _ (by omega)).trans (va_up_self ..), va_up_self .., p1, p2, m, t, hb, by omega, by omega, by omega⟩
  · obtain ⟨a, b, P1, P2, e1, e2, p3, p4, m1, t1, l1, l2, l3, l4⟩ := q j (by omega)
    exact ⟨a, b, P1, P2, (va_up_ne _ _ (by omega)).trans ((va_up_ne _ _ (by omega)).trans e1), (va_up_ne _ _ (by omega)).trans ((va_up_ne _ _ (by omega)).trans e2), p3.kept (fun q _ _ => hf q (by omega) (by omega)), p4.kept (fun q _ _ => hf q (by omega) (by omega)), m1, t1, l1, by omega, l3, by omega⟩
/-- the SESSIONS, k of them open -/
def SsS (z : Nat → ClassId) (h : Nat → Option va_E) (o k : Nat) : Prop := (∃ (rr : Nat) (st dn wt br gv ed : Int32), rr ≤ 4 ∧ RmS z h (o + 41) (nI k) (nI rr) st dn wt br gv ed ∧ st = dn + wt + br) ∧ (∃ (pa st9 nu en9 ca : Int32) (cf : Nat → Int32), BlmS z h (o + 41 + 3) pa st9 nu en9 ca cf) ∧ ∀ i, 2 * k ≤ i → i < 16 → EndS z h (o + 41 + 5 + 2 * i) 9 none 0 0 0 0 0 (fun _ => 0)
theorem WC.ss {z : Nat → ClassId} {h : Nat → Option va_E} {o : Nat} (q : WC z h o) : SsS z h o 0 := by
  obtain ⟨-, a2, a3, a4⟩ := q
  refine ⟨⟨2, 0, 0, 0, 0, 0, 0, by decide, a2, by decide⟩, ⟨_, _, _, _, _, _, a3⟩, fun i _ hi => ?_⟩
  have := a4 i hi
  exact this
theorem SsS.kept {z : Nat → ClassId} {h h' : Nat → Option va_E} {o k : Nat} (q : SsS z h o k) (hf : ∀ q, o + 41 ≤ q → q < o + 94 → h' q = h q) : SsS z h' o k := by
  obtain ⟨⟨rr, st, dn, wt, br, gv, ed, a1, a2, a3⟩, ⟨pa, st9, nu, en9, ca, cf, a4⟩, a5⟩ := q
  exact ⟨⟨rr, st, dn, wt, br, gv, ed, a1, a2.kept (fun q _ _ => hf q (by omega) (by omega)), a3⟩, ⟨pa, st9, nu, en9, ca, cf, a4.kept (fun q _ _ => hf q (by omega) (by omega))⟩, fun i h1 h2 => (a5 i h1 h2).kept (fun q _ _ => hf q (by omega) (by omega))⟩
/-- an END that was just laid -/
theorem EndI.born {z : Nat → ClassId} {h : Nat → Option va_E} {ea a : Nat} {hld : Int32} {T : PT} (hw : wfP T) (hk : stK (pK T (sN T 0))) (q : EndS z h ea hld (some a) (rd (pcap T) (pSt T) 0 0) 0 0 0 0 (fun _ => 0)) : EndI z h ea hld a T := by
  rw [(sN_eq hw 0).1] at q
  exact ⟨sN T 0, 0, 0, 0, 0, _, q, (sN_eq hw 0).2, hk, by decide, fun j hj => absurd hj (Nat.not_lt_zero j), Or.inl rfl⟩
theorem Turn_stK {P P' : PT} (t : TurnD P P') (hw : wfP P) (hk : stK (pK P (sN P 0))) : stK (pK P' (sN P' 0)) := by
  rw [t.esN]
  exact t.stK (sN_eq hw 0).2 hk
theorem Made_stK {n : Nat} {w : Bool} {T : Tre} {P : PT} (m : MadeP n w T P) : stK (pK P (sN P 0)) := by
  rw [m.beg.1]
  exact m.beg.2.2.2
theorem Obj0.parts {z : Nat → ClassId} {h : Nat → Option va_E} {o : Nat} (q : Obj0 z h o) : ObS h o 0 0 ∧ PsS z h o (fun _ => none) ∧ WA z h o ∧ WB z h o ∧ WC z h o := by
  obtain ⟨a1, a2, a3, a4, a5, a6, a7, a8, a9, a10, a11⟩ := q
  exact ⟨a1, a2, ⟨a4, _, a3⟩, ⟨a5, a6, _, _, _, _, a7⟩, ⟨_, a8⟩, a9, a10, a11⟩
