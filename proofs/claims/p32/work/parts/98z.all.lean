def pick5 {α : Type} (a b c d e : α) : Nat → α
  | 0 => a
  | 1 => b
  | 2 => c
  | 3 => d
  | _ => e

theorem law_3K {p : Program} {l : Launch} {e : Env} {s : State} {m : MethodId} {args : Array Value} {below : List Frame} {meth : Method} {c : Code} {D : va_G} {z : Nat → ClassId} {B : Heap} {lo : Nat} {kr kv : Nat → Nat} {Q : State → Prop} (hC : Cx p s m args c cL_law 10 wsL_law RL D vwCl (ty6 z)) (hX : XSw lo B kr kv s) (hC7 : Cx p s m args c cL_law 10 wsL_law RL D vwCl (ty6 z ++ [(z 6, .object RJ0)])) {o hi0 x : Nat} {sa va nv : Nat → Nat} {wv : Nat → Bool} {TT : Nat → Tre} {f : Nat → Option Nat} (hfx : ∀ j, j < 5 → f j = some (sa j)) (ga : o + 147 ≤ x) (gb : x < hi0) : ∀ (n k hi cs ss : Nat) (h : Nat → Option va_E) (pa : Nat → Option Nat), k + n = 5 → ObS h o 0 0 → PsS z h o pa → WA z h o → WB z h o → WC z h o → Txs z kr kv h o hi0 sa va nv wv TT → Prs z h o hi pa nv wv TT k → h x = some (.inl (z 6, 5, .inr (.inr (.inr (.inr f))))) → hi0 ≤ hi → cs + 18 * n ≤ 5000 → ss + 5778 * n ≤ 900000 → (∀ (hi9 : Nat) (h9 : Nat → Option va_E) (pa9 : Nat → Option Nat) (cs9 ss9 : Nat), ObS h9 o 0 0 → PsS z h9 o pa9 → WB z h9 o → WC z h9 o → Prs z h9 o hi9 pa9 nv wv TT 5 → hi ≤ hi9 → cs9 ≤ 5000 → ss9 ≤ 900000 → Gx p l e room_1 s m args below meth c D vwCl B lo 10 Q hi9 h9 cs9 ss9 [(6, .int 0), (1, .ref o), (0, .ref (kr 19))] 177 []) → Gx p l e room_1 s m args below meth c D vwCl B lo 10 Q hi h cs ss [(6, .int (nI k)), (5, .ref x), (1, .ref o), (0, .ref (kr 19))] 116 [] := by
  intro n
  induction n with
  | zero =>
    intro k hi cs ss h pa ek hO hPs hA hB hW hT hP hx gc hcs hss hK
    obtain rfl : k = 5 := by omega
    exact law_3x hC hX rfl (hK hi h pa cs ss hO hPs hB hW hP (Nat.le_refl _) (by omega) (by omega))
  | succ n ih =>
    intro k hi cs ss h pa ek hO hPs hA hB hW hT hP hx gc hcs hss hK
    exact law_3 hC hX hC7 hO hPs hA hB hW hT hP hx hfx ga gb gc (by omega) (by omega) (by omega) (fun h8 pa8 O8 Ps8 A8 B8 W8 T8 P8 X8 => ih (k + 1) (hi + 18) (cs + 18) (ss + 5778) h8 pa8 (by omega) O8 Ps8 A8 B8 W8 T8 P8 X8 (by omega) (by omega) (by omega) (fun hi9 h9 pa9 cs9 ss9 a1 a2 a3 a4 a5 a6 a7 a8 => hK hi9 h9 pa9 cs9 ss9 a1 a2 a3 a4 a5 (by omega) a7 a8))

theorem law_all {p : Program} {l : Launch} {e : Env} {s : State} {m : MethodId} {args : Array Value} {below : List Frame} {meth : Method} {c : Code} {D : va_G} {z : Nat → ClassId} {B : Heap} {lo : Nat} {kr kv : Nat → Nat} {Q : State → Prop} (hC : Cx p s m args c cL_law 10 wsL_law RL D vwCl (ty6 z)) (hX : XSw lo B kr kv s) (hC7 : Cx p s m args c cL_law 10 wsL_law RL D vwCl (ty6 z ++ [(z 6, .object RJ0)])) {h : Nat → Option va_E} (hEnd : ∀ (hi : Nat) (h : Nat → Option va_E) (cs ss : Nat) (L : List (Nat × Value)), cs ≤ 600000 → ss ≤ 7302250 → Gx p l e room_1 s m args below meth c D vwCl B lo 10 Q hi h cs ss L 541 [.int 1]) : Gx p l e room_1 s m args below meth c D vwCl B lo 10 Q lo h 0 0 [(0, .ref (kr 19))] 0 [] := by
  refine law_1 hC hX (Nat.le_refl _) ?_
  intro w2 hi3 h3 sp vp sq vq sr vr ob S1 B1 L1 S2 B2 L2 S3 B3 L3 hb
  obtain ⟨n1, b1, c1, d1, g1⟩ := L1
  obtain ⟨n2, b2, c2, d2, g2⟩ := L2
  obtain ⟨n3, b3, c3, d3, g3⟩ := L3
  refine law_2 hC hX hC7 (Nat.le_refl _) hb ob S1 B1 S2 B2 S3 B3 n1 n2 n3 b1 c1 b2 c2 b3 c3 ?_
  intro hi4 h4 f s3 v3 s4 v4 ob4 hx hf q1 q2 q3 q4 q5 u9 w9
  obtain ⟨t1, t2, t3, t4, t5⟩ := hf
  obtain ⟨u1, u2, u3, u4, u5, u6, u7, u8⟩ := u9
  obtain ⟨⟨ok0, sz0⟩, ⟨ok2, sz2⟩, ⟨ok4, sz4⟩⟩ := five_ok (cn := cnV kv) true
  have hk0 : (kT 0).length = 3 := by decide
  have y3 : ByA z kv h4 v3 (txt 4 false 0 (tN (2, 105) (mkT (cnV kv) 3 0 0).1 tEnd tEnd)) := by
    rw [five_txt]
    exact q4.2
  have y4 : ByA z kv h4 v4 (txt 4 true 0 (tN (2, 105) (mkT (cnV kv) 3 0 0).1 tEnd tEnd)) := by
    rw [five_txt]
    exact q5.2
  have l3 : (txt 4 false 0 (tN (2, 105) (mkT (cnV kv) 3 0 0).1 tEnd tEnd)).length ≤ 110 := by
    rw [five_txt, List.length_append]
    omega
  have l4 : (txt 4 true 0 (tN (2, 105) (mkT (cnV kv) 3 0 0).1 tEnd tEnd)).length ≤ 110 := by
    rw [five_txt, List.length_append]
    omega
  obtain ⟨hO, hPs, hA, hB, hW⟩ := ob4.parts
  have hT : Txs z kr kv h4 lo hi4 (pick5 sp sq sr s3 s4) (pick5 vp vq vr v3 v4) (pick5 3 3 2 4 4) (pick5 false true w2 false true) (pick5 (mkT (cnV kv) 3 0 0).1 (mkT (cnV kv) 3 0 0).1 (mkT (cnV kv) 2 0 24).1 (tN (2, 105) (mkT (cnV kv) 3 0 0).1 tEnd tEnd) (tN (2, 105) (mkT (cnV kv) 3 0 0).1 tEnd tEnd)) := by
    intro k hk
    rcases (show k = 0 ∨ k = 1 ∨ k = 2 ∨ k = 3 ∨ k = 4 by omega) with rfl | rfl | rfl | rfl | rfl
    · exact ⟨q1.1, q1.2, Nat.le_trans n1 (by decide), ok0, Nat.le_trans (sz0 false) (by decide), (by decide : 3 ≤ 4), d1, g1, Nat.lt_trans b1 w9, Nat.lt_trans c1 w9⟩
    · exact ⟨q2.1, q2.2, Nat.le_trans n2 (by decide), ok0, Nat.le_trans (sz0 true) (by decide), (by decide : 3 ≤ 4), d2, g2, Nat.lt_trans b2 w9, Nat.lt_trans c2 w9⟩
    · exact ⟨q3.1, q3.2, Nat.le_trans n3 (by decide), ok2, Nat.le_trans (sz2 w2) (by decide), (by decide : 2 ≤ 4), d3, g3, Nat.lt_trans b3 w9, Nat.lt_trans c3 w9⟩
    · exact ⟨q4.1, y3, l3, ok4, Nat.le_trans (sz4 false) (by decide), (by decide : 4 ≤ 4), Or.inr (Nat.le_trans hb u1), Or.inr (Nat.le_trans hb u2), u5, u6⟩
    · exact ⟨q5.1, y4, l4, ok4, Nat.le_trans (sz4 true) (by decide), (by decide : 4 ≤ 4), Or.inr (Nat.le_trans hb u3), Or.inr (Nat.le_trans hb u4), u7, u8⟩
  have hfx : ∀ j, j < 5 → f j = some (pick5 sp sq sr s3 s4 j) := by
    intro j hj
    rcases (show j = 0 ∨ j = 1 ∨ j = 2 ∨ j = 3 ∨ j = 4 by omega) with rfl | rfl | rfl | rfl | rfl
    · exact t1
    · exact t2
    · exact t3
    · exact t4
    · exact t5
  refine law_3K hC hX hC7 hfx hb w9 5 0 hi4 2400 470000 h4 (fun _ => none) (by omega) hO hPs hA hB hW hT (fun j hj => absurd hj (Nat.not_lt_zero j)) hx (Nat.le_refl _) (by omega) (by omega) ?_
  intro hi5 h5 pa5 cs5 ss5 O5 Ps5 B5 W5 P5 hh5 hcs5 hss5
  refine law_5J hC hX (by omega) (by omega) 5 0 h5 (by omega) O5 Ps5 B5 P5 (by omega) ?_
  intro h6 fr6 B6
  have O6 := O5.kept (h' := h6) (fun q _ _ => fr6 q (by omega))
  have Ps6 := Ps5.kept (h' := h6) (fun q _ _ => fr6 q (by omega))
  have P6 := P5.kept (h' := h6) (fun q _ _ => fr6 q (by omega))
  have W6 := W5.kept (h' := h6) (fun q _ _ => fr6 q (by omega))
  refine law_6 hC hX O6 Ps6 B6 P6 W6.1 (fun P Q' a b => pair_fit a b) (fun P Q' a b => pair_fit a b) (fun P Q' a b h => pair_kind (n := 3) a rfl b h) (by omega) (by omega) ?_
  intro h7 fr7
  exact law_7K hC hX hEnd 4 0 hi5 cs5 ss5 h7 (by omega) (O6.kept (fun q _ _ => fr7 q (by omega))) (Ps6.kept (fun q _ _ => fr7 q (by omega))) (P6.kept (fun q _ _ => fr7 q (by omega))) (W6.ss.kept (fun q _ _ => fr7 q (by omega))) (by omega) (by omega) (by omega)
