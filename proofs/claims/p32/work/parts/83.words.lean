/-- six private methods of AbstractStringBuilder, chosen by a StringBuilder -/
def sixY : List MethodName := [⟨"java/lang/AbstractStringBuilder", "appendNull", "()Ljava/lang/AbstractStringBuilder;"⟩, ⟨"java/lang/AbstractStringBuilder", "ensureCapacityInternal", "(I)V"⟩, ⟨"java/lang/AbstractStringBuilder", "newCapacity", "(I)I"⟩, ⟨"java/lang/AbstractStringBuilder", "putStringAt", "(ILjava/lang/String;)V"⟩, ⟨"java/lang/AbstractStringBuilder", "inflateIfNeededFor", "(Ljava/lang/String;)V"⟩, ⟨"java/lang/AbstractStringBuilder", "inflate", "()V"⟩]
def lw_tbl6 : List Cond := sixY.map (fun y => Cond.selects "java/lang/StringBuilder" y y) ++ lw_tbl
theorem six_sel {y : MethodName} {s : State} {args : Array Value} (hy : y.cls = "java/lang/AbstractStringBuilder") (h0 : (Cond.selects "java/lang/StringBuilder" yJ5_isLatin1_aae02 yJ5_isLatin1_aae02).before args s = true) (hpriv : (Cond.privateMethod y).before args s = true) (hinst : (Cond.instanceMethod y).before args s = true) : (Cond.selects "java/lang/StringBuilder" y y).before args s = true := by
  obtain ⟨c, r, m, g1, g2, g3, -, mk, g5, g6⟩ := Cond.selects_spec h0
  obtain ⟨mk', methM, hn, hm, -, -⟩ := Cond.instanceMethod_spec hinst
  have hf : s.methodFound? y.cls y.name y.desc = some mk' := State.methodFound?_of_named hn (by rw [hy]; decide)
  have hcls : mk'.cls = m.cls := by
    have e1 := findClass_of_methodNamed hn
    have e2 := findClass_of_methodNamed g3
    rw [hy] at e1
    exact Option.some.inj (e1.symm.trans e2)
  have hsel : selectMethod {} s.vm c mk' = .method mk' := selectMethod_private hm (Cond.privateMethod_at hpriv mk' methM hn hm)
  simp only [Cond.before, Cond.holds, Cond.value, g1, hf, hn, hsel, hcls, g5]
  simp; exact g6
theorem six_ok {s : State} {args : Array Value} (hts : ∀ w ∈ lw_tbl, w.before args s = true) : ∀ w ∈ lw_tbl6, w.before args s = true := by
  intro w hw
  rcases List.mem_append.mp hw with hw | hw
  · obtain ⟨y, hy, rfl⟩ := List.mem_map.mp hw
    have h0 := hts (Cond.selects "java/lang/StringBuilder" yJ5_isLatin1_aae02 yJ5_isLatin1_aae02) (by decide +kernel)
    have hp : ∀ y ∈ sixY, y.cls = "java/lang/AbstractStringBuilder" ∧ Cond.privateMethod y ∈ lw_tbl ∧ Cond.instanceMethod y ∈ lw_tbl := by decide +kernel
    obtain ⟨q1, q2, q3⟩ := hp y hy
    exact six_sel q1 h0 (hts _ q2) (hts _ q3)
  · exact hts w hw
theorem chunk_of {l : List Cond} (h : (l.filter (fun w => !k2_isCode w)).all (fun w => decide (w ∈ lw_tbl6)) = true) : ∀ w ∈ l, k2_isCode w = true ∨ w ∈ lw_tbl6 := by
  intro w hw
  by_cases hc : k2_isCode w = true
  · exact Or.inl hc
  · exact Or.inr (of_decide_eq_true (List.all_eq_true.mp h w (List.mem_filter.mpr ⟨hw, by simpa using hc⟩)))
set_option maxRecDepth 100000 in
set_option maxHeartbeats 8000000 in
theorem law_codes : wsL_law.filter k2_isCode = ([75, 78, 85, 91, 153, 159, 190, 202, 219, 252, 311, 321, 350, 877, 881, 744, 755, 759, 886, 889, 894, 897, 915, 918, 922, 926, 930, 933, 635, 938, 942, 493, 952, 955, 958, 789, 961, 964, 967, 972, 976, 981, 984, 987, 990, 993, 996, 1000, 765, 769, 772, 775, 780, 783, 786, 793, 1006, 1009, 1012, 1015, 1019, 1024, 1027, 1033, 1039, 1041, 1045, 1048, 1051, 1054, 1057, 1061, 1077, 1095, 748, 751, 803, 725, 729, 733, 737, 741, 807, 811, 816, 820, 824, 827, 830, 834, 515, 839, 843, 861, 852, 847, 556, 856, 613, 865, 869, 873, 480, 483, 468, 472, 476, 499, 573, 567, 528, 531, 535, 539, 544, 548, 552, 559, 577, 581, 586, 589, 599, 603, 608, 639, 643, 647, 627, 651, 656, 660, 665, 669, 672, 677, 686, 691, 696, 700, 620, 624, 511, 632, 503, 507, 519, 524, 563, 717, 704, 708, 712, 1098, 1102, 1106, 1110, 1115, 1120, 1124, 1128, 1131, 1135, 1140, 1144, 1149, 1154, 1158, 1162, 1166, 1170, 1174, 1178, 1182, 1187, 1191, 1196, 1200, 1204, 1208, 1212, 1216, 721] : List Nat).filterMap (fun i => lw_tbl6[i]?) := rfl
set_option maxRecDepth 100000 in
set_option maxHeartbeats 8000000 in
theorem ck_wsL_law_r1 : ∀ w ∈ wsL_law_r1, k2_isCode w = true ∨ w ∈ lw_tbl6 := chunk_of (by decide +kernel)
set_option maxRecDepth 100000 in
set_option maxHeartbeats 8000000 in
theorem ck_wsL_law_r2 : ∀ w ∈ wsL_law_r2, k2_isCode w = true ∨ w ∈ lw_tbl6 := chunk_of (by decide +kernel)
set_option maxRecDepth 100000 in
set_option maxHeartbeats 8000000 in
theorem ck_wsL_law_r3 : ∀ w ∈ wsL_law_r3, k2_isCode w = true ∨ w ∈ lw_tbl6 := chunk_of (by decide +kernel)
set_option maxRecDepth 100000 in
set_option maxHeartbeats 8000000 in
theorem ck_wsL_law_r4 : ∀ w ∈ wsL_law_r4, k2_isCode w = true ∨ w ∈ lw_tbl6 := chunk_of (by decide +kernel)
set_option maxRecDepth 100000 in
set_option maxHeartbeats 8000000 in
theorem ck_wsL_law_r5 : ∀ w ∈ wsL_law_r5, k2_isCode w = true ∨ w ∈ lw_tbl6 := chunk_of (by decide +kernel)
set_option maxRecDepth 100000 in
set_option maxHeartbeats 8000000 in
theorem ck_wsL_law_r6 : ∀ w ∈ wsL_law_r6, k2_isCode w = true ∨ w ∈ lw_tbl6 := chunk_of (by decide +kernel)
set_option maxRecDepth 100000 in
set_option maxHeartbeats 8000000 in
theorem ck_wsL_law_r7 : ∀ w ∈ wsL_law_r7, k2_isCode w = true ∨ w ∈ lw_tbl6 := chunk_of (by decide +kernel)
set_option maxRecDepth 100000 in
set_option maxHeartbeats 8000000 in
theorem ck_wsL_law_r8 : ∀ w ∈ wsL_law_r8, k2_isCode w = true ∨ w ∈ lw_tbl6 := chunk_of (by decide +kernel)
set_option maxRecDepth 100000 in
set_option maxHeartbeats 8000000 in
theorem ck_wsL_law_r9 : ∀ w ∈ wsL_law_r9, k2_isCode w = true ∨ w ∈ lw_tbl6 := chunk_of (by decide +kernel)
set_option maxRecDepth 100000 in
set_option maxHeartbeats 8000000 in
theorem ck_wsL_law_r10 : ∀ w ∈ wsL_law_r10, k2_isCode w = true ∨ w ∈ lw_tbl6 := chunk_of (by decide +kernel)
set_option maxRecDepth 100000 in
set_option maxHeartbeats 8000000 in
theorem ck_wsL_law_r11 : ∀ w ∈ wsL_law_r11, k2_isCode w = true ∨ w ∈ lw_tbl6 := chunk_of (by decide +kernel)
set_option maxRecDepth 100000 in
set_option maxHeartbeats 8000000 in
theorem ck_wsL_law_r12 : ∀ w ∈ wsL_law_r12, k2_isCode w = true ∨ w ∈ lw_tbl6 := chunk_of (by decide +kernel)
set_option maxRecDepth 100000 in
set_option maxHeartbeats 8000000 in
theorem ck_wsL_law_r13 : ∀ w ∈ wsL_law_r13, k2_isCode w = true ∨ w ∈ lw_tbl6 := chunk_of (by decide +kernel)
