def lw_six : List MethodName := [⟨"java/lang/AbstractStringBuilder", "appendNull", "()Ljava/lang/AbstractStringBuilder;"⟩, ⟨"java/lang/AbstractStringBuilder", "ensureCapacityInternal", "(I)V"⟩, ⟨"java/lang/AbstractStringBuilder", "newCapacity", "(I)I"⟩, ⟨"java/lang/AbstractStringBuilder", "putStringAt", "(ILjava/lang/String;)V"⟩, ⟨"java/lang/AbstractStringBuilder", "inflateIfNeededFor", "(Ljava/lang/String;)V"⟩, ⟨"java/lang/AbstractStringBuilder", "inflate", "()V"⟩]
/-- the tables' words, and 'selects' of AbstractStringBuilder's private methods from a StringBuilder -/
def lw_tbl2 : List Cond := lw_six.map (fun y => Cond.selects RJ4 y y) ++ lw_tbl
theorem six_priv : ∀ y ∈ lw_six, Cond.privateMethod y ∈ tables_1 ∧ Cond.instanceMethod y ∈ tables_1 ∧ y.cls = "java/lang/AbstractStringBuilder" := by
  have h : lw_six = [⟨"java/lang/AbstractStringBuilder", "appendNull", "()Ljava/lang/AbstractStringBuilder;"⟩, ⟨"java/lang/AbstractStringBuilder", "ensureCapacityInternal", "(I)V"⟩, ⟨"java/lang/AbstractStringBuilder", "newCapacity", "(I)I"⟩, ⟨"java/lang/AbstractStringBuilder", "putStringAt", "(ILjava/lang/String;)V"⟩, ⟨"java/lang/AbstractStringBuilder", "inflateIfNeededFor", "(Ljava/lang/String;)V"⟩, ⟨"java/lang/AbstractStringBuilder", "inflate", "()V"⟩] := rfl
  rw [h]
  refine List.forall_mem_cons.mpr ⟨⟨List.mem_of_getElem? (i := 997) (by decide +kernel), List.mem_of_getElem? (i := 998) (by decide +kernel), rfl⟩, ?_⟩
  refine List.forall_mem_cons.mpr ⟨⟨List.mem_of_getElem? (i := 1001) (by decide +kernel), List.mem_of_getElem? (i := 1002) (by decide +kernel), rfl⟩, ?_⟩
  refine List.forall_mem_cons.mpr ⟨⟨List.mem_of_getElem? (i := 1005) (by decide +kernel), List.mem_of_getElem? (i := 1006) (by decide +kernel), rfl⟩, ?_⟩
  refine List.forall_mem_cons.mpr ⟨⟨List.mem_of_getElem? (i := 1074) (by decide +kernel), List.mem_of_getElem? (i := 1075) (by decide +kernel), rfl⟩, ?_⟩
  refine List.forall_mem_cons.mpr ⟨⟨List.mem_of_getElem? (i := 1078) (by decide +kernel), List.mem_of_getElem? (i := 1079) (by decide +kernel), rfl⟩, ?_⟩
  refine List.forall_mem_cons.mpr ⟨⟨List.mem_of_getElem? (i := 1083) (by decide +kernel), List.mem_of_getElem? (i := 1084) (by decide +kernel), rfl⟩, ?_⟩
  exact fun _ h => absurd h List.not_mem_nil
theorem lw_inst4 : Cond.instantiable RJ4 4 ∈ tables_1 := List.mem_of_getElem? (i := 142) (by decide +kernel)
/-- a private method is the one selected, whatever the receiver's class -/
theorem selects_priv2 {C : String} {y : MethodName} {s : State} {args : Array Value} {n : Nat} (hy : y.cls ≠ "java/lang/invoke/MethodHandle" ∧ y.cls ≠ "java/lang/invoke/VarHandle") (hins : (Cond.instantiable C n).before args s = true) (hpriv : (Cond.privateMethod y).before args s = true) (hinst : (Cond.instanceMethod y).before args s = true) : (Cond.selects C y y).before args s = true := by
  obtain ⟨c, k, hc, hk, -, hniab, -, -⟩ := Cond.instantiable_spec hins
  have hni : k.isInterface = false := (Bool.or_eq_false_iff.mp hniab).1
  obtain ⟨mk, methM, hnamed, hmethM, -, -⟩ := Cond.instanceMethod_spec hinst
  have hfound : s.methodFound? y.cls y.name y.desc = some mk := State.methodFound?_of_named hnamed hy
  have hsel : selectMethod {} s.vm c mk = .method mk := selectMethod_private hmethM (Cond.privateMethod_at hpriv mk methM hnamed hmethM)
  simp only [Cond.before, Cond.holds, Cond.value, hc, hfound, hnamed, hsel, hk]
  simp
  exact hni
theorem lw_tbl2_ok {s : State} {args : Array Value} (h : ∀ w ∈ lw_tbl, w.before args s = true) : ∀ w ∈ lw_tbl2, w.before args s = true := by
  have ht : ∀ w ∈ tables_1, w.before args s = true := fun w hw => h w (List.mem_append_right _ hw)
  refine List.forall_mem_append.mpr ⟨?_, h⟩
  intro w hw
  obtain ⟨y, hy, rfl⟩ := List.mem_map.mp hw
  obtain ⟨h1, h2, h3⟩ := six_priv y hy
  exact selects_priv2 ⟨by rw [h3]; decide, by rw [h3]; decide⟩ (ht _ lw_inst4) (ht _ h1) (ht _ h2)
theorem mem_p {big : List Cond} (ws : List Cond) (ps : List Nat) (hp : ws.filter k2_isCode = ps.filterMap (fun i => big[i]?)) (h : (ws.filter (fun w => !k2_isCode w)).all (fun w => decide (w ∈ big)) = true) : ∀ w ∈ ws, w ∈ big := by
  intro w hw
  by_cases hc : k2_isCode w = true
  · have h1 : w ∈ ws.filter k2_isCode := List.mem_filter.mpr ⟨hw, hc⟩
    rw [hp] at h1
    obtain ⟨i, -, hi⟩ := List.mem_filterMap.mp h1
    exact List.mem_of_getElem? hi
  · have h1 := List.all_eq_true.mp h w (List.mem_filter.mpr ⟨hw, by simpa using hc⟩)
    exact of_decide_eq_true h1
theorem law_mem_r1 : ∀ w ∈ wsL_law0_r1, w ∈ lw_tbl2 := mem_p _ [89, 92] (by decide +kernel) (by decide +kernel)
theorem law_mem_r2 : ∀ w ∈ wsL_law0_r2, w ∈ lw_tbl2 := mem_p _ [97, 117] (by decide +kernel) (by decide +kernel)
theorem law_mem_r3 : ∀ w ∈ wsL_law0_r3, w ∈ lw_tbl2 := mem_p _ [136] (by decide +kernel) (by decide +kernel)
theorem law_mem_r4 : ∀ w ∈ wsL_law0_r4, w ∈ lw_tbl2 := mem_p _ [142, 146, 163, 191] (by decide +kernel) (by decide +kernel)
theorem law_mem_r5 : ∀ w ∈ wsL_law0_r5, w ∈ lw_tbl2 := mem_p _ [197, 200] (by decide +kernel) (by decide +kernel)
theorem law_mem_r6 : ∀ w ∈ wsL_law0_r6, w ∈ lw_tbl2 := mem_p _ [206, 209, 248, 318] (by decide +kernel) (by decide +kernel)
theorem law_mem_r7 : ∀ w ∈ wsL_law0_r7, w ∈ lw_tbl2 := mem_p _ [348, 1337] (by decide +kernel) (by decide +kernel)
theorem law_mem_r8 : ∀ w ∈ wsL_law0_r8, w ∈ lw_tbl2 := mem_p _ [1342] (by decide +kernel) (by decide +kernel)
theorem law_mem_r9 : ∀ w ∈ wsL_law0_r9, w ∈ lw_tbl2 := mem_p _ [461, 464, 536] (by decide +kernel) (by decide +kernel)
theorem law_mem_r10 : ∀ w ∈ wsL_law0_r10, w ∈ lw_tbl2 := mem_p _ [556, 1483, 1486, 1489, 1492, 1496, 1479] (by decide +kernel) (by decide +kernel)
theorem law_mem_r11 : ∀ w ∈ wsL_law0_r11, w ∈ lw_tbl2 := mem_p _ [563, 567, 572, 577] (by decide +kernel) (by decide +kernel)
theorem law_mem_r12 : ∀ w ∈ wsL_law0_r12, w ∈ lw_tbl2 := mem_p _ [1500, 1504, 1508, 585, 588] (by decide +kernel) (by decide +kernel)
theorem law_mem_r13 : ∀ w ∈ wsL_law0_r13, w ∈ lw_tbl2 := mem_p _ [609, 1512, 1516, 616, 620] (by decide +kernel) (by decide +kernel)
theorem law_mem_r14 : ∀ w ∈ wsL_law0_r14, w ∈ lw_tbl2 := mem_p _ [1520, 1524, 628, 634] (by decide +kernel) (by decide +kernel)
theorem law_mem_r15 : ∀ w ∈ wsL_law0_r15, w ∈ lw_tbl2 := mem_p _ [1528, 1532, 655, 659] (by decide +kernel) (by decide +kernel)
theorem law_mem_r16 : ∀ w ∈ wsL_law0_r16, w ∈ lw_tbl2 := mem_p _ [663, 667, 672, 1536, 1540, 1544] (by decide +kernel) (by decide +kernel)
theorem law_mem_r17 : ∀ w ∈ wsL_law0_r17, w ∈ lw_tbl2 := mem_p _ [679, 683, 687, 691, 1548, 1552] (by decide +kernel) (by decide +kernel)
theorem law_mem_r18 : ∀ w ∈ wsL_law0_r18, w ∈ lw_tbl2 := mem_p _ [1556, 1560, 698, 1564] (by decide +kernel) (by decide +kernel)
theorem law_mem_r19 : ∀ w ∈ wsL_law0_r19, w ∈ lw_tbl2 := mem_p _ [705, 712, 717, 720, 724, 1568] (by decide +kernel) (by decide +kernel)
theorem law_mem_r20 : ∀ w ∈ wsL_law0_r20, w ∈ lw_tbl2 := mem_p _ [731, 734, 1572, 743] (by decide +kernel) (by decide +kernel)
theorem law_mem_r21 : ∀ w ∈ wsL_law0_r21, w ∈ lw_tbl2 := mem_p _ [748, 752, 756, 760, 764, 768] (by decide +kernel) (by decide +kernel)
theorem law_mem_r22 : ∀ w ∈ wsL_law0_r22, w ∈ lw_tbl2 := mem_p _ [772, 776, 780, 785, 789, 793] (by decide +kernel) (by decide +kernel)
theorem law_mem_r23 : ∀ w ∈ wsL_law0_r23, w ∈ lw_tbl2 := mem_p _ [1576, 1580, 1584, 1588, 1592, 391] (by decide +kernel) (by decide +kernel)
theorem law_mem_r24 : ∀ w ∈ wsL_law0_r24, w ∈ lw_tbl2 := mem_p _ [1596, 1600, 395, 1604, 800] (by decide +kernel) (by decide +kernel)
theorem law_mem_r25 : ∀ w ∈ wsL_law0_r25, w ∈ lw_tbl2 := mem_p _ [1608, 808, 1612, 815, 1616] (by decide +kernel) (by decide +kernel)
theorem law_mem_r26 : ∀ w ∈ wsL_law0_r26, w ∈ lw_tbl2 := mem_p _ [822, 826, 831, 837, 1620] (by decide +kernel) (by decide +kernel)
theorem law_mem_r27 : ∀ w ∈ wsL_law0_r27, w ∈ lw_tbl2 := mem_p _ [1624, 844, 1628, 854] (by decide +kernel) (by decide +kernel)
theorem law_mem_r28 : ∀ w ∈ wsL_law0_r28, w ∈ lw_tbl2 := mem_p _ [1632, 399, 1636, 863, 867] (by decide +kernel) (by decide +kernel)
theorem law_mem_r29 : ∀ w ∈ wsL_law0_r29, w ∈ lw_tbl2 := mem_p _ [1640, 875, 1644, 882, 1648] (by decide +kernel) (by decide +kernel)
theorem law_mem_r30 : ∀ w ∈ wsL_law0_r30, w ∈ lw_tbl2 := mem_p _ [889, 892, 1652, 901] (by decide +kernel) (by decide +kernel)
theorem law_mem_r31 : ∀ w ∈ wsL_law0_r31, w ∈ lw_tbl2 := mem_p _ [906, 912, 916, 920, 924, 1656] (by decide +kernel) (by decide +kernel)
theorem law_mem_r32 : ∀ w ∈ wsL_law0_r32, w ∈ lw_tbl2 := mem_p _ [1660, 932, 936, 1664, 943] (by decide +kernel) (by decide +kernel)
theorem law_mem_r33 : ∀ w ∈ wsL_law0_r33, w ∈ lw_tbl2 := mem_p _ [1668, 950, 415, 1672] (by decide +kernel) (by decide +kernel)
theorem law_mem_r34 : ∀ w ∈ wsL_law0_r34, w ∈ lw_tbl2 := mem_p _ [958, 962, 971, 967, 1676, 1680] (by decide +kernel) (by decide +kernel)
theorem law_mem_r35 : ∀ w ∈ wsL_law0_r35, w ∈ lw_tbl2 := mem_p _ [978, 411, 1684, 1687, 1691] (by decide +kernel) (by decide +kernel)
theorem law_mem_r36 : ∀ w ∈ wsL_law0_r36, w ∈ lw_tbl2 := mem_p _ [1695, 1699, 1703, 985] (by decide +kernel) (by decide +kernel)
theorem law_mem_r37 : ∀ w ∈ wsL_law0_r37, w ∈ lw_tbl2 := mem_p _ [407, 419, 423, 428, 432, 436] (by decide +kernel) (by decide +kernel)
theorem law_mem_r38 : ∀ w ∈ wsL_law0_r38, w ∈ lw_tbl2 := mem_p _ [440, 443, 447, 1708, 992] (by decide +kernel) (by decide +kernel)
theorem law_mem_r39 : ∀ w ∈ wsL_law0_r39, w ∈ lw_tbl2 := mem_p _ [997, 1712, 403, 1716, 1004] (by decide +kernel) (by decide +kernel)
theorem law_mem_r40 : ∀ w ∈ wsL_law0_r40, w ∈ lw_tbl2 := mem_p _ [1008, 1012, 1720, 452, 1724] (by decide +kernel) (by decide +kernel)
theorem law_mem_r41 : ∀ w ∈ wsL_law0_r41, w ∈ lw_tbl2 := mem_p _ [1020, 1025, 1029, 1032, 1055] (by decide +kernel) (by decide +kernel)
theorem law_mem_r42 : ∀ w ∈ wsL_law0_r42, w ∈ lw_tbl2 := mem_p _ [1059, 1062, 1067, 1071] (by decide +kernel) (by decide +kernel)
theorem law_mem_r43 : ∀ w ∈ wsL_law0_r43, w ∈ lw_tbl2 := mem_p _ [1081, 1089, 1262, 1265, 1268] (by decide +kernel) (by decide +kernel)
theorem law_mem_r44 : ∀ w ∈ wsL_law0_r44, w ∈ lw_tbl2 := mem_p _ [1297, 1162, 1165, 1168, 1171] (by decide +kernel) (by decide +kernel)
theorem law_mem_r45 : ∀ w ∈ wsL_law0_r45, w ∈ lw_tbl2 := mem_p _ [1178, 1095, 1098, 1101, 1106, 1181] (by decide +kernel) (by decide +kernel)
theorem law_mem_r46 : ∀ w ∈ wsL_law0_r46, w ∈ lw_tbl2 := mem_p _ [1109, 1303, 1306, 1309, 1137, 1140] (by decide +kernel) (by decide +kernel)
theorem law_mem_r47 : ∀ w ∈ wsL_law0_r47, w ∈ lw_tbl2 := mem_p _ [1143, 1146, 1149, 1152, 1312, 1315, 1318, 1321] (by decide +kernel) (by decide +kernel)
theorem law_mem_r48 : ∀ w ∈ wsL_law0_r48, w ∈ lw_tbl2 := mem_p _ [1207, 1209, 1326, 1329, 1236, 1728] (by decide +kernel) (by decide +kernel)
theorem law_mem_r49 : ∀ w ∈ wsL_law0_r49, w ∈ lw_tbl2 := mem_p _ [1731, 1734] (by decide +kernel) (by decide +kernel)
theorem law_mem_wsX100 : ∀ w ∈ wsX100, w ∈ lw_tbl2 := mem_p _ [] (by decide +kernel) (by decide +kernel)
theorem law_mem_wsX110 : ∀ w ∈ wsX110, w ∈ lw_tbl2 := mem_p _ [] (by decide +kernel) (by decide +kernel)
theorem law_mem_wsX90 : ∀ w ∈ wsX90, w ∈ lw_tbl2 := mem_p _ [] (by decide +kernel) (by decide +kernel)
theorem law_mem_wsX70 : ∀ w ∈ wsX70, w ∈ lw_tbl2 := mem_p _ [] (by decide +kernel) (by decide +kernel)
theorem law_mem_wsX20 : ∀ w ∈ wsX20, w ∈ lw_tbl2 := mem_p _ [] (by decide +kernel) (by decide +kernel)
theorem law_mem_wsX60 : ∀ w ∈ wsX60, w ∈ lw_tbl2 := mem_p _ [] (by decide +kernel) (by decide +kernel)
theorem law_mem_wsX40 : ∀ w ∈ wsX40, w ∈ lw_tbl2 := mem_p _ [] (by decide +kernel) (by decide +kernel)
theorem law_mem_wsX50 : ∀ w ∈ wsX50, w ∈ lw_tbl2 := mem_p _ [] (by decide +kernel) (by decide +kernel)
theorem law_mem_wsX30 : ∀ w ∈ wsX30, w ∈ lw_tbl2 := mem_p _ [] (by decide +kernel) (by decide +kernel)
theorem law_mem_wsX00 : ∀ w ∈ wsX00, w ∈ lw_tbl2 := mem_p _ [] (by decide +kernel) (by decide +kernel)
theorem law_mem_wsX10 : ∀ w ∈ wsX10, w ∈ lw_tbl2 := mem_p _ [] (by decide +kernel) (by decide +kernel)
theorem law_mem_wsJ40 : ∀ w ∈ wsJ40, w ∈ lw_tbl2 := mem_p _ [] (by decide +kernel) (by decide +kernel)
theorem law_mem_wsX80 : ∀ w ∈ wsX80, w ∈ lw_tbl2 := mem_p _ [] (by decide +kernel) (by decide +kernel)
theorem law_mem_wsJx7c7330 : ∀ w ∈ wsJx7c7330, w ∈ lw_tbl2 := mem_p _ [] (by decide +kernel) (by decide +kernel)
theorem law_mem_wsJx000600 : ∀ w ∈ wsJx000600, w ∈ lw_tbl2 := mem_p _ [] (by decide +kernel) (by decide +kernel)
theorem wsL_law_x1 : ∀ w ∈ (vx_atS RX10 67 "java/lang/IllegalArgumentException" ["java/lang/RuntimeException", "java/lang/Exception"]).filter goodWord, w ∈ lw_tbl2 := by decide +kernel
theorem wsL_law_x2 : ∀ w ∈ (vx_atS RX10 289 "java/lang/IndexOutOfBoundsException" ["java/lang/RuntimeException", "java/lang/Exception"]).filter goodWord, w ∈ lw_tbl2 := by decide +kernel
theorem wsL_law_x3 : ∀ w ∈ (vx_atS RX10 92 "java/lang/IllegalStateException" ["java/lang/RuntimeException", "java/lang/Exception"]).filter goodWord, w ∈ lw_tbl2 := by decide +kernel
theorem law_mem_at : ∀ w ∈ atM0, w ∈ lw_tbl2 := by decide +kernel
