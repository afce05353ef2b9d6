theorem law_mem_wsJ00 : ∀ w ∈ u_ws RJ0 TJ0 4, w ∈ lw_tbl2 := mem_p _ [] (by decide +kernel) (by decide +kernel)
theorem inst_J0 : Cond.instantiable RJ0 4 ∈ lw_tbl2 := by decide +kernel
theorem inst_J4 : Cond.instantiable RJ4 4 ∈ lw_tbl2 := by decide +kernel
theorem inst_Jx00060 : Cond.instantiable RJx00060 6 ∈ lw_tbl2 := by decide +kernel
theorem inst_Jx7c733 : Cond.instantiable RJx7c733 6 ∈ lw_tbl2 := by decide +kernel
theorem inst_X0 : Cond.instantiable RX0 5 ∈ lw_tbl2 := by decide +kernel
theorem inst_X1 : Cond.instantiable RX1 6 ∈ lw_tbl2 := by decide +kernel
theorem inst_X2 : Cond.instantiable RX2 10 ∈ lw_tbl2 := by decide +kernel
theorem inst_X3 : Cond.instantiable RX3 4 ∈ lw_tbl2 := by decide +kernel
theorem inst_X4 : Cond.instantiable RX4 3 ∈ lw_tbl2 := by decide +kernel
theorem inst_X5 : Cond.instantiable RX5 3 ∈ lw_tbl2 := by decide +kernel
theorem inst_X6 : Cond.instantiable RX6 7 ∈ lw_tbl2 := by decide +kernel
theorem inst_X7 : Cond.instantiable RX7 3 ∈ lw_tbl2 := by decide +kernel
theorem inst_X8 : Cond.instantiable RX8 3 ∈ lw_tbl2 := by decide +kernel
theorem inst_X9 : Cond.instantiable RX9 3 ∈ lw_tbl2 := by decide +kernel
theorem inst_X10 : Cond.instantiable RX10 8 ∈ lw_tbl2 := by decide +kernel
theorem stk_false {l : Launch} (h : l.flags = flags0) : l.stackTraces = false := by
  unfold Launch.stackTraces
  rw [h]
  decide +kernel
theorem st_classes {s : State} {args : Array Value} (hts : ∀ w ∈ lw_tbl2, w.before args s = true) : ∃ (dC : Nat → ClassId) (dI : Nat → Nat → Nat), ∀ (c : Nat) (q : vw_C), vwCl[c]? = some q → u_Kn s q.1 q.2.1 q.2.2 (dC c) (dI c) := by
  obtain ⟨c0, i0, h0⟩ := u_known (C := RJ0) (T := TJ0) (N := 4) hts law_mem_wsJ00 (hts _ inst_J0)
  obtain ⟨c1, i1, h1⟩ := u_known (C := RJ4) (T := TJ4) (N := 4) hts law_mem_wsJ40 (hts _ inst_J4)
  obtain ⟨c2, i2, h2⟩ := u_known (C := RJx00060) (T := TJx00060) (N := 6) hts law_mem_wsJx000600 (hts _ inst_Jx00060)
  obtain ⟨c3, i3, h3⟩ := u_known (C := RJx7c733) (T := TJx7c733) (N := 6) hts law_mem_wsJx7c7330 (hts _ inst_Jx7c733)
  obtain ⟨c4, i4, h4⟩ := u_known (C := RX0) (T := TX0) (N := 5) hts law_mem_wsX00 (hts _ inst_X0)
  obtain ⟨c5, i5, h5⟩ := u_known (C := RX1) (T := TX1) (N := 6) hts law_mem_wsX10 (hts _ inst_X1)
  obtain ⟨c6, i6, h6⟩ := u_known (C := RX2) (T := TX2) (N := 10) hts law_mem_wsX20 (hts _ inst_X2)
  obtain ⟨c7, i7, h7⟩ := u_known (C := RX3) (T := TX3) (N := 4) hts law_mem_wsX30 (hts _ inst_X3)
  obtain ⟨c8, i8, h8⟩ := u_known (C := RX4) (T := TX4) (N := 3) hts law_mem_wsX40 (hts _ inst_X4)
  obtain ⟨c9, i9, h9⟩ := u_known (C := RX5) (T := TX5) (N := 3) hts law_mem_wsX50 (hts _ inst_X5)
  obtain ⟨c10, i10, h10⟩ := u_known (C := RX6) (T := TX6) (N := 7) hts law_mem_wsX60 (hts _ inst_X6)
  obtain ⟨c11, i11, h11⟩ := u_known (C := RX7) (T := TX7) (N := 3) hts law_mem_wsX70 (hts _ inst_X7)
  obtain ⟨c12, i12, h12⟩ := u_known (C := RX8) (T := TX8) (N := 3) hts law_mem_wsX80 (hts _ inst_X8)
  obtain ⟨c13, i13, h13⟩ := u_known (C := RX9) (T := TX9) (N := 3) hts law_mem_wsX90 (hts _ inst_X9)
  obtain ⟨c14, i14, h14⟩ := u_known (C := RX10) (T := TX10) (N := 8) hts law_mem_wsX100 (hts _ inst_X10)
  refine ⟨fun c => ([c0, c1, c2, c3, c4, c5, c6, c7, c8, c9, c10, c11, c12, c13, c14] : List ClassId).getD c c0, fun c => ([i0, i1, i2, i3, i4, i5, i6, i7, i8, i9, i10, i11, i12, i13, i14] : List (Nat → Nat)).getD c i0, fun c q hq => ?_⟩
  match c, hq with
  | 0, hq =>
    obtain rfl := Option.some.inj (show some (RJ0, TJ0, 4) = some q from hq)
    exact h0
  | 1, hq =>
    obtain rfl := Option.some.inj (show some (RJ4, TJ4, 4) = some q from hq)
    exact h1
  | 2, hq =>
    obtain rfl := Option.some.inj (show some (RJx00060, TJx00060, 6) = some q from hq)
    exact h2
  | 3, hq =>
    obtain rfl := Option.some.inj (show some (RJx7c733, TJx7c733, 6) = some q from hq)
    exact h3
  | 4, hq =>
    obtain rfl := Option.some.inj (show some (RX0, TX0, 5) = some q from hq)
    exact h4
  | 5, hq =>
    obtain rfl := Option.some.inj (show some (RX1, TX1, 6) = some q from hq)
    exact h5
  | 6, hq =>
    obtain rfl := Option.some.inj (show some (RX2, TX2, 10) = some q from hq)
    exact h6
  | 7, hq =>
    obtain rfl := Option.some.inj (show some (RX3, TX3, 4) = some q from hq)
    exact h7
  | 8, hq =>
    obtain rfl := Option.some.inj (show some (RX4, TX4, 3) = some q from hq)
    exact h8
  | 9, hq =>
    obtain rfl := Option.some.inj (show some (RX5, TX5, 3) = some q from hq)
    exact h9
  | 10, hq =>
    obtain rfl := Option.some.inj (show some (RX6, TX6, 7) = some q from hq)
    exact h10
  | 11, hq =>
    obtain rfl := Option.some.inj (show some (RX7, TX7, 3) = some q from hq)
    exact h11
  | 12, hq =>
    obtain rfl := Option.some.inj (show some (RX8, TX8, 3) = some q from hq)
    exact h12
  | 13, hq =>
    obtain rfl := Option.some.inj (show some (RX9, TX9, 3) = some q from hq)
    exact h13
  | 14, hq =>
    obtain rfl := Option.some.inj (show some (RX10, TX10, 8) = some q from hq)
    exact h14
  | n + 15, hq =>
    have h : (none : Option vw_C) = some q := hq
    cases h
theorem st_prim {s : State} {args : Array Value} {t : FieldType} (h : (Cond.arrayClass t).before args s = true) : ∃ c : ClassId, ArrOfT s c t ∧ s.vm.findClass ("[" ++ t.toString) = some c := by
  obtain ⟨c, k, comp, h1, h2, h3⟩ := Cond.arrayClass_spec h
  exact ⟨c, fun n z => ⟨fun k h => (by cases h), k, h2, comp, h3⟩, h1⟩
theorem st_obj {s : State} {args : Array Value} {C : String} (h : (Cond.arrayOver (.object C)).before args s = true) : ∃ c : ClassId, ArrOfT s c (.object C) ∧ va_RA s c (.object C) := by
  obtain ⟨comp, c, k, h1, h2, h3, h4, h5⟩ := Cond.arrayOver_spec h
  exact ⟨c, fun n z => ⟨fun k h => (by cases h), k, h3, comp, h4⟩, ⟨k, comp, h3, h4, h1, h5⟩⟩
theorem st_arr {s : State} {args : Array Value} {t : FieldType} (h : (Cond.arrayOver (.array t)).before args s = true) : ∃ c : ClassId, ArrOfT s c (.array t) ∧ s.vm.findClass ("[" ++ (FieldType.array t).toString) = some c := by
  obtain ⟨comp, c, k, h1, h2, h3, h4, h5⟩ := arrayOverA_spec h
  exact ⟨c, fun n z => ⟨fun k h => (by cases h), k, h3, comp, h4⟩, h5⟩
theorem w_byte : Cond.arrayClass .byte ∈ lw_tbl2 := by decide +kernel
theorem w_char : Cond.arrayClass .char ∈ lw_tbl2 := by decide +kernel
theorem w_int : Cond.arrayClass .int ∈ lw_tbl2 := by decide +kernel
theorem w_bool : Cond.arrayClass .boolean ∈ lw_tbl2 := by decide +kernel
theorem w_box : Cond.arrayOver (.object "BallotFoundry$Box") ∈ lw_tbl2 := by decide +kernel
theorem w_person : Cond.arrayOver (.object "BallotFoundry$Person") ∈ lw_tbl2 := by decide +kernel
theorem w_ints : Cond.arrayOver (.array .int) ∈ lw_tbl2 := by decide +kernel
theorem st_K {s : State} {args : Array Value} (hts : ∀ w ∈ lw_tbl2, w.before args s = true) (B : Nat) : ∃ G : GPz, gK (zg G) s ∧ G.2.2.2 = B := by
  obtain ⟨dC, dI, hC⟩ := st_classes hts
  obtain ⟨y0, a0, b0⟩ := st_prim (hts _ w_byte)
  obtain ⟨y1, a1, b1⟩ := st_prim (hts _ w_char)
  obtain ⟨y2, a2, b2⟩ := st_prim (hts _ w_int)
  obtain ⟨y3, a3, b3⟩ := st_prim (hts _ w_bool)
  obtain ⟨y4, a4, b4⟩ := st_obj (hts _ w_box)
  obtain ⟨y5, a5, b5⟩ := st_obj (hts _ w_person)
  obtain ⟨y6, a6, b6⟩ := st_arr (hts _ w_ints)
  refine ⟨(dC, dI, fun k => ([y0, y1, y2, y3, y4, y5, y6] : List ClassId).getD k y0, B), ⟨hC, fun k q hq => ?_⟩, rfl⟩
  match k, hq with
  | 0, hq => obtain rfl := Option.some.inj (show some (y0, FieldType.byte) = some q from hq); exact ⟨a0, b0⟩
  | 1, hq => obtain rfl := Option.some.inj (show some (y1, FieldType.char) = some q from hq); exact ⟨a1, b1⟩
  | 2, hq => obtain rfl := Option.some.inj (show some (y2, FieldType.int) = some q from hq); exact ⟨a2, b2⟩
  | 3, hq => obtain rfl := Option.some.inj (show some (y3, FieldType.boolean) = some q from hq); exact ⟨a3, b3⟩
  | 4, hq => obtain rfl := Option.some.inj (show some (y4, FieldType.object "BallotFoundry$Box") = some q from hq); exact ⟨a4, b4⟩
  | 5, hq => obtain rfl := Option.some.inj (show some (y5, FieldType.object "BallotFoundry$Person") = some q from hq); exact ⟨a5, b5⟩
  | 6, hq => obtain rfl := Option.some.inj (show some (y6, FieldType.array .int) = some q from hq); exact ⟨a6, b6⟩
  | n + 7, hq =>
    have h : (none : Option (ClassId × FieldType)) = some q := hq
    cases h
theorem nf_mem : ∀ q ∈ gNF, Cond.fieldLinkNest q.1 q.2.1 q.2.2.1 q.2.2.2.1 q.2.2.2.2.1 q.2.2.2.2.2 ∈ lw_tbl2 := by decide +kernel
theorem nm_mem : ∀ q ∈ gNM, Cond.methodLinkNest q.1 q.2.1 q.2.2.1 q.2.2.2 ∈ lw_tbl2 := by decide +kernel
theorem sr_mem : ∀ q ∈ gSR, Cond.stringRef q.1 q.2.1 q.2.2 ∈ lw_tbl2 := by decide +kernel
abbrev preC0 : Cond := Jvm.Cond.and given_1 narrow_1
theorem sx_mem : ∀ q ∈ gSR, Cond.exactly (.string q.1 q.2.1) "java/lang/String" ∈ flatC preC0 := by decide +kernel
theorem xw_mem : ∀ q ∈ gXs, ∀ w ∈ (vx_atS RX10 q.1 q.2 gUp).filter (fun w => !goodWord w), w ∈ lw_tbl2 := by decide +kernel
theorem xw_on : ∀ q ∈ gXs, ∀ w ∈ (vx_atS RX10 q.1 q.2 gUp).filter (fun w => !goodWord w), w.onTables = true := by decide +kernel
theorem tens_list : ((flatC preC0).drop 117).take 100 = (List.range 100).map (fun j => Cond.eq (.elem (.static "java/lang/Integer" "DigitTens" "[B") (.int (Int32.ofNat j))) (.int (nI (48 + j / 10)))) := by decide +kernel
theorem tens_mem : ∀ j, j < 100 → Cond.eq (.elem (.static "java/lang/Integer" "DigitTens" "[B") (.int (Int32.ofNat j))) (.int (nI (48 + j / 10))) ∈ flatC preC0 := by
  intro j hj
  have h := List.mem_map_of_mem (f := fun j => Cond.eq (.elem (.static "java/lang/Integer" "DigitTens" "[B") (.int (Int32.ofNat j))) (.int (nI (48 + j / 10)))) (List.mem_range.mpr hj)
  rw [← tens_list] at h
  exact List.mem_of_mem_drop (List.mem_of_mem_take h)
theorem ones_list : ((flatC preC0).drop 14).take 100 = (List.range 100).map (fun j => Cond.eq (.elem (.static "java/lang/Integer" "DigitOnes" "[B") (.int (Int32.ofNat j))) (.int (nI (48 + j % 10)))) := by decide +kernel
theorem ones_mem : ∀ j, j < 100 → Cond.eq (.elem (.static "java/lang/Integer" "DigitOnes" "[B") (.int (Int32.ofNat j))) (.int (nI (48 + j % 10))) ∈ flatC preC0 := by
  intro j hj
  have h := List.mem_map_of_mem (f := fun j => Cond.eq (.elem (.static "java/lang/Integer" "DigitOnes" "[B") (.int (Int32.ofNat j))) (.int (nI (48 + j % 10)))) (List.mem_range.mpr hj)
  rw [← ones_list] at h
  exact List.mem_of_mem_drop (List.mem_of_mem_take h)
theorem st_T {s : State} {b : Nat} {A : Nat → Prop} (hA : ∀ a : Nat, a < s.heap.size → ¬ A a) (hts : ∀ w ∈ lw_tbl2, w.before #[Value.ref b] s = true) (hgv : ∀ w ∈ flatC preC0, w.before #[Value.ref b] s = true) (n : String) (g : Nat → Nat) (hl : Cond.laysStatic "java/lang/Integer" n "[B" ∈ lw_tbl2) (hi : Cond.initialized "java/lang/Integer" ∈ lw_tbl2) (ha : Cond.arrayOf (.static "java/lang/Integer" n "[B") .byte ∈ flatC preC0) (hn : Cond.eq (.length (.static "java/lang/Integer" n "[B")) (.int 100) ∈ flatC preC0) (he : ∀ j, j < 100 → Cond.eq (.elem (.static "java/lang/Integer" n "[B") (.int (Int32.ofNat j))) (.int (nI (g j))) ∈ flatC preC0) : ∃ t : Nat, va_Z "java/lang/Integer" n "[B" (.ref t) A s s.heap ∧ va_T .byte t 100 (fun j => .int (nI (g j))) A s s.heap := by
  obtain ⟨t, h1, h2⟩ := va_Tof (args := #[Value.ref b]) (s := s) (tm := .static "java/lang/Integer" n "[B") (ty := .byte) (N := 100) (f := fun j => .int (nI (g j))) (A := A) (by decide) (hgv _ ha) (va_eqv (hgv _ hn) rfl) (fun j hj => va_eqv (hgv _ (he j hj)) rfl) hA
  exact ⟨t, va_Zof (hts _ hl) (hts _ hi) h1 hA, h2⟩
theorem wz_cs : Cond.laysStatic "java/lang/String" "COMPACT_STRINGS" "Z" ∈ lw_tbl2 := by decide +kernel
theorem wz_s : Cond.initialized "java/lang/String" ∈ lw_tbl2 := by decide +kernel
theorem wz_cv : Cond.eq (.static "java/lang/String" "COMPACT_STRINGS" "Z") (.int 1) ∈ flatC preC0 := by decide +kernel
theorem wz_sf : Cond.laysStatic "jdk/internal/util/Preconditions" "SIOOBE_FORMATTER" "Ljava/util/function/BiFunction;" ∈ lw_tbl2 := by decide +kernel
theorem wz_p : Cond.initialized "jdk/internal/util/Preconditions" ∈ lw_tbl2 := by decide +kernel
theorem wz_sr : Cond.isRef (.static "jdk/internal/util/Preconditions" "SIOOBE_FORMATTER" "Ljava/util/function/BiFunction;") ∈ flatC preC0 := by decide +kernel
theorem wz_us : Cond.laysStatic Bundle.tN "UNASSIGNED_STACK" Bundle.steD ∈ lw_tbl2 := by decide +kernel
theorem wz_ss : Cond.laysStatic Bundle.tN "SUPPRESSED_SENTINEL" Bundle.listD ∈ lw_tbl2 := by decide +kernel
theorem wz_t : Cond.initialized Bundle.tN ∈ lw_tbl2 := by decide +kernel
theorem wz_ur : Cond.isRef (.static Bundle.tN "UNASSIGNED_STACK" Bundle.steD) ∈ flatC preC0 := by decide +kernel
theorem wz_sr2 : Cond.isRef (.static Bundle.tN "SUPPRESSED_SENTINEL" Bundle.listD) ∈ flatC preC0 := by decide +kernel
theorem wz_it : Cond.laysStatic "java/lang/Integer" "DigitTens" "[B" ∈ lw_tbl2 := by decide +kernel
theorem wz_io : Cond.laysStatic "java/lang/Integer" "DigitOnes" "[B" ∈ lw_tbl2 := by decide +kernel
theorem wz_i : Cond.initialized "java/lang/Integer" ∈ lw_tbl2 := by decide +kernel
theorem wz_at : Cond.arrayOf (.static "java/lang/Integer" "DigitTens" "[B") .byte ∈ flatC preC0 := by decide +kernel
theorem wz_ao : Cond.arrayOf (.static "java/lang/Integer" "DigitOnes" "[B") .byte ∈ flatC preC0 := by decide +kernel
theorem wz_nt : Cond.eq (.length (.static "java/lang/Integer" "DigitTens" "[B")) (.int 100) ∈ flatC preC0 := by decide +kernel
theorem wz_no : Cond.eq (.length (.static "java/lang/Integer" "DigitOnes" "[B")) (.int 100) ∈ flatC preC0 := by decide +kernel
theorem st_S {s : State} {b : Nat} {G : GPz} (hB : G.2.2.2 = s.heap.size) (hts : ∀ w ∈ lw_tbl2, w.before #[Value.ref b] s = true) (hgv : ∀ w ∈ flatC preC0, w.before #[Value.ref b] s = true) : gS (zg G) s := by
  have hA : ∀ a : Nat, a < s.heap.size → ¬ gA (zg G) a := by
    intro a ha h
    have h2 : G.2.2.2 ≤ a := h
    omega
  refine ⟨fun q hq => va_Nw.of rfl (hts _ (nf_mem q hq)), fun q hq => va_Nw.of rfl (hts _ (nm_mem q hq)), fun q hq => ?_, fun q hq w hw => va_Nw.of (xw_on q hq w hw) (hts _ (xw_mem q hq w hw)), vx_Zqof (hts _ wz_us) (hts _ wz_t) (hgv _ wz_ur) hA, vx_Zqof (hts _ wz_ss) (hts _ wz_t) (hgv _ wz_sr2) hA, va_Zof (hts _ wz_cs) (hts _ wz_s) (va_eqv (hgv _ wz_cv) rfl) hA, va_Zqof (hts _ wz_sf) (hts _ wz_p) (hgv _ wz_sr) hA, st_T hA hts hgv "DigitTens" (fun j => 48 + j / 10) wz_it wz_i wz_at wz_nt tens_mem, st_T hA hts hgv "DigitOnes" (fun j => 48 + j % 10) wz_io wz_i wz_ao wz_no ones_mem⟩
  obtain ⟨a, c, cell, k, h1, -⟩ := Cond.exactly_spec (show (Cond.exactly (.string q.1 q.2.1) "java/lang/String").holds #[Value.ref b] s none s [] = true from hgv _ (sx_mem q hq))
  exact ⟨a, hts _ (sr_mem q hq), h1⟩
theorem nc1 : Cond.not (.castable "java/lang/IllegalArgumentException" "java/lang/IndexOutOfBoundsException") ∈ flatC preC0 := by decide +kernel
theorem nc2 : Cond.not (.castable "java/lang/IllegalStateException" "java/lang/IndexOutOfBoundsException") ∈ flatC preC0 := by decide +kernel
theorem nc3 : Cond.not (.castable "java/lang/IllegalStateException" "java/lang/IllegalArgumentException") ∈ flatC preC0 := by decide +kernel
theorem st_L {s : State} {b : Nat} (hgv : ∀ w ∈ flatC preC0, w.before #[Value.ref b] s = true) : gL s := ⟨va_Nc.of (hgv _ nc1), va_Nc.of (hgv _ nc2), va_Nc.of (hgv _ nc3)⟩
theorem st_Z {s : State} {b : Nat} (hts : ∀ w ∈ lw_tbl2, w.before #[Value.ref b] s = true) : zS s := ⟨hts _ w_box, hts _ w_person, hts _ w_ints⟩
