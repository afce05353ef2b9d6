def gL (U : State) : Prop := va_Nc "java/lang/IllegalArgumentException" "java/lang/IndexOutOfBoundsException" U ∧ va_Nc "java/lang/IllegalStateException" "java/lang/IndexOutOfBoundsException" U ∧ va_Nc "java/lang/IllegalStateException" "java/lang/IllegalArgumentException" U
theorem gL.moved {u U : State} (hvm : u.vm.Alike U.vm) (h : gL u) : gL U := ⟨va_Nc.moved hvm h.1, va_Nc.moved hvm h.2.1, va_Nc.moved hvm h.2.2⟩
theorem gXs_self : ∀ q ∈ gXs, Cond.castable q.2 q.2 ∈ (vx_atS RX10 q.1 q.2 gUp).filter (fun w => !goodWord w) := by decide +kernel
theorem gcast {G : GP} {U : State} (h : gS G U) {q : Nat × String} (hq : q ∈ gXs) : va_Nw (.castable q.2 q.2) U := h.2.2.2.1 q hq _ (gXs_self q hq)
theorem g_ofWH {l : Launch} {y : MethodName} {ws ws' : List Cond} {rm : Room} {Pc : Array Value → State → Prop} {Qc : Array Value → State → Outcome → State → Prop} {mc ms : Nat} {free : Addr → Prop} {cc : ByteArray} {maxL : Nat} {ret : Option FieldType} {hh : List (Nat × Nat × Nat × Nat)}
    (hy : plainName y.cls = true) (hw : ws = Cond.codeWith y cc maxL ret hh :: ws')
    (body : ∀ p e s m args below meth c s₁, BodyLoose p l y (headSpec ws rm) cc maxL ret e s m args below meth c s₁ → c.maxLocals = maxL → Pc args s →
      W p l e (headSpec ws rm).room s m args below meth c s.heap [] 0 0 (MQ below Qc args s mc ms free) (entryFrame m args maxL)) : Met l y ws rm Pc Qc mc ms free := by
  refine MetFree.of_bodyS (code := cc) (maxLocals := maxL) (ret := ret) hy ?_ ?_
  · intro args s m h hn
    obtain ⟨m9, meth, c, hn9, h1, h2, h3, h4, -, h5, h6, -⟩ := Cond.codeWith_spec (atoms_spec (ws := ws) h _ (by rw [hw]; exact List.mem_cons_self))
    cases hn.symm.trans hn9
    exact ⟨meth, c, h1, h2, h3, h4, h5, h6⟩
  · intro p e s m args below meth c s₁ B hml hP _
    have hh0 : s₁.heap = s.heap := by rw [B.state]; rfl
    obtain ⟨t, a1, o, b1, b2, b3⟩ := body p e s m args below meth c s₁ B hml hP s₁ hh0 (Stand.of_body B)
    exact ⟨t, o, a1, b1, b2, ⟨b3.1, b3.2⟩⟩

abbrev rm_L_bar : Room := { frames := 8, cells := 3, slots := 18, locals := 134 }
abbrev q_L_bar (G : GP) (ad : Nat → Nat → Nat) (K : Int32 → GF → Prop) (below : List Frame) (args : Array Value) (s : State) : State → Prop := MQ below (gQi G ad K) args s 3 18 (gA G)
set_option maxHeartbeats 4000000 in
set_option maxRecDepth 100000 in
theorem c_L_bar (l : Launch) (hfl : l.stackTraces = false) (G : GP) (ad : Nat → Nat → Nat) (F : GF) (p1 : Int32) (p2 : Int32) (p3 : Int32) (K : Int32 → GF → Prop) : Met l yL_bar wsL_bar rm_L_bar (va_Pc [.ref (ad 0 0), .int p1, .int p2, .int p3, .ref (ad 79 0)] (fun U => (gD G ad F U ∧ gL U) ∧ P_L_bar F p1 p2 p3 K)) (gQi G ad K) 3 18 (gA G) := by
  refine g_ofWH (hh := [(0, 19, 22, 13), (0, 19, 26, 15)]) (cc := cL_bar) (maxL := 6) (ret := (some .int)) (by decide) rfl ?_
  intro p e s m args below meth c s₁ Bd hml hv
  obtain ⟨rfl, ⟨⟨hK, hG, hB, hH⟩, hL⟩, q⟩ := hv
  have hx := Bd.exec
  have hb := Bd.bytes
  have hr := Bd.returns
  have hts := atoms_spec (ws := wsL_bar) Bd.pre
  have hown : s.vm.findClass RL = some m.cls := findClass_of_methodNamed Bd.named
  have hlocks := Bd.notSynchronized
  have htab := vx_table (x := yL_bar) Bd (hts _ List.mem_cons_self)
  have hS : va_S (gA G) s.heap s.heap [] := va_S.rf
  have hl := lv_entry [.ref (ad 0 0), .int p1, .int p2, .int p3, .ref (ad 79 0)] (n := 6) (Nat.le_of_ble_eq_true rfl)
  rw [lg_entry_eq]
  generalize (lg_sl [.ref (ad 0 0), .int p1, .int p2, .int p3, .ref (ad 79 0)] ++ List.replicate (6 - (lg_sl [.ref (ad 0 0), .int p1, .int p2, .int p3, .ref (ad 79 0)]).length) Slot.unset).toArray = ls at hl ⊢
  have hl : lv_has ls 6 [(0, .ref (ad 0 0)), (1, .int p1), (2, .int p2), (3, .int p3), (4, .ref (ad 79 0))] := hl
  show W p l e rm_L_bar s m ([.ref (ad 0 0), .int p1, .int p2, .int p3, .ref (ad 79 0)] : List Value).toArray below meth c s.heap [] 0 0 (q_L_bar G ad K below ([.ref (ad 0 0), .int p1, .int p2, .int p3, .ref (ad 79 0)] : List Value).toArray s) _
  have t_18 : ∀ (F : GF) (s1 : Int32) (s2 : Int32) (H : Heap) (locs : List Loc) (ls : Array Slot), gH G ad F H → va_S (gA G) s.heap H locs → lv_has ls 6 [] → (P_L_bar_18 K) F s1 s2 → W p l e rm_L_bar s m ([.ref (ad 0 0), .int p1, .int p2, .int p3, .ref (ad 79 0)] : List Value).toArray below meth c H locs 3 18 (q_L_bar G ad K below ([.ref (ad 0 0), .int p1, .int p2, .int p3, .ref (ad 79 0)] : List Value).toArray s) (F0 m 18 ls [.long s2.toInt64, .int s1, .ref (ad 79 0)]) := by
    intro F s1 s2 H locs ls hH hS hl q
    unfold P_L_bar_18 at q
    obtain ⟨h4, q⟩ := q
    refine g_last hx hb hK hH hS h4 dL_bar_18 (fun H locs hH hS => ?_)
    obtain ⟨F5, eF5⟩ : ∃ z, z = fs F 79 0 s1.toNatClampNeg s2 := ⟨_, rfl⟩
    have q := q F5 eF5
    rw [← eF5] at hH
    refine lv_goto (tgt := 30) hx hb dL_bar_19 (by decide) ?_
    refine lv_iconst (v := 0) hx hb dL_bar_30 (by decide) ?_
    exact (W.iret (v := 0) hx hb hr (fun t ht hW => ⟨⟨0, F5, rfl, q, gH_at ht hH⟩, hS.F ht⟩) hS.2.2 dL_bar_31)
  unfold P_L_bar at q
  refine lv_aload hx hb dL_bar_0 (lv_at hl 4 rfl) ?_
  refine lv_iconst (v := 0) hx hb dL_bar_2 (by decide) ?_
  refine lv_aload_n hx hb dL_bar_3 rfl (lv_at hl 0 rfl) ?_
  refine lv_iload_n hx hb dL_bar_4 rfl (lv_at hl 1 rfl) ?_
  refine lv_iload_n hx hb dL_bar_5 rfl (lv_at hl 2 rfl) ?_
  refine lv_iload_n hx hb dL_bar_6 rfl (lv_at hl 3 rfl) ?_
  refine vx_calli (vx_runV (As := [.int p1, .int p2, .int p3]) (rest := [.int 0, .ref (ad 79 0)]) ⟨hx, hb, hml, hown, hts⟩ (c_X10_bar l hfl G ad F p1 p2 p3 _ _) (cwV 3 hts gL_bar_X10_bar rfl rfl rfl (by decide +kernel) ⟨Nat.le_of_ble_eq_true rfl, Nat.le_of_ble_eq_true rfl⟩) ⟨fun a U g mk h => ⟨h.1, gD_blind h.2.1, h.2.2⟩, g_recv (C := RX10) (T := TX10) (N := 8) hK hH 0 0 (by decide) Nat.zero_lt_one rfl rfl, fun U hU hW => ⟨rfl, gD_at hK hG hB hH hS hU hW, q⟩⟩ rfl rfl hl.1 rfl (lv_room (Nat.le_of_ble_eq_true rfl)) dL_bar_7 ⟨Nat.le_of_ble_eq_true rfl, Nat.le_of_ble_eq_true rfl⟩) hS (fun _ _ h => h) (fun _ h => h) (fun _ _ h => h) (fun E9 ce q9 F9 t H locs ht hvm _ hq hz hk hS hc9 hv9 hcl9 => ?_) (fun r1 F2 t H locs ht hvm q hB1 hz hk hS => ?_)
  · have hH : gH G ad F9 H := gH_to ht hq.2
    rcases hq.1 with ⟨rfl, q⟩ | ⟨rfl, q⟩
    · refine vx_catch hown [] ⟨0, 19, 22, 13⟩ [⟨0, 19, 26, 15⟩] (htab.trans rfl) (fun _ h => absurd h List.not_mem_nil) rfl (by decide) (hts (.classLink RL 13 "java/lang/IndexOutOfBoundsException") (List.mem_of_getElem? (i := 1) rfl)) (va_Nw.use rfl (gcast hG (List.mem_of_getElem? (i := 0) rfl))) hc9 hv9 hcl9 ?_
      refine lv_astore (lv' := [(5, .ref q9), (0, .ref (ad 0 0)), (1, .int p1), (2, .int p2), (3, .int p3), (4, .ref (ad 79 0))]) hx hb dL_bar_22 hl (by decide) rfl (fun ls hl => ?_)
      refine lv_iconst (v := 1) hx hb dL_bar_24 (by decide) ?_
      exact (W.iret (v := 1) hx hb hr (fun t ht hW => ⟨⟨1, F9, rfl, q, gH_at ht hH⟩, hS.F ht⟩) hS.2.2 dL_bar_25)
    · refine vx_catch hown [⟨0, 19, 22, 13⟩] ⟨0, 19, 26, 15⟩ [] (htab.trans rfl) (List.forall_mem_cons.mpr ⟨Or.inr ⟨by decide, "java/lang/IndexOutOfBoundsException", hts (.classLink RL 13 "java/lang/IndexOutOfBoundsException") (List.mem_of_getElem? (i := 1) rfl), hL.1⟩, (fun _ h => absurd h List.not_mem_nil)⟩) rfl (by decide) (hts (.classLink RL 15 "java/lang/IllegalArgumentException") (List.mem_of_getElem? (i := 2) rfl)) (va_Nw.use rfl (gcast hG (List.mem_of_getElem? (i := 1) rfl))) hc9 hv9 hcl9 ?_
      refine lv_astore (lv' := [(5, .ref q9), (0, .ref (ad 0 0)), (1, .int p1), (2, .int p2), (3, .int p3), (4, .ref (ad 79 0))]) hx hb dL_bar_26 hl (by decide) rfl (fun ls hl => ?_)
      refine lv_iconst (v := 2) hx hb dL_bar_28 (by decide) ?_
      exact (W.iret (v := 2) hx hb hr (fun t ht hW => ⟨⟨2, F9, rfl, q, gH_at ht hH⟩, hS.F ht⟩) hS.2.2 dL_bar_29)
  have hH : gH G ad F2 H := gH_to ht hB1
  refine lv_if_eq (tgt := 17) hx hb dL_bar_10 (by decide) (fun c3 => ?_) (fun c3 => ?_)
  · have q := (if_pos c3).mp q
    refine lv_lconst (v := (0 : Int32).toInt64) hx hb dL_bar_17 (by decide) ?_
    exact t_18 F2 0 0 _ _ _ hH hS (lv_sub hl [] rfl) q
  · have q := (if_neg c3).mp q
    refine lv_lconst (v := (1 : Int32).toInt64) hx hb dL_bar_13 (by decide) ?_
    refine lv_goto (tgt := 18) hx hb dL_bar_14 (by decide) ?_
    exact t_18 F2 0 1 _ _ _ hH hS (lv_sub hl [] rfl) q
abbrev rm_L_way : Room := { frames := 8, cells := 2, slots := 12, locals := 132 }
abbrev q_L_way (G : GP) (ad : Nat → Nat → Nat) (K : Int32 → GF → Prop) (below : List Frame) (args : Array Value) (s : State) : State → Prop := MQ below (gQi G ad K) args s 2 12 (gA G)
set_option maxHeartbeats 4000000 in
set_option maxRecDepth 100000 in
theorem c_L_way (l : Launch) (hfl : l.stackTraces = false) (G : GP) (ad : Nat → Nat → Nat) (F : GF) (p1 : Int32) (p2 : Int32) (K : Int32 → GF → Prop) : Met l yL_way wsL_way rm_L_way (va_Pc [.ref (ad 0 0), .int p1, .int p2, .ref (ad 79 0)] (fun U => (gD G ad F U ∧ gL U) ∧ P_L_way F p1 p2 K)) (gQi G ad K) 2 12 (gA G) := by
  refine g_ofWH (hh := [(0, 10, 13, 13)]) (cc := cL_way) (maxL := 5) (ret := (some .int)) (by decide) rfl ?_
  intro p e s m args below meth c s₁ Bd hml hv
  obtain ⟨rfl, ⟨⟨hK, hG, hB, hH⟩, hL⟩, q⟩ := hv
  have hx := Bd.exec
  have hb := Bd.bytes
  have hr := Bd.returns
  have hts := atoms_spec (ws := wsL_way) Bd.pre
  have hown : s.vm.findClass RL = some m.cls := findClass_of_methodNamed Bd.named
  have hlocks := Bd.notSynchronized
  have htab := vx_table (x := yL_way) Bd (hts _ List.mem_cons_self)
  have hS : va_S (gA G) s.heap s.heap [] := va_S.rf
  have hl := lv_entry [.ref (ad 0 0), .int p1, .int p2, .ref (ad 79 0)] (n := 5) (Nat.le_of_ble_eq_true rfl)
  rw [lg_entry_eq]
  generalize (lg_sl [.ref (ad 0 0), .int p1, .int p2, .ref (ad 79 0)] ++ List.replicate (5 - (lg_sl [.ref (ad 0 0), .int p1, .int p2, .ref (ad 79 0)]).length) Slot.unset).toArray = ls at hl ⊢
  have hl : lv_has ls 5 [(0, .ref (ad 0 0)), (1, .int p1), (2, .int p2), (3, .ref (ad 79 0))] := hl
  unfold P_L_way at q
  refine lv_aload_n hx hb dL_way_0 rfl (lv_at hl 3 rfl) ?_
  refine lv_iconst (v := 0) hx hb dL_way_1 (by decide) ?_
  refine lv_aload_n hx hb dL_way_2 rfl (lv_at hl 0 rfl) ?_
  refine lv_iload_n hx hb dL_way_3 rfl (lv_at hl 1 rfl) ?_
  refine lv_iload_n hx hb dL_way_4 rfl (lv_at hl 2 rfl) ?_
  refine vx_calli (vx_runV (As := [.int p1, .int p2]) (rest := [.int 0, .ref (ad 79 0)]) ⟨hx, hb, hml, hown, hts⟩ (c_X10_way l hfl G ad F p1 p2 _ _) (cwV 2 hts gL_way_X10_way rfl rfl rfl (by decide +kernel) ⟨Nat.le_of_ble_eq_true rfl, Nat.le_of_ble_eq_true rfl⟩) ⟨fun a U g mk h => ⟨h.1, gD_blind h.2.1, h.2.2⟩, g_recv (C := RX10) (T := TX10) (N := 8) hK hH 0 0 (by decide) Nat.zero_lt_one rfl rfl, fun U hU hW => ⟨rfl, gD_at hK hG hB hH hS hU hW, q⟩⟩ rfl rfl hl.1 rfl (lv_room (Nat.le_of_ble_eq_true rfl)) dL_way_5 ⟨Nat.le_of_ble_eq_true rfl, Nat.le_of_ble_eq_true rfl⟩) hS (fun _ _ h => h) (fun _ h => h) (fun _ _ h => h) (fun E9 ce q9 F9 t H locs ht hvm _ hq hz hk hS hc9 hv9 hcl9 => ?_) (fun r1 F2 t H locs ht hvm q hB1 hz hk hS => ?_)
  · have hH : gH G ad F9 H := gH_to ht hq.2
    rcases hq.1 with ⟨rfl, q⟩
    · refine vx_catch hown [] ⟨0, 10, 13, 13⟩ [] (htab.trans rfl) (fun _ h => absurd h List.not_mem_nil) rfl (by decide) (hts (.classLink RL 13 "java/lang/IndexOutOfBoundsException") (List.mem_of_getElem? (i := 1) rfl)) (va_Nw.use rfl (gcast hG (List.mem_of_getElem? (i := 0) rfl))) hc9 hv9 hcl9 ?_
      refine lv_astore (lv' := [(4, .ref q9), (0, .ref (ad 0 0)), (1, .int p1), (2, .int p2), (3, .ref (ad 79 0))]) hx hb dL_way_13 hl (by decide) rfl (fun ls hl => ?_)
      refine lv_iconst (v := 1) hx hb dL_way_15 (by decide) ?_
      exact (W.iret (v := 1) hx hb hr (fun t ht hW => ⟨⟨1, F9, rfl, q, gH_at ht hH⟩, hS.F ht⟩) hS.2.2 dL_way_16)
  have hH : gH G ad F2 H := gH_to ht hB1
  refine lv_i2l (v := r1.toInt64) hx hb dL_way_8 rfl ?_
  obtain ⟨h3, q⟩ := q
  refine g_last hx hb hK hH hS h3 dL_way_9 (fun H locs hH hS => ?_)
  obtain ⟨F4, eF4⟩ : ∃ z, z = fs F2 79 0 (0 : Int32).toNatClampNeg r1 := ⟨_, rfl⟩
  have q := q F4 eF4
  rw [← eF4] at hH
  refine lv_goto (tgt := 17) hx hb dL_way_10 (by decide) ?_
  refine lv_iconst (v := 0) hx hb dL_way_17 (by decide) ?_
  exact (W.iret (v := 0) hx hb hr (fun t ht hW => ⟨⟨0, F4, rfl, q, gH_at ht hH⟩, hS.F ht⟩) hS.2.2 dL_way_18)
abbrev rm_L_station : Room := { frames := 8, cells := 3, slots := 18, locals := 134 }
abbrev q_L_station (G : GP) (ad : Nat → Nat → Nat) (K : Int32 → GF → Prop) (below : List Frame) (args : Array Value) (s : State) : State → Prop := MQ below (gQi G ad K) args s 3 18 (gA G)
set_option maxHeartbeats 4000000 in
set_option maxRecDepth 100000 in
theorem c_L_station (l : Launch) (hfl : l.stackTraces = false) (G : GP) (ad : Nat → Nat → Nat) (F : GF) (p1 : Int32) (p2 : Int32) (K : Int32 → GF → Prop) : Met l yL_station wsL_station rm_L_station (va_Pc [.ref (ad 0 0), .int p1, .int p2, .ref (ad 79 0)] (fun U => (gD G ad F U ∧ gL U) ∧ P_L_station F p1 p2 K)) (gQi G ad K) 3 18 (gA G) := by
  refine g_ofWH (hh := [(0, 10, 13, 13), (0, 10, 17, 15), (0, 10, 21, 24)]) (cc := cL_station) (maxL := 5) (ret := (some .int)) (by decide) rfl ?_
  intro p e s m args below meth c s₁ Bd hml hv
  obtain ⟨rfl, ⟨⟨hK, hG, hB, hH⟩, hL⟩, q⟩ := hv
  have hx := Bd.exec
  have hb := Bd.bytes
  have hr := Bd.returns
  have hts := atoms_spec (ws := wsL_station) Bd.pre
  have hown : s.vm.findClass RL = some m.cls := findClass_of_methodNamed Bd.named
  have hlocks := Bd.notSynchronized
  have htab := vx_table (x := yL_station) Bd (hts _ List.mem_cons_self)
  have hS : va_S (gA G) s.heap s.heap [] := va_S.rf
  have hl := lv_entry [.ref (ad 0 0), .int p1, .int p2, .ref (ad 79 0)] (n := 5) (Nat.le_of_ble_eq_true rfl)
  rw [lg_entry_eq]
  generalize (lg_sl [.ref (ad 0 0), .int p1, .int p2, .ref (ad 79 0)] ++ List.replicate (5 - (lg_sl [.ref (ad 0 0), .int p1, .int p2, .ref (ad 79 0)]).length) Slot.unset).toArray = ls at hl ⊢
  have hl : lv_has ls 5 [(0, .ref (ad 0 0)), (1, .int p1), (2, .int p2), (3, .ref (ad 79 0))] := hl
  unfold P_L_station at q
  refine lv_aload_n hx hb dL_station_0 rfl (lv_at hl 3 rfl) ?_
  refine lv_iconst (v := 0) hx hb dL_station_1 (by decide) ?_
  refine lv_aload_n hx hb dL_station_2 rfl (lv_at hl 0 rfl) ?_
  refine lv_iload_n hx hb dL_station_3 rfl (lv_at hl 1 rfl) ?_
  refine lv_iload_n hx hb dL_station_4 rfl (lv_at hl 2 rfl) ?_
  refine vx_calli (vx_runV (As := [.int p1, .int p2]) (rest := [.int 0, .ref (ad 79 0)]) ⟨hx, hb, hml, hown, hts⟩ (c_X10_station l hfl G ad F p1 p2 _ _) (cwV 2 hts gL_station_X10_station rfl rfl rfl (by decide +kernel) ⟨Nat.le_of_ble_eq_true rfl, Nat.le_of_ble_eq_true rfl⟩) ⟨fun a U g mk h => ⟨h.1, gD_blind h.2.1, h.2.2⟩, g_recv (C := RX10) (T := TX10) (N := 8) hK hH 0 0 (by decide) Nat.zero_lt_one rfl rfl, fun U hU hW => ⟨rfl, gD_at hK hG hB hH hS hU hW, q⟩⟩ rfl rfl hl.1 rfl (lv_room (Nat.le_of_ble_eq_true rfl)) dL_station_5 ⟨Nat.le_of_ble_eq_true rfl, Nat.le_of_ble_eq_true rfl⟩) hS (fun _ _ h => h) (fun _ h => h) (fun _ _ h => h) (fun E9 ce q9 F9 t H locs ht hvm _ hq hz hk hS hc9 hv9 hcl9 => ?_) (fun r1 F2 t H locs ht hvm q hB1 hz hk hS => ?_)
  · have hH : gH G ad F9 H := gH_to ht hq.2
    rcases hq.1 with ⟨rfl, q⟩ | ⟨rfl, q⟩ | ⟨rfl, q⟩
    · refine vx_catch hown [] ⟨0, 10, 13, 13⟩ [⟨0, 10, 17, 15⟩, ⟨0, 10, 21, 24⟩] (htab.trans rfl) (fun _ h => absurd h List.not_mem_nil) rfl (by decide) (hts (.classLink RL 13 "java/lang/IndexOutOfBoundsException") (List.mem_of_getElem? (i := 1) rfl)) (va_Nw.use rfl (gcast hG (List.mem_of_getElem? (i := 0) rfl))) hc9 hv9 hcl9 ?_
      refine lv_astore (lv' := [(4, .ref q9), (0, .ref (ad 0 0)), (1, .int p1), (2, .int p2), (3, .ref (ad 79 0))]) hx hb dL_station_13 hl (by decide) rfl (fun ls hl => ?_)
      refine lv_iconst (v := 1) hx hb dL_station_15 (by decide) ?_
      exact (W.iret (v := 1) hx hb hr (fun t ht hW => ⟨⟨1, F9, rfl, q, gH_at ht hH⟩, hS.F ht⟩) hS.2.2 dL_station_16)
    · refine vx_catch hown [⟨0, 10, 13, 13⟩] ⟨0, 10, 17, 15⟩ [⟨0, 10, 21, 24⟩] (htab.trans rfl) (List.forall_mem_cons.mpr ⟨Or.inr ⟨by decide, "java/lang/IndexOutOfBoundsException", hts (.classLink RL 13 "java/lang/IndexOutOfBoundsException") (List.mem_of_getElem? (i := 1) rfl), hL.1⟩, (fun _ h => absurd h List.not_mem_nil)⟩) rfl (by decide) (hts (.classLink RL 15 "java/lang/IllegalArgumentException") (List.mem_of_getElem? (i := 2) rfl)) (va_Nw.use rfl (gcast hG (List.mem_of_getElem? (i := 1) rfl))) hc9 hv9 hcl9 ?_
      refine lv_astore (lv' := [(4, .ref q9), (0, .ref (ad 0 0)), (1, .int p1), (2, .int p2), (3, .ref (ad 79 0))]) hx hb dL_station_17 hl (by decide) rfl (fun ls hl => ?_)
      refine lv_iconst (v := 2) hx hb dL_station_19 (by decide) ?_
      exact (W.iret (v := 2) hx hb hr (fun t ht hW => ⟨⟨2, F9, rfl, q, gH_at ht hH⟩, hS.F ht⟩) hS.2.2 dL_station_20)
    · refine vx_catch hown [⟨0, 10, 13, 13⟩, ⟨0, 10, 17, 15⟩] ⟨0, 10, 21, 24⟩ [] (htab.trans rfl) (List.forall_mem_cons.mpr ⟨Or.inr ⟨by decide, "java/lang/IndexOutOfBoundsException", hts (.classLink RL 13 "java/lang/IndexOutOfBoundsException") (List.mem_of_getElem? (i := 1) rfl), hL.2.1⟩, (List.forall_mem_cons.mpr ⟨Or.inr ⟨by decide, "java/lang/IllegalArgumentException", hts (.classLink RL 15 "java/lang/IllegalArgumentException") (List.mem_of_getElem? (i := 2) rfl), hL.2.2⟩, (fun _ h => absurd h List.not_mem_nil)⟩)⟩) rfl (by decide) (hts (.classLink RL 24 "java/lang/IllegalStateException") (List.mem_of_getElem? (i := 3) rfl)) (va_Nw.use rfl (gcast hG (List.mem_of_getElem? (i := 2) rfl))) hc9 hv9 hcl9 ?_
      refine lv_astore (lv' := [(4, .ref q9), (0, .ref (ad 0 0)), (1, .int p1), (2, .int p2), (3, .ref (ad 79 0))]) hx hb dL_station_21 hl (by decide) rfl (fun ls hl => ?_)
      refine lv_iconst (v := 3) hx hb dL_station_23 (by decide) ?_
      exact (W.iret (v := 3) hx hb hr (fun t ht hW => ⟨⟨3, F9, rfl, q, gH_at ht hH⟩, hS.F ht⟩) hS.2.2 dL_station_24)
  have hH : gH G ad F2 H := gH_to ht hB1
  refine lv_i2l (v := r1.toInt64) hx hb dL_station_8 rfl ?_
  obtain ⟨h3, q⟩ := q
  refine g_last hx hb hK hH hS h3 dL_station_9 (fun H locs hH hS => ?_)
  obtain ⟨F4, eF4⟩ : ∃ z, z = fs F2 79 0 (0 : Int32).toNatClampNeg r1 := ⟨_, rfl⟩
  have q := q F4 eF4
  rw [← eF4] at hH
  refine lv_goto (tgt := 25) hx hb dL_station_10 (by decide) ?_
  refine lv_iconst (v := 0) hx hb dL_station_25 (by decide) ?_
  exact (W.iret (v := 0) hx hb hr (fun t ht hW => ⟨⟨0, F4, rfl, q, gH_at ht hH⟩, hS.F ht⟩) hS.2.2 dL_station_26)
abbrev rm_L_setSeats : Room := { frames := 8, cells := 2, slots := 12, locals := 135 }
abbrev q_L_setSeats (G : GP) (ad : Nat → Nat → Nat) (K : Int32 → GF → Prop) (below : List Frame) (args : Array Value) (s : State) : State → Prop := MQ below (gQi G ad K) args s 2 12 (gA G)
set_option maxHeartbeats 4000000 in
set_option maxRecDepth 100000 in
theorem c_L_setSeats (l : Launch) (hfl : l.stackTraces = false) (G : GP) (ad : Nat → Nat → Nat) (F : GF) (p1 : Int32) (p2 : Int32) (K : Int32 → GF → Prop) : Met l yL_setSeats wsL_setSeats rm_L_setSeats (va_Pc [.ref (ad 0 0), .int p1, .int p2, .ref (ad 79 0)] (fun U => (gD G ad F U ∧ gL U) ∧ P_L_setSeats F p1 p2 K)) (gQi G ad K) 2 12 (gA G) := by
  refine g_ofWH (hh := [(0, 10, 13, 13), (0, 10, 17, 15)]) (cc := cL_setSeats) (maxL := 5) (ret := (some .int)) (by decide) rfl ?_
  intro p e s m args below meth c s₁ Bd hml hv
  obtain ⟨rfl, ⟨⟨hK, hG, hB, hH⟩, hL⟩, q⟩ := hv
  have hx := Bd.exec
  have hb := Bd.bytes
  have hr := Bd.returns
  have hts := atoms_spec (ws := wsL_setSeats) Bd.pre
  have hown : s.vm.findClass RL = some m.cls := findClass_of_methodNamed Bd.named
  have hlocks := Bd.notSynchronized
  have htab := vx_table (x := yL_setSeats) Bd (hts _ List.mem_cons_self)
  have hS : va_S (gA G) s.heap s.heap [] := va_S.rf
  have hl := lv_entry [.ref (ad 0 0), .int p1, .int p2, .ref (ad 79 0)] (n := 5) (Nat.le_of_ble_eq_true rfl)
  rw [lg_entry_eq]
  generalize (lg_sl [.ref (ad 0 0), .int p1, .int p2, .ref (ad 79 0)] ++ List.replicate (5 - (lg_sl [.ref (ad 0 0), .int p1, .int p2, .ref (ad 79 0)]).length) Slot.unset).toArray = ls at hl ⊢
  have hl : lv_has ls 5 [(0, .ref (ad 0 0)), (1, .int p1), (2, .int p2), (3, .ref (ad 79 0))] := hl
  unfold P_L_setSeats at q
  refine lv_aload_n hx hb dL_setSeats_0 rfl (lv_at hl 3 rfl) ?_
  refine lv_iconst (v := 0) hx hb dL_setSeats_1 (by decide) ?_
  refine lv_aload_n hx hb dL_setSeats_2 rfl (lv_at hl 0 rfl) ?_
  refine lv_iload_n hx hb dL_setSeats_3 rfl (lv_at hl 1 rfl) ?_
  refine lv_iload_n hx hb dL_setSeats_4 rfl (lv_at hl 2 rfl) ?_
  refine vx_calli (vx_runV (As := [.int p1, .int p2]) (rest := [.int 0, .ref (ad 79 0)]) ⟨hx, hb, hml, hown, hts⟩ (c_X10_setSeats l hfl G ad F p1 p2 _ _) (cwV 2 hts gL_setSeats_X10_setSeats rfl rfl rfl (by decide +kernel) ⟨Nat.le_of_ble_eq_true rfl, Nat.le_of_ble_eq_true rfl⟩) ⟨fun a U g mk h => ⟨h.1, gD_blind h.2.1, h.2.2⟩, g_recv (C := RX10) (T := TX10) (N := 8) hK hH 0 0 (by decide) Nat.zero_lt_one rfl rfl, fun U hU hW => ⟨rfl, gD_at hK hG hB hH hS hU hW, q⟩⟩ rfl rfl hl.1 rfl (lv_room (Nat.le_of_ble_eq_true rfl)) dL_setSeats_5 ⟨Nat.le_of_ble_eq_true rfl, Nat.le_of_ble_eq_true rfl⟩) hS (fun _ _ h => h) (fun _ h => h) (fun _ _ h => h) (fun E9 ce q9 F9 t H locs ht hvm _ hq hz hk hS hc9 hv9 hcl9 => ?_) (fun r1 F2 t H locs ht hvm q hB1 hz hk hS => ?_)
  · have hH : gH G ad F9 H := gH_to ht hq.2
    rcases hq.1 with ⟨rfl, q⟩ | ⟨rfl, q⟩
    · refine vx_catch hown [] ⟨0, 10, 13, 13⟩ [⟨0, 10, 17, 15⟩] (htab.trans rfl) (fun _ h => absurd h List.not_mem_nil) rfl (by decide) (hts (.classLink RL 13 "java/lang/IndexOutOfBoundsException") (List.mem_of_getElem? (i := 1) rfl)) (va_Nw.use rfl (gcast hG (List.mem_of_getElem? (i := 0) rfl))) hc9 hv9 hcl9 ?_
      refine lv_astore (lv' := [(4, .ref q9), (0, .ref (ad 0 0)), (1, .int p1), (2, .int p2), (3, .ref (ad 79 0))]) hx hb dL_setSeats_13 hl (by decide) rfl (fun ls hl => ?_)
      refine lv_iconst (v := 1) hx hb dL_setSeats_15 (by decide) ?_
      exact (W.iret (v := 1) hx hb hr (fun t ht hW => ⟨⟨1, F9, rfl, q, gH_at ht hH⟩, hS.F ht⟩) hS.2.2 dL_setSeats_16)
    · refine vx_catch hown [⟨0, 10, 13, 13⟩] ⟨0, 10, 17, 15⟩ [] (htab.trans rfl) (List.forall_mem_cons.mpr ⟨Or.inr ⟨by decide, "java/lang/IndexOutOfBoundsException", hts (.classLink RL 13 "java/lang/IndexOutOfBoundsException") (List.mem_of_getElem? (i := 1) rfl), hL.1⟩, (fun _ h => absurd h List.not_mem_nil)⟩) rfl (by decide) (hts (.classLink RL 15 "java/lang/IllegalArgumentException") (List.mem_of_getElem? (i := 2) rfl)) (va_Nw.use rfl (gcast hG (List.mem_of_getElem? (i := 1) rfl))) hc9 hv9 hcl9 ?_
      refine lv_astore (lv' := [(4, .ref q9), (0, .ref (ad 0 0)), (1, .int p1), (2, .int p2), (3, .ref (ad 79 0))]) hx hb dL_setSeats_17 hl (by decide) rfl (fun ls hl => ?_)
      refine lv_iconst (v := 2) hx hb dL_setSeats_19 (by decide) ?_
      exact (W.iret (v := 2) hx hb hr (fun t ht hW => ⟨⟨2, F9, rfl, q, gH_at ht hH⟩, hS.F ht⟩) hS.2.2 dL_setSeats_20)
  have hH : gH G ad F2 H := gH_to ht hB1
  refine lv_i2l (v := r1.toInt64) hx hb dL_setSeats_8 rfl ?_
  obtain ⟨h3, q⟩ := q
  refine g_last hx hb hK hH hS h3 dL_setSeats_9 (fun H locs hH hS => ?_)
  obtain ⟨F4, eF4⟩ : ∃ z, z = fs F2 79 0 (0 : Int32).toNatClampNeg r1 := ⟨_, rfl⟩
  have q := q F4 eF4
  rw [← eF4] at hH
  refine lv_goto (tgt := 21) hx hb dL_setSeats_10 (by decide) ?_
  refine lv_iconst (v := 0) hx hb dL_setSeats_21 (by decide) ?_
  exact (W.iret (v := 0) hx hb hr (fun t ht hW => ⟨⟨0, F4, rfl, q, gH_at ht hH⟩, hS.F ht⟩) hS.2.2 dL_setSeats_22)
abbrev rm_L_person : Room := { frames := 8, cells := 3, slots := 18, locals := 135 }
abbrev q_L_person (G : GP) (ad : Nat → Nat → Nat) (K : Int32 → GF → Prop) (below : List Frame) (args : Array Value) (s : State) : State → Prop := MQ below (gQa G ad K) args s 3 18 (gA G)
set_option maxHeartbeats 4000000 in
set_option maxRecDepth 100000 in
theorem c_L_person (l : Launch) (hfl : l.stackTraces = false) (G : GP) (ad : Nat → Nat → Nat) (F : GF) (p1 : Int32) (p2 : Int32) (K : Int32 → GF → Prop) : Met l yL_person wsL_person rm_L_person (va_Pc [.ref (ad 0 0), .int p1, .int p2, .ref (ad 79 0)] (fun U => (gD G ad F U ∧ gL U) ∧ P_L_person F p1 p2 K)) (gQa G ad K) 3 18 (gA G) := by
  refine g_ofWH (hh := [(0, 10, 13, 13), (0, 10, 17, 15), (0, 10, 21, 24)]) (cc := cL_person) (maxL := 5) (ret := (some .int)) (by decide) rfl ?_
  intro p e s m args below meth c s₁ Bd hml hv
  obtain ⟨rfl, ⟨⟨hK, hG, hB, hH⟩, hL⟩, q⟩ := hv
  have hx := Bd.exec
  have hb := Bd.bytes
  have hr := Bd.returns
  have hts := atoms_spec (ws := wsL_person) Bd.pre
  have hown : s.vm.findClass RL = some m.cls := findClass_of_methodNamed Bd.named
  have hlocks := Bd.notSynchronized
  have htab := vx_table (x := yL_person) Bd (hts _ List.mem_cons_self)
  have hS : va_S (gA G) s.heap s.heap [] := va_S.rf
  have hl := lv_entry [.ref (ad 0 0), .int p1, .int p2, .ref (ad 79 0)] (n := 5) (Nat.le_of_ble_eq_true rfl)
  rw [lg_entry_eq]
  generalize (lg_sl [.ref (ad 0 0), .int p1, .int p2, .ref (ad 79 0)] ++ List.replicate (5 - (lg_sl [.ref (ad 0 0), .int p1, .int p2, .ref (ad 79 0)]).length) Slot.unset).toArray = ls at hl ⊢
  have hl : lv_has ls 5 [(0, .ref (ad 0 0)), (1, .int p1), (2, .int p2), (3, .ref (ad 79 0))] := hl
  unfold P_L_person at q
  refine lv_aload_n hx hb dL_person_0 rfl (lv_at hl 3 rfl) ?_
  refine lv_iconst (v := 0) hx hb dL_person_1 (by decide) ?_
  refine lv_aload_n hx hb dL_person_2 rfl (lv_at hl 0 rfl) ?_
  refine lv_iload_n hx hb dL_person_3 rfl (lv_at hl 1 rfl) ?_
  refine lv_iload_n hx hb dL_person_4 rfl (lv_at hl 2 rfl) ?_
  refine vx_calli (vx_runV (As := [.int p1, .int p2]) (rest := [.int 0, .ref (ad 79 0)]) ⟨hx, hb, hml, hown, hts⟩ (c_X10_person l hfl G ad F p1 p2 _ _) (cwV 2 hts gL_person_X10_person rfl rfl rfl (by decide +kernel) ⟨Nat.le_of_ble_eq_true rfl, Nat.le_of_ble_eq_true rfl⟩) ⟨fun a U g mk h => ⟨h.1, gD_blind h.2.1, h.2.2⟩, g_recv (C := RX10) (T := TX10) (N := 8) hK hH 0 0 (by decide) Nat.zero_lt_one rfl rfl, fun U hU hW => ⟨rfl, gD_at hK hG hB hH hS hU hW, q⟩⟩ rfl rfl hl.1 rfl (lv_room (Nat.le_of_ble_eq_true rfl)) dL_person_5 ⟨Nat.le_of_ble_eq_true rfl, Nat.le_of_ble_eq_true rfl⟩) hS (fun _ _ h => h) (fun _ h => h) (fun _ _ h => h) (fun E9 ce q9 F9 t H locs ht hvm _ hq hz hk hS hc9 hv9 hcl9 => ?_) (fun r1 F2u t H locs ht hvm q hB1 hz hk hS => ?_)
  · have hH : gH G ad F9 H := gH_to ht hq.2
    rcases hq.1 with ⟨rfl, q⟩ | ⟨rfl, q⟩ | ⟨rfl, q⟩
    · refine vx_catch hown [] ⟨0, 10, 13, 13⟩ [⟨0, 10, 17, 15⟩, ⟨0, 10, 21, 24⟩] (htab.trans rfl) (fun _ h => absurd h List.not_mem_nil) rfl (by decide) (hts (.classLink RL 13 "java/lang/IndexOutOfBoundsException") (List.mem_of_getElem? (i := 1) rfl)) (va_Nw.use rfl (gcast hG (List.mem_of_getElem? (i := 0) rfl))) hc9 hv9 hcl9 ?_
      refine lv_astore (lv' := [(4, .ref q9), (0, .ref (ad 0 0)), (1, .int p1), (2, .int p2), (3, .ref (ad 79 0))]) hx hb dL_person_13 hl (by decide) rfl (fun ls hl => ?_)
      refine lv_iconst (v := 1) hx hb dL_person_15 (by decide) ?_
      exact (W.iret (v := 1) hx hb hr (fun t ht hW => ⟨⟨1, (F9, ad), rfl, ⟨q, fun f i hf => rfl⟩, gH_at ht hH⟩, hS.F ht⟩) hS.2.2 dL_person_16)
    · refine vx_catch hown [⟨0, 10, 13, 13⟩] ⟨0, 10, 17, 15⟩ [⟨0, 10, 21, 24⟩] (htab.trans rfl) (List.forall_mem_cons.mpr ⟨Or.inr ⟨by decide, "java/lang/IndexOutOfBoundsException", hts (.classLink RL 13 "java/lang/IndexOutOfBoundsException") (List.mem_of_getElem? (i := 1) rfl), hL.1⟩, (fun _ h => absurd h List.not_mem_nil)⟩) rfl (by decide) (hts (.classLink RL 15 "java/lang/IllegalArgumentException") (List.mem_of_getElem? (i := 2) rfl)) (va_Nw.use rfl (gcast hG (List.mem_of_getElem? (i := 1) rfl))) hc9 hv9 hcl9 ?_
      refine lv_astore (lv' := [(4, .ref q9), (0, .ref (ad 0 0)), (1, .int p1), (2, .int p2), (3, .ref (ad 79 0))]) hx hb dL_person_17 hl (by decide) rfl (fun ls hl => ?_)
      refine lv_iconst (v := 2) hx hb dL_person_19 (by decide) ?_
      exact (W.iret (v := 2) hx hb hr (fun t ht hW => ⟨⟨2, (F9, ad), rfl, ⟨q, fun f i hf => rfl⟩, gH_at ht hH⟩, hS.F ht⟩) hS.2.2 dL_person_20)
    · refine vx_catch hown [⟨0, 10, 13, 13⟩, ⟨0, 10, 17, 15⟩] ⟨0, 10, 21, 24⟩ [] (htab.trans rfl) (List.forall_mem_cons.mpr ⟨Or.inr ⟨by decide, "java/lang/IndexOutOfBoundsException", hts (.classLink RL 13 "java/lang/IndexOutOfBoundsException") (List.mem_of_getElem? (i := 1) rfl), hL.2.1⟩, (List.forall_mem_cons.mpr ⟨Or.inr ⟨by decide, "java/lang/IllegalArgumentException", hts (.classLink RL 15 "java/lang/IllegalArgumentException") (List.mem_of_getElem? (i := 2) rfl), hL.2.2⟩, (fun _ h => absurd h List.not_mem_nil)⟩)⟩) rfl (by decide) (hts (.classLink RL 24 "java/lang/IllegalStateException") (List.mem_of_getElem? (i := 3) rfl)) (va_Nw.use rfl (gcast hG (List.mem_of_getElem? (i := 2) rfl))) hc9 hv9 hcl9 ?_
      refine lv_astore (lv' := [(4, .ref q9), (0, .ref (ad 0 0)), (1, .int p1), (2, .int p2), (3, .ref (ad 79 0))]) hx hb dL_person_21 hl (by decide) rfl (fun ls hl => ?_)
      refine lv_iconst (v := 3) hx hb dL_person_23 (by decide) ?_
      exact (W.iret (v := 3) hx hb hr (fun t ht hW => ⟨⟨3, (F9, ad), rfl, ⟨q, fun f i hf => rfl⟩, gH_at ht hH⟩, hS.F ht⟩) hS.2.2 dL_person_24)
  obtain ⟨F2, ad1⟩ := F2u
  obtain ⟨q, hα⟩ := q
  have hα : ∀ f i : Nat, f ≠ 39 → ad1 f i = ad f i := hα
  have hH : gH G ad1 F2 H := gH_to ht hB1
  refine W.eq (g2 := F0 m 8 ls [.int r1, .int 0, .ref (ad1 79 0)]) (by rw [hα 79 0 (by decide)]) ?_
  refine lv_i2l (v := r1.toInt64) hx hb dL_person_8 rfl ?_
  obtain ⟨h3, q⟩ := q
  refine g_last hx hb hK hH hS h3 dL_person_9 (fun H locs hH hS => ?_)
  obtain ⟨F4, eF4⟩ : ∃ z, z = fs F2 79 0 (0 : Int32).toNatClampNeg r1 := ⟨_, rfl⟩
  have q := q F4 eF4
  rw [← eF4] at hH
  refine lv_goto (tgt := 25) hx hb dL_person_10 (by decide) ?_
  refine lv_iconst (v := 0) hx hb dL_person_25 (by decide) ?_
  exact (W.iret (v := 0) hx hb hr (fun t ht hW => ⟨⟨0, (F4, ad1), rfl, ⟨q, fun f i hf => hα f i hf⟩, gH_at ht hH⟩, hS.F ht⟩) hS.2.2 dL_person_26)
abbrev rm_L_move : Room := { frames := 9, cells := 4, slots := 21, locals := 156 }
abbrev q_L_move (G : GP) (ad : Nat → Nat → Nat) (K : Int32 → GF → Prop) (below : List Frame) (args : Array Value) (s : State) : State → Prop := MQ below (gQa G ad K) args s 4 21 (gA G)
set_option maxHeartbeats 4000000 in
set_option maxRecDepth 100000 in
theorem c_L_move (l : Launch) (hfl : l.stackTraces = false) (G : GP) (ad : Nat → Nat → Nat) (F : GF) (p1 : Int32) (p2 : Int32) (K : Int32 → GF → Prop) : Met l yL_move wsL_move rm_L_move (va_Pc [.ref (ad 0 0), .int p1, .int p2, .ref (ad 79 0)] (fun U => (gD G ad F U ∧ gL U) ∧ P_L_move F p1 p2 K)) (gQa G ad K) 4 21 (gA G) := by
  refine g_ofWH (hh := [(0, 10, 13, 13), (0, 10, 17, 24)]) (cc := cL_move) (maxL := 5) (ret := (some .int)) (by decide) rfl ?_
  intro p e s m args below meth c s₁ Bd hml hv
  obtain ⟨rfl, ⟨⟨hK, hG, hB, hH⟩, hL⟩, q⟩ := hv
  have hx := Bd.exec
  have hb := Bd.bytes
  have hr := Bd.returns
  have hts := atoms_spec (ws := wsL_move) Bd.pre
  have hown : s.vm.findClass RL = some m.cls := findClass_of_methodNamed Bd.named
  have hlocks := Bd.notSynchronized
  have htab := vx_table (x := yL_move) Bd (hts _ List.mem_cons_self)
  have hS : va_S (gA G) s.heap s.heap [] := va_S.rf
  have hl := lv_entry [.ref (ad 0 0), .int p1, .int p2, .ref (ad 79 0)] (n := 5) (Nat.le_of_ble_eq_true rfl)
  rw [lg_entry_eq]
  generalize (lg_sl [.ref (ad 0 0), .int p1, .int p2, .ref (ad 79 0)] ++ List.replicate (5 - (lg_sl [.ref (ad 0 0), .int p1, .int p2, .ref (ad 79 0)]).length) Slot.unset).toArray = ls at hl ⊢
  have hl : lv_has ls 5 [(0, .ref (ad 0 0)), (1, .int p1), (2, .int p2), (3, .ref (ad 79 0))] := hl
  unfold P_L_move at q
  refine lv_aload_n hx hb dL_move_0 rfl (lv_at hl 3 rfl) ?_
  refine lv_iconst (v := 0) hx hb dL_move_1 (by decide) ?_
  refine lv_aload_n hx hb dL_move_2 rfl (lv_at hl 0 rfl) ?_
  refine lv_iload_n hx hb dL_move_3 rfl (lv_at hl 1 rfl) ?_
  refine lv_iload_n hx hb dL_move_4 rfl (lv_at hl 2 rfl) ?_
  refine vx_calli (vx_runV (As := [.int p1, .int p2]) (rest := [.int 0, .ref (ad 79 0)]) ⟨hx, hb, hml, hown, hts⟩ (c_X10_move l hfl G ad F p1 p2 _ _) (cwV 2 hts gL_move_X10_move rfl rfl rfl (by decide +kernel) ⟨Nat.le_of_ble_eq_true rfl, Nat.le_of_ble_eq_true rfl⟩) ⟨fun a U g mk h => ⟨h.1, gD_blind h.2.1, h.2.2⟩, g_recv (C := RX10) (T := TX10) (N := 8) hK hH 0 0 (by decide) Nat.zero_lt_one rfl rfl, fun U hU hW => ⟨rfl, gD_at hK hG hB hH hS hU hW, q⟩⟩ rfl rfl hl.1 rfl (lv_room (Nat.le_of_ble_eq_true rfl)) dL_move_5 ⟨Nat.le_of_ble_eq_true rfl, Nat.le_of_ble_eq_true rfl⟩) hS (fun _ _ h => h) (fun _ h => h) (fun _ _ h => h) (fun E9 ce q9 F9 t H locs ht hvm _ hq hz hk hS hc9 hv9 hcl9 => ?_) (fun r1 F2u t H locs ht hvm q hB1 hz hk hS => ?_)
  · have hH : gH G ad F9 H := gH_to ht hq.2
    rcases hq.1 with ⟨rfl, q⟩ | ⟨rfl, q⟩
    · refine vx_catch hown [] ⟨0, 10, 13, 13⟩ [⟨0, 10, 17, 24⟩] (htab.trans rfl) (fun _ h => absurd h List.not_mem_nil) rfl (by decide) (hts (.classLink RL 13 "java/lang/IndexOutOfBoundsException") (List.mem_of_getElem? (i := 1) rfl)) (va_Nw.use rfl (gcast hG (List.mem_of_getElem? (i := 0) rfl))) hc9 hv9 hcl9 ?_
      refine lv_astore (lv' := [(4, .ref q9), (0, .ref (ad 0 0)), (1, .int p1), (2, .int p2), (3, .ref (ad 79 0))]) hx hb dL_move_13 hl (by decide) rfl (fun ls hl => ?_)
      refine lv_iconst (v := 1) hx hb dL_move_15 (by decide) ?_
      exact (W.iret (v := 1) hx hb hr (fun t ht hW => ⟨⟨1, (F9, ad), rfl, ⟨q, fun f i hf => rfl⟩, gH_at ht hH⟩, hS.F ht⟩) hS.2.2 dL_move_16)
    · refine vx_catch hown [⟨0, 10, 13, 13⟩] ⟨0, 10, 17, 24⟩ [] (htab.trans rfl) (List.forall_mem_cons.mpr ⟨Or.inr ⟨by decide, "java/lang/IndexOutOfBoundsException", hts (.classLink RL 13 "java/lang/IndexOutOfBoundsException") (List.mem_of_getElem? (i := 1) rfl), hL.2.1⟩, (fun _ h => absurd h List.not_mem_nil)⟩) rfl (by decide) (hts (.classLink RL 24 "java/lang/IllegalStateException") (List.mem_of_getElem? (i := 2) rfl)) (va_Nw.use rfl (gcast hG (List.mem_of_getElem? (i := 2) rfl))) hc9 hv9 hcl9 ?_
      refine lv_astore (lv' := [(4, .ref q9), (0, .ref (ad 0 0)), (1, .int p1), (2, .int p2), (3, .ref (ad 79 0))]) hx hb dL_move_17 hl (by decide) rfl (fun ls hl => ?_)
      refine lv_iconst (v := 2) hx hb dL_move_19 (by decide) ?_
      exact (W.iret (v := 2) hx hb hr (fun t ht hW => ⟨⟨2, (F9, ad), rfl, ⟨q, fun f i hf => rfl⟩, gH_at ht hH⟩, hS.F ht⟩) hS.2.2 dL_move_20)
  obtain ⟨F2, ad1⟩ := F2u
  obtain ⟨q, hα⟩ := q
  have hα : ∀ f i : Nat, f ≠ 39 → ad1 f i = ad f i := hα
  have hH : gH G ad1 F2 H := gH_to ht hB1
  refine W.eq (g2 := F0 m 8 ls [.int r1, .int 0, .ref (ad1 79 0)]) (by rw [hα 79 0 (by decide)]) ?_
  refine lv_i2l (v := r1.toInt64) hx hb dL_move_8 rfl ?_
  obtain ⟨h3, q⟩ := q
  refine g_last hx hb hK hH hS h3 dL_move_9 (fun H locs hH hS => ?_)
  obtain ⟨F4, eF4⟩ : ∃ z, z = fs F2 79 0 (0 : Int32).toNatClampNeg r1 := ⟨_, rfl⟩
  have q := q F4 eF4
  rw [← eF4] at hH
  refine lv_goto (tgt := 21) hx hb dL_move_10 (by decide) ?_
  refine lv_iconst (v := 0) hx hb dL_move_21 (by decide) ?_
  exact (W.iret (v := 0) hx hb hr (fun t ht hW => ⟨⟨0, (F4, ad1), rfl, ⟨q, fun f i hf => hα f i hf⟩, gH_at ht hH⟩, hS.F ht⟩) hS.2.2 dL_move_22)
abbrev rm_L_die : Room := { frames := 9, cells := 2, slots := 12, locals := 154 }
abbrev q_L_die (G : GP) (ad : Nat → Nat → Nat) (K : Int32 → GF → Prop) (below : List Frame) (args : Array Value) (s : State) : State → Prop := MQ below (gQi G ad K) args s 2 12 (gA G)
set_option maxHeartbeats 4000000 in
set_option maxRecDepth 100000 in
theorem c_L_die (l : Launch) (hfl : l.stackTraces = false) (G : GP) (ad : Nat → Nat → Nat) (F : GF) (p1 : Int32) (K : Int32 → GF → Prop) : Met l yL_die wsL_die rm_L_die (va_Pc [.ref (ad 0 0), .int p1, .ref (ad 79 0)] (fun U => (gD G ad F U ∧ gL U) ∧ P_L_die F p1 K)) (gQi G ad K) 2 12 (gA G) := by
  refine g_ofWH (hh := [(0, 16, 19, 13), (0, 16, 22, 24)]) (cc := cL_die) (maxL := 4) (ret := (some .int)) (by decide) rfl ?_
  intro p e s m args below meth c s₁ Bd hml hv
  obtain ⟨rfl, ⟨⟨hK, hG, hB, hH⟩, hL⟩, q⟩ := hv
  have hx := Bd.exec
  have hb := Bd.bytes
  have hr := Bd.returns
  have hts := atoms_spec (ws := wsL_die) Bd.pre
  have hown : s.vm.findClass RL = some m.cls := findClass_of_methodNamed Bd.named
  have hlocks := Bd.notSynchronized
  have htab := vx_table (x := yL_die) Bd (hts _ List.mem_cons_self)
  have hS : va_S (gA G) s.heap s.heap [] := va_S.rf
  have hl := lv_entry [.ref (ad 0 0), .int p1, .ref (ad 79 0)] (n := 4) (Nat.le_of_ble_eq_true rfl)
  rw [lg_entry_eq]
  generalize (lg_sl [.ref (ad 0 0), .int p1, .ref (ad 79 0)] ++ List.replicate (4 - (lg_sl [.ref (ad 0 0), .int p1, .ref (ad 79 0)]).length) Slot.unset).toArray = ls at hl ⊢
  have hl : lv_has ls 4 [(0, .ref (ad 0 0)), (1, .int p1), (2, .ref (ad 79 0))] := hl
  show W p l e rm_L_die s m ([.ref (ad 0 0), .int p1, .ref (ad 79 0)] : List Value).toArray below meth c s.heap [] 0 0 (q_L_die G ad K below ([.ref (ad 0 0), .int p1, .ref (ad 79 0)] : List Value).toArray s) _
  have t_15 : ∀ (F : GF) (s1 : Int32) (s2 : Int32) (H : Heap) (locs : List Loc) (ls : Array Slot), gH G ad F H → va_S (gA G) s.heap H locs → lv_has ls 4 [] → (P_L_die_15 K) F s1 s2 → W p l e rm_L_die s m ([.ref (ad 0 0), .int p1, .ref (ad 79 0)] : List Value).toArray below meth c H locs 2 12 (q_L_die G ad K below ([.ref (ad 0 0), .int p1, .ref (ad 79 0)] : List Value).toArray s) (F0 m 15 ls [.long s2.toInt64, .int s1, .ref (ad 79 0)]) := by
    intro F s1 s2 H locs ls hH hS hl q
    unfold P_L_die_15 at q
    obtain ⟨h4, q⟩ := q
    refine g_last hx hb hK hH hS h4 dL_die_15 (fun H locs hH hS => ?_)
    obtain ⟨F5, eF5⟩ : ∃ z, z = fs F 79 0 s1.toNatClampNeg s2 := ⟨_, rfl⟩
    have q := q F5 eF5
    rw [← eF5] at hH
    refine lv_goto (tgt := 25) hx hb dL_die_16 (by decide) ?_
    refine lv_iconst (v := 0) hx hb dL_die_25 (by decide) ?_
    exact (W.iret (v := 0) hx hb hr (fun t ht hW => ⟨⟨0, F5, rfl, q, gH_at ht hH⟩, hS.F ht⟩) hS.2.2 dL_die_26)
  unfold P_L_die at q
  refine lv_aload_n hx hb dL_die_0 rfl (lv_at hl 2 rfl) ?_
  refine lv_iconst (v := 0) hx hb dL_die_1 (by decide) ?_
  refine lv_aload_n hx hb dL_die_2 rfl (lv_at hl 0 rfl) ?_
  refine lv_iload_n hx hb dL_die_3 rfl (lv_at hl 1 rfl) ?_
  refine vx_calli (vx_runV (As := [.int p1]) (rest := [.int 0, .ref (ad 79 0)]) ⟨hx, hb, hml, hown, hts⟩ (c_X10_die l hfl G ad F p1 _ _) (cwV 1 hts gL_die_X10_die rfl rfl rfl (by decide +kernel) ⟨Nat.le_of_ble_eq_true rfl, Nat.le_of_ble_eq_true rfl⟩) ⟨fun a U g mk h => ⟨h.1, gD_blind h.2.1, h.2.2⟩, g_recv (C := RX10) (T := TX10) (N := 8) hK hH 0 0 (by decide) Nat.zero_lt_one rfl rfl, fun U hU hW => ⟨rfl, gD_at hK hG hB hH hS hU hW, q⟩⟩ rfl rfl hl.1 rfl (lv_room (Nat.le_of_ble_eq_true rfl)) dL_die_4 ⟨Nat.le_of_ble_eq_true rfl, Nat.le_of_ble_eq_true rfl⟩) hS (fun _ _ h => h) (fun _ h => h) (fun _ _ h => h) (fun E9 ce q9 F9 t H locs ht hvm _ hq hz hk hS hc9 hv9 hcl9 => ?_) (fun r1 F2 t H locs ht hvm q hB1 hz hk hS => ?_)
  · have hH : gH G ad F9 H := gH_to ht hq.2
    rcases hq.1 with ⟨rfl, q⟩ | ⟨rfl, q⟩
    · refine vx_catch hown [] ⟨0, 16, 19, 13⟩ [⟨0, 16, 22, 24⟩] (htab.trans rfl) (fun _ h => absurd h List.not_mem_nil) rfl (by decide) (hts (.classLink RL 13 "java/lang/IndexOutOfBoundsException") (List.mem_of_getElem? (i := 1) rfl)) (va_Nw.use rfl (gcast hG (List.mem_of_getElem? (i := 0) rfl))) hc9 hv9 hcl9 ?_
      refine lv_astore_n (lv' := [(3, .ref q9), (0, .ref (ad 0 0)), (1, .int p1), (2, .ref (ad 79 0))]) hx hb dL_die_19 rfl hl (by decide) rfl (fun ls hl => ?_)
      refine lv_iconst (v := 1) hx hb dL_die_20 (by decide) ?_
      exact (W.iret (v := 1) hx hb hr (fun t ht hW => ⟨⟨1, F9, rfl, q, gH_at ht hH⟩, hS.F ht⟩) hS.2.2 dL_die_21)
    · refine vx_catch hown [⟨0, 16, 19, 13⟩] ⟨0, 16, 22, 24⟩ [] (htab.trans rfl) (List.forall_mem_cons.mpr ⟨Or.inr ⟨by decide, "java/lang/IndexOutOfBoundsException", hts (.classLink RL 13 "java/lang/IndexOutOfBoundsException") (List.mem_of_getElem? (i := 1) rfl), hL.2.1⟩, (fun _ h => absurd h List.not_mem_nil)⟩) rfl (by decide) (hts (.classLink RL 24 "java/lang/IllegalStateException") (List.mem_of_getElem? (i := 2) rfl)) (va_Nw.use rfl (gcast hG (List.mem_of_getElem? (i := 2) rfl))) hc9 hv9 hcl9 ?_
      refine lv_astore_n (lv' := [(3, .ref q9), (0, .ref (ad 0 0)), (1, .int p1), (2, .ref (ad 79 0))]) hx hb dL_die_22 rfl hl (by decide) rfl (fun ls hl => ?_)
      refine lv_iconst (v := 2) hx hb dL_die_23 (by decide) ?_
      exact (W.iret (v := 2) hx hb hr (fun t ht hW => ⟨⟨2, F9, rfl, q, gH_at ht hH⟩, hS.F ht⟩) hS.2.2 dL_die_24)
  have hH : gH G ad F2 H := gH_to ht hB1
  refine lv_if_eq (tgt := 14) hx hb dL_die_7 (by decide) (fun c3 => ?_) (fun c3 => ?_)
  · have q := (if_pos c3).mp q
    refine lv_lconst (v := (0 : Int32).toInt64) hx hb dL_die_14 (by decide) ?_
    exact t_15 F2 0 0 _ _ _ hH hS (lv_sub hl [] rfl) q
  · have q := (if_neg c3).mp q
    refine lv_lconst (v := (1 : Int32).toInt64) hx hb dL_die_10 (by decide) ?_
    refine lv_goto (tgt := 15) hx hb dL_die_11 (by decide) ?_
    exact t_15 F2 0 1 _ _ _ hH hS (lv_sub hl [] rfl) q
abbrev rm_L_dwells : Room := { frames := 9, cells := 2, slots := 12, locals := 155 }
abbrev q_L_dwells (G : GP) (ad : Nat → Nat → Nat) (K : Int32 → GF → Prop) (below : List Frame) (args : Array Value) (s : State) : State → Prop := MQ below (gQi G ad K) args s 2 12 (gA G)
set_option maxHeartbeats 4000000 in
set_option maxRecDepth 100000 in
theorem c_L_dwells (l : Launch) (hfl : l.stackTraces = false) (G : GP) (ad : Nat → Nat → Nat) (F : GF) (p1 : Int32) (p2 : Int32) (K : Int32 → GF → Prop) : Met l yL_dwells wsL_dwells rm_L_dwells (va_Pc [.ref (ad 0 0), .int p1, .int p2, .ref (ad 79 0)] (fun U => (gD G ad F U ∧ gL U) ∧ P_L_dwells F p1 p2 K)) (gQi G ad K) 2 12 (gA G) := by
  refine g_ofWH (hh := [(0, 10, 13, 13), (0, 10, 17, 15)]) (cc := cL_dwells) (maxL := 5) (ret := (some .int)) (by decide) rfl ?_
  intro p e s m args below meth c s₁ Bd hml hv
  obtain ⟨rfl, ⟨⟨hK, hG, hB, hH⟩, hL⟩, q⟩ := hv
  have hx := Bd.exec
  have hb := Bd.bytes
  have hr := Bd.returns
  have hts := atoms_spec (ws := wsL_dwells) Bd.pre
  have hown : s.vm.findClass RL = some m.cls := findClass_of_methodNamed Bd.named
  have hlocks := Bd.notSynchronized
  have htab := vx_table (x := yL_dwells) Bd (hts _ List.mem_cons_self)
  have hS : va_S (gA G) s.heap s.heap [] := va_S.rf
  have hl := lv_entry [.ref (ad 0 0), .int p1, .int p2, .ref (ad 79 0)] (n := 5) (Nat.le_of_ble_eq_true rfl)
  rw [lg_entry_eq]
  generalize (lg_sl [.ref (ad 0 0), .int p1, .int p2, .ref (ad 79 0)] ++ List.replicate (5 - (lg_sl [.ref (ad 0 0), .int p1, .int p2, .ref (ad 79 0)]).length) Slot.unset).toArray = ls at hl ⊢
  have hl : lv_has ls 5 [(0, .ref (ad 0 0)), (1, .int p1), (2, .int p2), (3, .ref (ad 79 0))] := hl
  unfold P_L_dwells at q
  refine lv_aload_n hx hb dL_dwells_0 rfl (lv_at hl 3 rfl) ?_
  refine lv_iconst (v := 0) hx hb dL_dwells_1 (by decide) ?_
  refine lv_aload_n hx hb dL_dwells_2 rfl (lv_at hl 0 rfl) ?_
  refine lv_iload_n hx hb dL_dwells_3 rfl (lv_at hl 1 rfl) ?_
  refine lv_iload_n hx hb dL_dwells_4 rfl (lv_at hl 2 rfl) ?_
  refine vx_calli (vx_runV (As := [.int p1, .int p2]) (rest := [.int 0, .ref (ad 79 0)]) ⟨hx, hb, hml, hown, hts⟩ (c_X10_dwells l hfl G ad F p1 p2 _ _) (cwV 2 hts gL_dwells_X10_dwells rfl rfl rfl (by decide +kernel) ⟨Nat.le_of_ble_eq_true rfl, Nat.le_of_ble_eq_true rfl⟩) ⟨fun a U g mk h => ⟨h.1, gD_blind h.2.1, h.2.2⟩, g_recv (C := RX10) (T := TX10) (N := 8) hK hH 0 0 (by decide) Nat.zero_lt_one rfl rfl, fun U hU hW => ⟨rfl, gD_at hK hG hB hH hS hU hW, q⟩⟩ rfl rfl hl.1 rfl (lv_room (Nat.le_of_ble_eq_true rfl)) dL_dwells_5 ⟨Nat.le_of_ble_eq_true rfl, Nat.le_of_ble_eq_true rfl⟩) hS (fun _ _ h => h) (fun _ h => h) (fun _ _ h => h) (fun E9 ce q9 F9 t H locs ht hvm _ hq hz hk hS hc9 hv9 hcl9 => ?_) (fun r1 F2 t H locs ht hvm q hB1 hz hk hS => ?_)
  · have hH : gH G ad F9 H := gH_to ht hq.2
    rcases hq.1 with ⟨rfl, q⟩ | ⟨rfl, q⟩
    · refine vx_catch hown [] ⟨0, 10, 13, 13⟩ [⟨0, 10, 17, 15⟩] (htab.trans rfl) (fun _ h => absurd h List.not_mem_nil) rfl (by decide) (hts (.classLink RL 13 "java/lang/IndexOutOfBoundsException") (List.mem_of_getElem? (i := 1) rfl)) (va_Nw.use rfl (gcast hG (List.mem_of_getElem? (i := 0) rfl))) hc9 hv9 hcl9 ?_
      refine lv_astore (lv' := [(4, .ref q9), (0, .ref (ad 0 0)), (1, .int p1), (2, .int p2), (3, .ref (ad 79 0))]) hx hb dL_dwells_13 hl (by decide) rfl (fun ls hl => ?_)
      refine lv_iconst (v := 1) hx hb dL_dwells_15 (by decide) ?_
      exact (W.iret (v := 1) hx hb hr (fun t ht hW => ⟨⟨1, F9, rfl, q, gH_at ht hH⟩, hS.F ht⟩) hS.2.2 dL_dwells_16)
    · refine vx_catch hown [⟨0, 10, 13, 13⟩] ⟨0, 10, 17, 15⟩ [] (htab.trans rfl) (List.forall_mem_cons.mpr ⟨Or.inr ⟨by decide, "java/lang/IndexOutOfBoundsException", hts (.classLink RL 13 "java/lang/IndexOutOfBoundsException") (List.mem_of_getElem? (i := 1) rfl), hL.1⟩, (fun _ h => absurd h List.not_mem_nil)⟩) rfl (by decide) (hts (.classLink RL 15 "java/lang/IllegalArgumentException") (List.mem_of_getElem? (i := 2) rfl)) (va_Nw.use rfl (gcast hG (List.mem_of_getElem? (i := 1) rfl))) hc9 hv9 hcl9 ?_
      refine lv_astore (lv' := [(4, .ref q9), (0, .ref (ad 0 0)), (1, .int p1), (2, .int p2), (3, .ref (ad 79 0))]) hx hb dL_dwells_17 hl (by decide) rfl (fun ls hl => ?_)
      refine lv_iconst (v := 2) hx hb dL_dwells_19 (by decide) ?_
      exact (W.iret (v := 2) hx hb hr (fun t ht hW => ⟨⟨2, F9, rfl, q, gH_at ht hH⟩, hS.F ht⟩) hS.2.2 dL_dwells_20)
  have hH : gH G ad F2 H := gH_to ht hB1
  refine lv_i2l (v := r1.toInt64) hx hb dL_dwells_8 rfl ?_
  obtain ⟨h3, q⟩ := q
  refine g_last hx hb hK hH hS h3 dL_dwells_9 (fun H locs hH hS => ?_)
  obtain ⟨F4, eF4⟩ : ∃ z, z = fs F2 79 0 (0 : Int32).toNatClampNeg r1 := ⟨_, rfl⟩
  have q := q F4 eF4
  rw [← eF4] at hH
  refine lv_goto (tgt := 21) hx hb dL_dwells_10 (by decide) ?_
  refine lv_iconst (v := 0) hx hb dL_dwells_21 (by decide) ?_
  exact (W.iret (v := 0) hx hb hr (fun t ht hW => ⟨⟨0, F4, rfl, q, gH_at ht hH⟩, hS.F ht⟩) hS.2.2 dL_dwells_22)
abbrev rm_L_call : Room := { frames := 8, cells := 3, slots := 18, locals := 135 }
abbrev q_L_call (G : GP) (ad : Nat → Nat → Nat) (K : Int32 → GF → Prop) (below : List Frame) (args : Array Value) (s : State) : State → Prop := MQ below (gQi G ad K) args s 3 18 (gA G)
set_option maxHeartbeats 4000000 in
set_option maxRecDepth 100000 in
theorem c_L_call (l : Launch) (hfl : l.stackTraces = false) (G : GP) (ad : Nat → Nat → Nat) (F : GF) (p1 : Int32) (p2 : Int32) (p3 : Int32) (K : Int32 → GF → Prop) : Met l yL_call wsL_call rm_L_call (va_Pc [.ref (ad 0 0), .int p1, .int p2, .int p3, .ref (ad 79 0)] (fun U => (gD G ad F U ∧ gL U) ∧ P_L_call F p1 p2 p3 K)) (gQi G ad K) 3 18 (gA G) := by
  refine g_ofWH (hh := [(0, 12, 15, 15), (0, 12, 19, 24)]) (cc := cL_call) (maxL := 6) (ret := (some .int)) (by decide) rfl ?_
  intro p e s m args below meth c s₁ Bd hml hv
  obtain ⟨rfl, ⟨⟨hK, hG, hB, hH⟩, hL⟩, q⟩ := hv
  have hx := Bd.exec
  have hb := Bd.bytes
  have hr := Bd.returns
  have hts := atoms_spec (ws := wsL_call) Bd.pre
  have hown : s.vm.findClass RL = some m.cls := findClass_of_methodNamed Bd.named
  have hlocks := Bd.notSynchronized
  have htab := vx_table (x := yL_call) Bd (hts _ List.mem_cons_self)
  have hS : va_S (gA G) s.heap s.heap [] := va_S.rf
  have hl := lv_entry [.ref (ad 0 0), .int p1, .int p2, .int p3, .ref (ad 79 0)] (n := 6) (Nat.le_of_ble_eq_true rfl)
  rw [lg_entry_eq]
  generalize (lg_sl [.ref (ad 0 0), .int p1, .int p2, .int p3, .ref (ad 79 0)] ++ List.replicate (6 - (lg_sl [.ref (ad 0 0), .int p1, .int p2, .int p3, .ref (ad 79 0)]).length) Slot.unset).toArray = ls at hl ⊢
  have hl : lv_has ls 6 [(0, .ref (ad 0 0)), (1, .int p1), (2, .int p2), (3, .int p3), (4, .ref (ad 79 0))] := hl
  unfold P_L_call at q
  refine lv_aload hx hb dL_call_0 (lv_at hl 4 rfl) ?_
  refine lv_iconst (v := 0) hx hb dL_call_2 (by decide) ?_
  refine lv_aload_n hx hb dL_call_3 rfl (lv_at hl 0 rfl) ?_
  refine lv_iload_n hx hb dL_call_4 rfl (lv_at hl 1 rfl) ?_
  refine lv_iload_n hx hb dL_call_5 rfl (lv_at hl 2 rfl) ?_
  refine lv_iload_n hx hb dL_call_6 rfl (lv_at hl 3 rfl) ?_
  refine vx_calli (vx_runV (As := [.int p1, .int p2, .int p3]) (rest := [.int 0, .ref (ad 79 0)]) ⟨hx, hb, hml, hown, hts⟩ (c_X10_call l hfl G ad F p1 p2 p3 _ _) (cwV 3 hts gL_call_X10_call rfl rfl rfl (by decide +kernel) ⟨Nat.le_of_ble_eq_true rfl, Nat.le_of_ble_eq_true rfl⟩) ⟨fun a U g mk h => ⟨h.1, gD_blind h.2.1, h.2.2⟩, g_recv (C := RX10) (T := TX10) (N := 8) hK hH 0 0 (by decide) Nat.zero_lt_one rfl rfl, fun U hU hW => ⟨rfl, gD_at hK hG hB hH hS hU hW, q⟩⟩ rfl rfl hl.1 rfl (lv_room (Nat.le_of_ble_eq_true rfl)) dL_call_7 ⟨Nat.le_of_ble_eq_true rfl, Nat.le_of_ble_eq_true rfl⟩) hS (fun _ _ h => h) (fun _ h => h) (fun _ _ h => h) (fun E9 ce q9 F9 t H locs ht hvm _ hq hz hk hS hc9 hv9 hcl9 => ?_) (fun r1 F2 t H locs ht hvm q hB1 hz hk hS => ?_)
  · have hH : gH G ad F9 H := gH_to ht hq.2
    rcases hq.1 with ⟨rfl, q⟩ | ⟨rfl, q⟩
    · refine vx_catch hown [] ⟨0, 12, 15, 15⟩ [⟨0, 12, 19, 24⟩] (htab.trans rfl) (fun _ h => absurd h List.not_mem_nil) rfl (by decide) (hts (.classLink RL 15 "java/lang/IllegalArgumentException") (List.mem_of_getElem? (i := 1) rfl)) (va_Nw.use rfl (gcast hG (List.mem_of_getElem? (i := 1) rfl))) hc9 hv9 hcl9 ?_
      refine lv_astore (lv' := [(5, .ref q9), (0, .ref (ad 0 0)), (1, .int p1), (2, .int p2), (3, .int p3), (4, .ref (ad 79 0))]) hx hb dL_call_15 hl (by decide) rfl (fun ls hl => ?_)
      refine lv_iconst (v := 1) hx hb dL_call_17 (by decide) ?_
      exact (W.iret (v := 1) hx hb hr (fun t ht hW => ⟨⟨1, F9, rfl, q, gH_at ht hH⟩, hS.F ht⟩) hS.2.2 dL_call_18)
    · refine vx_catch hown [⟨0, 12, 15, 15⟩] ⟨0, 12, 19, 24⟩ [] (htab.trans rfl) (List.forall_mem_cons.mpr ⟨Or.inr ⟨by decide, "java/lang/IllegalArgumentException", hts (.classLink RL 15 "java/lang/IllegalArgumentException") (List.mem_of_getElem? (i := 1) rfl), hL.2.2⟩, (fun _ h => absurd h List.not_mem_nil)⟩) rfl (by decide) (hts (.classLink RL 24 "java/lang/IllegalStateException") (List.mem_of_getElem? (i := 2) rfl)) (va_Nw.use rfl (gcast hG (List.mem_of_getElem? (i := 2) rfl))) hc9 hv9 hcl9 ?_
      refine lv_astore (lv' := [(5, .ref q9), (0, .ref (ad 0 0)), (1, .int p1), (2, .int p2), (3, .int p3), (4, .ref (ad 79 0))]) hx hb dL_call_19 hl (by decide) rfl (fun ls hl => ?_)
      refine lv_iconst (v := 2) hx hb dL_call_21 (by decide) ?_
      exact (W.iret (v := 2) hx hb hr (fun t ht hW => ⟨⟨2, F9, rfl, q, gH_at ht hH⟩, hS.F ht⟩) hS.2.2 dL_call_22)
  have hH : gH G ad F2 H := gH_to ht hB1
  refine lv_i2l (v := r1.toInt64) hx hb dL_call_10 rfl ?_
  obtain ⟨h3, q⟩ := q
  refine g_last hx hb hK hH hS h3 dL_call_11 (fun H locs hH hS => ?_)
  obtain ⟨F4, eF4⟩ : ∃ z, z = fs F2 79 0 (0 : Int32).toNatClampNeg r1 := ⟨_, rfl⟩
  have q := q F4 eF4
  rw [← eF4] at hH
  refine lv_goto (tgt := 23) hx hb dL_call_12 (by decide) ?_
  refine lv_iconst (v := 0) hx hb dL_call_23 (by decide) ?_
  exact (W.iret (v := 0) hx hb hr (fun t ht hW => ⟨⟨0, F4, rfl, q, gH_at ht hH⟩, hS.F ht⟩) hS.2.2 dL_call_24)
abbrev rm_L_seed : Room := { frames := 8, cells := 3, slots := 18, locals := 135 }
abbrev q_L_seed (G : GP) (ad : Nat → Nat → Nat) (K : Int32 → GF → Prop) (below : List Frame) (args : Array Value) (s : State) : State → Prop := MQ below (gQi G ad K) args s 3 18 (gA G)
set_option maxHeartbeats 4000000 in
set_option maxRecDepth 100000 in
theorem c_L_seed (l : Launch) (hfl : l.stackTraces = false) (G : GP) (ad : Nat → Nat → Nat) (F : GF) (p1 : Int32) (p2 : Int32) (K : Int32 → GF → Prop) : Met l yL_seed wsL_seed rm_L_seed (va_Pc [.ref (ad 0 0), .int p1, .int p2, .ref (ad 79 0)] (fun U => (gD G ad F U ∧ gL U) ∧ P_L_seed F p1 p2 K)) (gQi G ad K) 3 18 (gA G) := by
  refine g_ofWH (hh := [(0, 10, 13, 13), (0, 10, 17, 15), (0, 10, 21, 24)]) (cc := cL_seed) (maxL := 5) (ret := (some .int)) (by decide) rfl ?_
  intro p e s m args below meth c s₁ Bd hml hv
  obtain ⟨rfl, ⟨⟨hK, hG, hB, hH⟩, hL⟩, q⟩ := hv
  have hx := Bd.exec
  have hb := Bd.bytes
  have hr := Bd.returns
  have hts := atoms_spec (ws := wsL_seed) Bd.pre
  have hown : s.vm.findClass RL = some m.cls := findClass_of_methodNamed Bd.named
  have hlocks := Bd.notSynchronized
  have htab := vx_table (x := yL_seed) Bd (hts _ List.mem_cons_self)
  have hS : va_S (gA G) s.heap s.heap [] := va_S.rf
  have hl := lv_entry [.ref (ad 0 0), .int p1, .int p2, .ref (ad 79 0)] (n := 5) (Nat.le_of_ble_eq_true rfl)
  rw [lg_entry_eq]
  generalize (lg_sl [.ref (ad 0 0), .int p1, .int p2, .ref (ad 79 0)] ++ List.replicate (5 - (lg_sl [.ref (ad 0 0), .int p1, .int p2, .ref (ad 79 0)]).length) Slot.unset).toArray = ls at hl ⊢
  have hl : lv_has ls 5 [(0, .ref (ad 0 0)), (1, .int p1), (2, .int p2), (3, .ref (ad 79 0))] := hl
  unfold P_L_seed at q
  refine lv_aload_n hx hb dL_seed_0 rfl (lv_at hl 3 rfl) ?_
  refine lv_iconst (v := 0) hx hb dL_seed_1 (by decide) ?_
  refine lv_aload_n hx hb dL_seed_2 rfl (lv_at hl 0 rfl) ?_
  refine lv_iload_n hx hb dL_seed_3 rfl (lv_at hl 1 rfl) ?_
  refine lv_iload_n hx hb dL_seed_4 rfl (lv_at hl 2 rfl) ?_
  refine vx_calli (vx_runV (As := [.int p1, .int p2]) (rest := [.int 0, .ref (ad 79 0)]) ⟨hx, hb, hml, hown, hts⟩ (c_X10_seed l hfl G ad F p1 p2 _ _) (cwV 2 hts gL_seed_X10_seed rfl rfl rfl (by decide +kernel) ⟨Nat.le_of_ble_eq_true rfl, Nat.le_of_ble_eq_true rfl⟩) ⟨fun a U g mk h => ⟨h.1, gD_blind h.2.1, h.2.2⟩, g_recv (C := RX10) (T := TX10) (N := 8) hK hH 0 0 (by decide) Nat.zero_lt_one rfl rfl, fun U hU hW => ⟨rfl, gD_at hK hG hB hH hS hU hW, q⟩⟩ rfl rfl hl.1 rfl (lv_room (Nat.le_of_ble_eq_true rfl)) dL_seed_5 ⟨Nat.le_of_ble_eq_true rfl, Nat.le_of_ble_eq_true rfl⟩) hS (fun _ _ h => h) (fun _ h => h) (fun _ _ h => h) (fun E9 ce q9 F9 t H locs ht hvm _ hq hz hk hS hc9 hv9 hcl9 => ?_) (fun r1 F2 t H locs ht hvm q hB1 hz hk hS => ?_)
  · have hH : gH G ad F9 H := gH_to ht hq.2
    rcases hq.1 with ⟨rfl, q⟩ | ⟨rfl, q⟩ | ⟨rfl, q⟩
    · refine vx_catch hown [] ⟨0, 10, 13, 13⟩ [⟨0, 10, 17, 15⟩, ⟨0, 10, 21, 24⟩] (htab.trans rfl) (fun _ h => absurd h List.not_mem_nil) rfl (by decide) (hts (.classLink RL 13 "java/lang/IndexOutOfBoundsException") (List.mem_of_getElem? (i := 1) rfl)) (va_Nw.use rfl (gcast hG (List.mem_of_getElem? (i := 0) rfl))) hc9 hv9 hcl9 ?_
      refine lv_astore (lv' := [(4, .ref q9), (0, .ref (ad 0 0)), (1, .int p1), (2, .int p2), (3, .ref (ad 79 0))]) hx hb dL_seed_13 hl (by decide) rfl (fun ls hl => ?_)
      refine lv_iconst (v := 1) hx hb dL_seed_15 (by decide) ?_
      exact (W.iret (v := 1) hx hb hr (fun t ht hW => ⟨⟨1, F9, rfl, q, gH_at ht hH⟩, hS.F ht⟩) hS.2.2 dL_seed_16)
    · refine vx_catch hown [⟨0, 10, 13, 13⟩] ⟨0, 10, 17, 15⟩ [⟨0, 10, 21, 24⟩] (htab.trans rfl) (List.forall_mem_cons.mpr ⟨Or.inr ⟨by decide, "java/lang/IndexOutOfBoundsException", hts (.classLink RL 13 "java/lang/IndexOutOfBoundsException") (List.mem_of_getElem? (i := 1) rfl), hL.1⟩, (fun _ h => absurd h List.not_mem_nil)⟩) rfl (by decide) (hts (.classLink RL 15 "java/lang/IllegalArgumentException") (List.mem_of_getElem? (i := 2) rfl)) (va_Nw.use rfl (gcast hG (List.mem_of_getElem? (i := 1) rfl))) hc9 hv9 hcl9 ?_
      refine lv_astore (lv' := [(4, .ref q9), (0, .ref (ad 0 0)), (1, .int p1), (2, .int p2), (3, .ref (ad 79 0))]) hx hb dL_seed_17 hl (by decide) rfl (fun ls hl => ?_)
      refine lv_iconst (v := 2) hx hb dL_seed_19 (by decide) ?_
      exact (W.iret (v := 2) hx hb hr (fun t ht hW => ⟨⟨2, F9, rfl, q, gH_at ht hH⟩, hS.F ht⟩) hS.2.2 dL_seed_20)
    · refine vx_catch hown [⟨0, 10, 13, 13⟩, ⟨0, 10, 17, 15⟩] ⟨0, 10, 21, 24⟩ [] (htab.trans rfl) (List.forall_mem_cons.mpr ⟨Or.inr ⟨by decide, "java/lang/IndexOutOfBoundsException", hts (.classLink RL 13 "java/lang/IndexOutOfBoundsException") (List.mem_of_getElem? (i := 1) rfl), hL.2.1⟩, (List.forall_mem_cons.mpr ⟨Or.inr ⟨by decide, "java/lang/IllegalArgumentException", hts (.classLink RL 15 "java/lang/IllegalArgumentException") (List.mem_of_getElem? (i := 2) rfl), hL.2.2⟩, (fun _ h => absurd h List.not_mem_nil)⟩)⟩) rfl (by decide) (hts (.classLink RL 24 "java/lang/IllegalStateException") (List.mem_of_getElem? (i := 3) rfl)) (va_Nw.use rfl (gcast hG (List.mem_of_getElem? (i := 2) rfl))) hc9 hv9 hcl9 ?_
      refine lv_astore (lv' := [(4, .ref q9), (0, .ref (ad 0 0)), (1, .int p1), (2, .int p2), (3, .ref (ad 79 0))]) hx hb dL_seed_21 hl (by decide) rfl (fun ls hl => ?_)
      refine lv_iconst (v := 3) hx hb dL_seed_23 (by decide) ?_
      exact (W.iret (v := 3) hx hb hr (fun t ht hW => ⟨⟨3, F9, rfl, q, gH_at ht hH⟩, hS.F ht⟩) hS.2.2 dL_seed_24)
  have hH : gH G ad F2 H := gH_to ht hB1
  refine lv_i2l (v := r1.toInt64) hx hb dL_seed_8 rfl ?_
  obtain ⟨h3, q⟩ := q
  refine g_last hx hb hK hH hS h3 dL_seed_9 (fun H locs hH hS => ?_)
  obtain ⟨F4, eF4⟩ : ∃ z, z = fs F2 79 0 (0 : Int32).toNatClampNeg r1 := ⟨_, rfl⟩
  have q := q F4 eF4
  rw [← eF4] at hH
  refine lv_goto (tgt := 25) hx hb dL_seed_10 (by decide) ?_
  refine lv_iconst (v := 0) hx hb dL_seed_25 (by decide) ?_
  exact (W.iret (v := 0) hx hb hr (fun t ht hW => ⟨⟨0, F4, rfl, q, gH_at ht hH⟩, hS.F ht⟩) hS.2.2 dL_seed_26)
abbrev rm_L_advance : Room := { frames := 8, cells := 2, slots := 12, locals := 136 }
abbrev q_L_advance (G : GP) (ad : Nat → Nat → Nat) (K : Int32 → GF → Prop) (below : List Frame) (args : Array Value) (s : State) : State → Prop := MQ below (gQi G ad K) args s 2 12 (gA G)
set_option maxHeartbeats 4000000 in
set_option maxRecDepth 100000 in
theorem c_L_advance (l : Launch) (hfl : l.stackTraces = false) (G : GP) (ad : Nat → Nat → Nat) (F : GF) (p1 : Int32) (K : Int32 → GF → Prop) : Met l yL_advance wsL_advance rm_L_advance (va_Pc [.ref (ad 0 0), .int p1, .ref (ad 79 0)] (fun U => (gD G ad F U ∧ gL U) ∧ P_L_advance F p1 K)) (gQi G ad K) 2 12 (gA G) := by
  refine g_ofWH (hh := [(0, 9, 12, 15), (0, 9, 15, 24)]) (cc := cL_advance) (maxL := 4) (ret := (some .int)) (by decide) rfl ?_
  intro p e s m args below meth c s₁ Bd hml hv
  obtain ⟨rfl, ⟨⟨hK, hG, hB, hH⟩, hL⟩, q⟩ := hv
  have hx := Bd.exec
  have hb := Bd.bytes
  have hr := Bd.returns
  have hts := atoms_spec (ws := wsL_advance) Bd.pre
  have hown : s.vm.findClass RL = some m.cls := findClass_of_methodNamed Bd.named
  have hlocks := Bd.notSynchronized
  have htab := vx_table (x := yL_advance) Bd (hts _ List.mem_cons_self)
  have hS : va_S (gA G) s.heap s.heap [] := va_S.rf
  have hl := lv_entry [.ref (ad 0 0), .int p1, .ref (ad 79 0)] (n := 4) (Nat.le_of_ble_eq_true rfl)
  rw [lg_entry_eq]
  generalize (lg_sl [.ref (ad 0 0), .int p1, .ref (ad 79 0)] ++ List.replicate (4 - (lg_sl [.ref (ad 0 0), .int p1, .ref (ad 79 0)]).length) Slot.unset).toArray = ls at hl ⊢
  have hl : lv_has ls 4 [(0, .ref (ad 0 0)), (1, .int p1), (2, .ref (ad 79 0))] := hl
  unfold P_L_advance at q
  refine lv_aload_n hx hb dL_advance_0 rfl (lv_at hl 2 rfl) ?_
  refine lv_iconst (v := 0) hx hb dL_advance_1 (by decide) ?_
  refine lv_aload_n hx hb dL_advance_2 rfl (lv_at hl 0 rfl) ?_
  refine lv_iload_n hx hb dL_advance_3 rfl (lv_at hl 1 rfl) ?_
  refine vx_calli (vx_runV (As := [.int p1]) (rest := [.int 0, .ref (ad 79 0)]) ⟨hx, hb, hml, hown, hts⟩ (c_X10_advance l hfl G ad F p1 _ _) (cwV 1 hts gL_advance_X10_advance rfl rfl rfl (by decide +kernel) ⟨Nat.le_of_ble_eq_true rfl, Nat.le_of_ble_eq_true rfl⟩) ⟨fun a U g mk h => ⟨h.1, gD_blind h.2.1, h.2.2⟩, g_recv (C := RX10) (T := TX10) (N := 8) hK hH 0 0 (by decide) Nat.zero_lt_one rfl rfl, fun U hU hW => ⟨rfl, gD_at hK hG hB hH hS hU hW, q⟩⟩ rfl rfl hl.1 rfl (lv_room (Nat.le_of_ble_eq_true rfl)) dL_advance_4 ⟨Nat.le_of_ble_eq_true rfl, Nat.le_of_ble_eq_true rfl⟩) hS (fun _ _ h => h) (fun _ h => h) (fun _ _ h => h) (fun E9 ce q9 F9 t H locs ht hvm _ hq hz hk hS hc9 hv9 hcl9 => ?_) (fun r1 F2 t H locs ht hvm q hB1 hz hk hS => ?_)
  · have hH : gH G ad F9 H := gH_to ht hq.2
    rcases hq.1 with ⟨rfl, q⟩ | ⟨rfl, q⟩
    · refine vx_catch hown [] ⟨0, 9, 12, 15⟩ [⟨0, 9, 15, 24⟩] (htab.trans rfl) (fun _ h => absurd h List.not_mem_nil) rfl (by decide) (hts (.classLink RL 15 "java/lang/IllegalArgumentException") (List.mem_of_getElem? (i := 1) rfl)) (va_Nw.use rfl (gcast hG (List.mem_of_getElem? (i := 1) rfl))) hc9 hv9 hcl9 ?_
      refine lv_astore_n (lv' := [(3, .ref q9), (0, .ref (ad 0 0)), (1, .int p1), (2, .ref (ad 79 0))]) hx hb dL_advance_12 rfl hl (by decide) rfl (fun ls hl => ?_)
      refine lv_iconst (v := 1) hx hb dL_advance_13 (by decide) ?_
      exact (W.iret (v := 1) hx hb hr (fun t ht hW => ⟨⟨1, F9, rfl, q, gH_at ht hH⟩, hS.F ht⟩) hS.2.2 dL_advance_14)
    · refine vx_catch hown [⟨0, 9, 12, 15⟩] ⟨0, 9, 15, 24⟩ [] (htab.trans rfl) (List.forall_mem_cons.mpr ⟨Or.inr ⟨by decide, "java/lang/IllegalArgumentException", hts (.classLink RL 15 "java/lang/IllegalArgumentException") (List.mem_of_getElem? (i := 1) rfl), hL.2.2⟩, (fun _ h => absurd h List.not_mem_nil)⟩) rfl (by decide) (hts (.classLink RL 24 "java/lang/IllegalStateException") (List.mem_of_getElem? (i := 2) rfl)) (va_Nw.use rfl (gcast hG (List.mem_of_getElem? (i := 2) rfl))) hc9 hv9 hcl9 ?_
      refine lv_astore_n (lv' := [(3, .ref q9), (0, .ref (ad 0 0)), (1, .int p1), (2, .ref (ad 79 0))]) hx hb dL_advance_15 rfl hl (by decide) rfl (fun ls hl => ?_)
      refine lv_iconst (v := 2) hx hb dL_advance_16 (by decide) ?_
      exact (W.iret (v := 2) hx hb hr (fun t ht hW => ⟨⟨2, F9, rfl, q, gH_at ht hH⟩, hS.F ht⟩) hS.2.2 dL_advance_17)
  have hH : gH G ad F2 H := gH_to ht hB1
  refine lv_i2l (v := r1.toInt64) hx hb dL_advance_7 rfl ?_
  obtain ⟨h3, q⟩ := q
  refine g_last hx hb hK hH hS h3 dL_advance_8 (fun H locs hH hS => ?_)
  obtain ⟨F4, eF4⟩ : ∃ z, z = fs F2 79 0 (0 : Int32).toNatClampNeg r1 := ⟨_, rfl⟩
  have q := q F4 eF4
  rw [← eF4] at hH
  refine lv_goto (tgt := 18) hx hb dL_advance_9 (by decide) ?_
  refine lv_iconst (v := 0) hx hb dL_advance_18 (by decide) ?_
  exact (W.iret (v := 0) hx hb hr (fun t ht hW => ⟨⟨0, F4, rfl, q, gH_at ht hH⟩, hS.F ht⟩) hS.2.2 dL_advance_19)
abbrev rm_L_isOnRoll : Room := { frames := 8, cells := 1, slots := 6, locals := 132 }
abbrev q_L_isOnRoll (G : GP) (ad : Nat → Nat → Nat) (K : Int32 → GF → Prop) (below : List Frame) (args : Array Value) (s : State) : State → Prop := MQ below (gQi G ad K) args s 1 6 (gA G)
set_option maxHeartbeats 4000000 in
set_option maxRecDepth 100000 in
theorem c_L_isOnRoll (l : Launch) (hfl : l.stackTraces = false) (G : GP) (ad : Nat → Nat → Nat) (F : GF) (p1 : Int32) (K : Int32 → GF → Prop) : Met l yL_isOnRoll wsL_isOnRoll rm_L_isOnRoll (va_Pc [.ref (ad 0 0), .int p1, .ref (ad 79 0)] (fun U => (gD G ad F U ∧ gL U) ∧ P_L_isOnRoll F p1 K)) (gQi G ad K) 1 6 (gA G) := by
  refine g_ofWH (hh := [(0, 16, 19, 13)]) (cc := cL_isOnRoll) (maxL := 4) (ret := (some .int)) (by decide) rfl ?_
  intro p e s m args below meth c s₁ Bd hml hv
  obtain ⟨rfl, ⟨⟨hK, hG, hB, hH⟩, hL⟩, q⟩ := hv
  have hx := Bd.exec
  have hb := Bd.bytes
  have hr := Bd.returns
  have hts := atoms_spec (ws := wsL_isOnRoll) Bd.pre
  have hown : s.vm.findClass RL = some m.cls := findClass_of_methodNamed Bd.named
  have hlocks := Bd.notSynchronized
  have htab := vx_table (x := yL_isOnRoll) Bd (hts _ List.mem_cons_self)
  have hS : va_S (gA G) s.heap s.heap [] := va_S.rf
  have hl := lv_entry [.ref (ad 0 0), .int p1, .ref (ad 79 0)] (n := 4) (Nat.le_of_ble_eq_true rfl)
  rw [lg_entry_eq]
  generalize (lg_sl [.ref (ad 0 0), .int p1, .ref (ad 79 0)] ++ List.replicate (4 - (lg_sl [.ref (ad 0 0), .int p1, .ref (ad 79 0)]).length) Slot.unset).toArray = ls at hl ⊢
  have hl : lv_has ls 4 [(0, .ref (ad 0 0)), (1, .int p1), (2, .ref (ad 79 0))] := hl
  show W p l e rm_L_isOnRoll s m ([.ref (ad 0 0), .int p1, .ref (ad 79 0)] : List Value).toArray below meth c s.heap [] 0 0 (q_L_isOnRoll G ad K below ([.ref (ad 0 0), .int p1, .ref (ad 79 0)] : List Value).toArray s) _
  have t_15 : ∀ (F : GF) (s1 : Int32) (s2 : Int32) (H : Heap) (locs : List Loc) (ls : Array Slot), gH G ad F H → va_S (gA G) s.heap H locs → lv_has ls 4 [] → (P_L_isOnRoll_15 K) F s1 s2 → W p l e rm_L_isOnRoll s m ([.ref (ad 0 0), .int p1, .ref (ad 79 0)] : List Value).toArray below meth c H locs 1 6 (q_L_isOnRoll G ad K below ([.ref (ad 0 0), .int p1, .ref (ad 79 0)] : List Value).toArray s) (F0 m 15 ls [.long s2.toInt64, .int s1, .ref (ad 79 0)]) := by
    intro F s1 s2 H locs ls hH hS hl q
    unfold P_L_isOnRoll_15 at q
    obtain ⟨h4, q⟩ := q
    refine g_last hx hb hK hH hS h4 dL_isOnRoll_15 (fun H locs hH hS => ?_)
    obtain ⟨F5, eF5⟩ : ∃ z, z = fs F 79 0 s1.toNatClampNeg s2 := ⟨_, rfl⟩
    have q := q F5 eF5
    rw [← eF5] at hH
    refine lv_goto (tgt := 22) hx hb dL_isOnRoll_16 (by decide) ?_
    refine lv_iconst (v := 0) hx hb dL_isOnRoll_22 (by decide) ?_
    exact (W.iret (v := 0) hx hb hr (fun t ht hW => ⟨⟨0, F5, rfl, q, gH_at ht hH⟩, hS.F ht⟩) hS.2.2 dL_isOnRoll_23)
  unfold P_L_isOnRoll at q
  refine lv_aload_n hx hb dL_isOnRoll_0 rfl (lv_at hl 2 rfl) ?_
  refine lv_iconst (v := 0) hx hb dL_isOnRoll_1 (by decide) ?_
  refine lv_aload_n hx hb dL_isOnRoll_2 rfl (lv_at hl 0 rfl) ?_
  refine lv_iload_n hx hb dL_isOnRoll_3 rfl (lv_at hl 1 rfl) ?_
  refine vx_calli (vx_runV (As := [.int p1]) (rest := [.int 0, .ref (ad 79 0)]) ⟨hx, hb, hml, hown, hts⟩ (c_X10_isOnRoll l hfl G ad F p1 _ _) (cwV 1 hts gL_isOnRoll_X10_isOnRoll rfl rfl rfl (by decide +kernel) ⟨Nat.le_of_ble_eq_true rfl, Nat.le_of_ble_eq_true rfl⟩) ⟨fun a U g mk h => ⟨h.1, gD_blind h.2.1, h.2.2⟩, g_recv (C := RX10) (T := TX10) (N := 8) hK hH 0 0 (by decide) Nat.zero_lt_one rfl rfl, fun U hU hW => ⟨rfl, gD_at hK hG hB hH hS hU hW, q⟩⟩ rfl rfl hl.1 rfl (lv_room (Nat.le_of_ble_eq_true rfl)) dL_isOnRoll_4 ⟨Nat.le_of_ble_eq_true rfl, Nat.le_of_ble_eq_true rfl⟩) hS (fun _ _ h => h) (fun _ h => h) (fun _ _ h => h) (fun E9 ce q9 F9 t H locs ht hvm _ hq hz hk hS hc9 hv9 hcl9 => ?_) (fun r1 F2 t H locs ht hvm q hB1 hz hk hS => ?_)
  · have hH : gH G ad F9 H := gH_to ht hq.2
    rcases hq.1 with ⟨rfl, q⟩
    · refine vx_catch hown [] ⟨0, 16, 19, 13⟩ [] (htab.trans rfl) (fun _ h => absurd h List.not_mem_nil) rfl (by decide) (hts (.classLink RL 13 "java/lang/IndexOutOfBoundsException") (List.mem_of_getElem? (i := 1) rfl)) (va_Nw.use rfl (gcast hG (List.mem_of_getElem? (i := 0) rfl))) hc9 hv9 hcl9 ?_
      refine lv_astore_n (lv' := [(3, .ref q9), (0, .ref (ad 0 0)), (1, .int p1), (2, .ref (ad 79 0))]) hx hb dL_isOnRoll_19 rfl hl (by decide) rfl (fun ls hl => ?_)
      refine lv_iconst (v := 1) hx hb dL_isOnRoll_20 (by decide) ?_
      exact (W.iret (v := 1) hx hb hr (fun t ht hW => ⟨⟨1, F9, rfl, q, gH_at ht hH⟩, hS.F ht⟩) hS.2.2 dL_isOnRoll_21)
  have hH : gH G ad F2 H := gH_to ht hB1
  refine lv_if_eq (tgt := 14) hx hb dL_isOnRoll_7 (by decide) (fun c3 => ?_) (fun c3 => ?_)
  · have q := (if_pos c3).mp q
    refine lv_lconst (v := (0 : Int32).toInt64) hx hb dL_isOnRoll_14 (by decide) ?_
    exact t_15 F2 0 0 _ _ _ hH hS (lv_sub hl [] rfl) q
  · have q := (if_neg c3).mp q
    refine lv_lconst (v := (1 : Int32).toInt64) hx hb dL_isOnRoll_10 (by decide) ?_
    refine lv_goto (tgt := 15) hx hb dL_isOnRoll_11 (by decide) ?_
    exact t_15 F2 0 1 _ _ _ hH hS (lv_sub hl [] rfl) q
abbrev rm_L_stationOf : Room := { frames := 8, cells := 1, slots := 6, locals := 132 }
abbrev q_L_stationOf (G : GP) (ad : Nat → Nat → Nat) (K : Int32 → GF → Prop) (below : List Frame) (args : Array Value) (s : State) : State → Prop := MQ below (gQi G ad K) args s 1 6 (gA G)
set_option maxHeartbeats 4000000 in
set_option maxRecDepth 100000 in
theorem c_L_stationOf (l : Launch) (hfl : l.stackTraces = false) (G : GP) (ad : Nat → Nat → Nat) (F : GF) (p1 : Int32) (K : Int32 → GF → Prop) : Met l yL_stationOf wsL_stationOf rm_L_stationOf (va_Pc [.ref (ad 0 0), .int p1, .ref (ad 79 0)] (fun U => (gD G ad F U ∧ gL U) ∧ P_L_stationOf F p1 K)) (gQi G ad K) 1 6 (gA G) := by
  refine g_ofWH (hh := [(0, 9, 12, 13)]) (cc := cL_stationOf) (maxL := 4) (ret := (some .int)) (by decide) rfl ?_
  intro p e s m args below meth c s₁ Bd hml hv
  obtain ⟨rfl, ⟨⟨hK, hG, hB, hH⟩, hL⟩, q⟩ := hv
  have hx := Bd.exec
  have hb := Bd.bytes
  have hr := Bd.returns
  have hts := atoms_spec (ws := wsL_stationOf) Bd.pre
  have hown : s.vm.findClass RL = some m.cls := findClass_of_methodNamed Bd.named
  have hlocks := Bd.notSynchronized
  have htab := vx_table (x := yL_stationOf) Bd (hts _ List.mem_cons_self)
  have hS : va_S (gA G) s.heap s.heap [] := va_S.rf
  have hl := lv_entry [.ref (ad 0 0), .int p1, .ref (ad 79 0)] (n := 4) (Nat.le_of_ble_eq_true rfl)
  rw [lg_entry_eq]
  generalize (lg_sl [.ref (ad 0 0), .int p1, .ref (ad 79 0)] ++ List.replicate (4 - (lg_sl [.ref (ad 0 0), .int p1, .ref (ad 79 0)]).length) Slot.unset).toArray = ls at hl ⊢
  have hl : lv_has ls 4 [(0, .ref (ad 0 0)), (1, .int p1), (2, .ref (ad 79 0))] := hl
  unfold P_L_stationOf at q
  refine lv_aload_n hx hb dL_stationOf_0 rfl (lv_at hl 2 rfl) ?_
  refine lv_iconst (v := 0) hx hb dL_stationOf_1 (by decide) ?_
  refine lv_aload_n hx hb dL_stationOf_2 rfl (lv_at hl 0 rfl) ?_
  refine lv_iload_n hx hb dL_stationOf_3 rfl (lv_at hl 1 rfl) ?_
  refine vx_calli (vx_runV (As := [.int p1]) (rest := [.int 0, .ref (ad 79 0)]) ⟨hx, hb, hml, hown, hts⟩ (c_X10_stationOf l hfl G ad F p1 _ _) (cwV 1 hts gL_stationOf_X10_stationOf rfl rfl rfl (by decide +kernel) ⟨Nat.le_of_ble_eq_true rfl, Nat.le_of_ble_eq_true rfl⟩) ⟨fun a U g mk h => ⟨h.1, gD_blind h.2.1, h.2.2⟩, g_recv (C := RX10) (T := TX10) (N := 8) hK hH 0 0 (by decide) Nat.zero_lt_one rfl rfl, fun U hU hW => ⟨rfl, gD_at hK hG hB hH hS hU hW, q⟩⟩ rfl rfl hl.1 rfl (lv_room (Nat.le_of_ble_eq_true rfl)) dL_stationOf_4 ⟨Nat.le_of_ble_eq_true rfl, Nat.le_of_ble_eq_true rfl⟩) hS (fun _ _ h => h) (fun _ h => h) (fun _ _ h => h) (fun E9 ce q9 F9 t H locs ht hvm _ hq hz hk hS hc9 hv9 hcl9 => ?_) (fun r1 F2 t H locs ht hvm q hB1 hz hk hS => ?_)
  · have hH : gH G ad F9 H := gH_to ht hq.2
    rcases hq.1 with ⟨rfl, q⟩
    · refine vx_catch hown [] ⟨0, 9, 12, 13⟩ [] (htab.trans rfl) (fun _ h => absurd h List.not_mem_nil) rfl (by decide) (hts (.classLink RL 13 "java/lang/IndexOutOfBoundsException") (List.mem_of_getElem? (i := 1) rfl)) (va_Nw.use rfl (gcast hG (List.mem_of_getElem? (i := 0) rfl))) hc9 hv9 hcl9 ?_
      refine lv_astore_n (lv' := [(3, .ref q9), (0, .ref (ad 0 0)), (1, .int p1), (2, .ref (ad 79 0))]) hx hb dL_stationOf_12 rfl hl (by decide) rfl (fun ls hl => ?_)
      refine lv_iconst (v := 1) hx hb dL_stationOf_13 (by decide) ?_
      exact (W.iret (v := 1) hx hb hr (fun t ht hW => ⟨⟨1, F9, rfl, q, gH_at ht hH⟩, hS.F ht⟩) hS.2.2 dL_stationOf_14)
  have hH : gH G ad F2 H := gH_to ht hB1
  refine lv_i2l (v := r1.toInt64) hx hb dL_stationOf_7 rfl ?_
  obtain ⟨h3, q⟩ := q
  refine g_last hx hb hK hH hS h3 dL_stationOf_8 (fun H locs hH hS => ?_)
  obtain ⟨F4, eF4⟩ : ∃ z, z = fs F2 79 0 (0 : Int32).toNatClampNeg r1 := ⟨_, rfl⟩
  have q := q F4 eF4
  rw [← eF4] at hH
  refine lv_goto (tgt := 15) hx hb dL_stationOf_9 (by decide) ?_
  refine lv_iconst (v := 0) hx hb dL_stationOf_15 (by decide) ?_
  exact (W.iret (v := 0) hx hb hr (fun t ht hW => ⟨⟨0, F4, rfl, q, gH_at ht hH⟩, hS.F ht⟩) hS.2.2 dL_stationOf_16)
abbrev rm_L_peopleOf : Room := { frames := 8, cells := 1, slots := 6, locals := 132 }
abbrev q_L_peopleOf (G : GP) (ad : Nat → Nat → Nat) (K : Int32 → GF → Prop) (below : List Frame) (args : Array Value) (s : State) : State → Prop := MQ below (gQi G ad K) args s 1 6 (gA G)
set_option maxHeartbeats 4000000 in
set_option maxRecDepth 100000 in
theorem c_L_peopleOf (l : Launch) (hfl : l.stackTraces = false) (G : GP) (ad : Nat → Nat → Nat) (F : GF) (p1 : Int32) (K : Int32 → GF → Prop) : Met l yL_peopleOf wsL_peopleOf rm_L_peopleOf (va_Pc [.ref (ad 0 0), .int p1, .ref (ad 79 0)] (fun U => (gD G ad F U ∧ gL U) ∧ P_L_peopleOf F p1 K)) (gQi G ad K) 1 6 (gA G) := by
  refine g_ofWH (hh := [(0, 9, 12, 13)]) (cc := cL_peopleOf) (maxL := 4) (ret := (some .int)) (by decide) rfl ?_
  intro p e s m args below meth c s₁ Bd hml hv
  obtain ⟨rfl, ⟨⟨hK, hG, hB, hH⟩, hL⟩, q⟩ := hv
  have hx := Bd.exec
  have hb := Bd.bytes
  have hr := Bd.returns
  have hts := atoms_spec (ws := wsL_peopleOf) Bd.pre
  have hown : s.vm.findClass RL = some m.cls := findClass_of_methodNamed Bd.named
  have hlocks := Bd.notSynchronized
  have htab := vx_table (x := yL_peopleOf) Bd (hts _ List.mem_cons_self)
  have hS : va_S (gA G) s.heap s.heap [] := va_S.rf
  have hl := lv_entry [.ref (ad 0 0), .int p1, .ref (ad 79 0)] (n := 4) (Nat.le_of_ble_eq_true rfl)
  rw [lg_entry_eq]
  generalize (lg_sl [.ref (ad 0 0), .int p1, .ref (ad 79 0)] ++ List.replicate (4 - (lg_sl [.ref (ad 0 0), .int p1, .ref (ad 79 0)]).length) Slot.unset).toArray = ls at hl ⊢
  have hl : lv_has ls 4 [(0, .ref (ad 0 0)), (1, .int p1), (2, .ref (ad 79 0))] := hl
  unfold P_L_peopleOf at q
  refine lv_aload_n hx hb dL_peopleOf_0 rfl (lv_at hl 2 rfl) ?_
  refine lv_iconst (v := 0) hx hb dL_peopleOf_1 (by decide) ?_
  refine lv_aload_n hx hb dL_peopleOf_2 rfl (lv_at hl 0 rfl) ?_
  refine lv_iload_n hx hb dL_peopleOf_3 rfl (lv_at hl 1 rfl) ?_
  refine vx_calli (vx_runV (As := [.int p1]) (rest := [.int 0, .ref (ad 79 0)]) ⟨hx, hb, hml, hown, hts⟩ (c_X10_peopleOf l hfl G ad F p1 _ _) (cwV 1 hts gL_peopleOf_X10_peopleOf rfl rfl rfl (by decide +kernel) ⟨Nat.le_of_ble_eq_true rfl, Nat.le_of_ble_eq_true rfl⟩) ⟨fun a U g mk h => ⟨h.1, gD_blind h.2.1, h.2.2⟩, g_recv (C := RX10) (T := TX10) (N := 8) hK hH 0 0 (by decide) Nat.zero_lt_one rfl rfl, fun U hU hW => ⟨rfl, gD_at hK hG hB hH hS hU hW, q⟩⟩ rfl rfl hl.1 rfl (lv_room (Nat.le_of_ble_eq_true rfl)) dL_peopleOf_4 ⟨Nat.le_of_ble_eq_true rfl, Nat.le_of_ble_eq_true rfl⟩) hS (fun _ _ h => h) (fun _ h => h) (fun _ _ h => h) (fun E9 ce q9 F9 t H locs ht hvm _ hq hz hk hS hc9 hv9 hcl9 => ?_) (fun r1 F2 t H locs ht hvm q hB1 hz hk hS => ?_)
  · have hH : gH G ad F9 H := gH_to ht hq.2
    rcases hq.1 with ⟨rfl, q⟩
    · refine vx_catch hown [] ⟨0, 9, 12, 13⟩ [] (htab.trans rfl) (fun _ h => absurd h List.not_mem_nil) rfl (by decide) (hts (.classLink RL 13 "java/lang/IndexOutOfBoundsException") (List.mem_of_getElem? (i := 1) rfl)) (va_Nw.use rfl (gcast hG (List.mem_of_getElem? (i := 0) rfl))) hc9 hv9 hcl9 ?_
      refine lv_astore_n (lv' := [(3, .ref q9), (0, .ref (ad 0 0)), (1, .int p1), (2, .ref (ad 79 0))]) hx hb dL_peopleOf_12 rfl hl (by decide) rfl (fun ls hl => ?_)
      refine lv_iconst (v := 1) hx hb dL_peopleOf_13 (by decide) ?_
      exact (W.iret (v := 1) hx hb hr (fun t ht hW => ⟨⟨1, F9, rfl, q, gH_at ht hH⟩, hS.F ht⟩) hS.2.2 dL_peopleOf_14)
  have hH : gH G ad F2 H := gH_to ht hB1
  refine lv_i2l (v := r1.toInt64) hx hb dL_peopleOf_7 rfl ?_
  obtain ⟨h3, q⟩ := q
  refine g_last hx hb hK hH hS h3 dL_peopleOf_8 (fun H locs hH hS => ?_)
  obtain ⟨F4, eF4⟩ : ∃ z, z = fs F2 79 0 (0 : Int32).toNatClampNeg r1 := ⟨_, rfl⟩
  have q := q F4 eF4
  rw [← eF4] at hH
  refine lv_goto (tgt := 15) hx hb dL_peopleOf_9 (by decide) ?_
  refine lv_iconst (v := 0) hx hb dL_peopleOf_15 (by decide) ?_
  exact (W.iret (v := 0) hx hb hr (fun t ht hW => ⟨⟨0, F4, rfl, q, gH_at ht hH⟩, hS.F ht⟩) hS.2.2 dL_peopleOf_16)
abbrev rm_L_early : Room := { frames := 9, cells := 6, slots := 36, locals := 155 }
abbrev q_L_early (G : GP) (ad : Nat → Nat → Nat) (K : Int32 → GF → Prop) (below : List Frame) (args : Array Value) (s : State) : State → Prop := MQ below (gQi G ad K) args s 6 36 (gA G)
set_option maxHeartbeats 4000000 in
set_option maxRecDepth 100000 in
theorem c_L_early (l : Launch) (hfl : l.stackTraces = false) (G : GP) (ad : Nat → Nat → Nat) (F : GF) (p1 : Int32) (p2 : Int32) (K : Int32 → GF → Prop) : Met l yL_early wsL_early rm_L_early (va_Pc [.ref (ad 0 0), .int p1, .int p2, .ref (ad 79 0)] (fun U => (gD G ad F U ∧ gL U) ∧ P_L_early F p1 p2 K)) (gQi G ad K) 6 36 (gA G) := by
  refine g_ofWH (hh := [(0, 10, 13, 13), (0, 10, 17, 15), (0, 10, 21, 24)]) (cc := cL_early) (maxL := 5) (ret := (some .int)) (by decide) rfl ?_
  intro p e s m args below meth c s₁ Bd hml hv
  obtain ⟨rfl, ⟨⟨hK, hG, hB, hH⟩, hL⟩, q⟩ := hv
  have hx := Bd.exec
  have hb := Bd.bytes
  have hr := Bd.returns
  have hts := atoms_spec (ws := wsL_early) Bd.pre
  have hown : s.vm.findClass RL = some m.cls := findClass_of_methodNamed Bd.named
  have hlocks := Bd.notSynchronized
  have htab := vx_table (x := yL_early) Bd (hts _ List.mem_cons_self)
  have hS : va_S (gA G) s.heap s.heap [] := va_S.rf
  have hl := lv_entry [.ref (ad 0 0), .int p1, .int p2, .ref (ad 79 0)] (n := 5) (Nat.le_of_ble_eq_true rfl)
  rw [lg_entry_eq]
  generalize (lg_sl [.ref (ad 0 0), .int p1, .int p2, .ref (ad 79 0)] ++ List.replicate (5 - (lg_sl [.ref (ad 0 0), .int p1, .int p2, .ref (ad 79 0)]).length) Slot.unset).toArray = ls at hl ⊢
  have hl : lv_has ls 5 [(0, .ref (ad 0 0)), (1, .int p1), (2, .int p2), (3, .ref (ad 79 0))] := hl
  unfold P_L_early at q
  refine lv_aload_n hx hb dL_early_0 rfl (lv_at hl 3 rfl) ?_
  refine lv_iconst (v := 0) hx hb dL_early_1 (by decide) ?_
  refine lv_aload_n hx hb dL_early_2 rfl (lv_at hl 0 rfl) ?_
  refine lv_iload_n hx hb dL_early_3 rfl (lv_at hl 1 rfl) ?_
  refine lv_iload_n hx hb dL_early_4 rfl (lv_at hl 2 rfl) ?_
  refine vx_calli (vx_runV (As := [.int p1, .int p2]) (rest := [.int 0, .ref (ad 79 0)]) ⟨hx, hb, hml, hown, hts⟩ (c_X10_early l hfl G ad F p1 p2 _ _) (cwV 2 hts gL_early_X10_early rfl rfl rfl (by decide +kernel) ⟨Nat.le_of_ble_eq_true rfl, Nat.le_of_ble_eq_true rfl⟩) ⟨fun a U g mk h => ⟨h.1, gD_blind h.2.1, h.2.2⟩, g_recv (C := RX10) (T := TX10) (N := 8) hK hH 0 0 (by decide) Nat.zero_lt_one rfl rfl, fun U hU hW => ⟨rfl, gD_at hK hG hB hH hS hU hW, q⟩⟩ rfl rfl hl.1 rfl (lv_room (Nat.le_of_ble_eq_true rfl)) dL_early_5 ⟨Nat.le_of_ble_eq_true rfl, Nat.le_of_ble_eq_true rfl⟩) hS (fun _ _ h => h) (fun _ h => h) (fun _ _ h => h) (fun E9 ce q9 F9 t H locs ht hvm _ hq hz hk hS hc9 hv9 hcl9 => ?_) (fun r1 F2 t H locs ht hvm q hB1 hz hk hS => ?_)
  · have hH : gH G ad F9 H := gH_to ht hq.2
    rcases hq.1 with ⟨rfl, q⟩ | ⟨rfl, q⟩ | ⟨rfl, q⟩
    · refine vx_catch hown [] ⟨0, 10, 13, 13⟩ [⟨0, 10, 17, 15⟩, ⟨0, 10, 21, 24⟩] (htab.trans rfl) (fun _ h => absurd h List.not_mem_nil) rfl (by decide) (hts (.classLink RL 13 "java/lang/IndexOutOfBoundsException") (List.mem_of_getElem? (i := 1) rfl)) (va_Nw.use rfl (gcast hG (List.mem_of_getElem? (i := 0) rfl))) hc9 hv9 hcl9 ?_
      refine lv_astore (lv' := [(4, .ref q9), (0, .ref (ad 0 0)), (1, .int p1), (2, .int p2), (3, .ref (ad 79 0))]) hx hb dL_early_13 hl (by decide) rfl (fun ls hl => ?_)
      refine lv_iconst (v := 1) hx hb dL_early_15 (by decide) ?_
      exact (W.iret (v := 1) hx hb hr (fun t ht hW => ⟨⟨1, F9, rfl, q, gH_at ht hH⟩, hS.F ht⟩) hS.2.2 dL_early_16)
    · refine vx_catch hown [⟨0, 10, 13, 13⟩] ⟨0, 10, 17, 15⟩ [⟨0, 10, 21, 24⟩] (htab.trans rfl) (List.forall_mem_cons.mpr ⟨Or.inr ⟨by decide, "java/lang/IndexOutOfBoundsException", hts (.classLink RL 13 "java/lang/IndexOutOfBoundsException") (List.mem_of_getElem? (i := 1) rfl), hL.1⟩, (fun _ h => absurd h List.not_mem_nil)⟩) rfl (by decide) (hts (.classLink RL 15 "java/lang/IllegalArgumentException") (List.mem_of_getElem? (i := 2) rfl)) (va_Nw.use rfl (gcast hG (List.mem_of_getElem? (i := 1) rfl))) hc9 hv9 hcl9 ?_
      refine lv_astore (lv' := [(4, .ref q9), (0, .ref (ad 0 0)), (1, .int p1), (2, .int p2), (3, .ref (ad 79 0))]) hx hb dL_early_17 hl (by decide) rfl (fun ls hl => ?_)
      refine lv_iconst (v := 2) hx hb dL_early_19 (by decide) ?_
      exact (W.iret (v := 2) hx hb hr (fun t ht hW => ⟨⟨2, F9, rfl, q, gH_at ht hH⟩, hS.F ht⟩) hS.2.2 dL_early_20)
    · refine vx_catch hown [⟨0, 10, 13, 13⟩, ⟨0, 10, 17, 15⟩] ⟨0, 10, 21, 24⟩ [] (htab.trans rfl) (List.forall_mem_cons.mpr ⟨Or.inr ⟨by decide, "java/lang/IndexOutOfBoundsException", hts (.classLink RL 13 "java/lang/IndexOutOfBoundsException") (List.mem_of_getElem? (i := 1) rfl), hL.2.1⟩, (List.forall_mem_cons.mpr ⟨Or.inr ⟨by decide, "java/lang/IllegalArgumentException", hts (.classLink RL 15 "java/lang/IllegalArgumentException") (List.mem_of_getElem? (i := 2) rfl), hL.2.2⟩, (fun _ h => absurd h List.not_mem_nil)⟩)⟩) rfl (by decide) (hts (.classLink RL 24 "java/lang/IllegalStateException") (List.mem_of_getElem? (i := 3) rfl)) (va_Nw.use rfl (gcast hG (List.mem_of_getElem? (i := 2) rfl))) hc9 hv9 hcl9 ?_
      refine lv_astore (lv' := [(4, .ref q9), (0, .ref (ad 0 0)), (1, .int p1), (2, .int p2), (3, .ref (ad 79 0))]) hx hb dL_early_21 hl (by decide) rfl (fun ls hl => ?_)
      refine lv_iconst (v := 3) hx hb dL_early_23 (by decide) ?_
      exact (W.iret (v := 3) hx hb hr (fun t ht hW => ⟨⟨3, F9, rfl, q, gH_at ht hH⟩, hS.F ht⟩) hS.2.2 dL_early_24)
  have hH : gH G ad F2 H := gH_to ht hB1
  refine lv_i2l (v := r1.toInt64) hx hb dL_early_8 rfl ?_
  obtain ⟨h3, q⟩ := q
  refine g_last hx hb hK hH hS h3 dL_early_9 (fun H locs hH hS => ?_)
  obtain ⟨F4, eF4⟩ : ∃ z, z = fs F2 79 0 (0 : Int32).toNatClampNeg r1 := ⟨_, rfl⟩
  have q := q F4 eF4
  rw [← eF4] at hH
  refine lv_goto (tgt := 25) hx hb dL_early_10 (by decide) ?_
  refine lv_iconst (v := 0) hx hb dL_early_25 (by decide) ?_
  exact (W.iret (v := 0) hx hb hr (fun t ht hW => ⟨⟨0, F4, rfl, q, gH_at ht hH⟩, hS.F ht⟩) hS.2.2 dL_early_26)
abbrev rm_L_vote : Room := { frames := 9, cells := 7, slots := 42, locals := 156 }
abbrev q_L_vote (G : GP) (ad : Nat → Nat → Nat) (K : Int32 → GF → Prop) (below : List Frame) (args : Array Value) (s : State) : State → Prop := MQ below (gQi G ad K) args s 7 42 (gA G)
set_option maxHeartbeats 4000000 in
set_option maxRecDepth 100000 in
theorem c_L_vote (l : Launch) (hfl : l.stackTraces = false) (G : GP) (ad : Nat → Nat → Nat) (F : GF) (p1 : Int32) (p2 : Int32) (p3 : Int32) (K : Int32 → GF → Prop) : Met l yL_vote wsL_vote rm_L_vote (va_Pc [.ref (ad 0 0), .int p1, .int p2, .int p3, .ref (ad 79 0)] (fun U => (gD G ad F U ∧ gL U) ∧ P_L_vote F p1 p2 p3 K)) (gQi G ad K) 7 42 (gA G) := by
  refine g_ofWH (hh := [(0, 12, 15, 13), (0, 12, 19, 15), (0, 12, 23, 24)]) (cc := cL_vote) (maxL := 6) (ret := (some .int)) (by decide) rfl ?_
  intro p e s m args below meth c s₁ Bd hml hv
  obtain ⟨rfl, ⟨⟨hK, hG, hB, hH⟩, hL⟩, q⟩ := hv
  have hx := Bd.exec
  have hb := Bd.bytes
  have hr := Bd.returns
  have hts := atoms_spec (ws := wsL_vote) Bd.pre
  have hown : s.vm.findClass RL = some m.cls := findClass_of_methodNamed Bd.named
  have hlocks := Bd.notSynchronized
  have htab := vx_table (x := yL_vote) Bd (hts _ List.mem_cons_self)
  have hS : va_S (gA G) s.heap s.heap [] := va_S.rf
  have hl := lv_entry [.ref (ad 0 0), .int p1, .int p2, .int p3, .ref (ad 79 0)] (n := 6) (Nat.le_of_ble_eq_true rfl)
  rw [lg_entry_eq]
  generalize (lg_sl [.ref (ad 0 0), .int p1, .int p2, .int p3, .ref (ad 79 0)] ++ List.replicate (6 - (lg_sl [.ref (ad 0 0), .int p1, .int p2, .int p3, .ref (ad 79 0)]).length) Slot.unset).toArray = ls at hl ⊢
  have hl : lv_has ls 6 [(0, .ref (ad 0 0)), (1, .int p1), (2, .int p2), (3, .int p3), (4, .ref (ad 79 0))] := hl
  unfold P_L_vote at q
  refine lv_aload hx hb dL_vote_0 (lv_at hl 4 rfl) ?_
  refine lv_iconst (v := 0) hx hb dL_vote_2 (by decide) ?_
  refine lv_aload_n hx hb dL_vote_3 rfl (lv_at hl 0 rfl) ?_
  refine lv_iload_n hx hb dL_vote_4 rfl (lv_at hl 1 rfl) ?_
  refine lv_iload_n hx hb dL_vote_5 rfl (lv_at hl 2 rfl) ?_
  refine lv_iload_n hx hb dL_vote_6 rfl (lv_at hl 3 rfl) ?_
  refine vx_calli (vx_runV (As := [.int p1, .int p2, .int p3]) (rest := [.int 0, .ref (ad 79 0)]) ⟨hx, hb, hml, hown, hts⟩ (c_X10_vote l hfl G ad F p1 p2 p3 _ _) (cwV 3 hts gL_vote_X10_vote rfl rfl rfl (by decide +kernel) ⟨Nat.le_of_ble_eq_true rfl, Nat.le_of_ble_eq_true rfl⟩) ⟨fun a U g mk h => ⟨h.1, gD_blind h.2.1, h.2.2⟩, g_recv (C := RX10) (T := TX10) (N := 8) hK hH 0 0 (by decide) Nat.zero_lt_one rfl rfl, fun U hU hW => ⟨rfl, gD_at hK hG hB hH hS hU hW, q⟩⟩ rfl rfl hl.1 rfl (lv_room (Nat.le_of_ble_eq_true rfl)) dL_vote_7 ⟨Nat.le_of_ble_eq_true rfl, Nat.le_of_ble_eq_true rfl⟩) hS (fun _ _ h => h) (fun _ h => h) (fun _ _ h => h) (fun E9 ce q9 F9 t H locs ht hvm _ hq hz hk hS hc9 hv9 hcl9 => ?_) (fun r1 F2 t H locs ht hvm q hB1 hz hk hS => ?_)
  · have hH : gH G ad F9 H := gH_to ht hq.2
    rcases hq.1 with ⟨rfl, q⟩ | ⟨rfl, q⟩ | ⟨rfl, q⟩
    · refine vx_catch hown [] ⟨0, 12, 15, 13⟩ [⟨0, 12, 19, 15⟩, ⟨0, 12, 23, 24⟩] (htab.trans rfl) (fun _ h => absurd h List.not_mem_nil) rfl (by decide) (hts (.classLink RL 13 "java/lang/IndexOutOfBoundsException") (List.mem_of_getElem? (i := 1) rfl)) (va_Nw.use rfl (gcast hG (List.mem_of_getElem? (i := 0) rfl))) hc9 hv9 hcl9 ?_
      refine lv_astore (lv' := [(5, .ref q9), (0, .ref (ad 0 0)), (1, .int p1), (2, .int p2), (3, .int p3), (4, .ref (ad 79 0))]) hx hb dL_vote_15 hl (by decide) rfl (fun ls hl => ?_)
      refine lv_iconst (v := 1) hx hb dL_vote_17 (by decide) ?_
      exact (W.iret (v := 1) hx hb hr (fun t ht hW => ⟨⟨1, F9, rfl, q, gH_at ht hH⟩, hS.F ht⟩) hS.2.2 dL_vote_18)
    · refine vx_catch hown [⟨0, 12, 15, 13⟩] ⟨0, 12, 19, 15⟩ [⟨0, 12, 23, 24⟩] (htab.trans rfl) (List.forall_mem_cons.mpr ⟨Or.inr ⟨by decide, "java/lang/IndexOutOfBoundsException", hts (.classLink RL 13 "java/lang/IndexOutOfBoundsException") (List.mem_of_getElem? (i := 1) rfl), hL.1⟩, (fun _ h => absurd h List.not_mem_nil)⟩) rfl (by decide) (hts (.classLink RL 15 "java/lang/IllegalArgumentException") (List.mem_of_getElem? (i := 2) rfl)) (va_Nw.use rfl (gcast hG (List.mem_of_getElem? (i := 1) rfl))) hc9 hv9 hcl9 ?_
      refine lv_astore (lv' := [(5, .ref q9), (0, .ref (ad 0 0)), (1, .int p1), (2, .int p2), (3, .int p3), (4, .ref (ad 79 0))]) hx hb dL_vote_19 hl (by decide) rfl (fun ls hl => ?_)
      refine lv_iconst (v := 2) hx hb dL_vote_21 (by decide) ?_
      exact (W.iret (v := 2) hx hb hr (fun t ht hW => ⟨⟨2, F9, rfl, q, gH_at ht hH⟩, hS.F ht⟩) hS.2.2 dL_vote_22)
    · refine vx_catch hown [⟨0, 12, 15, 13⟩, ⟨0, 12, 19, 15⟩] ⟨0, 12, 23, 24⟩ [] (htab.trans rfl) (List.forall_mem_cons.mpr ⟨Or.inr ⟨by decide, "java/lang/IndexOutOfBoundsException", hts (.classLink RL 13 "java/lang/IndexOutOfBoundsException") (List.mem_of_getElem? (i := 1) rfl), hL.2.1⟩, (List.forall_mem_cons.mpr ⟨Or.inr ⟨by decide, "java/lang/IllegalArgumentException", hts (.classLink RL 15 "java/lang/IllegalArgumentException") (List.mem_of_getElem? (i := 2) rfl), hL.2.2⟩, (fun _ h => absurd h List.not_mem_nil)⟩)⟩) rfl (by decide) (hts (.classLink RL 24 "java/lang/IllegalStateException") (List.mem_of_getElem? (i := 3) rfl)) (va_Nw.use rfl (gcast hG (List.mem_of_getElem? (i := 2) rfl))) hc9 hv9 hcl9 ?_
      refine lv_astore (lv' := [(5, .ref q9), (0, .ref (ad 0 0)), (1, .int p1), (2, .int p2), (3, .int p3), (4, .ref (ad 79 0))]) hx hb dL_vote_23 hl (by decide) rfl (fun ls hl => ?_)
      refine lv_iconst (v := 3) hx hb dL_vote_25 (by decide) ?_
      exact (W.iret (v := 3) hx hb hr (fun t ht hW => ⟨⟨3, F9, rfl, q, gH_at ht hH⟩, hS.F ht⟩) hS.2.2 dL_vote_26)
  have hH : gH G ad F2 H := gH_to ht hB1
  refine lv_i2l (v := r1.toInt64) hx hb dL_vote_10 rfl ?_
  obtain ⟨h3, q⟩ := q
  refine g_last hx hb hK hH hS h3 dL_vote_11 (fun H locs hH hS => ?_)
  obtain ⟨F4, eF4⟩ : ∃ z, z = fs F2 79 0 (0 : Int32).toNatClampNeg r1 := ⟨_, rfl⟩
  have q := q F4 eF4
  rw [← eF4] at hH
  refine lv_goto (tgt := 27) hx hb dL_vote_12 (by decide) ?_
  refine lv_iconst (v := 0) hx hb dL_vote_27 (by decide) ?_
  exact (W.iret (v := 0) hx hb hr (fun t ht hW => ⟨⟨0, F4, rfl, q, gH_at ht hH⟩, hS.F ht⟩) hS.2.2 dL_vote_28)
abbrev rm_L_open : Room := { frames := 8, cells := 3, slots := 18, locals := 133 }
abbrev q_L_open (G : GP) (ad : Nat → Nat → Nat) (K : Int32 → GF → Prop) (below : List Frame) (args : Array Value) (s : State) : State → Prop := MQ below (gQi G ad K) args s 3 18 (gA G)
set_option maxHeartbeats 4000000 in
set_option maxRecDepth 100000 in
theorem c_L_open (l : Launch) (hfl : l.stackTraces = false) (G : GP) (ad : Nat → Nat → Nat) (F : GF) (p1 : Int32) (K : Int32 → GF → Prop) : Met l yL_open wsL_open rm_L_open (va_Pc [.ref (ad 0 0), .int p1, .ref (ad 79 0)] (fun U => (gD G ad F U ∧ gL U) ∧ P_L_open F p1 K)) (gQi G ad K) 3 18 (gA G) := by
  refine g_ofWH (hh := [(0, 9, 12, 13), (0, 9, 15, 24)]) (cc := cL_open) (maxL := 4) (ret := (some .int)) (by decide) rfl ?_
  intro p e s m args below meth c s₁ Bd hml hv
  obtain ⟨rfl, ⟨⟨hK, hG, hB, hH⟩, hL⟩, q⟩ := hv
  have hx := Bd.exec
  have hb := Bd.bytes
  have hr := Bd.returns
  have hts := atoms_spec (ws := wsL_open) Bd.pre
  have hown : s.vm.findClass RL = some m.cls := findClass_of_methodNamed Bd.named
  have hlocks := Bd.notSynchronized
  have htab := vx_table (x := yL_open) Bd (hts _ List.mem_cons_self)
  have hS : va_S (gA G) s.heap s.heap [] := va_S.rf
  have hl := lv_entry [.ref (ad 0 0), .int p1, .ref (ad 79 0)] (n := 4) (Nat.le_of_ble_eq_true rfl)
  rw [lg_entry_eq]
  generalize (lg_sl [.ref (ad 0 0), .int p1, .ref (ad 79 0)] ++ List.replicate (4 - (lg_sl [.ref (ad 0 0), .int p1, .ref (ad 79 0)]).length) Slot.unset).toArray = ls at hl ⊢
  have hl : lv_has ls 4 [(0, .ref (ad 0 0)), (1, .int p1), (2, .ref (ad 79 0))] := hl
  unfold P_L_open at q
  refine lv_aload_n hx hb dL_open_0 rfl (lv_at hl 2 rfl) ?_
  refine lv_iconst (v := 0) hx hb dL_open_1 (by decide) ?_
  refine lv_aload_n hx hb dL_open_2 rfl (lv_at hl 0 rfl) ?_
  refine lv_iload_n hx hb dL_open_3 rfl (lv_at hl 1 rfl) ?_
  refine vx_calli (vx_runV (As := [.int p1]) (rest := [.int 0, .ref (ad 79 0)]) ⟨hx, hb, hml, hown, hts⟩ (c_X10_open l hfl G ad F p1 _ _) (cwV 1 hts gL_open_X10_open rfl rfl rfl (by decide +kernel) ⟨Nat.le_of_ble_eq_true rfl, Nat.le_of_ble_eq_true rfl⟩) ⟨fun a U g mk h => ⟨h.1, gD_blind h.2.1, h.2.2⟩, g_recv (C := RX10) (T := TX10) (N := 8) hK hH 0 0 (by decide) Nat.zero_lt_one rfl rfl, fun U hU hW => ⟨rfl, gD_at hK hG hB hH hS hU hW, q⟩⟩ rfl rfl hl.1 rfl (lv_room (Nat.le_of_ble_eq_true rfl)) dL_open_4 ⟨Nat.le_of_ble_eq_true rfl, Nat.le_of_ble_eq_true rfl⟩) hS (fun _ _ h => h) (fun _ h => h) (fun _ _ h => h) (fun E9 ce q9 F9 t H locs ht hvm _ hq hz hk hS hc9 hv9 hcl9 => ?_) (fun r1 F2 t H locs ht hvm q hB1 hz hk hS => ?_)
  · have hH : gH G ad F9 H := gH_to ht hq.2
    rcases hq.1 with ⟨rfl, q⟩ | ⟨rfl, q⟩
    · refine vx_catch hown [] ⟨0, 9, 12, 13⟩ [⟨0, 9, 15, 24⟩] (htab.trans rfl) (fun _ h => absurd h List.not_mem_nil) rfl (by decide) (hts (.classLink RL 13 "java/lang/IndexOutOfBoundsException") (List.mem_of_getElem? (i := 1) rfl)) (va_Nw.use rfl (gcast hG (List.mem_of_getElem? (i := 0) rfl))) hc9 hv9 hcl9 ?_
      refine lv_astore_n (lv' := [(3, .ref q9), (0, .ref (ad 0 0)), (1, .int p1), (2, .ref (ad 79 0))]) hx hb dL_open_12 rfl hl (by decide) rfl (fun ls hl => ?_)
      refine lv_iconst (v := 1) hx hb dL_open_13 (by decide) ?_
      exact (W.iret (v := 1) hx hb hr (fun t ht hW => ⟨⟨1, F9, rfl, q, gH_at ht hH⟩, hS.F ht⟩) hS.2.2 dL_open_14)
    · refine vx_catch hown [⟨0, 9, 12, 13⟩] ⟨0, 9, 15, 24⟩ [] (htab.trans rfl) (List.forall_mem_cons.mpr ⟨Or.inr ⟨by decide, "java/lang/IndexOutOfBoundsException", hts (.classLink RL 13 "java/lang/IndexOutOfBoundsException") (List.mem_of_getElem? (i := 1) rfl), hL.2.1⟩, (fun _ h => absurd h List.not_mem_nil)⟩) rfl (by decide) (hts (.classLink RL 24 "java/lang/IllegalStateException") (List.mem_of_getElem? (i := 2) rfl)) (va_Nw.use rfl (gcast hG (List.mem_of_getElem? (i := 2) rfl))) hc9 hv9 hcl9 ?_
      refine lv_astore_n (lv' := [(3, .ref q9), (0, .ref (ad 0 0)), (1, .int p1), (2, .ref (ad 79 0))]) hx hb dL_open_15 rfl hl (by decide) rfl (fun ls hl => ?_)
      refine lv_iconst (v := 2) hx hb dL_open_16 (by decide) ?_
      exact (W.iret (v := 2) hx hb hr (fun t ht hW => ⟨⟨2, F9, rfl, q, gH_at ht hH⟩, hS.F ht⟩) hS.2.2 dL_open_17)
  have hH : gH G ad F2 H := gH_to ht hB1
  refine lv_i2l (v := r1.toInt64) hx hb dL_open_7 rfl ?_
  obtain ⟨h3, q⟩ := q
  refine g_last hx hb hK hH hS h3 dL_open_8 (fun H locs hH hS => ?_)
  obtain ⟨F4, eF4⟩ : ∃ z, z = fs F2 79 0 (0 : Int32).toNatClampNeg r1 := ⟨_, rfl⟩
  have q := q F4 eF4
  rw [← eF4] at hH
  refine lv_goto (tgt := 18) hx hb dL_open_9 (by decide) ?_
  refine lv_iconst (v := 0) hx hb dL_open_18 (by decide) ?_
  exact (W.iret (v := 0) hx hb hr (fun t ht hW => ⟨⟨0, F4, rfl, q, gH_at ht hH⟩, hS.F ht⟩) hS.2.2 dL_open_19)
abbrev rm_L_stateOf : Room := { frames := 8, cells := 1, slots := 6, locals := 132 }
abbrev q_L_stateOf (G : GP) (ad : Nat → Nat → Nat) (K : Int32 → GF → Prop) (below : List Frame) (args : Array Value) (s : State) : State → Prop := MQ below (gQi G ad K) args s 1 6 (gA G)
set_option maxHeartbeats 4000000 in
set_option maxRecDepth 100000 in
theorem c_L_stateOf (l : Launch) (hfl : l.stackTraces = false) (G : GP) (ad : Nat → Nat → Nat) (F : GF) (p1 : Int32) (K : Int32 → GF → Prop) : Met l yL_stateOf wsL_stateOf rm_L_stateOf (va_Pc [.ref (ad 0 0), .int p1, .ref (ad 79 0)] (fun U => (gD G ad F U ∧ gL U) ∧ P_L_stateOf F p1 K)) (gQi G ad K) 1 6 (gA G) := by
  refine g_ofWH (hh := [(0, 9, 12, 13)]) (cc := cL_stateOf) (maxL := 4) (ret := (some .int)) (by decide) rfl ?_
  intro p e s m args below meth c s₁ Bd hml hv
  obtain ⟨rfl, ⟨⟨hK, hG, hB, hH⟩, hL⟩, q⟩ := hv
  have hx := Bd.exec
  have hb := Bd.bytes
  have hr := Bd.returns
  have hts := atoms_spec (ws := wsL_stateOf) Bd.pre
  have hown : s.vm.findClass RL = some m.cls := findClass_of_methodNamed Bd.named
  have hlocks := Bd.notSynchronized
  have htab := vx_table (x := yL_stateOf) Bd (hts _ List.mem_cons_self)
  have hS : va_S (gA G) s.heap s.heap [] := va_S.rf
  have hl := lv_entry [.ref (ad 0 0), .int p1, .ref (ad 79 0)] (n := 4) (Nat.le_of_ble_eq_true rfl)
  rw [lg_entry_eq]
  generalize (lg_sl [.ref (ad 0 0), .int p1, .ref (ad 79 0)] ++ List.replicate (4 - (lg_sl [.ref (ad 0 0), .int p1, .ref (ad 79 0)]).length) Slot.unset).toArray = ls at hl ⊢
  have hl : lv_has ls 4 [(0, .ref (ad 0 0)), (1, .int p1), (2, .ref (ad 79 0))] := hl
  unfold P_L_stateOf at q
  refine lv_aload_n hx hb dL_stateOf_0 rfl (lv_at hl 2 rfl) ?_
  refine lv_iconst (v := 0) hx hb dL_stateOf_1 (by decide) ?_
  refine lv_aload_n hx hb dL_stateOf_2 rfl (lv_at hl 0 rfl) ?_
  refine lv_iload_n hx hb dL_stateOf_3 rfl (lv_at hl 1 rfl) ?_
  refine vx_calli (vx_runV (As := [.int p1]) (rest := [.int 0, .ref (ad 79 0)]) ⟨hx, hb, hml, hown, hts⟩ (c_X10_stateOf l hfl G ad F p1 _ _) (cwV 1 hts gL_stateOf_X10_stateOf rfl rfl rfl (by decide +kernel) ⟨Nat.le_of_ble_eq_true rfl, Nat.le_of_ble_eq_true rfl⟩) ⟨fun a U g mk h => ⟨h.1, gD_blind h.2.1, h.2.2⟩, g_recv (C := RX10) (T := TX10) (N := 8) hK hH 0 0 (by decide) Nat.zero_lt_one rfl rfl, fun U hU hW => ⟨rfl, gD_at hK hG hB hH hS hU hW, q⟩⟩ rfl rfl hl.1 rfl (lv_room (Nat.le_of_ble_eq_true rfl)) dL_stateOf_4 ⟨Nat.le_of_ble_eq_true rfl, Nat.le_of_ble_eq_true rfl⟩) hS (fun _ _ h => h) (fun _ h => h) (fun _ _ h => h) (fun E9 ce q9 F9 t H locs ht hvm _ hq hz hk hS hc9 hv9 hcl9 => ?_) (fun r1 F2 t H locs ht hvm q hB1 hz hk hS => ?_)
  · have hH : gH G ad F9 H := gH_to ht hq.2
    rcases hq.1 with ⟨rfl, q⟩
    · refine vx_catch hown [] ⟨0, 9, 12, 13⟩ [] (htab.trans rfl) (fun _ h => absurd h List.not_mem_nil) rfl (by decide) (hts (.classLink RL 13 "java/lang/IndexOutOfBoundsException") (List.mem_of_getElem? (i := 1) rfl)) (va_Nw.use rfl (gcast hG (List.mem_of_getElem? (i := 0) rfl))) hc9 hv9 hcl9 ?_
      refine lv_astore_n (lv' := [(3, .ref q9), (0, .ref (ad 0 0)), (1, .int p1), (2, .ref (ad 79 0))]) hx hb dL_stateOf_12 rfl hl (by decide) rfl (fun ls hl => ?_)
      refine lv_iconst (v := 1) hx hb dL_stateOf_13 (by decide) ?_
      exact (W.iret (v := 1) hx hb hr (fun t ht hW => ⟨⟨1, F9, rfl, q, gH_at ht hH⟩, hS.F ht⟩) hS.2.2 dL_stateOf_14)
  have hH : gH G ad F2 H := gH_to ht hB1
  refine lv_i2l (v := r1.toInt64) hx hb dL_stateOf_7 rfl ?_
  obtain ⟨h3, q⟩ := q
  refine g_last hx hb hK hH hS h3 dL_stateOf_8 (fun H locs hH hS => ?_)
  obtain ⟨F4, eF4⟩ : ∃ z, z = fs F2 79 0 (0 : Int32).toNatClampNeg r1 := ⟨_, rfl⟩
  have q := q F4 eF4
  rw [← eF4] at hH
  refine lv_goto (tgt := 15) hx hb dL_stateOf_9 (by decide) ?_
  refine lv_iconst (v := 0) hx hb dL_stateOf_15 (by decide) ?_
  exact (W.iret (v := 0) hx hb hr (fun t ht hW => ⟨⟨0, F4, rfl, q, gH_at ht hH⟩, hS.F ht⟩) hS.2.2 dL_stateOf_16)
abbrev rm_L_personOf : Room := { frames := 8, cells := 1, slots := 6, locals := 132 }
abbrev q_L_personOf (G : GP) (ad : Nat → Nat → Nat) (K : Int32 → GF → Prop) (below : List Frame) (args : Array Value) (s : State) : State → Prop := MQ below (gQi G ad K) args s 1 6 (gA G)
set_option maxHeartbeats 4000000 in
set_option maxRecDepth 100000 in
theorem c_L_personOf (l : Launch) (hfl : l.stackTraces = false) (G : GP) (ad : Nat → Nat → Nat) (F : GF) (p1 : Int32) (K : Int32 → GF → Prop) : Met l yL_personOf wsL_personOf rm_L_personOf (va_Pc [.ref (ad 0 0), .int p1, .ref (ad 79 0)] (fun U => (gD G ad F U ∧ gL U) ∧ P_L_personOf F p1 K)) (gQi G ad K) 1 6 (gA G) := by
  refine g_ofWH (hh := [(0, 9, 12, 13)]) (cc := cL_personOf) (maxL := 4) (ret := (some .int)) (by decide) rfl ?_
  intro p e s m args below meth c s₁ Bd hml hv
  obtain ⟨rfl, ⟨⟨hK, hG, hB, hH⟩, hL⟩, q⟩ := hv
  have hx := Bd.exec
  have hb := Bd.bytes
  have hr := Bd.returns
  have hts := atoms_spec (ws := wsL_personOf) Bd.pre
  have hown : s.vm.findClass RL = some m.cls := findClass_of_methodNamed Bd.named
  have hlocks := Bd.notSynchronized
  have htab := vx_table (x := yL_personOf) Bd (hts _ List.mem_cons_self)
  have hS : va_S (gA G) s.heap s.heap [] := va_S.rf
  have hl := lv_entry [.ref (ad 0 0), .int p1, .ref (ad 79 0)] (n := 4) (Nat.le_of_ble_eq_true rfl)
  rw [lg_entry_eq]
  generalize (lg_sl [.ref (ad 0 0), .int p1, .ref (ad 79 0)] ++ List.replicate (4 - (lg_sl [.ref (ad 0 0), .int p1, .ref (ad 79 0)]).length) Slot.unset).toArray = ls at hl ⊢
  have hl : lv_has ls 4 [(0, .ref (ad 0 0)), (1, .int p1), (2, .ref (ad 79 0))] := hl
  unfold P_L_personOf at q
  refine lv_aload_n hx hb dL_personOf_0 rfl (lv_at hl 2 rfl) ?_
  refine lv_iconst (v := 0) hx hb dL_personOf_1 (by decide) ?_
  refine lv_aload_n hx hb dL_personOf_2 rfl (lv_at hl 0 rfl) ?_
  refine lv_iload_n hx hb dL_personOf_3 rfl (lv_at hl 1 rfl) ?_
  refine vx_calli (vx_runV (As := [.int p1]) (rest := [.int 0, .ref (ad 79 0)]) ⟨hx, hb, hml, hown, hts⟩ (c_X10_personOf l hfl G ad F p1 _ _) (cwV 1 hts gL_personOf_X10_personOf rfl rfl rfl (by decide +kernel) ⟨Nat.le_of_ble_eq_true rfl, Nat.le_of_ble_eq_true rfl⟩) ⟨fun a U g mk h => ⟨h.1, gD_blind h.2.1, h.2.2⟩, g_recv (C := RX10) (T := TX10) (N := 8) hK hH 0 0 (by decide) Nat.zero_lt_one rfl rfl, fun U hU hW => ⟨rfl, gD_at hK hG hB hH hS hU hW, q⟩⟩ rfl rfl hl.1 rfl (lv_room (Nat.le_of_ble_eq_true rfl)) dL_personOf_4 ⟨Nat.le_of_ble_eq_true rfl, Nat.le_of_ble_eq_true rfl⟩) hS (fun _ _ h => h) (fun _ h => h) (fun _ _ h => h) (fun E9 ce q9 F9 t H locs ht hvm _ hq hz hk hS hc9 hv9 hcl9 => ?_) (fun r1 F2 t H locs ht hvm q hB1 hz hk hS => ?_)
  · have hH : gH G ad F9 H := gH_to ht hq.2
    rcases hq.1 with ⟨rfl, q⟩
    · refine vx_catch hown [] ⟨0, 9, 12, 13⟩ [] (htab.trans rfl) (fun _ h => absurd h List.not_mem_nil) rfl (by decide) (hts (.classLink RL 13 "java/lang/IndexOutOfBoundsException") (List.mem_of_getElem? (i := 1) rfl)) (va_Nw.use rfl (gcast hG (List.mem_of_getElem? (i := 0) rfl))) hc9 hv9 hcl9 ?_
      refine lv_astore_n (lv' := [(3, .ref q9), (0, .ref (ad 0 0)), (1, .int p1), (2, .ref (ad 79 0))]) hx hb dL_personOf_12 rfl hl (by decide) rfl (fun ls hl => ?_)
      refine lv_iconst (v := 1) hx hb dL_personOf_13 (by decide) ?_
      exact (W.iret (v := 1) hx hb hr (fun t ht hW => ⟨⟨1, F9, rfl, q, gH_at ht hH⟩, hS.F ht⟩) hS.2.2 dL_personOf_14)
  have hH : gH G ad F2 H := gH_to ht hB1
  refine lv_i2l (v := r1.toInt64) hx hb dL_personOf_7 rfl ?_
  obtain ⟨h3, q⟩ := q
  refine g_last hx hb hK hH hS h3 dL_personOf_8 (fun H locs hH hS => ?_)
  obtain ⟨F4, eF4⟩ : ∃ z, z = fs F2 79 0 (0 : Int32).toNatClampNeg r1 := ⟨_, rfl⟩
  have q := q F4 eF4
  rw [← eF4] at hH
  refine lv_goto (tgt := 15) hx hb dL_personOf_9 (by decide) ?_
  refine lv_iconst (v := 0) hx hb dL_personOf_15 (by decide) ?_
  exact (W.iret (v := 0) hx hb hr (fun t ht hW => ⟨⟨0, F4, rfl, q, gH_at ht hH⟩, hS.F ht⟩) hS.2.2 dL_personOf_16)
abbrev rm_L_ballots : Room := { frames := 8, cells := 1, slots := 6, locals := 132 }
abbrev q_L_ballots (G : GP) (ad : Nat → Nat → Nat) (K : Int32 → GF → Prop) (below : List Frame) (args : Array Value) (s : State) : State → Prop := MQ below (gQi G ad K) args s 1 6 (gA G)
set_option maxHeartbeats 4000000 in
set_option maxRecDepth 100000 in
theorem c_L_ballots (l : Launch) (hfl : l.stackTraces = false) (G : GP) (ad : Nat → Nat → Nat) (F : GF) (p1 : Int32) (K : Int32 → GF → Prop) : Met l yL_ballots wsL_ballots rm_L_ballots (va_Pc [.ref (ad 0 0), .int p1, .ref (ad 79 0)] (fun U => (gD G ad F U ∧ gL U) ∧ P_L_ballots F p1 K)) (gQi G ad K) 1 6 (gA G) := by
  refine g_ofWH (hh := [(0, 9, 12, 13)]) (cc := cL_ballots) (maxL := 4) (ret := (some .int)) (by decide) rfl ?_
  intro p e s m args below meth c s₁ Bd hml hv
  obtain ⟨rfl, ⟨⟨hK, hG, hB, hH⟩, hL⟩, q⟩ := hv
  have hx := Bd.exec
  have hb := Bd.bytes
  have hr := Bd.returns
  have hts := atoms_spec (ws := wsL_ballots) Bd.pre
  have hown : s.vm.findClass RL = some m.cls := findClass_of_methodNamed Bd.named
  have hlocks := Bd.notSynchronized
  have htab := vx_table (x := yL_ballots) Bd (hts _ List.mem_cons_self)
  have hS : va_S (gA G) s.heap s.heap [] := va_S.rf
  have hl := lv_entry [.ref (ad 0 0), .int p1, .ref (ad 79 0)] (n := 4) (Nat.le_of_ble_eq_true rfl)
  rw [lg_entry_eq]
  generalize (lg_sl [.ref (ad 0 0), .int p1, .ref (ad 79 0)] ++ List.replicate (4 - (lg_sl [.ref (ad 0 0), .int p1, .ref (ad 79 0)]).length) Slot.unset).toArray = ls at hl ⊢
  have hl : lv_has ls 4 [(0, .ref (ad 0 0)), (1, .int p1), (2, .ref (ad 79 0))] := hl
  unfold P_L_ballots at q
  refine lv_aload_n hx hb dL_ballots_0 rfl (lv_at hl 2 rfl) ?_
  refine lv_iconst (v := 0) hx hb dL_ballots_1 (by decide) ?_
  refine lv_aload_n hx hb dL_ballots_2 rfl (lv_at hl 0 rfl) ?_
  refine lv_iload_n hx hb dL_ballots_3 rfl (lv_at hl 1 rfl) ?_
  refine vx_calli (vx_runV (As := [.int p1]) (rest := [.int 0, .ref (ad 79 0)]) ⟨hx, hb, hml, hown, hts⟩ (c_X10_ballots l hfl G ad F p1 _ _) (cwV 1 hts gL_ballots_X10_ballots rfl rfl rfl (by decide +kernel) ⟨Nat.le_of_ble_eq_true rfl, Nat.le_of_ble_eq_true rfl⟩) ⟨fun a U g mk h => ⟨h.1, gD_blind h.2.1, h.2.2⟩, g_recv (C := RX10) (T := TX10) (N := 8) hK hH 0 0 (by decide) Nat.zero_lt_one rfl rfl, fun U hU hW => ⟨rfl, gD_at hK hG hB hH hS hU hW, q⟩⟩ rfl rfl hl.1 rfl (lv_room (Nat.le_of_ble_eq_true rfl)) dL_ballots_4 ⟨Nat.le_of_ble_eq_true rfl, Nat.le_of_ble_eq_true rfl⟩) hS (fun _ _ h => h) (fun _ h => h) (fun _ _ h => h) (fun E9 ce q9 F9 t H locs ht hvm _ hq hz hk hS hc9 hv9 hcl9 => ?_) (fun r1 F2 t H locs ht hvm q hB1 hz hk hS => ?_)
  · have hH : gH G ad F9 H := gH_to ht hq.2
    rcases hq.1 with ⟨rfl, q⟩
    · refine vx_catch hown [] ⟨0, 9, 12, 13⟩ [] (htab.trans rfl) (fun _ h => absurd h List.not_mem_nil) rfl (by decide) (hts (.classLink RL 13 "java/lang/IndexOutOfBoundsException") (List.mem_of_getElem? (i := 1) rfl)) (va_Nw.use rfl (gcast hG (List.mem_of_getElem? (i := 0) rfl))) hc9 hv9 hcl9 ?_
      refine lv_astore_n (lv' := [(3, .ref q9), (0, .ref (ad 0 0)), (1, .int p1), (2, .ref (ad 79 0))]) hx hb dL_ballots_12 rfl hl (by decide) rfl (fun ls hl => ?_)
      refine lv_iconst (v := 1) hx hb dL_ballots_13 (by decide) ?_
      exact (W.iret (v := 1) hx hb hr (fun t ht hW => ⟨⟨1, F9, rfl, q, gH_at ht hH⟩, hS.F ht⟩) hS.2.2 dL_ballots_14)
  have hH : gH G ad F2 H := gH_to ht hB1
  refine lv_i2l (v := r1.toInt64) hx hb dL_ballots_7 rfl ?_
  obtain ⟨h3, q⟩ := q
  refine g_last hx hb hK hH hS h3 dL_ballots_8 (fun H locs hH hS => ?_)
  obtain ⟨F4, eF4⟩ : ∃ z, z = fs F2 79 0 (0 : Int32).toNatClampNeg r1 := ⟨_, rfl⟩
  have q := q F4 eF4
  rw [← eF4] at hH
  refine lv_goto (tgt := 15) hx hb dL_ballots_9 (by decide) ?_
  refine lv_iconst (v := 0) hx hb dL_ballots_15 (by decide) ?_
  exact (W.iret (v := 0) hx hb hr (fun t ht hW => ⟨⟨0, F4, rfl, q, gH_at ht hH⟩, hS.F ht⟩) hS.2.2 dL_ballots_16)
abbrev rm_L_setSlip : Room := { frames := 8, cells := 3, slots := 18, locals := 135 }
abbrev q_L_setSlip (G : GP) (ad : Nat → Nat → Nat) (K : Int32 → GF → Prop) (below : List Frame) (args : Array Value) (s : State) : State → Prop := MQ below (gQi G ad K) args s 3 18 (gA G)
set_option maxHeartbeats 4000000 in
set_option maxRecDepth 100000 in
theorem c_L_setSlip (l : Launch) (hfl : l.stackTraces = false) (G : GP) (ad : Nat → Nat → Nat) (F : GF) (p1 : Int32) (p2 : Int32) (K : Int32 → GF → Prop) : Met l yL_setSlip wsL_setSlip rm_L_setSlip (va_Pc [.ref (ad 0 0), .int p1, .int p2, .ref (ad 79 0)] (fun U => (gD G ad F U ∧ gL U) ∧ P_L_setSlip F p1 p2 K)) (gQi G ad K) 3 18 (gA G) := by
  refine g_ofWH (hh := [(0, 10, 13, 13), (0, 10, 17, 15)]) (cc := cL_setSlip) (maxL := 5) (ret := (some .int)) (by decide) rfl ?_
  intro p e s m args below meth c s₁ Bd hml hv
  obtain ⟨rfl, ⟨⟨hK, hG, hB, hH⟩, hL⟩, q⟩ := hv
  have hx := Bd.exec
  have hb := Bd.bytes
  have hr := Bd.returns
  have hts := atoms_spec (ws := wsL_setSlip) Bd.pre
  have hown : s.vm.findClass RL = some m.cls := findClass_of_methodNamed Bd.named
  have hlocks := Bd.notSynchronized
  have htab := vx_table (x := yL_setSlip) Bd (hts _ List.mem_cons_self)
  have hS : va_S (gA G) s.heap s.heap [] := va_S.rf
  have hl := lv_entry [.ref (ad 0 0), .int p1, .int p2, .ref (ad 79 0)] (n := 5) (Nat.le_of_ble_eq_true rfl)
  rw [lg_entry_eq]
  generalize (lg_sl [.ref (ad 0 0), .int p1, .int p2, .ref (ad 79 0)] ++ List.replicate (5 - (lg_sl [.ref (ad 0 0), .int p1, .int p2, .ref (ad 79 0)]).length) Slot.unset).toArray = ls at hl ⊢
  have hl : lv_has ls 5 [(0, .ref (ad 0 0)), (1, .int p1), (2, .int p2), (3, .ref (ad 79 0))] := hl
  unfold P_L_setSlip at q
  refine lv_aload_n hx hb dL_setSlip_0 rfl (lv_at hl 3 rfl) ?_
  refine lv_iconst (v := 0) hx hb dL_setSlip_1 (by decide) ?_
  refine lv_aload_n hx hb dL_setSlip_2 rfl (lv_at hl 0 rfl) ?_
  refine lv_iload_n hx hb dL_setSlip_3 rfl (lv_at hl 1 rfl) ?_
  refine lv_iload_n hx hb dL_setSlip_4 rfl (lv_at hl 2 rfl) ?_
  refine vx_calli (vx_runV (As := [.int p1, .int p2]) (rest := [.int 0, .ref (ad 79 0)]) ⟨hx, hb, hml, hown, hts⟩ (c_X10_setSlip l hfl G ad F p1 p2 _ _) (cwV 2 hts gL_setSlip_X10_setSlip rfl rfl rfl (by decide +kernel) ⟨Nat.le_of_ble_eq_true rfl, Nat.le_of_ble_eq_true rfl⟩) ⟨fun a U g mk h => ⟨h.1, gD_blind h.2.1, h.2.2⟩, g_recv (C := RX10) (T := TX10) (N := 8) hK hH 0 0 (by decide) Nat.zero_lt_one rfl rfl, fun U hU hW => ⟨rfl, gD_at hK hG hB hH hS hU hW, q⟩⟩ rfl rfl hl.1 rfl (lv_room (Nat.le_of_ble_eq_true rfl)) dL_setSlip_5 ⟨Nat.le_of_ble_eq_true rfl, Nat.le_of_ble_eq_true rfl⟩) hS (fun _ _ h => h) (fun _ h => h) (fun _ _ h => h) (fun E9 ce q9 F9 t H locs ht hvm _ hq hz hk hS hc9 hv9 hcl9 => ?_) (fun r1 F2 t H locs ht hvm q hB1 hz hk hS => ?_)
  · have hH : gH G ad F9 H := gH_to ht hq.2
    rcases hq.1 with ⟨rfl, q⟩ | ⟨rfl, q⟩
    · refine vx_catch hown [] ⟨0, 10, 13, 13⟩ [⟨0, 10, 17, 15⟩] (htab.trans rfl) (fun _ h => absurd h List.not_mem_nil) rfl (by decide) (hts (.classLink RL 13 "java/lang/IndexOutOfBoundsException") (List.mem_of_getElem? (i := 1) rfl)) (va_Nw.use rfl (gcast hG (List.mem_of_getElem? (i := 0) rfl))) hc9 hv9 hcl9 ?_
      refine lv_astore (lv' := [(4, .ref q9), (0, .ref (ad 0 0)), (1, .int p1), (2, .int p2), (3, .ref (ad 79 0))]) hx hb dL_setSlip_13 hl (by decide) rfl (fun ls hl => ?_)
      refine lv_iconst (v := 1) hx hb dL_setSlip_15 (by decide) ?_
      exact (W.iret (v := 1) hx hb hr (fun t ht hW => ⟨⟨1, F9, rfl, q, gH_at ht hH⟩, hS.F ht⟩) hS.2.2 dL_setSlip_16)
    · refine vx_catch hown [⟨0, 10, 13, 13⟩] ⟨0, 10, 17, 15⟩ [] (htab.trans rfl) (List.forall_mem_cons.mpr ⟨Or.inr ⟨by decide, "java/lang/IndexOutOfBoundsException", hts (.classLink RL 13 "java/lang/IndexOutOfBoundsException") (List.mem_of_getElem? (i := 1) rfl), hL.1⟩, (fun _ h => absurd h List.not_mem_nil)⟩) rfl (by decide) (hts (.classLink RL 15 "java/lang/IllegalArgumentException") (List.mem_of_getElem? (i := 2) rfl)) (va_Nw.use rfl (gcast hG (List.mem_of_getElem? (i := 1) rfl))) hc9 hv9 hcl9 ?_
      refine lv_astore (lv' := [(4, .ref q9), (0, .ref (ad 0 0)), (1, .int p1), (2, .int p2), (3, .ref (ad 79 0))]) hx hb dL_setSlip_17 hl (by decide) rfl (fun ls hl => ?_)
      refine lv_iconst (v := 2) hx hb dL_setSlip_19 (by decide) ?_
      exact (W.iret (v := 2) hx hb hr (fun t ht hW => ⟨⟨2, F9, rfl, q, gH_at ht hH⟩, hS.F ht⟩) hS.2.2 dL_setSlip_20)
  have hH : gH G ad F2 H := gH_to ht hB1
  refine lv_i2l (v := r1.toInt64) hx hb dL_setSlip_8 rfl ?_
  obtain ⟨h3, q⟩ := q
  refine g_last hx hb hK hH hS h3 dL_setSlip_9 (fun H locs hH hS => ?_)
  obtain ⟨F4, eF4⟩ : ∃ z, z = fs F2 79 0 (0 : Int32).toNatClampNeg r1 := ⟨_, rfl⟩
  have q := q F4 eF4
  rw [← eF4] at hH
  refine lv_goto (tgt := 21) hx hb dL_setSlip_10 (by decide) ?_
  refine lv_iconst (v := 0) hx hb dL_setSlip_21 (by decide) ?_
  exact (W.iret (v := 0) hx hb hr (fun t ht hW => ⟨⟨0, F4, rfl, q, gH_at ht hH⟩, hS.F ht⟩) hS.2.2 dL_setSlip_22)
abbrev rm_L_count : Room := { frames := 8, cells := 4, slots := 24, locals := 134 }
abbrev q_L_count (G : GP) (ad : Nat → Nat → Nat) (K : Int32 → GF → Prop) (below : List Frame) (args : Array Value) (s : State) : State → Prop := MQ below (gQi G ad K) args s 4 24 (gA G)
set_option maxHeartbeats 4000000 in
set_option maxRecDepth 100000 in
theorem c_L_count (l : Launch) (hfl : l.stackTraces = false) (G : GP) (ad : Nat → Nat → Nat) (F : GF) (p1 : Int32) (p2 : Int32) (K : Int32 → GF → Prop) : Met l yL_count wsL_count rm_L_count (va_Pc [.ref (ad 0 0), .int p1, .int p2, .ref (ad 79 0)] (fun U => (gD G ad F U ∧ gL U) ∧ P_L_count F p1 p2 K)) (gQi G ad K) 4 24 (gA G) := by
  refine g_ofWH (hh := [(0, 17, 20, 13), (0, 17, 24, 24)]) (cc := cL_count) (maxL := 5) (ret := (some .int)) (by decide) rfl ?_
  intro p e s m args below meth c s₁ Bd hml hv
  obtain ⟨rfl, ⟨⟨hK, hG, hB, hH⟩, hL⟩, q⟩ := hv
  have hx := Bd.exec
  have hb := Bd.bytes
  have hr := Bd.returns
  have hts := atoms_spec (ws := wsL_count) Bd.pre
  have hown : s.vm.findClass RL = some m.cls := findClass_of_methodNamed Bd.named
  have hlocks := Bd.notSynchronized
  have htab := vx_table (x := yL_count) Bd (hts _ List.mem_cons_self)
  have hS : va_S (gA G) s.heap s.heap [] := va_S.rf
  have hl := lv_entry [.ref (ad 0 0), .int p1, .int p2, .ref (ad 79 0)] (n := 5) (Nat.le_of_ble_eq_true rfl)
  rw [lg_entry_eq]
  generalize (lg_sl [.ref (ad 0 0), .int p1, .int p2, .ref (ad 79 0)] ++ List.replicate (5 - (lg_sl [.ref (ad 0 0), .int p1, .int p2, .ref (ad 79 0)]).length) Slot.unset).toArray = ls at hl ⊢
  have hl : lv_has ls 5 [(0, .ref (ad 0 0)), (1, .int p1), (2, .int p2), (3, .ref (ad 79 0))] := hl
  show W p l e rm_L_count s m ([.ref (ad 0 0), .int p1, .int p2, .ref (ad 79 0)] : List Value).toArray below meth c s.heap [] 0 0 (q_L_count G ad K below ([.ref (ad 0 0), .int p1, .int p2, .ref (ad 79 0)] : List Value).toArray s) _
  have t_16 : ∀ (F : GF) (s1 : Int32) (s2 : Int32) (H : Heap) (locs : List Loc) (ls : Array Slot), gH G ad F H → va_S (gA G) s.heap H locs → lv_has ls 5 [] → (P_L_count_16 K) F s1 s2 → W p l e rm_L_count s m ([.ref (ad 0 0), .int p1, .int p2, .ref (ad 79 0)] : List Value).toArray below meth c H locs 4 24 (q_L_count G ad K below ([.ref (ad 0 0), .int p1, .int p2, .ref (ad 79 0)] : List Value).toArray s) (F0 m 16 ls [.long s2.toInt64, .int s1, .ref (ad 79 0)]) := by
    intro F s1 s2 H locs ls hH hS hl q
    unfold P_L_count_16 at q
    obtain ⟨h4, q⟩ := q
    refine g_last hx hb hK hH hS h4 dL_count_16 (fun H locs hH hS => ?_)
    obtain ⟨F5, eF5⟩ : ∃ z, z = fs F 79 0 s1.toNatClampNeg s2 := ⟨_, rfl⟩
    have q := q F5 eF5
    rw [← eF5] at hH
    refine lv_goto (tgt := 28) hx hb dL_count_17 (by decide) ?_
    refine lv_iconst (v := 0) hx hb dL_count_28 (by decide) ?_
    exact (W.iret (v := 0) hx hb hr (fun t ht hW => ⟨⟨0, F5, rfl, q, gH_at ht hH⟩, hS.F ht⟩) hS.2.2 dL_count_29)
  unfold P_L_count at q
  refine lv_aload_n hx hb dL_count_0 rfl (lv_at hl 3 rfl) ?_
  refine lv_iconst (v := 0) hx hb dL_count_1 (by decide) ?_
  refine lv_aload_n hx hb dL_count_2 rfl (lv_at hl 0 rfl) ?_
  refine lv_iload_n hx hb dL_count_3 rfl (lv_at hl 1 rfl) ?_
  refine lv_iload_n hx hb dL_count_4 rfl (lv_at hl 2 rfl) ?_
  refine vx_calli (vx_runV (As := [.int p1, .int p2]) (rest := [.int 0, .ref (ad 79 0)]) ⟨hx, hb, hml, hown, hts⟩ (c_X10_count l hfl G ad F p1 p2 _ _) (cwV 2 hts gL_count_X10_count rfl rfl rfl (by decide +kernel) ⟨Nat.le_of_ble_eq_true rfl, Nat.le_of_ble_eq_true rfl⟩) ⟨fun a U g mk h => ⟨h.1, gD_blind h.2.1, h.2.2⟩, g_recv (C := RX10) (T := TX10) (N := 8) hK hH 0 0 (by decide) Nat.zero_lt_one rfl rfl, fun U hU hW => ⟨rfl, gD_at hK hG hB hH hS hU hW, q⟩⟩ rfl rfl hl.1 rfl (lv_room (Nat.le_of_ble_eq_true rfl)) dL_count_5 ⟨Nat.le_of_ble_eq_true rfl, Nat.le_of_ble_eq_true rfl⟩) hS (fun _ _ h => h) (fun _ h => h) (fun _ _ h => h) (fun E9 ce q9 F9 t H locs ht hvm _ hq hz hk hS hc9 hv9 hcl9 => ?_) (fun r1 F2 t H locs ht hvm q hB1 hz hk hS => ?_)
  · have hH : gH G ad F9 H := gH_to ht hq.2
    rcases hq.1 with ⟨rfl, q⟩ | ⟨rfl, q⟩
    · refine vx_catch hown [] ⟨0, 17, 20, 13⟩ [⟨0, 17, 24, 24⟩] (htab.trans rfl) (fun _ h => absurd h List.not_mem_nil) rfl (by decide) (hts (.classLink RL 13 "java/lang/IndexOutOfBoundsException") (List.mem_of_getElem? (i := 1) rfl)) (va_Nw.use rfl (gcast hG (List.mem_of_getElem? (i := 0) rfl))) hc9 hv9 hcl9 ?_
      refine lv_astore (lv' := [(4, .ref q9), (0, .ref (ad 0 0)), (1, .int p1), (2, .int p2), (3, .ref (ad 79 0))]) hx hb dL_count_20 hl (by decide) rfl (fun ls hl => ?_)
      refine lv_iconst (v := 1) hx hb dL_count_22 (by decide) ?_
      exact (W.iret (v := 1) hx hb hr (fun t ht hW => ⟨⟨1, F9, rfl, q, gH_at ht hH⟩, hS.F ht⟩) hS.2.2 dL_count_23)
    · refine vx_catch hown [⟨0, 17, 20, 13⟩] ⟨0, 17, 24, 24⟩ [] (htab.trans rfl) (List.forall_mem_cons.mpr ⟨Or.inr ⟨by decide, "java/lang/IndexOutOfBoundsException", hts (.classLink RL 13 "java/lang/IndexOutOfBoundsException") (List.mem_of_getElem? (i := 1) rfl), hL.2.1⟩, (fun _ h => absurd h List.not_mem_nil)⟩) rfl (by decide) (hts (.classLink RL 24 "java/lang/IllegalStateException") (List.mem_of_getElem? (i := 2) rfl)) (va_Nw.use rfl (gcast hG (List.mem_of_getElem? (i := 2) rfl))) hc9 hv9 hcl9 ?_
      refine lv_astore (lv' := [(4, .ref q9), (0, .ref (ad 0 0)), (1, .int p1), (2, .int p2), (3, .ref (ad 79 0))]) hx hb dL_count_24 hl (by decide) rfl (fun ls hl => ?_)
      refine lv_iconst (v := 2) hx hb dL_count_26 (by decide) ?_
      exact (W.iret (v := 2) hx hb hr (fun t ht hW => ⟨⟨2, F9, rfl, q, gH_at ht hH⟩, hS.F ht⟩) hS.2.2 dL_count_27)
  have hH : gH G ad F2 H := gH_to ht hB1
  refine lv_if_eq (tgt := 15) hx hb dL_count_8 (by decide) (fun c3 => ?_) (fun c3 => ?_)
  · have q := (if_pos c3).mp q
    refine lv_lconst (v := (0 : Int32).toInt64) hx hb dL_count_15 (by decide) ?_
    exact t_16 F2 0 0 _ _ _ hH hS (lv_sub hl [] rfl) q
  · have q := (if_neg c3).mp q
    refine lv_lconst (v := (1 : Int32).toInt64) hx hb dL_count_11 (by decide) ?_
    refine lv_goto (tgt := 16) hx hb dL_count_12 (by decide) ?_
    exact t_16 F2 0 1 _ _ _ hH hS (lv_sub hl [] rfl) q
abbrev rm_L_recount : Room := { frames := 8, cells := 2, slots := 12, locals := 132 }
abbrev q_L_recount (G : GP) (ad : Nat → Nat → Nat) (K : Int32 → GF → Prop) (below : List Frame) (args : Array Value) (s : State) : State → Prop := MQ below (gQi G ad K) args s 2 12 (gA G)
set_option maxHeartbeats 4000000 in
set_option maxRecDepth 100000 in
theorem c_L_recount (l : Launch) (hfl : l.stackTraces = false) (G : GP) (ad : Nat → Nat → Nat) (F : GF) (p1 : Int32) (K : Int32 → GF → Prop) : Met l yL_recount wsL_recount rm_L_recount (va_Pc [.ref (ad 0 0), .int p1, .ref (ad 79 0)] (fun U => (gD G ad F U ∧ gL U) ∧ P_L_recount F p1 K)) (gQi G ad K) 2 12 (gA G) := by
  refine g_ofWH (hh := [(0, 9, 12, 13), (0, 9, 15, 24)]) (cc := cL_recount) (maxL := 4) (ret := (some .int)) (by decide) rfl ?_
  intro p e s m args below meth c s₁ Bd hml hv
  obtain ⟨rfl, ⟨⟨hK, hG, hB, hH⟩, hL⟩, q⟩ := hv
  have hx := Bd.exec
  have hb := Bd.bytes
  have hr := Bd.returns
  have hts := atoms_spec (ws := wsL_recount) Bd.pre
  have hown : s.vm.findClass RL = some m.cls := findClass_of_methodNamed Bd.named
  have hlocks := Bd.notSynchronized
  have htab := vx_table (x := yL_recount) Bd (hts _ List.mem_cons_self)
  have hS : va_S (gA G) s.heap s.heap [] := va_S.rf
  have hl := lv_entry [.ref (ad 0 0), .int p1, .ref (ad 79 0)] (n := 4) (Nat.le_of_ble_eq_true rfl)
  rw [lg_entry_eq]
  generalize (lg_sl [.ref (ad 0 0), .int p1, .ref (ad 79 0)] ++ List.replicate (4 - (lg_sl [.ref (ad 0 0), .int p1, .ref (ad 79 0)]).length) Slot.unset).toArray = ls at hl ⊢
  have hl : lv_has ls 4 [(0, .ref (ad 0 0)), (1, .int p1), (2, .ref (ad 79 0))] := hl
  unfold P_L_recount at q
  refine lv_aload_n hx hb dL_recount_0 rfl (lv_at hl 2 rfl) ?_
  refine lv_iconst (v := 0) hx hb dL_recount_1 (by decide) ?_
  refine lv_aload_n hx hb dL_recount_2 rfl (lv_at hl 0 rfl) ?_
  refine lv_iload_n hx hb dL_recount_3 rfl (lv_at hl 1 rfl) ?_
  refine vx_calli (vx_runV (As := [.int p1]) (rest := [.int 0, .ref (ad 79 0)]) ⟨hx, hb, hml, hown, hts⟩ (c_X10_recount l hfl G ad F p1 _ _) (cwV 1 hts gL_recount_X10_recount rfl rfl rfl (by decide +kernel) ⟨Nat.le_of_ble_eq_true rfl, Nat.le_of_ble_eq_true rfl⟩) ⟨fun a U g mk h => ⟨h.1, gD_blind h.2.1, h.2.2⟩, g_recv (C := RX10) (T := TX10) (N := 8) hK hH 0 0 (by decide) Nat.zero_lt_one rfl rfl, fun U hU hW => ⟨rfl, gD_at hK hG hB hH hS hU hW, q⟩⟩ rfl rfl hl.1 rfl (lv_room (Nat.le_of_ble_eq_true rfl)) dL_recount_4 ⟨Nat.le_of_ble_eq_true rfl, Nat.le_of_ble_eq_true rfl⟩) hS (fun _ _ h => h) (fun _ h => h) (fun _ _ h => h) (fun E9 ce q9 F9 t H locs ht hvm _ hq hz hk hS hc9 hv9 hcl9 => ?_) (fun r1 F2 t H locs ht hvm q hB1 hz hk hS => ?_)
  · have hH : gH G ad F9 H := gH_to ht hq.2
    rcases hq.1 with ⟨rfl, q⟩ | ⟨rfl, q⟩
    · refine vx_catch hown [] ⟨0, 9, 12, 13⟩ [⟨0, 9, 15, 24⟩] (htab.trans rfl) (fun _ h => absurd h List.not_mem_nil) rfl (by decide) (hts (.classLink RL 13 "java/lang/IndexOutOfBoundsException") (List.mem_of_getElem? (i := 1) rfl)) (va_Nw.use rfl (gcast hG (List.mem_of_getElem? (i := 0) rfl))) hc9 hv9 hcl9 ?_
      refine lv_astore_n (lv' := [(3, .ref q9), (0, .ref (ad 0 0)), (1, .int p1), (2, .ref (ad 79 0))]) hx hb dL_recount_12 rfl hl (by decide) rfl (fun ls hl => ?_)
      refine lv_iconst (v := 1) hx hb dL_recount_13 (by decide) ?_
      exact (W.iret (v := 1) hx hb hr (fun t ht hW => ⟨⟨1, F9, rfl, q, gH_at ht hH⟩, hS.F ht⟩) hS.2.2 dL_recount_14)
    · refine vx_catch hown [⟨0, 9, 12, 13⟩] ⟨0, 9, 15, 24⟩ [] (htab.trans rfl) (List.forall_mem_cons.mpr ⟨Or.inr ⟨by decide, "java/lang/IndexOutOfBoundsException", hts (.classLink RL 13 "java/lang/IndexOutOfBoundsException") (List.mem_of_getElem? (i := 1) rfl), hL.2.1⟩, (fun _ h => absurd h List.not_mem_nil)⟩) rfl (by decide) (hts (.classLink RL 24 "java/lang/IllegalStateException") (List.mem_of_getElem? (i := 2) rfl)) (va_Nw.use rfl (gcast hG (List.mem_of_getElem? (i := 2) rfl))) hc9 hv9 hcl9 ?_
      refine lv_astore_n (lv' := [(3, .ref q9), (0, .ref (ad 0 0)), (1, .int p1), (2, .ref (ad 79 0))]) hx hb dL_recount_15 rfl hl (by decide) rfl (fun ls hl => ?_)
      refine lv_iconst (v := 2) hx hb dL_recount_16 (by decide) ?_
      exact (W.iret (v := 2) hx hb hr (fun t ht hW => ⟨⟨2, F9, rfl, q, gH_at ht hH⟩, hS.F ht⟩) hS.2.2 dL_recount_17)
  have hH : gH G ad F2 H := gH_to ht hB1
  refine lv_i2l (v := r1.toInt64) hx hb dL_recount_7 rfl ?_
  obtain ⟨h3, q⟩ := q
  refine g_last hx hb hK hH hS h3 dL_recount_8 (fun H locs hH hS => ?_)
  obtain ⟨F4, eF4⟩ : ∃ z, z = fs F2 79 0 (0 : Int32).toNatClampNeg r1 := ⟨_, rfl⟩
  have q := q F4 eF4
  rw [← eF4] at hH
  refine lv_goto (tgt := 18) hx hb dL_recount_9 (by decide) ?_
  refine lv_iconst (v := 0) hx hb dL_recount_18 (by decide) ?_
  exact (W.iret (v := 0) hx hb hr (fun t ht hW => ⟨⟨0, F4, rfl, q, gH_at ht hH⟩, hS.F ht⟩) hS.2.2 dL_recount_19)
abbrev rm_L_isSettled : Room := { frames := 8, cells := 1, slots := 6, locals := 132 }
abbrev q_L_isSettled (G : GP) (ad : Nat → Nat → Nat) (K : Int32 → GF → Prop) (below : List Frame) (args : Array Value) (s : State) : State → Prop := MQ below (gQi G ad K) args s 1 6 (gA G)
set_option maxHeartbeats 4000000 in
set_option maxRecDepth 100000 in
theorem c_L_isSettled (l : Launch) (hfl : l.stackTraces = false) (G : GP) (ad : Nat → Nat → Nat) (F : GF) (p1 : Int32) (K : Int32 → GF → Prop) : Met l yL_isSettled wsL_isSettled rm_L_isSettled (va_Pc [.ref (ad 0 0), .int p1, .ref (ad 79 0)] (fun U => (gD G ad F U ∧ gL U) ∧ P_L_isSettled F p1 K)) (gQi G ad K) 1 6 (gA G) := by
  refine g_ofWH (hh := [(0, 16, 19, 13)]) (cc := cL_isSettled) (maxL := 4) (ret := (some .int)) (by decide) rfl ?_
  intro p e s m args below meth c s₁ Bd hml hv
  obtain ⟨rfl, ⟨⟨hK, hG, hB, hH⟩, hL⟩, q⟩ := hv
  have hx := Bd.exec
  have hb := Bd.bytes
  have hr := Bd.returns
  have hts := atoms_spec (ws := wsL_isSettled) Bd.pre
  have hown : s.vm.findClass RL = some m.cls := findClass_of_methodNamed Bd.named
  have hlocks := Bd.notSynchronized
  have htab := vx_table (x := yL_isSettled) Bd (hts _ List.mem_cons_self)
  have hS : va_S (gA G) s.heap s.heap [] := va_S.rf
  have hl := lv_entry [.ref (ad 0 0), .int p1, .ref (ad 79 0)] (n := 4) (Nat.le_of_ble_eq_true rfl)
  rw [lg_entry_eq]
  generalize (lg_sl [.ref (ad 0 0), .int p1, .ref (ad 79 0)] ++ List.replicate (4 - (lg_sl [.ref (ad 0 0), .int p1, .ref (ad 79 0)]).length) Slot.unset).toArray = ls at hl ⊢
  have hl : lv_has ls 4 [(0, .ref (ad 0 0)), (1, .int p1), (2, .ref (ad 79 0))] := hl
  show W p l e rm_L_isSettled s m ([.ref (ad 0 0), .int p1, .ref (ad 79 0)] : List Value).toArray below meth c s.heap [] 0 0 (q_L_isSettled G ad K below ([.ref (ad 0 0), .int p1, .ref (ad 79 0)] : List Value).toArray s) _
  have t_15 : ∀ (F : GF) (s1 : Int32) (s2 : Int32) (H : Heap) (locs : List Loc) (ls : Array Slot), gH G ad F H → va_S (gA G) s.heap H locs → lv_has ls 4 [] → (P_L_isSettled_15 K) F s1 s2 → W p l e rm_L_isSettled s m ([.ref (ad 0 0), .int p1, .ref (ad 79 0)] : List Value).toArray below meth c H locs 1 6 (q_L_isSettled G ad K below ([.ref (ad 0 0), .int p1, .ref (ad 79 0)] : List Value).toArray s) (F0 m 15 ls [.long s2.toInt64, .int s1, .ref (ad 79 0)]) := by
    intro F s1 s2 H locs ls hH hS hl q
    unfold P_L_isSettled_15 at q
    obtain ⟨h4, q⟩ := q
    refine g_last hx hb hK hH hS h4 dL_isSettled_15 (fun H locs hH hS => ?_)
    obtain ⟨F5, eF5⟩ : ∃ z, z = fs F 79 0 s1.toNatClampNeg s2 := ⟨_, rfl⟩
    have q := q F5 eF5
    rw [← eF5] at hH
    refine lv_goto (tgt := 22) hx hb dL_isSettled_16 (by decide) ?_
    refine lv_iconst (v := 0) hx hb dL_isSettled_22 (by decide) ?_
    exact (W.iret (v := 0) hx hb hr (fun t ht hW => ⟨⟨0, F5, rfl, q, gH_at ht hH⟩, hS.F ht⟩) hS.2.2 dL_isSettled_23)
  unfold P_L_isSettled at q
  refine lv_aload_n hx hb dL_isSettled_0 rfl (lv_at hl 2 rfl) ?_
  refine lv_iconst (v := 0) hx hb dL_isSettled_1 (by decide) ?_
  refine lv_aload_n hx hb dL_isSettled_2 rfl (lv_at hl 0 rfl) ?_
  refine lv_iload_n hx hb dL_isSettled_3 rfl (lv_at hl 1 rfl) ?_
  refine vx_calli (vx_runV (As := [.int p1]) (rest := [.int 0, .ref (ad 79 0)]) ⟨hx, hb, hml, hown, hts⟩ (c_X10_isSettled l hfl G ad F p1 _ _) (cwV 1 hts gL_isSettled_X10_isSettled rfl rfl rfl (by decide +kernel) ⟨Nat.le_of_ble_eq_true rfl, Nat.le_of_ble_eq_true rfl⟩) ⟨fun a U g mk h => ⟨h.1, gD_blind h.2.1, h.2.2⟩, g_recv (C := RX10) (T := TX10) (N := 8) hK hH 0 0 (by decide) Nat.zero_lt_one rfl rfl, fun U hU hW => ⟨rfl, gD_at hK hG hB hH hS hU hW, q⟩⟩ rfl rfl hl.1 rfl (lv_room (Nat.le_of_ble_eq_true rfl)) dL_isSettled_4 ⟨Nat.le_of_ble_eq_true rfl, Nat.le_of_ble_eq_true rfl⟩) hS (fun _ _ h => h) (fun _ h => h) (fun _ _ h => h) (fun E9 ce q9 F9 t H locs ht hvm _ hq hz hk hS hc9 hv9 hcl9 => ?_) (fun r1 F2 t H locs ht hvm q hB1 hz hk hS => ?_)
  · have hH : gH G ad F9 H := gH_to ht hq.2
    rcases hq.1 with ⟨rfl, q⟩
    · refine vx_catch hown [] ⟨0, 16, 19, 13⟩ [] (htab.trans rfl) (fun _ h => absurd h List.not_mem_nil) rfl (by decide) (hts (.classLink RL 13 "java/lang/IndexOutOfBoundsException") (List.mem_of_getElem? (i := 1) rfl)) (va_Nw.use rfl (gcast hG (List.mem_of_getElem? (i := 0) rfl))) hc9 hv9 hcl9 ?_
      refine lv_astore_n (lv' := [(3, .ref q9), (0, .ref (ad 0 0)), (1, .int p1), (2, .ref (ad 79 0))]) hx hb dL_isSettled_19 rfl hl (by decide) rfl (fun ls hl => ?_)
      refine lv_iconst (v := 1) hx hb dL_isSettled_20 (by decide) ?_
      exact (W.iret (v := 1) hx hb hr (fun t ht hW => ⟨⟨1, F9, rfl, q, gH_at ht hH⟩, hS.F ht⟩) hS.2.2 dL_isSettled_21)
  have hH : gH G ad F2 H := gH_to ht hB1
  refine lv_if_eq (tgt := 14) hx hb dL_isSettled_7 (by decide) (fun c3 => ?_) (fun c3 => ?_)
  · have q := (if_pos c3).mp q
    refine lv_lconst (v := (0 : Int32).toInt64) hx hb dL_isSettled_14 (by decide) ?_
    exact t_15 F2 0 0 _ _ _ hH hS (lv_sub hl [] rfl) q
  · have q := (if_neg c3).mp q
    refine lv_lconst (v := (1 : Int32).toInt64) hx hb dL_isSettled_10 (by decide) ?_
    refine lv_goto (tgt := 15) hx hb dL_isSettled_11 (by decide) ?_
    exact t_15 F2 0 1 _ _ _ hH hS (lv_sub hl [] rfl) q
abbrev rm_L_numberOf : Room := { frames := 8, cells := 2, slots := 12, locals := 134 }
abbrev q_L_numberOf (G : GP) (ad : Nat → Nat → Nat) (K : Int32 → GF → Prop) (below : List Frame) (args : Array Value) (s : State) : State → Prop := MQ below (gQi G ad K) args s 2 12 (gA G)
set_option maxHeartbeats 4000000 in
set_option maxRecDepth 100000 in
theorem c_L_numberOf (l : Launch) (hfl : l.stackTraces = false) (G : GP) (ad : Nat → Nat → Nat) (F : GF) (p1 : Int32) (p2 : Int32) (K : Int32 → GF → Prop) : Met l yL_numberOf wsL_numberOf rm_L_numberOf (va_Pc [.ref (ad 0 0), .int p1, .int p2, .ref (ad 79 0)] (fun U => (gD G ad F U ∧ gL U) ∧ P_L_numberOf F p1 p2 K)) (gQi G ad K) 2 12 (gA G) := by
  refine g_ofWH (hh := [(0, 10, 13, 13), (0, 10, 17, 15)]) (cc := cL_numberOf) (maxL := 5) (ret := (some .int)) (by decide) rfl ?_
  intro p e s m args below meth c s₁ Bd hml hv
  obtain ⟨rfl, ⟨⟨hK, hG, hB, hH⟩, hL⟩, q⟩ := hv
  have hx := Bd.exec
  have hb := Bd.bytes
  have hr := Bd.returns
  have hts := atoms_spec (ws := wsL_numberOf) Bd.pre
  have hown : s.vm.findClass RL = some m.cls := findClass_of_methodNamed Bd.named
  have hlocks := Bd.notSynchronized
  have htab := vx_table (x := yL_numberOf) Bd (hts _ List.mem_cons_self)
  have hS : va_S (gA G) s.heap s.heap [] := va_S.rf
  have hl := lv_entry [.ref (ad 0 0), .int p1, .int p2, .ref (ad 79 0)] (n := 5) (Nat.le_of_ble_eq_true rfl)
  rw [lg_entry_eq]
  generalize (lg_sl [.ref (ad 0 0), .int p1, .int p2, .ref (ad 79 0)] ++ List.replicate (5 - (lg_sl [.ref (ad 0 0), .int p1, .int p2, .ref (ad 79 0)]).length) Slot.unset).toArray = ls at hl ⊢
  have hl : lv_has ls 5 [(0, .ref (ad 0 0)), (1, .int p1), (2, .int p2), (3, .ref (ad 79 0))] := hl
  unfold P_L_numberOf at q
  refine lv_aload_n hx hb dL_numberOf_0 rfl (lv_at hl 3 rfl) ?_
  refine lv_iconst (v := 0) hx hb dL_numberOf_1 (by decide) ?_
  refine lv_aload_n hx hb dL_numberOf_2 rfl (lv_at hl 0 rfl) ?_
  refine lv_iload_n hx hb dL_numberOf_3 rfl (lv_at hl 1 rfl) ?_
  refine lv_iload_n hx hb dL_numberOf_4 rfl (lv_at hl 2 rfl) ?_
  refine vx_calli (vx_runV (As := [.int p1, .int p2]) (rest := [.int 0, .ref (ad 79 0)]) ⟨hx, hb, hml, hown, hts⟩ (c_X10_numberOf l hfl G ad F p1 p2 _ _) (cwV 2 hts gL_numberOf_X10_numberOf rfl rfl rfl (by decide +kernel) ⟨Nat.le_of_ble_eq_true rfl, Nat.le_of_ble_eq_true rfl⟩) ⟨fun a U g mk h => ⟨h.1, gD_blind h.2.1, h.2.2⟩, g_recv (C := RX10) (T := TX10) (N := 8) hK hH 0 0 (by decide) Nat.zero_lt_one rfl rfl, fun U hU hW => ⟨rfl, gD_at hK hG hB hH hS hU hW, q⟩⟩ rfl rfl hl.1 rfl (lv_room (Nat.le_of_ble_eq_true rfl)) dL_numberOf_5 ⟨Nat.le_of_ble_eq_true rfl, Nat.le_of_ble_eq_true rfl⟩) hS (fun _ _ h => h) (fun _ h => h) (fun _ _ h => h) (fun E9 ce q9 F9 t H locs ht hvm _ hq hz hk hS hc9 hv9 hcl9 => ?_) (fun r1 F2 t H locs ht hvm q hB1 hz hk hS => ?_)
  · have hH : gH G ad F9 H := gH_to ht hq.2
    rcases hq.1 with ⟨rfl, q⟩ | ⟨rfl, q⟩
    · refine vx_catch hown [] ⟨0, 10, 13, 13⟩ [⟨0, 10, 17, 15⟩] (htab.trans rfl) (fun _ h => absurd h List.not_mem_nil) rfl (by decide) (hts (.classLink RL 13 "java/lang/IndexOutOfBoundsException") (List.mem_of_getElem? (i := 1) rfl)) (va_Nw.use rfl (gcast hG (List.mem_of_getElem? (i := 0) rfl))) hc9 hv9 hcl9 ?_
      refine lv_astore (lv' := [(4, .ref q9), (0, .ref (ad 0 0)), (1, .int p1), (2, .int p2), (3, .ref (ad 79 0))]) hx hb dL_numberOf_13 hl (by decide) rfl (fun ls hl => ?_)
      refine lv_iconst (v := 1) hx hb dL_numberOf_15 (by decide) ?_
      exact (W.iret (v := 1) hx hb hr (fun t ht hW => ⟨⟨1, F9, rfl, q, gH_at ht hH⟩, hS.F ht⟩) hS.2.2 dL_numberOf_16)
    · refine vx_catch hown [⟨0, 10, 13, 13⟩] ⟨0, 10, 17, 15⟩ [] (htab.trans rfl) (List.forall_mem_cons.mpr ⟨Or.inr ⟨by decide, "java/lang/IndexOutOfBoundsException", hts (.classLink RL 13 "java/lang/IndexOutOfBoundsException") (List.mem_of_getElem? (i := 1) rfl), hL.1⟩, (fun _ h => absurd h List.not_mem_nil)⟩) rfl (by decide) (hts (.classLink RL 15 "java/lang/IllegalArgumentException") (List.mem_of_getElem? (i := 2) rfl)) (va_Nw.use rfl (gcast hG (List.mem_of_getElem? (i := 1) rfl))) hc9 hv9 hcl9 ?_
      refine lv_astore (lv' := [(4, .ref q9), (0, .ref (ad 0 0)), (1, .int p1), (2, .int p2), (3, .ref (ad 79 0))]) hx hb dL_numberOf_17 hl (by decide) rfl (fun ls hl => ?_)
      refine lv_iconst (v := 2) hx hb dL_numberOf_19 (by decide) ?_
      exact (W.iret (v := 2) hx hb hr (fun t ht hW => ⟨⟨2, F9, rfl, q, gH_at ht hH⟩, hS.F ht⟩) hS.2.2 dL_numberOf_20)
  have hH : gH G ad F2 H := gH_to ht hB1
  refine lv_i2l (v := r1.toInt64) hx hb dL_numberOf_8 rfl ?_
  obtain ⟨h3, q⟩ := q
  refine g_last hx hb hK hH hS h3 dL_numberOf_9 (fun H locs hH hS => ?_)
  obtain ⟨F4, eF4⟩ : ∃ z, z = fs F2 79 0 (0 : Int32).toNatClampNeg r1 := ⟨_, rfl⟩
  have q := q F4 eF4
  rw [← eF4] at hH
  refine lv_goto (tgt := 21) hx hb dL_numberOf_10 (by decide) ?_
  refine lv_iconst (v := 0) hx hb dL_numberOf_21 (by decide) ?_
  exact (W.iret (v := 0) hx hb hr (fun t ht hW => ⟨⟨0, F4, rfl, q, gH_at ht hH⟩, hS.F ht⟩) hS.2.2 dL_numberOf_22)
abbrev rm_L_misread : Room := { frames := 8, cells := 1, slots := 6, locals := 132 }
abbrev q_L_misread (G : GP) (ad : Nat → Nat → Nat) (K : Int32 → GF → Prop) (below : List Frame) (args : Array Value) (s : State) : State → Prop := MQ below (gQi G ad K) args s 1 6 (gA G)
set_option maxHeartbeats 4000000 in
set_option maxRecDepth 100000 in
theorem c_L_misread (l : Launch) (hfl : l.stackTraces = false) (G : GP) (ad : Nat → Nat → Nat) (F : GF) (p1 : Int32) (K : Int32 → GF → Prop) : Met l yL_misread wsL_misread rm_L_misread (va_Pc [.ref (ad 0 0), .int p1, .ref (ad 79 0)] (fun U => (gD G ad F U ∧ gL U) ∧ P_L_misread F p1 K)) (gQi G ad K) 1 6 (gA G) := by
  refine g_ofWH (hh := [(0, 9, 12, 13)]) (cc := cL_misread) (maxL := 4) (ret := (some .int)) (by decide) rfl ?_
  intro p e s m args below meth c s₁ Bd hml hv
  obtain ⟨rfl, ⟨⟨hK, hG, hB, hH⟩, hL⟩, q⟩ := hv
  have hx := Bd.exec
  have hb := Bd.bytes
  have hr := Bd.returns
  have hts := atoms_spec (ws := wsL_misread) Bd.pre
  have hown : s.vm.findClass RL = some m.cls := findClass_of_methodNamed Bd.named
  have hlocks := Bd.notSynchronized
  have htab := vx_table (x := yL_misread) Bd (hts _ List.mem_cons_self)
  have hS : va_S (gA G) s.heap s.heap [] := va_S.rf
  have hl := lv_entry [.ref (ad 0 0), .int p1, .ref (ad 79 0)] (n := 4) (Nat.le_of_ble_eq_true rfl)
  rw [lg_entry_eq]
  generalize (lg_sl [.ref (ad 0 0), .int p1, .ref (ad 79 0)] ++ List.replicate (4 - (lg_sl [.ref (ad 0 0), .int p1, .ref (ad 79 0)]).length) Slot.unset).toArray = ls at hl ⊢
  have hl : lv_has ls 4 [(0, .ref (ad 0 0)), (1, .int p1), (2, .ref (ad 79 0))] := hl
  unfold P_L_misread at q
  refine lv_aload_n hx hb dL_misread_0 rfl (lv_at hl 2 rfl) ?_
  refine lv_iconst (v := 0) hx hb dL_misread_1 (by decide) ?_
  refine lv_aload_n hx hb dL_misread_2 rfl (lv_at hl 0 rfl) ?_
  refine lv_iload_n hx hb dL_misread_3 rfl (lv_at hl 1 rfl) ?_
  refine vx_calli (vx_runV (As := [.int p1]) (rest := [.int 0, .ref (ad 79 0)]) ⟨hx, hb, hml, hown, hts⟩ (c_X10_misread l hfl G ad F p1 _ _) (cwV 1 hts gL_misread_X10_misread rfl rfl rfl (by decide +kernel) ⟨Nat.le_of_ble_eq_true rfl, Nat.le_of_ble_eq_true rfl⟩) ⟨fun a U g mk h => ⟨h.1, gD_blind h.2.1, h.2.2⟩, g_recv (C := RX10) (T := TX10) (N := 8) hK hH 0 0 (by decide) Nat.zero_lt_one rfl rfl, fun U hU hW => ⟨rfl, gD_at hK hG hB hH hS hU hW, q⟩⟩ rfl rfl hl.1 rfl (lv_room (Nat.le_of_ble_eq_true rfl)) dL_misread_4 ⟨Nat.le_of_ble_eq_true rfl, Nat.le_of_ble_eq_true rfl⟩) hS (fun _ _ h => h) (fun _ h => h) (fun _ _ h => h) (fun E9 ce q9 F9 t H locs ht hvm _ hq hz hk hS hc9 hv9 hcl9 => ?_) (fun r1 F2 t H locs ht hvm q hB1 hz hk hS => ?_)
  · have hH : gH G ad F9 H := gH_to ht hq.2
    rcases hq.1 with ⟨rfl, q⟩
    · refine vx_catch hown [] ⟨0, 9, 12, 13⟩ [] (htab.trans rfl) (fun _ h => absurd h List.not_mem_nil) rfl (by decide) (hts (.classLink RL 13 "java/lang/IndexOutOfBoundsException") (List.mem_of_getElem? (i := 1) rfl)) (va_Nw.use rfl (gcast hG (List.mem_of_getElem? (i := 0) rfl))) hc9 hv9 hcl9 ?_
      refine lv_astore_n (lv' := [(3, .ref q9), (0, .ref (ad 0 0)), (1, .int p1), (2, .ref (ad 79 0))]) hx hb dL_misread_12 rfl hl (by decide) rfl (fun ls hl => ?_)
      refine lv_iconst (v := 1) hx hb dL_misread_13 (by decide) ?_
      exact (W.iret (v := 1) hx hb hr (fun t ht hW => ⟨⟨1, F9, rfl, q, gH_at ht hH⟩, hS.F ht⟩) hS.2.2 dL_misread_14)
  have hH : gH G ad F2 H := gH_to ht hB1
  refine lv_i2l (v := r1.toInt64) hx hb dL_misread_7 rfl ?_
  obtain ⟨h3, q⟩ := q
  refine g_last hx hb hK hH hS h3 dL_misread_8 (fun H locs hH hS => ?_)
  obtain ⟨F4, eF4⟩ : ∃ z, z = fs F2 79 0 (0 : Int32).toNatClampNeg r1 := ⟨_, rfl⟩
  have q := q F4 eF4
  rw [← eF4] at hH
  refine lv_goto (tgt := 15) hx hb dL_misread_9 (by decide) ?_
  refine lv_iconst (v := 0) hx hb dL_misread_15 (by decide) ?_
  exact (W.iret (v := 0) hx hb hr (fun t ht hW => ⟨⟨0, F4, rfl, q, gH_at ht hH⟩, hS.F ht⟩) hS.2.2 dL_misread_16)
abbrev rm_L_votes : Room := { frames := 8, cells := 1, slots := 6, locals := 131 }
abbrev q_L_votes (G : GP) (ad : Nat → Nat → Nat) (K : Int32 → GF → Prop) (below : List Frame) (args : Array Value) (s : State) : State → Prop := MQ below (gQi G ad K) args s 1 6 (gA G)
set_option maxHeartbeats 4000000 in
set_option maxRecDepth 100000 in
theorem c_L_votes (l : Launch) (hfl : l.stackTraces = false) (G : GP) (ad : Nat → Nat → Nat) (F : GF) (p1 : Int32) (K : Int32 → GF → Prop) : Met l yL_votes wsL_votes rm_L_votes (va_Pc [.ref (ad 0 0), .int p1, .ref (ad 79 0)] (fun U => (gD G ad F U ∧ gL U) ∧ P_L_votes F p1 K)) (gQi G ad K) 1 6 (gA G) := by
  refine g_ofWH (hh := [(0, 9, 12, 13)]) (cc := cL_votes) (maxL := 4) (ret := (some .int)) (by decide) rfl ?_
  intro p e s m args below meth c s₁ Bd hml hv
  obtain ⟨rfl, ⟨⟨hK, hG, hB, hH⟩, hL⟩, q⟩ := hv
  have hx := Bd.exec
  have hb := Bd.bytes
  have hr := Bd.returns
  have hts := atoms_spec (ws := wsL_votes) Bd.pre
  have hown : s.vm.findClass RL = some m.cls := findClass_of_methodNamed Bd.named
  have hlocks := Bd.notSynchronized
  have htab := vx_table (x := yL_votes) Bd (hts _ List.mem_cons_self)
  have hS : va_S (gA G) s.heap s.heap [] := va_S.rf
  have hl := lv_entry [.ref (ad 0 0), .int p1, .ref (ad 79 0)] (n := 4) (Nat.le_of_ble_eq_true rfl)
  rw [lg_entry_eq]
  generalize (lg_sl [.ref (ad 0 0), .int p1, .ref (ad 79 0)] ++ List.replicate (4 - (lg_sl [.ref (ad 0 0), .int p1, .ref (ad 79 0)]).length) Slot.unset).toArray = ls at hl ⊢
  have hl : lv_has ls 4 [(0, .ref (ad 0 0)), (1, .int p1), (2, .ref (ad 79 0))] := hl
  unfold P_L_votes at q
  refine lv_aload_n hx hb dL_votes_0 rfl (lv_at hl 2 rfl) ?_
  refine lv_iconst (v := 0) hx hb dL_votes_1 (by decide) ?_
  refine lv_aload_n hx hb dL_votes_2 rfl (lv_at hl 0 rfl) ?_
  refine lv_iload_n hx hb dL_votes_3 rfl (lv_at hl 1 rfl) ?_
  refine vx_calli (vx_runV (As := [.int p1]) (rest := [.int 0, .ref (ad 79 0)]) ⟨hx, hb, hml, hown, hts⟩ (c_X10_votes l hfl G ad F p1 _ _) (cwV 1 hts gL_votes_X10_votes rfl rfl rfl (by decide +kernel) ⟨Nat.le_of_ble_eq_true rfl, Nat.le_of_ble_eq_true rfl⟩) ⟨fun a U g mk h => ⟨h.1, gD_blind h.2.1, h.2.2⟩, g_recv (C := RX10) (T := TX10) (N := 8) hK hH 0 0 (by decide) Nat.zero_lt_one rfl rfl, fun U hU hW => ⟨rfl, gD_at hK hG hB hH hS hU hW, q⟩⟩ rfl rfl hl.1 rfl (lv_room (Nat.le_of_ble_eq_true rfl)) dL_votes_4 ⟨Nat.le_of_ble_eq_true rfl, Nat.le_of_ble_eq_true rfl⟩) hS (fun _ _ h => h) (fun _ h => h) (fun _ _ h => h) (fun E9 ce q9 F9 t H locs ht hvm _ hq hz hk hS hc9 hv9 hcl9 => ?_) (fun r1 F2 t H locs ht hvm q hB1 hz hk hS => ?_)
  · have hH : gH G ad F9 H := gH_to ht hq.2
    rcases hq.1 with ⟨rfl, q⟩
    · refine vx_catch hown [] ⟨0, 9, 12, 13⟩ [] (htab.trans rfl) (fun _ h => absurd h List.not_mem_nil) rfl (by decide) (hts (.classLink RL 13 "java/lang/IndexOutOfBoundsException") (List.mem_of_getElem? (i := 1) rfl)) (va_Nw.use rfl (gcast hG (List.mem_of_getElem? (i := 0) rfl))) hc9 hv9 hcl9 ?_
      refine lv_astore_n (lv' := [(3, .ref q9), (0, .ref (ad 0 0)), (1, .int p1), (2, .ref (ad 79 0))]) hx hb dL_votes_12 rfl hl (by decide) rfl (fun ls hl => ?_)
      refine lv_iconst (v := 1) hx hb dL_votes_13 (by decide) ?_
      exact (W.iret (v := 1) hx hb hr (fun t ht hW => ⟨⟨1, F9, rfl, q, gH_at ht hH⟩, hS.F ht⟩) hS.2.2 dL_votes_14)
  have hH : gH G ad F2 H := gH_to ht hB1
  refine lv_i2l (v := r1.toInt64) hx hb dL_votes_7 rfl ?_
  obtain ⟨h3, q⟩ := q
  refine g_last hx hb hK hH hS h3 dL_votes_8 (fun H locs hH hS => ?_)
  obtain ⟨F4, eF4⟩ : ∃ z, z = fs F2 79 0 (0 : Int32).toNatClampNeg r1 := ⟨_, rfl⟩
  have q := q F4 eF4
  rw [← eF4] at hH
  refine lv_goto (tgt := 15) hx hb dL_votes_9 (by decide) ?_
  refine lv_iconst (v := 0) hx hb dL_votes_15 (by decide) ?_
  exact (W.iret (v := 0) hx hb hr (fun t ht hW => ⟨⟨0, F4, rfl, q, gH_at ht hH⟩, hS.F ht⟩) hS.2.2 dL_votes_16)
abbrev rm_L_seats : Room := { frames := 8, cells := 1, slots := 6, locals := 159 }
abbrev q_L_seats (G : GP) (ad : Nat → Nat → Nat) (K : Int32 → GF → Prop) (below : List Frame) (args : Array Value) (s : State) : State → Prop := MQ below (gQi G ad K) args s 1 6 (gA G)
set_option maxHeartbeats 4000000 in
set_option maxRecDepth 100000 in
theorem c_L_seats (l : Launch) (hfl : l.stackTraces = false) (G : GP) (ad : Nat → Nat → Nat) (F : GF) (p1 : Int32) (K : Int32 → GF → Prop) : Met l yL_seats wsL_seats rm_L_seats (va_Pc [.ref (ad 0 0), .int p1, .ref (ad 79 0)] (fun U => (gD G ad F U ∧ gL U) ∧ P_L_seats F p1 K)) (gQi G ad K) 1 6 (gA G) := by
  refine g_ofWH (hh := [(0, 9, 12, 13)]) (cc := cL_seats) (maxL := 4) (ret := (some .int)) (by decide) rfl ?_
  intro p e s m args below meth c s₁ Bd hml hv
  obtain ⟨rfl, ⟨⟨hK, hG, hB, hH⟩, hL⟩, q⟩ := hv
  have hx := Bd.exec
  have hb := Bd.bytes
  have hr := Bd.returns
  have hts := atoms_spec (ws := wsL_seats) Bd.pre
  have hown : s.vm.findClass RL = some m.cls := findClass_of_methodNamed Bd.named
  have hlocks := Bd.notSynchronized
  have htab := vx_table (x := yL_seats) Bd (hts _ List.mem_cons_self)
  have hS : va_S (gA G) s.heap s.heap [] := va_S.rf
  have hl := lv_entry [.ref (ad 0 0), .int p1, .ref (ad 79 0)] (n := 4) (Nat.le_of_ble_eq_true rfl)
  rw [lg_entry_eq]
  generalize (lg_sl [.ref (ad 0 0), .int p1, .ref (ad 79 0)] ++ List.replicate (4 - (lg_sl [.ref (ad 0 0), .int p1, .ref (ad 79 0)]).length) Slot.unset).toArray = ls at hl ⊢
  have hl : lv_has ls 4 [(0, .ref (ad 0 0)), (1, .int p1), (2, .ref (ad 79 0))] := hl
  unfold P_L_seats at q
  refine lv_aload_n hx hb dL_seats_0 rfl (lv_at hl 2 rfl) ?_
  refine lv_iconst (v := 0) hx hb dL_seats_1 (by decide) ?_
  refine lv_aload_n hx hb dL_seats_2 rfl (lv_at hl 0 rfl) ?_
  refine lv_iload_n hx hb dL_seats_3 rfl (lv_at hl 1 rfl) ?_
  refine vx_calli (vx_runV (As := [.int p1]) (rest := [.int 0, .ref (ad 79 0)]) ⟨hx, hb, hml, hown, hts⟩ (c_X10_seats l hfl G ad F p1 _ _) (cwV 1 hts gL_seats_X10_seats rfl rfl rfl (by decide +kernel) ⟨Nat.le_of_ble_eq_true rfl, Nat.le_of_ble_eq_true rfl⟩) ⟨fun a U g mk h => ⟨h.1, gD_blind h.2.1, h.2.2⟩, g_recv (C := RX10) (T := TX10) (N := 8) hK hH 0 0 (by decide) Nat.zero_lt_one rfl rfl, fun U hU hW => ⟨rfl, gD_at hK hG hB hH hS hU hW, q⟩⟩ rfl rfl hl.1 rfl (lv_room (Nat.le_of_ble_eq_true rfl)) dL_seats_4 ⟨Nat.le_of_ble_eq_true rfl, Nat.le_of_ble_eq_true rfl⟩) hS (fun _ _ h => h) (fun _ h => h) (fun _ _ h => h) (fun E9 ce q9 F9 t H locs ht hvm _ hq hz hk hS hc9 hv9 hcl9 => ?_) (fun r1 F2 t H locs ht hvm q hB1 hz hk hS => ?_)
  · have hH : gH G ad F9 H := gH_to ht hq.2
    rcases hq.1 with ⟨rfl, q⟩
    · refine vx_catch hown [] ⟨0, 9, 12, 13⟩ [] (htab.trans rfl) (fun _ h => absurd h List.not_mem_nil) rfl (by decide) (hts (.classLink RL 13 "java/lang/IndexOutOfBoundsException") (List.mem_of_getElem? (i := 1) rfl)) (va_Nw.use rfl (gcast hG (List.mem_of_getElem? (i := 0) rfl))) hc9 hv9 hcl9 ?_
      refine lv_astore_n (lv' := [(3, .ref q9), (0, .ref (ad 0 0)), (1, .int p1), (2, .ref (ad 79 0))]) hx hb dL_seats_12 rfl hl (by decide) rfl (fun ls hl => ?_)
      refine lv_iconst (v := 1) hx hb dL_seats_13 (by decide) ?_
      exact (W.iret (v := 1) hx hb hr (fun t ht hW => ⟨⟨1, F9, rfl, q, gH_at ht hH⟩, hS.F ht⟩) hS.2.2 dL_seats_14)
  have hH : gH G ad F2 H := gH_to ht hB1
  refine lv_i2l (v := r1.toInt64) hx hb dL_seats_7 rfl ?_
  obtain ⟨h3, q⟩ := q
  refine g_last hx hb hK hH hS h3 dL_seats_8 (fun H locs hH hS => ?_)
  obtain ⟨F4, eF4⟩ : ∃ z, z = fs F2 79 0 (0 : Int32).toNatClampNeg r1 := ⟨_, rfl⟩
  have q := q F4 eF4
  rw [← eF4] at hH
  refine lv_goto (tgt := 15) hx hb dL_seats_9 (by decide) ?_
  refine lv_iconst (v := 0) hx hb dL_seats_15 (by decide) ?_
  exact (W.iret (v := 0) hx hb hr (fun t ht hW => ⟨⟨0, F4, rfl, q, gH_at ht hH⟩, hS.F ht⟩) hS.2.2 dL_seats_16)
abbrev rm_L_seatAt : Room := { frames := 7, cells := 1, slots := 6, locals := 159 }
abbrev q_L_seatAt (G : GP) (ad : Nat → Nat → Nat) (K : Int32 → GF → Prop) (below : List Frame) (args : Array Value) (s : State) : State → Prop := MQ below (gQi G ad K) args s 1 6 (gA G)
set_option maxHeartbeats 4000000 in
set_option maxRecDepth 100000 in
theorem c_L_seatAt (l : Launch) (hfl : l.stackTraces = false) (G : GP) (ad : Nat → Nat → Nat) (F : GF) (p1 : Int32) (K : Int32 → GF → Prop) : Met l yL_seatAt wsL_seatAt rm_L_seatAt (va_Pc [.ref (ad 0 0), .int p1, .ref (ad 79 0)] (fun U => (gD G ad F U ∧ gL U) ∧ P_L_seatAt F p1 K)) (gQi G ad K) 1 6 (gA G) := by
  refine g_ofWH (hh := [(0, 9, 12, 13)]) (cc := cL_seatAt) (maxL := 4) (ret := (some .int)) (by decide) rfl ?_
  intro p e s m args below meth c s₁ Bd hml hv
  obtain ⟨rfl, ⟨⟨hK, hG, hB, hH⟩, hL⟩, q⟩ := hv
  have hx := Bd.exec
  have hb := Bd.bytes
  have hr := Bd.returns
  have hts := atoms_spec (ws := wsL_seatAt) Bd.pre
  have hown : s.vm.findClass RL = some m.cls := findClass_of_methodNamed Bd.named
  have hlocks := Bd.notSynchronized
  have htab := vx_table (x := yL_seatAt) Bd (hts _ List.mem_cons_self)
  have hS : va_S (gA G) s.heap s.heap [] := va_S.rf
  have hl := lv_entry [.ref (ad 0 0), .int p1, .ref (ad 79 0)] (n := 4) (Nat.le_of_ble_eq_true rfl)
  rw [lg_entry_eq]
  generalize (lg_sl [.ref (ad 0 0), .int p1, .ref (ad 79 0)] ++ List.replicate (4 - (lg_sl [.ref (ad 0 0), .int p1, .ref (ad 79 0)]).length) Slot.unset).toArray = ls at hl ⊢
  have hl : lv_has ls 4 [(0, .ref (ad 0 0)), (1, .int p1), (2, .ref (ad 79 0))] := hl
  unfold P_L_seatAt at q
  refine lv_aload_n hx hb dL_seatAt_0 rfl (lv_at hl 2 rfl) ?_
  refine lv_iconst (v := 0) hx hb dL_seatAt_1 (by decide) ?_
  refine lv_aload_n hx hb dL_seatAt_2 rfl (lv_at hl 0 rfl) ?_
  refine lv_iload_n hx hb dL_seatAt_3 rfl (lv_at hl 1 rfl) ?_
  refine vx_calli (vx_runV (As := [.int p1]) (rest := [.int 0, .ref (ad 79 0)]) ⟨hx, hb, hml, hown, hts⟩ (c_X10_seatAt l hfl G ad F p1 _ _) (cwV 1 hts gL_seatAt_X10_seatAt rfl rfl rfl (by decide +kernel) ⟨Nat.le_of_ble_eq_true rfl, Nat.le_of_ble_eq_true rfl⟩) ⟨fun a U g mk h => ⟨h.1, gD_blind h.2.1, h.2.2⟩, g_recv (C := RX10) (T := TX10) (N := 8) hK hH 0 0 (by decide) Nat.zero_lt_one rfl rfl, fun U hU hW => ⟨rfl, gD_at hK hG hB hH hS hU hW, q⟩⟩ rfl rfl hl.1 rfl (lv_room (Nat.le_of_ble_eq_true rfl)) dL_seatAt_4 ⟨Nat.le_of_ble_eq_true rfl, Nat.le_of_ble_eq_true rfl⟩) hS (fun _ _ h => h) (fun _ h => h) (fun _ _ h => h) (fun E9 ce q9 F9 t H locs ht hvm _ hq hz hk hS hc9 hv9 hcl9 => ?_) (fun r1 F2 t H locs ht hvm q hB1 hz hk hS => ?_)
  · have hH : gH G ad F9 H := gH_to ht hq.2
    rcases hq.1 with ⟨rfl, q⟩
    · refine vx_catch hown [] ⟨0, 9, 12, 13⟩ [] (htab.trans rfl) (fun _ h => absurd h List.not_mem_nil) rfl (by decide) (hts (.classLink RL 13 "java/lang/IndexOutOfBoundsException") (List.mem_of_getElem? (i := 1) rfl)) (va_Nw.use rfl (gcast hG (List.mem_of_getElem? (i := 0) rfl))) hc9 hv9 hcl9 ?_
      refine lv_astore_n (lv' := [(3, .ref q9), (0, .ref (ad 0 0)), (1, .int p1), (2, .ref (ad 79 0))]) hx hb dL_seatAt_12 rfl hl (by decide) rfl (fun ls hl => ?_)
      refine lv_iconst (v := 1) hx hb dL_seatAt_13 (by decide) ?_
      exact (W.iret (v := 1) hx hb hr (fun t ht hW => ⟨⟨1, F9, rfl, q, gH_at ht hH⟩, hS.F ht⟩) hS.2.2 dL_seatAt_14)
  have hH : gH G ad F2 H := gH_to ht hB1
  refine lv_i2l (v := r1.toInt64) hx hb dL_seatAt_7 rfl ?_
  obtain ⟨h3, q⟩ := q
  refine g_last hx hb hK hH hS h3 dL_seatAt_8 (fun H locs hH hS => ?_)
  obtain ⟨F4, eF4⟩ : ∃ z, z = fs F2 79 0 (0 : Int32).toNatClampNeg r1 := ⟨_, rfl⟩
  have q := q F4 eF4
  rw [← eF4] at hH
  refine lv_goto (tgt := 15) hx hb dL_seatAt_9 (by decide) ?_
  refine lv_iconst (v := 0) hx hb dL_seatAt_15 (by decide) ?_
  exact (W.iret (v := 0) hx hb hr (fun t ht hW => ⟨⟨0, F4, rfl, q, gH_at ht hH⟩, hS.F ht⟩) hS.2.2 dL_seatAt_16)
abbrev rm_L_seatsByBallots : Room := { frames := 8, cells := 1, slots := 6, locals := 159 }
abbrev q_L_seatsByBallots (G : GP) (ad : Nat → Nat → Nat) (K : Int32 → GF → Prop) (below : List Frame) (args : Array Value) (s : State) : State → Prop := MQ below (gQi G ad K) args s 1 6 (gA G)
set_option maxHeartbeats 4000000 in
set_option maxRecDepth 100000 in
theorem c_L_seatsByBallots (l : Launch) (hfl : l.stackTraces = false) (G : GP) (ad : Nat → Nat → Nat) (F : GF) (p1 : Int32) (K : Int32 → GF → Prop) : Met l yL_seatsByBallots wsL_seatsByBallots rm_L_seatsByBallots (va_Pc [.ref (ad 0 0), .int p1, .ref (ad 79 0)] (fun U => (gD G ad F U ∧ gL U) ∧ P_L_seatsByBallots F p1 K)) (gQi G ad K) 1 6 (gA G) := by
  refine g_ofWH (hh := [(0, 9, 12, 13)]) (cc := cL_seatsByBallots) (maxL := 4) (ret := (some .int)) (by decide) rfl ?_
  intro p e s m args below meth c s₁ Bd hml hv
  obtain ⟨rfl, ⟨⟨hK, hG, hB, hH⟩, hL⟩, q⟩ := hv
  have hx := Bd.exec
  have hb := Bd.bytes
  have hr := Bd.returns
  have hts := atoms_spec (ws := wsL_seatsByBallots) Bd.pre
  have hown : s.vm.findClass RL = some m.cls := findClass_of_methodNamed Bd.named
  have hlocks := Bd.notSynchronized
  have htab := vx_table (x := yL_seatsByBallots) Bd (hts _ List.mem_cons_self)
  have hS : va_S (gA G) s.heap s.heap [] := va_S.rf
  have hl := lv_entry [.ref (ad 0 0), .int p1, .ref (ad 79 0)] (n := 4) (Nat.le_of_ble_eq_true rfl)
  rw [lg_entry_eq]
  generalize (lg_sl [.ref (ad 0 0), .int p1, .ref (ad 79 0)] ++ List.replicate (4 - (lg_sl [.ref (ad 0 0), .int p1, .ref (ad 79 0)]).length) Slot.unset).toArray = ls at hl ⊢
  have hl : lv_has ls 4 [(0, .ref (ad 0 0)), (1, .int p1), (2, .ref (ad 79 0))] := hl
  unfold P_L_seatsByBallots at q
  refine lv_aload_n hx hb dL_seatsByBallots_0 rfl (lv_at hl 2 rfl) ?_
  refine lv_iconst (v := 0) hx hb dL_seatsByBallots_1 (by decide) ?_
  refine lv_aload_n hx hb dL_seatsByBallots_2 rfl (lv_at hl 0 rfl) ?_
  refine lv_iload_n hx hb dL_seatsByBallots_3 rfl (lv_at hl 1 rfl) ?_
  refine vx_calli (vx_runV (As := [.int p1]) (rest := [.int 0, .ref (ad 79 0)]) ⟨hx, hb, hml, hown, hts⟩ (c_X10_seatsByBallots l hfl G ad F p1 _ _) (cwV 1 hts gL_seatsByBallots_X10_seatsByBallots rfl rfl rfl (by decide +kernel) ⟨Nat.le_of_ble_eq_true rfl, Nat.le_of_ble_eq_true rfl⟩) ⟨fun a U g mk h => ⟨h.1, gD_blind h.2.1, h.2.2⟩, g_recv (C := RX10) (T := TX10) (N := 8) hK hH 0 0 (by decide) Nat.zero_lt_one rfl rfl, fun U hU hW => ⟨rfl, gD_at hK hG hB hH hS hU hW, q⟩⟩ rfl rfl hl.1 rfl (lv_room (Nat.le_of_ble_eq_true rfl)) dL_seatsByBallots_4 ⟨Nat.le_of_ble_eq_true rfl, Nat.le_of_ble_eq_true rfl⟩) hS (fun _ _ h => h) (fun _ h => h) (fun _ _ h => h) (fun E9 ce q9 F9 t H locs ht hvm _ hq hz hk hS hc9 hv9 hcl9 => ?_) (fun r1 F2 t H locs ht hvm q hB1 hz hk hS => ?_)
  · have hH : gH G ad F9 H := gH_to ht hq.2
    rcases hq.1 with ⟨rfl, q⟩
    · refine vx_catch hown [] ⟨0, 9, 12, 13⟩ [] (htab.trans rfl) (fun _ h => absurd h List.not_mem_nil) rfl (by decide) (hts (.classLink RL 13 "java/lang/IndexOutOfBoundsException") (List.mem_of_getElem? (i := 1) rfl)) (va_Nw.use rfl (gcast hG (List.mem_of_getElem? (i := 0) rfl))) hc9 hv9 hcl9 ?_
      refine lv_astore_n (lv' := [(3, .ref q9), (0, .ref (ad 0 0)), (1, .int p1), (2, .ref (ad 79 0))]) hx hb dL_seatsByBallots_12 rfl hl (by decide) rfl (fun ls hl => ?_)
      refine lv_iconst (v := 1) hx hb dL_seatsByBallots_13 (by decide) ?_
      exact (W.iret (v := 1) hx hb hr (fun t ht hW => ⟨⟨1, F9, rfl, q, gH_at ht hH⟩, hS.F ht⟩) hS.2.2 dL_seatsByBallots_14)
  have hH : gH G ad F2 H := gH_to ht hB1
  refine lv_i2l (v := r1.toInt64) hx hb dL_seatsByBallots_7 rfl ?_
  obtain ⟨h3, q⟩ := q
  refine g_last hx hb hK hH hS h3 dL_seatsByBallots_8 (fun H locs hH hS => ?_)
  obtain ⟨F4, eF4⟩ : ∃ z, z = fs F2 79 0 (0 : Int32).toNatClampNeg r1 := ⟨_, rfl⟩
  have q := q F4 eF4
  rw [← eF4] at hH
  refine lv_goto (tgt := 15) hx hb dL_seatsByBallots_9 (by decide) ?_
  refine lv_iconst (v := 0) hx hb dL_seatsByBallots_15 (by decide) ?_
  exact (W.iret (v := 0) hx hb hr (fun t ht hW => ⟨⟨0, F4, rfl, q, gH_at ht hH⟩, hS.F ht⟩) hS.2.2 dL_seatsByBallots_16)
abbrev rm_L_signAt : Room := { frames := 7, cells := 1, slots := 6, locals := 132 }
abbrev q_L_signAt (G : GP) (ad : Nat → Nat → Nat) (K : Int32 → GF → Prop) (below : List Frame) (args : Array Value) (s : State) : State → Prop := MQ below (gQi G ad K) args s 1 6 (gA G)
set_option maxHeartbeats 4000000 in
set_option maxRecDepth 100000 in
theorem c_L_signAt (l : Launch) (hfl : l.stackTraces = false) (G : GP) (ad : Nat → Nat → Nat) (F : GF) (p1 : Int32) (p2 : Int32) (K : Int32 → GF → Prop) : Met l yL_signAt wsL_signAt rm_L_signAt (va_Pc [.ref (ad 0 0), .int p1, .int p2, .ref (ad 79 0)] (fun U => (gD G ad F U ∧ gL U) ∧ P_L_signAt F p1 p2 K)) (gQi G ad K) 1 6 (gA G) := by
  refine g_ofWH (hh := [(0, 10, 13, 13)]) (cc := cL_signAt) (maxL := 5) (ret := (some .int)) (by decide) rfl ?_
  intro p e s m args below meth c s₁ Bd hml hv
  obtain ⟨rfl, ⟨⟨hK, hG, hB, hH⟩, hL⟩, q⟩ := hv
  have hx := Bd.exec
  have hb := Bd.bytes
  have hr := Bd.returns
  have hts := atoms_spec (ws := wsL_signAt) Bd.pre
  have hown : s.vm.findClass RL = some m.cls := findClass_of_methodNamed Bd.named
  have hlocks := Bd.notSynchronized
  have htab := vx_table (x := yL_signAt) Bd (hts _ List.mem_cons_self)
  have hS : va_S (gA G) s.heap s.heap [] := va_S.rf
  have hl := lv_entry [.ref (ad 0 0), .int p1, .int p2, .ref (ad 79 0)] (n := 5) (Nat.le_of_ble_eq_true rfl)
  rw [lg_entry_eq]
  generalize (lg_sl [.ref (ad 0 0), .int p1, .int p2, .ref (ad 79 0)] ++ List.replicate (5 - (lg_sl [.ref (ad 0 0), .int p1, .int p2, .ref (ad 79 0)]).length) Slot.unset).toArray = ls at hl ⊢
  have hl : lv_has ls 5 [(0, .ref (ad 0 0)), (1, .int p1), (2, .int p2), (3, .ref (ad 79 0))] := hl
  unfold P_L_signAt at q
  refine lv_aload_n hx hb dL_signAt_0 rfl (lv_at hl 3 rfl) ?_
  refine lv_iconst (v := 0) hx hb dL_signAt_1 (by decide) ?_
  refine lv_aload_n hx hb dL_signAt_2 rfl (lv_at hl 0 rfl) ?_
  refine lv_iload_n hx hb dL_signAt_3 rfl (lv_at hl 1 rfl) ?_
  refine lv_iload_n hx hb dL_signAt_4 rfl (lv_at hl 2 rfl) ?_
  refine vx_calli (vx_runV (As := [.int p1, .int p2]) (rest := [.int 0, .ref (ad 79 0)]) ⟨hx, hb, hml, hown, hts⟩ (c_X10_signAt l hfl G ad F p1 p2 _ _) (cwV 2 hts gL_signAt_X10_signAt rfl rfl rfl (by decide +kernel) ⟨Nat.le_of_ble_eq_true rfl, Nat.le_of_ble_eq_true rfl⟩) ⟨fun a U g mk h => ⟨h.1, gD_blind h.2.1, h.2.2⟩, g_recv (C := RX10) (T := TX10) (N := 8) hK hH 0 0 (by decide) Nat.zero_lt_one rfl rfl, fun U hU hW => ⟨rfl, gD_at hK hG hB hH hS hU hW, q⟩⟩ rfl rfl hl.1 rfl (lv_room (Nat.le_of_ble_eq_true rfl)) dL_signAt_5 ⟨Nat.le_of_ble_eq_true rfl, Nat.le_of_ble_eq_true rfl⟩) hS (fun _ _ h => h) (fun _ h => h) (fun _ _ h => h) (fun E9 ce q9 F9 t H locs ht hvm _ hq hz hk hS hc9 hv9 hcl9 => ?_) (fun r1 F2 t H locs ht hvm q hB1 hz hk hS => ?_)
  · have hH : gH G ad F9 H := gH_to ht hq.2
    rcases hq.1 with ⟨rfl, q⟩
    · refine vx_catch hown [] ⟨0, 10, 13, 13⟩ [] (htab.trans rfl) (fun _ h => absurd h List.not_mem_nil) rfl (by decide) (hts (.classLink RL 13 "java/lang/IndexOutOfBoundsException") (List.mem_of_getElem? (i := 1) rfl)) (va_Nw.use rfl (gcast hG (List.mem_of_getElem? (i := 0) rfl))) hc9 hv9 hcl9 ?_
      refine lv_astore (lv' := [(4, .ref q9), (0, .ref (ad 0 0)), (1, .int p1), (2, .int p2), (3, .ref (ad 79 0))]) hx hb dL_signAt_13 hl (by decide) rfl (fun ls hl => ?_)
      refine lv_iconst (v := 1) hx hb dL_signAt_15 (by decide) ?_
      exact (W.iret (v := 1) hx hb hr (fun t ht hW => ⟨⟨1, F9, rfl, q, gH_at ht hH⟩, hS.F ht⟩) hS.2.2 dL_signAt_16)
  have hH : gH G ad F2 H := gH_to ht hB1
  refine lv_i2l (v := r1.toInt64) hx hb dL_signAt_8 rfl ?_
  obtain ⟨h3, q⟩ := q
  refine g_last hx hb hK hH hS h3 dL_signAt_9 (fun H locs hH hS => ?_)
  obtain ⟨F4, eF4⟩ : ∃ z, z = fs F2 79 0 (0 : Int32).toNatClampNeg r1 := ⟨_, rfl⟩
  have q := q F4 eF4
  rw [← eF4] at hH
  refine lv_goto (tgt := 17) hx hb dL_signAt_10 (by decide) ?_
  refine lv_iconst (v := 0) hx hb dL_signAt_17 (by decide) ?_
  exact (W.iret (v := 0) hx hb hr (fun t ht hW => ⟨⟨0, F4, rfl, q, gH_at ht hH⟩, hS.F ht⟩) hS.2.2 dL_signAt_18)
