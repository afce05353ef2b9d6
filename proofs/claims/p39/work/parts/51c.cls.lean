abbrev rm_X10_needOnRoll : Room := { frames := 6, cells := 1, slots := 6, locals := 90 }
abbrev q_X10_needOnRoll (G : GP) (ad : Nat → Nat → Nat) (K : GF → Prop) (X : String → GF → Prop) (below : List Frame) (args : Array Value) (s : State) : State → Prop := vx_MQ below (gQv G ad K) (gX G ad X) args s 1 6 (gA G)
set_option maxHeartbeats 4000000 in
set_option maxRecDepth 100000 in
theorem c_X10_needOnRoll (l : Launch) (hfl : l.stackTraces = false) (G : GP) (ad : Nat → Nat → Nat) (F : GF) (p1 : Int32) (K : GF → Prop) (X : String → GF → Prop) : vx_Met l yX10_needOnRoll wsX10_needOnRoll rm_X10_needOnRoll (va_Pc [.ref (ad 0 0), .int p1] (fun U => gD G ad F U ∧ P_X10_needOnRoll F p1 K X)) (gQv G ad K) (gX G ad X) 1 6 (gA G) := by
  refine vx_ofW (cc := cX10_needOnRoll) (maxL := 2) (ret := none) (by decide) rfl ?_
  intro p e s m args below meth c s₁ Bd hml hno hv
  obtain ⟨rfl, ⟨hK, hG, hB, hH⟩, q⟩ := hv
  have hx := Bd.exec
  have hb := Bd.bytes
  have hr := Bd.returns
  have hts := atoms_spec (ws := wsX10_needOnRoll) Bd.pre
  have hown : s.vm.findClass RX10 = some m.cls := findClass_of_methodNamed Bd.named
  have hlocks := Bd.notSynchronized
  have hS : va_S (gA G) s.heap s.heap [] := va_S.rf
  have hl := lv_entry [.ref (ad 0 0), .int p1] (n := 2) (Nat.le_of_ble_eq_true rfl)
  rw [lg_entry_eq]
  generalize (lg_sl [.ref (ad 0 0), .int p1] ++ List.replicate (2 - (lg_sl [.ref (ad 0 0), .int p1]).length) Slot.unset).toArray = ls at hl ⊢
  have hl : lv_has ls 2 [(0, .ref (ad 0 0)), (1, .int p1)] := hl
  unfold P_X10_needOnRoll at q
  refine lv_aload_n hx hb dX10_needOnRoll_0 rfl (lv_at hl 0 rfl) ?_
  refine g_get (ci := 14) (v := .ref (ad 10 0)) (C := RX10) (T := TX10) (N := 8) hx hb hts (fun _ h => (List.mem_cons_of_mem _ (List.mem_append_left _ (List.mem_append_left _ (List.mem_append_left _ (List.mem_append_left _ (List.mem_append_right _ h))))))) hown hK hH 0 0 (by decide) Nat.zero_lt_one rfl rfl 6 (by decide) (hts (.fieldLink RX10 43 "BallotFoundry" "election" "LBallotFoundry$Election;") (List.mem_of_getElem? (i := 3) rfl)) (fun _ h => h) rfl dX10_needOnRoll_1 ?_
  refine g_getN (ci := 6) (v := .ref (ad 12 0)) (C := RX2) (T := TX2) (N := 10) hx hb hts (fun _ h => (List.mem_cons_of_mem _ (List.mem_append_left _ (List.mem_append_left _ (List.mem_append_left _ (List.mem_append_right _ h)))))) hown hK hH 10 0 (by decide) Nat.zero_lt_one rfl rfl 6 (by decide) (va_Nw.use rfl (hG.1 ("BallotFoundry", 167, "BallotFoundry$Election", "roll", "LBallotFoundry$Roll;", "BallotFoundry") (List.mem_of_getElem? (i := 22) rfl))) (fun _ h => h) rfl dX10_needOnRoll_4 ?_
  refine lv_iload_n hx hb dX10_needOnRoll_7 rfl (lv_at hl 1 rfl) ?_
  refine va_calli (va_runV (As := [.int p1]) (rest := []) ⟨hx, hb, hml, hown, hts⟩ (c_X5_stationFor l G ad F p1 _) (cwV 1 hts gX10_needOnRoll_X5_stationFor rfl rfl rfl (by decide +kernel) ⟨Nat.le_of_ble_eq_true rfl, Nat.le_of_ble_eq_true rfl⟩) ⟨fun a U g mk h => ⟨h.1, gD_blind h.2.1, h.2.2⟩, g_recv (C := RX5) (T := TX5) (N := 3) hK hH 12 0 (by decide) Nat.zero_lt_one rfl rfl, fun U hU hW => ⟨rfl, gD_at hK hG hB hH hS hU hW, q⟩⟩ rfl rfl hl.1 rfl (lv_room (Nat.le_of_ble_eq_true rfl)) dX10_needOnRoll_8 ⟨Nat.le_of_ble_eq_true rfl, Nat.le_of_ble_eq_true rfl⟩) hS (fun _ _ h => h) (fun _ h => h) (fun r1 F2 t H locs ht hvm q hB1 hz hk hS => ?_)
  have hH : gH G ad F2 H := gH_to ht hB1
  refine lv_iconst (v := (-1)) hx hb dX10_needOnRoll_11 (by decide) ?_
  refine lv_icmp_ne (tgt := 26) hx hb dX10_needOnRoll_12 (by decide) (fun c3 => ?_) (fun c3 => ?_)
  · have q := (if_neg c3).mp q
    refine W.widen (k := 1) (n := 6) (Nat.le_of_ble_eq_true rfl) (Nat.le_of_ble_eq_true rfl) ?_
    exact vx_ret (W.vret hx hb hr (fun t ht hW => ⟨⟨F2, rfl, q, gH_at ht hH⟩, hS.F ht⟩) hS.2.2 dX10_needOnRoll_26)
  · have q := (if_pos c3).mp q
    exact g_throwW (text := "the person is not on the roll") hx hb hfl hno hown hts hG hS (List.mem_of_getElem? (i := 2) rfl) (List.mem_of_getElem? (i := 15) rfl) (List.mem_of_getElem? (i := 1) rfl) (List.mem_of_getElem? (i := 2) rfl) (fun _ h => (List.mem_cons_of_mem _ (List.mem_append_left _ (List.mem_append_right _ h)))) (hl.1.trans hml.symm) hlocks dX10_needOnRoll_15 dX10_needOnRoll_18 dX10_needOnRoll_19 dX10_needOnRoll_22 dX10_needOnRoll_25 (Nat.le_of_ble_eq_true rfl) (Nat.le_of_ble_eq_true rfl) (Nat.le_of_ble_eq_true rfl) (Nat.le_of_ble_eq_true rfl) (fun t hvm hz hk => ⟨F2, trivial, ⟨q, gH_grow hH hz hk⟩, gF_grow hS hz hk⟩) hS.2.2 (Nat.le_of_ble_eq_true rfl) (Nat.le_of_ble_eq_true rfl)
abbrev rm_X3_add : Room := { frames := 0, cells := 0, slots := 0, locals := 0 }
abbrev q_X3_add (G : GP) (ad : Nat → Nat → Nat) (K : Int32 → GF → Prop) (below : List Frame) (args : Array Value) (s : State) : State → Prop := MQ below (gQi G ad K) args s 0 0 (gA G)
set_option maxHeartbeats 4000000 in
set_option maxRecDepth 100000 in
theorem c_X3_add (l : Launch) (G : GP) (ad : Nat → Nat → Nat) (F : GF) (p1 : Int32) (p2 : Int32) (K : Int32 → GF → Prop) : Met l yX3_add wsX3_add rm_X3_add (va_Pc [.ref (ad 16 0), .int p1, .int p2] (fun U => gD G ad F U ∧ P_X3_add F p1 p2 K)) (gQi G ad K) 0 0 (gA G) := by
  refine Met.ofW (cc := cX3_add) (maxL := 3) (ret := (some .int)) (by decide) rfl ?_
  intro p e s m args below meth c s₁ Bd hml hv
  obtain ⟨rfl, ⟨hK, hG, hB, hH⟩, q⟩ := hv
  have hx := Bd.exec
  have hb := Bd.bytes
  have hr := Bd.returns
  have hts := atoms_spec (ws := wsX3_add) Bd.pre
  have hown : s.vm.findClass RX3 = some m.cls := findClass_of_methodNamed Bd.named
  have hlocks := Bd.notSynchronized
  have hS : va_S (gA G) s.heap s.heap [] := va_S.rf
  have hl := lv_entry [.ref (ad 16 0), .int p1, .int p2] (n := 3) (Nat.le_of_ble_eq_true rfl)
  rw [lg_entry_eq]
  generalize (lg_sl [.ref (ad 16 0), .int p1, .int p2] ++ List.replicate (3 - (lg_sl [.ref (ad 16 0), .int p1, .int p2]).length) Slot.unset).toArray = ls at hl ⊢
  have hl : lv_has ls 3 [(0, .ref (ad 16 0)), (1, .int p1), (2, .int p2)] := hl
  unfold P_X3_add at q
  refine lv_aload_n hx hb dX3_add_0 rfl (lv_at hl 0 rfl) ?_
  refine g_get (ci := 7) (v := .int (F 16 0 3)) (C := RX3) (T := TX3) (N := 4) hx hb hts (fun _ h => (List.mem_cons_of_mem _ (List.mem_append_left _ (List.mem_append_right _ h)))) hown hK hH 16 0 (by decide) Nat.zero_lt_one rfl rfl 3 (by decide) (hts (.fieldLink RX3 21 "BallotFoundry$Envelopes" "size" "I") (List.mem_of_getElem? (i := 1) rfl)) (fun _ h => h) rfl dX3_add_1 ?_
  refine lv_bipush (v := 60) hx hb dX3_add_4 (by decide) ?_
  refine lv_icmp_lt (tgt := 11) hx hb dX3_add_6 (by decide) (fun c1 => ?_) (fun c1 => ?_)
  · have q := (if_pos c1).mp q
    refine lv_aload_n hx hb dX3_add_11 rfl (lv_at hl 0 rfl) ?_
    refine g_get (ci := 7) (v := .ref (ad 17 0)) (C := RX3) (T := TX3) (N := 4) hx hb hts (fun _ h => (List.mem_cons_of_mem _ (List.mem_append_left _ (List.mem_append_right _ h)))) hown hK hH 16 0 (by decide) Nat.zero_lt_one rfl rfl 0 (by decide) (hts (.fieldLink RX3 9 "BallotFoundry$Envelopes" "people" "[I") (List.mem_of_getElem? (i := 2) rfl)) (fun _ h => h) rfl dX3_add_12 ?_
    refine lv_aload_n hx hb dX3_add_15 rfl (lv_at hl 0 rfl) ?_
    refine g_get (ci := 7) (v := .int (F 16 0 3)) (C := RX3) (T := TX3) (N := 4) hx hb hts (fun _ h => (List.mem_cons_of_mem _ (List.mem_append_left _ (List.mem_append_right _ h)))) hown hK hH 16 0 (by decide) Nat.zero_lt_one rfl rfl 3 (by decide) (hts (.fieldLink RX3 21 "BallotFoundry$Envelopes" "size" "I") (List.mem_of_getElem? (i := 1) rfl)) (fun _ h => h) rfl dX3_add_16 ?_
    refine lv_iload_n hx hb dX3_add_19 rfl (lv_at hl 1 rfl) ?_
    obtain ⟨h2, q⟩ := q
    refine g_iast hx hb hK hH hS 17 0 (by decide) Nat.zero_lt_one (by decide) 60 (fun _ => rfl) h2 dX3_add_20 (fun H locs hH hS => ?_)
    obtain ⟨F3, eF3⟩ : ∃ z, z = fs F 17 0 (F 16 0 3).toNatClampNeg p1 := ⟨_, rfl⟩
    have q := q F3 eF3
    rw [← eF3] at hH
    refine lv_aload_n hx hb dX3_add_21 rfl (lv_at hl 0 rfl) ?_
    refine g_get (ci := 7) (v := .ref (ad 18 0)) (C := RX3) (T := TX3) (N := 4) hx hb hts (fun _ h => (List.mem_cons_of_mem _ (List.mem_append_left _ (List.mem_append_right _ h)))) hown hK hH 16 0 (by decide) Nat.zero_lt_one rfl rfl 1 (by decide) (hts (.fieldLink RX3 15 "BallotFoundry$Envelopes" "ballots" "[I") (List.mem_of_getElem? (i := 3) rfl)) (fun _ h => h) rfl dX3_add_22 ?_
    refine lv_aload_n hx hb dX3_add_25 rfl (lv_at hl 0 rfl) ?_
    refine g_get (ci := 7) (v := .int (F3 16 0 3)) (C := RX3) (T := TX3) (N := 4) hx hb hts (fun _ h => (List.mem_cons_of_mem _ (List.mem_append_left _ (List.mem_append_right _ h)))) hown hK hH 16 0 (by decide) Nat.zero_lt_one rfl rfl 3 (by decide) (hts (.fieldLink RX3 21 "BallotFoundry$Envelopes" "size" "I") (List.mem_of_getElem? (i := 1) rfl)) (fun _ h => h) rfl dX3_add_26 ?_
    refine lv_iload_n hx hb dX3_add_29 rfl (lv_at hl 2 rfl) ?_
    obtain ⟨h4, q⟩ := q
    refine g_iast hx hb hK hH hS 18 0 (by decide) Nat.zero_lt_one (by decide) 60 (fun _ => rfl) h4 dX3_add_30 (fun H locs hH hS => ?_)
    obtain ⟨F5, eF5⟩ : ∃ z, z = fs F3 18 0 (F3 16 0 3).toNatClampNeg p2 := ⟨_, rfl⟩
    have q := q F5 eF5
    rw [← eF5] at hH
    refine lv_aload_n hx hb dX3_add_31 rfl (lv_at hl 0 rfl) ?_
    refine g_get (ci := 7) (v := .ref (ad 19 0)) (C := RX3) (T := TX3) (N := 4) hx hb hts (fun _ h => (List.mem_cons_of_mem _ (List.mem_append_left _ (List.mem_append_right _ h)))) hown hK hH 16 0 (by decide) Nat.zero_lt_one rfl rfl 2 (by decide) (hts (.fieldLink RX3 18 "BallotFoundry$Envelopes" "states" "[I") (List.mem_of_getElem? (i := 4) rfl)) (fun _ h => h) rfl dX3_add_32 ?_
    refine lv_aload_n hx hb dX3_add_35 rfl (lv_at hl 0 rfl) ?_
    refine g_get (ci := 7) (v := .int (F5 16 0 3)) (C := RX3) (T := TX3) (N := 4) hx hb hts (fun _ h => (List.mem_cons_of_mem _ (List.mem_append_left _ (List.mem_append_right _ h)))) hown hK hH 16 0 (by decide) Nat.zero_lt_one rfl rfl 3 (by decide) (hts (.fieldLink RX3 21 "BallotFoundry$Envelopes" "size" "I") (List.mem_of_getElem? (i := 1) rfl)) (fun _ h => h) rfl dX3_add_36 ?_
    refine lv_iconst (v := 0) hx hb dX3_add_39 (by decide) ?_
    obtain ⟨h6, q⟩ := q
    refine g_iast hx hb hK hH hS 19 0 (by decide) Nat.zero_lt_one (by decide) 60 (fun _ => rfl) h6 dX3_add_40 (fun H locs hH hS => ?_)
    obtain ⟨F7, eF7⟩ : ∃ z, z = fs F5 19 0 (F5 16 0 3).toNatClampNeg 0 := ⟨_, rfl⟩
    have q := q F7 eF7
    rw [← eF7] at hH
    refine lv_aload_n hx hb dX3_add_41 rfl (lv_at hl 0 rfl) ?_
    refine lv_dup hx hb dX3_add_42 rfl ?_
    refine g_get (ci := 7) (v := .int (F7 16 0 3)) (C := RX3) (T := TX3) (N := 4) hx hb hts (fun _ h => (List.mem_cons_of_mem _ (List.mem_append_left _ (List.mem_append_right _ h)))) hown hK hH 16 0 (by decide) Nat.zero_lt_one rfl rfl 3 (by decide) (hts (.fieldLink RX3 21 "BallotFoundry$Envelopes" "size" "I") (List.mem_of_getElem? (i := 1) rfl)) (fun _ h => h) rfl dX3_add_43 ?_
    refine lv_iconst (v := 1) hx hb dX3_add_46 (by decide) ?_
    refine lv_iadd hx hb dX3_add_47 ?_
    refine g_put (ci := 7) (v := .int ((F7 16 0 3) + 1)) (C := RX3) (T := TX3) (N := 4) hx hb hts (fun _ h => (List.mem_cons_of_mem _ (List.mem_append_left _ (List.mem_append_right _ h)))) tyX3 tyX3_ok nmX3 hown hK hH hS 16 0 (by decide) Nat.zero_lt_one (by decide) rfl rfl 3 (by decide) (hts (.fieldLink RX3 21 "BallotFoundry$Envelopes" "size" "I") (List.mem_of_getElem? (i := 1) rfl)) (fun _ h => h) rfl (ty := .int) (by decide +kernel) rfl rfl (Nat.le_of_ble_eq_true rfl) ((F7 16 0 3) + 1) rfl dX3_add_48 (fun H locs hH hS => ?_)
    obtain ⟨F8, eF8⟩ : ∃ z, z = fs F7 16 0 3 ((F7 16 0 3) + 1) := ⟨_, rfl⟩
    have q := q F8 eF8
    rw [← eF8] at hH
    refine lv_aload_n hx hb dX3_add_51 rfl (lv_at hl 0 rfl) ?_
    refine g_get (ci := 7) (v := .int (F8 16 0 3)) (C := RX3) (T := TX3) (N := 4) hx hb hts (fun _ h => (List.mem_cons_of_mem _ (List.mem_append_left _ (List.mem_append_right _ h)))) hown hK hH 16 0 (by decide) Nat.zero_lt_one rfl rfl 3 (by decide) (hts (.fieldLink RX3 21 "BallotFoundry$Envelopes" "size" "I") (List.mem_of_getElem? (i := 1) rfl)) (fun _ h => h) rfl dX3_add_52 ?_
    refine lv_iconst (v := 1) hx hb dX3_add_55 (by decide) ?_
    refine lv_isub hx hb dX3_add_56 ?_
    exact (W.iret (v := ((F8 16 0 3) - 1)) hx hb hr (fun t ht hW => ⟨⟨((F8 16 0 3) - 1), F8, rfl, q, gH_at ht hH⟩, hS.F ht⟩) hS.2.2 dX3_add_57)
  · have q := (if_neg c1).mp q
    refine lv_iconst (v := (-1)) hx hb dX3_add_9 (by decide) ?_
    exact (W.iret (v := (-1)) hx hb hr (fun t ht hW => ⟨⟨(-1), F, rfl, q, gH_at ht hH⟩, hS.F ht⟩) hS.2.2 dX3_add_10)
abbrev rm_X10_early : Room := { frames := 8, cells := 6, slots := 36, locals := 132 }
abbrev q_X10_early (G : GP) (ad : Nat → Nat → Nat) (K : Int32 → GF → Prop) (X : String → GF → Prop) (below : List Frame) (args : Array Value) (s : State) : State → Prop := vx_MQ below (gQi G ad K) (gX G ad X) args s 6 36 (gA G)
set_option maxHeartbeats 4000000 in
set_option maxRecDepth 100000 in
theorem c_X10_early (l : Launch) (hfl : l.stackTraces = false) (G : GP) (ad : Nat → Nat → Nat) (F : GF) (p1 : Int32) (p2 : Int32) (K : Int32 → GF → Prop) (X : String → GF → Prop) : vx_Met l yX10_early wsX10_early rm_X10_early (va_Pc [.ref (ad 0 0), .int p1, .int p2] (fun U => gD G ad F U ∧ P_X10_early F p1 p2 K X)) (gQi G ad K) (gX G ad X) 6 36 (gA G) := by
  refine vx_ofW (cc := cX10_early) (maxL := 4) (ret := (some .int)) (by decide) rfl ?_
  intro p e s m args below meth c s₁ Bd hml hno hv
  obtain ⟨rfl, ⟨hK, hG, hB, hH⟩, q⟩ := hv
  have hx := Bd.exec
  have hb := Bd.bytes
  have hr := Bd.returns
  have hts := atoms_spec (ws := wsX10_early) Bd.pre
  have hown : s.vm.findClass RX10 = some m.cls := findClass_of_methodNamed Bd.named
  have hlocks := Bd.notSynchronized
  have hS : va_S (gA G) s.heap s.heap [] := va_S.rf
  have hl := lv_entry [.ref (ad 0 0), .int p1, .int p2] (n := 4) (Nat.le_of_ble_eq_true rfl)
  rw [lg_entry_eq]
  generalize (lg_sl [.ref (ad 0 0), .int p1, .int p2] ++ List.replicate (4 - (lg_sl [.ref (ad 0 0), .int p1, .int p2]).length) Slot.unset).toArray = ls at hl ⊢
  have hl : lv_has ls 4 [(0, .ref (ad 0 0)), (1, .int p1), (2, .int p2)] := hl
  unfold P_X10_early at q
  refine lv_aload_n hx hb dX10_early_0 rfl (lv_at hl 0 rfl) ?_
  refine lv_iload_n hx hb dX10_early_1 rfl (lv_at hl 1 rfl) ?_
  refine vx_callq (vx_runV (As := [.int p1]) (rest := []) ⟨hx, hb, hml, hown, hts⟩ (c_X10_personAt l hfl G ad F p1 _ _) (cwV 1 hts gX10_early_X10_personAt rfl rfl rfl (by decide +kernel) ⟨Nat.le_of_ble_eq_true rfl, Nat.le_of_ble_eq_true rfl⟩) ⟨fun a U g mk h => ⟨h.1, gD_blind h.2.1, h.2.2⟩, g_recv (C := RX10) (T := TX10) (N := 8) hK hH 0 0 (by decide) Nat.zero_lt_one rfl rfl, fun U hU hW => ⟨rfl, gD_at hK hG hB hH hS hU hW, q⟩⟩ rfl rfl hl.1 rfl (lv_room (Nat.le_of_ble_eq_true rfl)) dX10_early_2 ⟨Nat.le_of_ble_eq_true rfl, Nat.le_of_ble_eq_true rfl⟩) hS (fun _ _ h => h) (fun _ h => h) (fun _ _ h => h) (fun E ce q9 u t H locs ht hvm _ hq hz hk hS hc9 hv9 hcl9 => vx_widen (Nat.le_of_ble_eq_true rfl) (Nat.le_of_ble_eq_true rfl) (vx_out (fun x hx => (hno x hx).elim) hlocks hc9 hv9 hcl9 (fun t1 ht1 hvm1 => ⟨u, trivial, ⟨hq.1, gH_at ht1 (gH_to ht hq.2)⟩, hS.F ht1⟩) hS.2.2 (Nat.le_refl _) (Nat.le_refl _))) (fun r1o r1u t H locs ht hvm q hB1 hz hk hS => ?_)
  obtain ⟨r1, F2⟩ := r1u
  obtain ⟨r1e, r1h, q⟩ := q
  subst r1e
  have hH : gH G ad F2 H := gH_to ht hB1
  show W p l e rm_X10_early s m ([.ref (ad 0 0), .int p1, .int p2] : List Value).toArray below meth c H locs _ _ _ (F0 m _ ls (.ref (ad 33 r1) :: []))
  refine lv_astore_n (lv' := [(3, .ref (ad 33 r1)), (0, .ref (ad 0 0)), (1, .int p1), (2, .int p2)]) hx hb dX10_early_5 rfl hl (by decide) rfl (fun ls hl => ?_)
  refine lv_iload_n hx hb dX10_early_6 rfl (lv_at hl 3 rfl) ?_
  refine lv_iconst (v := 0) hx hb dX10_early_7 (by decide) ?_
  refine lv_iconst (v := 5) hx hb dX10_early_8 (by decide) ?_
  refine vx_callv (vx_runS (As := [.int p2, .int 0, .int 5]) (rest := []) ⟨hx, hb, hml, hown, hts⟩ (c_X10_needRange l hfl G ad F2 p2 0 5 _ _) (va_cwS 3 hts gX10_early_X10_needRange rfl rfl rfl (by decide +kernel) ⟨Nat.le_of_ble_eq_true rfl, Nat.le_of_ble_eq_true rfl⟩) ⟨fun a U g mk h => ⟨h.1, gD_blind h.2.1, h.2.2⟩, fun U hU hW => ⟨rfl, gD_at hK hG hB hH hS hU hW, q⟩⟩ rfl rfl hl.1 rfl (lv_room (Nat.le_of_ble_eq_true rfl)) dX10_early_9 ⟨Nat.le_of_ble_eq_true rfl, Nat.le_of_ble_eq_true rfl⟩) hS (fun _ _ h => h) (fun _ h => h) (fun _ _ h => h) (fun E ce q9 u t H locs ht hvm _ hq hz hk hS hc9 hv9 hcl9 => vx_widen (Nat.le_of_ble_eq_true rfl) (Nat.le_of_ble_eq_true rfl) (vx_out (fun x hx => (hno x hx).elim) hlocks hc9 hv9 hcl9 (fun t1 ht1 hvm1 => ⟨u, trivial, ⟨hq.1, gH_at ht1 (gH_to ht hq.2)⟩, hS.F ht1⟩) hS.2.2 (Nat.le_refl _) (Nat.le_refl _))) (fun F4 t H locs ht hvm q hB1 hz hk hS => ?_)
  have hH : gH G ad F4 H := gH_to ht hB1
  refine lv_aload_n hx hb dX10_early_12 rfl (lv_at hl 1 rfl) ?_
  refine lv_iconst (v := 2) hx hb dX10_early_13 (by decide) ?_
  refine vx_callv (vx_runV (As := [.int 2]) (rest := []) ⟨hx, hb, hml, hown, hts⟩ (c_X10_needStage l hfl G ad F4 2 _ _) (cwV 1 hts gX10_early_X10_needStage rfl rfl rfl (by decide +kernel) ⟨Nat.le_of_ble_eq_true rfl, Nat.le_of_ble_eq_true rfl⟩) ⟨fun a U g mk h => ⟨h.1, gD_blind h.2.1, h.2.2⟩, g_recv (C := RX10) (T := TX10) (N := 8) hK hH 0 0 (by decide) Nat.zero_lt_one rfl rfl, fun U hU hW => ⟨rfl, gD_at hK hG hB hH hS hU hW, q⟩⟩ rfl rfl hl.1 rfl (lv_room (Nat.le_of_ble_eq_true rfl)) dX10_early_14 ⟨Nat.le_of_ble_eq_true rfl, Nat.le_of_ble_eq_true rfl⟩) hS (fun _ _ h => h) (fun _ h => h) (fun _ _ h => h) (fun E ce q9 u t H locs ht hvm _ hq hz hk hS hc9 hv9 hcl9 => vx_widen (Nat.le_of_ble_eq_true rfl) (Nat.le_of_ble_eq_true rfl) (vx_out (fun x hx => (hno x hx).elim) hlocks hc9 hv9 hcl9 (fun t1 ht1 hvm1 => ⟨u, trivial, ⟨hq.1, gH_at ht1 (gH_to ht hq.2)⟩, hS.F ht1⟩) hS.2.2 (Nat.le_refl _) (Nat.le_refl _))) (fun F6 t H locs ht hvm q hB1 hz hk hS => ?_)
  have hH : gH G ad F6 H := gH_to ht hB1
  refine lv_aload_n hx hb dX10_early_17 rfl (lv_at hl 0 rfl) ?_
  refine vx_callv (vx_runS (As := [.ref (ad 33 r1)]) (rest := []) ⟨hx, hb, hml, hown, hts⟩ (c_X10_needAlive l hfl G ad F6 r1 r1h _ _) (va_cwS 1 hts gX10_early_X10_needAlive rfl rfl rfl (by decide +kernel) ⟨Nat.le_of_ble_eq_true rfl, Nat.le_of_ble_eq_true rfl⟩) ⟨fun a U g mk h => ⟨h.1, gD_blind h.2.1, h.2.2⟩, fun U hU hW => ⟨rfl, gD_at hK hG hB hH hS hU hW, q⟩⟩ rfl rfl hl.1 rfl (lv_room (Nat.le_of_ble_eq_true rfl)) dX10_early_18 ⟨Nat.le_of_ble_eq_true rfl, Nat.le_of_ble_eq_true rfl⟩) hS (fun _ _ h => h) (fun _ h => h) (fun _ _ h => h) (fun E ce q9 u t H locs ht hvm _ hq hz hk hS hc9 hv9 hcl9 => vx_widen (Nat.le_of_ble_eq_true rfl) (Nat.le_of_ble_eq_true rfl) (vx_out (fun x hx => (hno x hx).elim) hlocks hc9 hv9 hcl9 (fun t1 ht1 hvm1 => ⟨u, trivial, ⟨hq.1, gH_at ht1 (gH_to ht hq.2)⟩, hS.F ht1⟩) hS.2.2 (Nat.le_refl _) (Nat.le_refl _))) (fun F8 t H locs ht hvm q hB1 hz hk hS => ?_)
  have hH : gH G ad F8 H := gH_to ht hB1
  refine lv_aload_n hx hb dX10_early_21 rfl (lv_at hl 1 rfl) ?_
  refine lv_iload_n hx hb dX10_early_22 rfl (lv_at hl 2 rfl) ?_
  refine vx_callv (vx_runV (As := [.int p1]) (rest := []) ⟨hx, hb, hml, hown, hts⟩ (c_X10_needOnRoll l hfl G ad F8 p1 _ _) (cwV 1 hts gX10_early_X10_needOnRoll rfl rfl rfl (by decide +kernel) ⟨Nat.le_of_ble_eq_true rfl, Nat.le_of_ble_eq_true rfl⟩) ⟨fun a U g mk h => ⟨h.1, gD_blind h.2.1, h.2.2⟩, g_recv (C := RX10) (T := TX10) (N := 8) hK hH 0 0 (by decide) Nat.zero_lt_one rfl rfl, fun U hU hW => ⟨rfl, gD_at hK hG hB hH hS hU hW, q⟩⟩ rfl rfl hl.1 rfl (lv_room (Nat.le_of_ble_eq_true rfl)) dX10_early_23 ⟨Nat.le_of_ble_eq_true rfl, Nat.le_of_ble_eq_true rfl⟩) hS (fun _ _ h => h) (fun _ h => h) (fun _ _ h => h) (fun E ce q9 u t H locs ht hvm _ hq hz hk hS hc9 hv9 hcl9 => vx_widen (Nat.le_of_ble_eq_true rfl) (Nat.le_of_ble_eq_true rfl) (vx_out (fun x hx => (hno x hx).elim) hlocks hc9 hv9 hcl9 (fun t1 ht1 hvm1 => ⟨u, trivial, ⟨hq.1, gH_at ht1 (gH_to ht hq.2)⟩, hS.F ht1⟩) hS.2.2 (Nat.le_refl _) (Nat.le_refl _))) (fun F10 t H locs ht hvm q hB1 hz hk hS => ?_)
  have hH : gH G ad F10 H := gH_to ht hB1
  refine lv_aload_n hx hb dX10_early_26 rfl (lv_at hl 1 rfl) ?_
  refine g_get (ci := 14) (v := .ref (ad 10 0)) (C := RX10) (T := TX10) (N := 8) hx hb hts (fun _ h => (List.mem_cons_of_mem _ (List.mem_append_left _ (List.mem_append_left _ (List.mem_append_left _ (List.mem_append_left _ (List.mem_append_left _ (List.mem_append_left _ (List.mem_append_left _ (List.mem_append_left _ (List.mem_append_left _ (List.mem_append_right _ h)))))))))))) hown hK hH 0 0 (by decide) Nat.zero_lt_one rfl rfl 6 (by decide) (hts (.fieldLink RX10 43 "BallotFoundry" "election" "LBallotFoundry$Election;") (List.mem_of_getElem? (i := 3) rfl)) (fun _ h => h) rfl dX10_early_27 ?_
  refine g_getN (ci := 6) (v := .ref (ad 16 0)) (C := RX2) (T := TX2) (N := 10) hx hb hts (fun _ h => (List.mem_cons_of_mem _ (List.mem_append_left _ (List.mem_append_left _ (List.mem_append_left _ (List.mem_append_left _ (List.mem_append_left _ (List.mem_append_left _ (List.mem_append_left _ (List.mem_append_left _ (List.mem_append_right _ h))))))))))) hown hK hH 10 0 (by decide) Nat.zero_lt_one rfl rfl 7 (by decide) (va_Nw.use rfl (hG.1 ("BallotFoundry", 185, "BallotFoundry$Election", "envelopes", "LBallotFoundry$Envelopes;", "BallotFoundry") (List.mem_of_getElem? (i := 23) rfl))) (fun _ h => h) rfl dX10_early_30 ?_
  refine g_getN (ci := 7) (v := .int (F10 16 0 3)) (C := RX3) (T := TX3) (N := 4) hx hb hts (fun _ h => (List.mem_cons_of_mem _ (List.mem_append_left _ (List.mem_append_left _ (List.mem_append_left _ (List.mem_append_left _ (List.mem_append_left _ (List.mem_append_left _ (List.mem_append_left _ (List.mem_append_right _ h)))))))))) hown hK hH 16 0 (by decide) Nat.zero_lt_one rfl rfl 3 (by decide) (va_Nw.use rfl (hG.1 ("BallotFoundry", 189, "BallotFoundry$Envelopes", "size", "I", "BallotFoundry") (List.mem_of_getElem? (i := 11) rfl))) (fun _ h => h) rfl dX10_early_33 ?_
  refine lv_bipush (v := 60) hx hb dX10_early_36 (by decide) ?_
  refine lv_icmp_lt (tgt := 51) hx hb dX10_early_38 (by decide) (fun c11 => ?_) (fun c11 => ?_)
  · have q := (if_pos c11).mp q
    refine lv_aload_n hx hb dX10_early_51 rfl (lv_at hl 1 rfl) ?_
    refine lv_iload_n hx hb dX10_early_52 rfl (lv_at hl 2 rfl) ?_
    refine va_calli (va_runV (As := [.int p1]) (rest := []) ⟨hx, hb, hml, hown, hts⟩ (c_X10_voidEnvelopeOf l G ad F10 p1 _) (cwV 1 hts gX10_early_X10_voidEnvelopeOf rfl rfl rfl (by decide +kernel) ⟨Nat.le_of_ble_eq_true rfl, Nat.le_of_ble_eq_true rfl⟩) ⟨fun a U g mk h => ⟨h.1, gD_blind h.2.1, h.2.2⟩, g_recv (C := RX10) (T := TX10) (N := 8) hK hH 0 0 (by decide) Nat.zero_lt_one rfl rfl, fun U hU hW => ⟨rfl, gD_at hK hG hB hH hS hU hW, q⟩⟩ rfl rfl hl.1 rfl (lv_room (Nat.le_of_ble_eq_true rfl)) dX10_early_53 ⟨Nat.le_of_ble_eq_true rfl, Nat.le_of_ble_eq_true rfl⟩) hS (fun _ _ h => h) (fun _ h => h) (fun r12 F13 t H locs ht hvm q hB1 hz hk hS => ?_)
    have hH : gH G ad F13 H := gH_to ht hB1
    refine lv_pop hx hb dX10_early_56 rfl ?_
    refine lv_aload_n hx hb dX10_early_57 rfl (lv_at hl 1 rfl) ?_
    refine g_get (ci := 14) (v := .ref (ad 10 0)) (C := RX10) (T := TX10) (N := 8) hx hb hts (fun _ h => (List.mem_cons_of_mem _ (List.mem_append_left _ (List.mem_append_left _ (List.mem_append_left _ (List.mem_append_left _ (List.mem_append_left _ (List.mem_append_left _ (List.mem_append_left _ (List.mem_append_left _ (List.mem_append_left _ (List.mem_append_right _ h)))))))))))) hown hK hH 0 0 (by decide) Nat.zero_lt_one rfl rfl 6 (by decide) (hts (.fieldLink RX10 43 "BallotFoundry" "election" "LBallotFoundry$Election;") (List.mem_of_getElem? (i := 3) rfl)) (fun _ h => h) rfl dX10_early_58 ?_
    refine g_getN (ci := 6) (v := .ref (ad 21 0)) (C := RX2) (T := TX2) (N := 10) hx hb hts (fun _ h => (List.mem_cons_of_mem _ (List.mem_append_left _ (List.mem_append_left _ (List.mem_append_left _ (List.mem_append_left _ (List.mem_append_left _ (List.mem_append_left _ (List.mem_append_left _ (List.mem_append_left _ (List.mem_append_right _ h))))))))))) hown hK hH 10 0 (by decide) Nat.zero_lt_one rfl rfl 9 (by decide) (va_Nw.use rfl (hG.1 ("BallotFoundry", 194, "BallotFoundry$Election", "book", "LBallotFoundry$Book;", "BallotFoundry") (List.mem_of_getElem? (i := 25) rfl))) (fun _ h => h) rfl dX10_early_61 ?_
    refine lv_aload_n hx hb dX10_early_64 rfl (lv_at hl 1 rfl) ?_
    refine g_get (ci := 14) (v := .int (F13 0 0 5)) (C := RX10) (T := TX10) (N := 8) hx hb hts (fun _ h => (List.mem_cons_of_mem _ (List.mem_append_left _ (List.mem_append_left _ (List.mem_append_left _ (List.mem_append_left _ (List.mem_append_left _ (List.mem_append_left _ (List.mem_append_left _ (List.mem_append_left _ (List.mem_append_left _ (List.mem_append_right _ h)))))))))))) hown hK hH 0 0 (by decide) Nat.zero_lt_one rfl rfl 5 (by decide) (hts (.fieldLink RX10 37 "BallotFoundry" "now" "I") (List.mem_of_getElem? (i := 4) rfl)) (fun _ h => h) rfl dX10_early_65 ?_
    refine lv_bipush (v := 101) hx hb dX10_early_68 (by decide) ?_
    refine lv_iload_n hx hb dX10_early_70 rfl (lv_at hl 2 rfl) ?_
    refine va_callv (va_runV (As := [.int (F13 0 0 5), .int 101, .int p1]) (rest := []) ⟨hx, hb, hml, hown, hts⟩ (c_X0_write l G ad F13 (F13 0 0 5) 101 p1 _) (cwV 3 hts gX10_early_X0_write rfl rfl rfl (by decide +kernel) ⟨Nat.le_of_ble_eq_true rfl, Nat.le_of_ble_eq_true rfl⟩) ⟨fun a U g mk h => ⟨h.1, gD_blind h.2.1, h.2.2⟩, g_recv (C := RX0) (T := TX0) (N := 5) hK hH 21 0 (by decide) Nat.zero_lt_one rfl rfl, fun U hU hW => ⟨rfl, gD_at hK hG hB hH hS hU hW, q⟩⟩ rfl rfl hl.1 rfl (lv_room (Nat.le_of_ble_eq_true rfl)) dX10_early_71 ⟨Nat.le_of_ble_eq_true rfl, Nat.le_of_ble_eq_true rfl⟩) hS (fun _ _ h => h) (fun _ h => h) (fun F15 t H locs ht hvm q hB1 hz hk hS => ?_)
    have hH : gH G ad F15 H := gH_to ht hB1
    refine lv_aload_n hx hb dX10_early_74 rfl (lv_at hl 1 rfl) ?_
    refine g_get (ci := 14) (v := .ref (ad 10 0)) (C := RX10) (T := TX10) (N := 8) hx hb hts (fun _ h => (List.mem_cons_of_mem _ (List.mem_append_left _ (List.mem_append_left _ (List.mem_append_left _ (List.mem_append_left _ (List.mem_append_left _ (List.mem_append_left _ (List.mem_append_left _ (List.mem_append_left _ (List.mem_append_left _ (List.mem_append_right _ h)))))))))))) hown hK hH 0 0 (by decide) Nat.zero_lt_one rfl rfl 6 (by decide) (hts (.fieldLink RX10 43 "BallotFoundry" "election" "LBallotFoundry$Election;") (List.mem_of_getElem? (i := 3) rfl)) (fun _ h => h) rfl dX10_early_75 ?_
    refine g_getN (ci := 6) (v := .ref (ad 16 0)) (C := RX2) (T := TX2) (N := 10) hx hb hts (fun _ h => (List.mem_cons_of_mem _ (List.mem_append_left _ (List.mem_append_left _ (List.mem_append_left _ (List.mem_append_left _ (List.mem_append_left _ (List.mem_append_left _ (List.mem_append_left _ (List.mem_append_left _ (List.mem_append_right _ h))))))))))) hown hK hH 10 0 (by decide) Nat.zero_lt_one rfl rfl 7 (by decide) (va_Nw.use rfl (hG.1 ("BallotFoundry", 185, "BallotFoundry$Election", "envelopes", "LBallotFoundry$Envelopes;", "BallotFoundry") (List.mem_of_getElem? (i := 23) rfl))) (fun _ h => h) rfl dX10_early_78 ?_
    refine lv_iload_n hx hb dX10_early_81 rfl (lv_at hl 2 rfl) ?_
    refine lv_iload_n hx hb dX10_early_82 rfl (lv_at hl 3 rfl) ?_
    refine va_calli (va_runV (As := [.int p1, .int p2]) (rest := []) ⟨hx, hb, hml, hown, hts⟩ (c_X3_add l G ad F15 p1 p2 _) (cwV 2 hts gX10_early_X3_add rfl rfl rfl (by decide +kernel) ⟨Nat.le_of_ble_eq_true rfl, Nat.le_of_ble_eq_true rfl⟩) ⟨fun a U g mk h => ⟨h.1, gD_blind h.2.1, h.2.2⟩, g_recv (C := RX3) (T := TX3) (N := 4) hK hH 16 0 (by decide) Nat.zero_lt_one rfl rfl, fun U hU hW => ⟨rfl, gD_at hK hG hB hH hS hU hW, q⟩⟩ rfl rfl hl.1 rfl (lv_room (Nat.le_of_ble_eq_true rfl)) dX10_early_83 ⟨Nat.le_of_ble_eq_true rfl, Nat.le_of_ble_eq_true rfl⟩) hS (fun _ _ h => h) (fun _ h => h) (fun r16 F17 t H locs ht hvm q hB1 hz hk hS => ?_)
    have hH : gH G ad F17 H := gH_to ht hB1
    refine W.widen (k := 6) (n := 36) (Nat.le_of_ble_eq_true rfl) (Nat.le_of_ble_eq_true rfl) ?_
    exact vx_ret (W.iret (v := r16) hx hb hr (fun t ht hW => ⟨⟨r16, F17, rfl, q, gH_at ht hH⟩, hS.F ht⟩) hS.2.2 dX10_early_86)
  · have q := (if_neg c11).mp q
    exact g_throw (text := "no more envelopes") hx hb hfl hno hown hts hG hS (List.mem_of_getElem? (i := 2) rfl) (List.mem_of_getElem? (i := 16) rfl) (List.mem_of_getElem? (i := 1) rfl) (List.mem_of_getElem? (i := 2) rfl) (fun _ h => (List.mem_cons_of_mem _ (List.mem_append_left _ (List.mem_append_left _ (List.mem_append_left _ (List.mem_append_right _ h)))))) (hl.1.trans hml.symm) hlocks dX10_early_41 dX10_early_44 dX10_early_45 dX10_early_47 dX10_early_50 (Nat.le_of_ble_eq_true rfl) (Nat.le_of_ble_eq_true rfl) (Nat.le_of_ble_eq_true rfl) (Nat.le_of_ble_eq_true rfl) (fun t hvm hz hk => ⟨F10, trivial, ⟨q, gH_grow hH hz hk⟩, gF_grow hS hz hk⟩) hS.2.2 (Nat.le_of_ble_eq_true rfl) (Nat.le_of_ble_eq_true rfl)
abbrev rm_X10_vote : Room := { frames := 8, cells := 7, slots := 42, locals := 132 }
abbrev q_X10_vote (G : GP) (ad : Nat → Nat → Nat) (K : Int32 → GF → Prop) (X : String → GF → Prop) (below : List Frame) (args : Array Value) (s : State) : State → Prop := vx_MQ below (gQi G ad K) (gX G ad X) args s 7 42 (gA G)
set_option maxHeartbeats 4000000 in
set_option maxRecDepth 100000 in
theorem c_X10_vote (l : Launch) (hfl : l.stackTraces = false) (G : GP) (ad : Nat → Nat → Nat) (F : GF) (p1 : Int32) (p2 : Int32) (p3 : Int32) (K : Int32 → GF → Prop) (X : String → GF → Prop) : vx_Met l yX10_vote wsX10_vote rm_X10_vote (va_Pc [.ref (ad 0 0), .int p1, .int p2, .int p3] (fun U => gD G ad F U ∧ P_X10_vote F p1 p2 p3 K X)) (gQi G ad K) (gX G ad X) 7 42 (gA G) := by
  refine vx_ofW (cc := cX10_vote) (maxL := 5) (ret := (some .int)) (by decide) rfl ?_
  intro p e s m args below meth c s₁ Bd hml hno hv
  obtain ⟨rfl, ⟨hK, hG, hB, hH⟩, q⟩ := hv
  have hx := Bd.exec
  have hb := Bd.bytes
  have hr := Bd.returns
  have hts := atoms_spec (ws := wsX10_vote) Bd.pre
  have hown : s.vm.findClass RX10 = some m.cls := findClass_of_methodNamed Bd.named
  have hlocks := Bd.notSynchronized
  have hS : va_S (gA G) s.heap s.heap [] := va_S.rf
  have hl := lv_entry [.ref (ad 0 0), .int p1, .int p2, .int p3] (n := 5) (Nat.le_of_ble_eq_true rfl)
  rw [lg_entry_eq]
  generalize (lg_sl [.ref (ad 0 0), .int p1, .int p2, .int p3] ++ List.replicate (5 - (lg_sl [.ref (ad 0 0), .int p1, .int p2, .int p3]).length) Slot.unset).toArray = ls at hl ⊢
  have hl : lv_has ls 5 [(0, .ref (ad 0 0)), (1, .int p1), (2, .int p2), (3, .int p3)] := hl
  unfold P_X10_vote at q
  refine lv_aload_n hx hb dX10_vote_0 rfl (lv_at hl 0 rfl) ?_
  refine lv_iload_n hx hb dX10_vote_1 rfl (lv_at hl 1 rfl) ?_
  refine vx_callq (vx_runV (As := [.int p1]) (rest := []) ⟨hx, hb, hml, hown, hts⟩ (c_X10_personAt l hfl G ad F p1 _ _) (cwV 1 hts gX10_vote_X10_personAt rfl rfl rfl (by decide +kernel) ⟨Nat.le_of_ble_eq_true rfl, Nat.le_of_ble_eq_true rfl⟩) ⟨fun a U g mk h => ⟨h.1, gD_blind h.2.1, h.2.2⟩, g_recv (C := RX10) (T := TX10) (N := 8) hK hH 0 0 (by decide) Nat.zero_lt_one rfl rfl, fun U hU hW => ⟨rfl, gD_at hK hG hB hH hS hU hW, q⟩⟩ rfl rfl hl.1 rfl (lv_room (Nat.le_of_ble_eq_true rfl)) dX10_vote_2 ⟨Nat.le_of_ble_eq_true rfl, Nat.le_of_ble_eq_true rfl⟩) hS (fun _ _ h => h) (fun _ h => h) (fun _ _ h => h) (fun E ce q9 u t H locs ht hvm _ hq hz hk hS hc9 hv9 hcl9 => vx_widen (Nat.le_of_ble_eq_true rfl) (Nat.le_of_ble_eq_true rfl) (vx_out (fun x hx => (hno x hx).elim) hlocks hc9 hv9 hcl9 (fun t1 ht1 hvm1 => ⟨u, trivial, ⟨hq.1, gH_at ht1 (gH_to ht hq.2)⟩, hS.F ht1⟩) hS.2.2 (Nat.le_refl _) (Nat.le_refl _))) (fun r1o r1u t H locs ht hvm q hB1 hz hk hS => ?_)
  obtain ⟨r1, F2⟩ := r1u
  obtain ⟨r1e, r1h, q⟩ := q
  subst r1e
  have hH : gH G ad F2 H := gH_to ht hB1
  show W p l e rm_X10_vote s m ([.ref (ad 0 0), .int p1, .int p2, .int p3] : List Value).toArray below meth c H locs _ _ _ (F0 m _ ls (.ref (ad 33 r1) :: []))
  refine lv_astore (lv' := [(4, .ref (ad 33 r1)), (0, .ref (ad 0 0)), (1, .int p1), (2, .int p2), (3, .int p3)]) hx hb dX10_vote_5 hl (by decide) rfl (fun ls hl => ?_)
  refine lv_aload_n hx hb dX10_vote_7 rfl (lv_at hl 1 rfl) ?_
  refine lv_iload_n hx hb dX10_vote_8 rfl (lv_at hl 3 rfl) ?_
  refine vx_callv (vx_runV (As := [.int p2]) (rest := []) ⟨hx, hb, hml, hown, hts⟩ (c_X10_needStation l hfl G ad F2 p2 _ _) (cwV 1 hts gX10_vote_X10_needStation rfl rfl rfl (by decide +kernel) ⟨Nat.le_of_ble_eq_true rfl, Nat.le_of_ble_eq_true rfl⟩) ⟨fun a U g mk h => ⟨h.1, gD_blind h.2.1, h.2.2⟩, g_recv (C := RX10) (T := TX10) (N := 8) hK hH 0 0 (by decide) Nat.zero_lt_one rfl rfl, fun U hU hW => ⟨rfl, gD_at hK hG hB hH hS hU hW, q⟩⟩ rfl rfl hl.1 rfl (lv_room (Nat.le_of_ble_eq_true rfl)) dX10_vote_9 ⟨Nat.le_of_ble_eq_true rfl, Nat.le_of_ble_eq_true rfl⟩) hS (fun _ _ h => h) (fun _ h => h) (fun _ _ h => h) (fun E ce q9 u t H locs ht hvm _ hq hz hk hS hc9 hv9 hcl9 => vx_widen (Nat.le_of_ble_eq_true rfl) (Nat.le_of_ble_eq_true rfl) (vx_out (fun x hx => (hno x hx).elim) hlocks hc9 hv9 hcl9 (fun t1 ht1 hvm1 => ⟨u, trivial, ⟨hq.1, gH_at ht1 (gH_to ht hq.2)⟩, hS.F ht1⟩) hS.2.2 (Nat.le_refl _) (Nat.le_refl _))) (fun F4 t H locs ht hvm q hB1 hz hk hS => ?_)
  have hH : gH G ad F4 H := gH_to ht hB1
  refine lv_iload_n hx hb dX10_vote_12 rfl (lv_at hl 4 rfl) ?_
  refine lv_iconst (v := 0) hx hb dX10_vote_13 (by decide) ?_
  refine lv_iconst (v := 5) hx hb dX10_vote_14 (by decide) ?_
  refine vx_callv (vx_runS (As := [.int p3, .int 0, .int 5]) (rest := []) ⟨hx, hb, hml, hown, hts⟩ (c_X10_needRange l hfl G ad F4 p3 0 5 _ _) (va_cwS 3 hts gX10_vote_X10_needRange rfl rfl rfl (by decide +kernel) ⟨Nat.le_of_ble_eq_true rfl, Nat.le_of_ble_eq_true rfl⟩) ⟨fun a U g mk h => ⟨h.1, gD_blind h.2.1, h.2.2⟩, fun U hU hW => ⟨rfl, gD_at hK hG hB hH hS hU hW, q⟩⟩ rfl rfl hl.1 rfl (lv_room (Nat.le_of_ble_eq_true rfl)) dX10_vote_15 ⟨Nat.le_of_ble_eq_true rfl, Nat.le_of_ble_eq_true rfl⟩) hS (fun _ _ h => h) (fun _ h => h) (fun _ _ h => h) (fun E ce q9 u t H locs ht hvm _ hq hz hk hS hc9 hv9 hcl9 => vx_widen (Nat.le_of_ble_eq_true rfl) (Nat.le_of_ble_eq_true rfl) (vx_out (fun x hx => (hno x hx).elim) hlocks hc9 hv9 hcl9 (fun t1 ht1 hvm1 => ⟨u, trivial, ⟨hq.1, gH_at ht1 (gH_to ht hq.2)⟩, hS.F ht1⟩) hS.2.2 (Nat.le_refl _) (Nat.le_refl _))) (fun F6 t H locs ht hvm q hB1 hz hk hS => ?_)
  have hH : gH G ad F6 H := gH_to ht hB1
  refine lv_aload_n hx hb dX10_vote_18 rfl (lv_at hl 1 rfl) ?_
  refine lv_iconst (v := 3) hx hb dX10_vote_19 (by decide) ?_
  refine vx_callv (vx_runV (As := [.int 3]) (rest := []) ⟨hx, hb, hml, hown, hts⟩ (c_X10_needStage l hfl G ad F6 3 _ _) (cwV 1 hts gX10_vote_X10_needStage rfl rfl rfl (by decide +kernel) ⟨Nat.le_of_ble_eq_true rfl, Nat.le_of_ble_eq_true rfl⟩) ⟨fun a U g mk h => ⟨h.1, gD_blind h.2.1, h.2.2⟩, g_recv (C := RX10) (T := TX10) (N := 8) hK hH 0 0 (by decide) Nat.zero_lt_one rfl rfl, fun U hU hW => ⟨rfl, gD_at hK hG hB hH hS hU hW, q⟩⟩ rfl rfl hl.1 rfl (lv_room (Nat.le_of_ble_eq_true rfl)) dX10_vote_20 ⟨Nat.le_of_ble_eq_true rfl, Nat.le_of_ble_eq_true rfl⟩) hS (fun _ _ h => h) (fun _ h => h) (fun _ _ h => h) (fun E ce q9 u t H locs ht hvm _ hq hz hk hS hc9 hv9 hcl9 => vx_widen (Nat.le_of_ble_eq_true rfl) (Nat.le_of_ble_eq_true rfl) (vx_out (fun x hx => (hno x hx).elim) hlocks hc9 hv9 hcl9 (fun t1 ht1 hvm1 => ⟨u, trivial, ⟨hq.1, gH_at ht1 (gH_to ht hq.2)⟩, hS.F ht1⟩) hS.2.2 (Nat.le_refl _) (Nat.le_refl _))) (fun F8 t H locs ht hvm q hB1 hz hk hS => ?_)
  have hH : gH G ad F8 H := gH_to ht hB1
  refine lv_aload hx hb dX10_vote_23 (lv_at hl 0 rfl) ?_
  refine vx_callv (vx_runS (As := [.ref (ad 33 r1)]) (rest := []) ⟨hx, hb, hml, hown, hts⟩ (c_X10_needAlive l hfl G ad F8 r1 r1h _ _) (va_cwS 1 hts gX10_vote_X10_needAlive rfl rfl rfl (by decide +kernel) ⟨Nat.le_of_ble_eq_true rfl, Nat.le_of_ble_eq_true rfl⟩) ⟨fun a U g mk h => ⟨h.1, gD_blind h.2.1, h.2.2⟩, fun U hU hW => ⟨rfl, gD_at hK hG hB hH hS hU hW, q⟩⟩ rfl rfl hl.1 rfl (lv_room (Nat.le_of_ble_eq_true rfl)) dX10_vote_25 ⟨Nat.le_of_ble_eq_true rfl, Nat.le_of_ble_eq_true rfl⟩) hS (fun _ _ h => h) (fun _ h => h) (fun _ _ h => h) (fun E ce q9 u t H locs ht hvm _ hq hz hk hS hc9 hv9 hcl9 => vx_widen (Nat.le_of_ble_eq_true rfl) (Nat.le_of_ble_eq_true rfl) (vx_out (fun x hx => (hno x hx).elim) hlocks hc9 hv9 hcl9 (fun t1 ht1 hvm1 => ⟨u, trivial, ⟨hq.1, gH_at ht1 (gH_to ht hq.2)⟩, hS.F ht1⟩) hS.2.2 (Nat.le_refl _) (Nat.le_refl _))) (fun F10 t H locs ht hvm q hB1 hz hk hS => ?_)
  have hH : gH G ad F10 H := gH_to ht hB1
  refine lv_aload_n hx hb dX10_vote_28 rfl (lv_at hl 1 rfl) ?_
  refine lv_iload_n hx hb dX10_vote_29 rfl (lv_at hl 2 rfl) ?_
  refine vx_callv (vx_runV (As := [.int p1]) (rest := []) ⟨hx, hb, hml, hown, hts⟩ (c_X10_needOnRoll l hfl G ad F10 p1 _ _) (cwV 1 hts gX10_vote_X10_needOnRoll rfl rfl rfl (by decide +kernel) ⟨Nat.le_of_ble_eq_true rfl, Nat.le_of_ble_eq_true rfl⟩) ⟨fun a U g mk h => ⟨h.1, gD_blind h.2.1, h.2.2⟩, g_recv (C := RX10) (T := TX10) (N := 8) hK hH 0 0 (by decide) Nat.zero_lt_one rfl rfl, fun U hU hW => ⟨rfl, gD_at hK hG hB hH hS hU hW, q⟩⟩ rfl rfl hl.1 rfl (lv_room (Nat.le_of_ble_eq_true rfl)) dX10_vote_30 ⟨Nat.le_of_ble_eq_true rfl, Nat.le_of_ble_eq_true rfl⟩) hS (fun _ _ h => h) (fun _ h => h) (fun _ _ h => h) (fun E ce q9 u t H locs ht hvm _ hq hz hk hS hc9 hv9 hcl9 => vx_widen (Nat.le_of_ble_eq_true rfl) (Nat.le_of_ble_eq_true rfl) (vx_out (fun x hx => (hno x hx).elim) hlocks hc9 hv9 hcl9 (fun t1 ht1 hvm1 => ⟨u, trivial, ⟨hq.1, gH_at ht1 (gH_to ht hq.2)⟩, hS.F ht1⟩) hS.2.2 (Nat.le_refl _) (Nat.le_refl _))) (fun F12 t H locs ht hvm q hB1 hz hk hS => ?_)
  have hH : gH G ad F12 H := gH_to ht hB1
  refine lv_aload_n hx hb dX10_vote_33 rfl (lv_at hl 1 rfl) ?_
  refine g_get (ci := 14) (v := .ref (ad 10 0)) (C := RX10) (T := TX10) (N := 8) hx hb hts (fun _ h => (List.mem_cons_of_mem _ (List.mem_append_left _ (List.mem_append_left _ (List.mem_append_left _ (List.mem_append_left _ (List.mem_append_left _ (List.mem_append_left _ (List.mem_append_left _ (List.mem_append_left _ (List.mem_append_left _ (List.mem_append_left _ (List.mem_append_left _ (List.mem_append_right _ h)))))))))))))) hown hK hH 0 0 (by decide) Nat.zero_lt_one rfl rfl 6 (by decide) (hts (.fieldLink RX10 43 "BallotFoundry" "election" "LBallotFoundry$Election;") (List.mem_of_getElem? (i := 3) rfl)) (fun _ h => h) rfl dX10_vote_34 ?_
  refine g_getN (ci := 6) (v := .ref (ad 12 0)) (C := RX2) (T := TX2) (N := 10) hx hb hts (fun _ h => (List.mem_cons_of_mem _ (List.mem_append_left _ (List.mem_append_left _ (List.mem_append_left _ (List.mem_append_left _ (List.mem_append_left _ (List.mem_append_left _ (List.mem_append_left _ (List.mem_append_left _ (List.mem_append_left _ (List.mem_append_left _ (List.mem_append_right _ h))))))))))))) hown hK hH 10 0 (by decide) Nat.zero_lt_one rfl rfl 6 (by decide) (va_Nw.use rfl (hG.1 ("BallotFoundry", 167, "BallotFoundry$Election", "roll", "LBallotFoundry$Roll;", "BallotFoundry") (List.mem_of_getElem? (i := 22) rfl))) (fun _ h => h) rfl dX10_vote_37 ?_
  refine g_getN (ci := 9) (v := .ref (ad 15 0)) (C := RX5) (T := TX5) (N := 3) hx hb hts (fun _ h => (List.mem_cons_of_mem _ (List.mem_append_left _ (List.mem_append_left _ (List.mem_append_left _ (List.mem_append_left _ (List.mem_append_left _ (List.mem_append_left _ (List.mem_append_left _ (List.mem_append_left _ (List.mem_append_left _ (List.mem_append_right _ h)))))))))))) hown hK hH 12 0 (by decide) Nat.zero_lt_one rfl rfl 2 (by decide) (va_Nw.use rfl (hG.1 ("BallotFoundry", 205, "BallotFoundry$Roll", "hasVoted", "[Z", "BallotFoundry") (List.mem_of_getElem? (i := 4) rfl))) (fun _ h => h) rfl dX10_vote_40 ?_
  refine lv_iload_n hx hb dX10_vote_43 rfl (lv_at hl 2 rfl) ?_
  obtain ⟨h13, q⟩ := q
  refine g_zald hx hb hK hH 15 0 (by decide) Nat.zero_lt_one 20 rfl h13 dX10_vote_44 ?_
  refine lv_if_eq (tgt := 58) hx hb dX10_vote_45 (by decide) (fun c14 => ?_) (fun c14 => ?_)
  · have q := (if_pos c14).mp q
    refine lv_aload_n hx hb dX10_vote_58 rfl (lv_at hl 1 rfl) ?_
    refine g_get (ci := 14) (v := .ref (ad 10 0)) (C := RX10) (T := TX10) (N := 8) hx hb hts (fun _ h => (List.mem_cons_of_mem _ (List.mem_append_left _ (List.mem_append_left _ (List.mem_append_left _ (List.mem_append_left _ (List.mem_append_left _ (List.mem_append_left _ (List.mem_append_left _ (List.mem_append_left _ (List.mem_append_left _ (List.mem_append_left _ (List.mem_append_left _ (List.mem_append_right _ h)))))))))))))) hown hK hH 0 0 (by decide) Nat.zero_lt_one rfl rfl 6 (by decide) (hts (.fieldLink RX10 43 "BallotFoundry" "election" "LBallotFoundry$Election;") (List.mem_of_getElem? (i := 3) rfl)) (fun _ h => h) rfl dX10_vote_59 ?_
    refine g_getN (ci := 6) (v := .ref (ad 12 0)) (C := RX2) (T := TX2) (N := 10) hx hb hts (fun _ h => (List.mem_cons_of_mem _ (List.mem_append_left _ (List.mem_append_left _ (List.mem_append_left _ (List.mem_append_left _ (List.mem_append_left _ (List.mem_append_left _ (List.mem_append_left _ (List.mem_append_left _ (List.mem_append_left _ (List.mem_append_left _ (List.mem_append_right _ h))))))))))))) hown hK hH 10 0 (by decide) Nat.zero_lt_one rfl rfl 6 (by decide) (va_Nw.use rfl (hG.1 ("BallotFoundry", 167, "BallotFoundry$Election", "roll", "LBallotFoundry$Roll;", "BallotFoundry") (List.mem_of_getElem? (i := 22) rfl))) (fun _ h => h) rfl dX10_vote_62 ?_
    refine lv_iload_n hx hb dX10_vote_65 rfl (lv_at hl 2 rfl) ?_
    refine va_calli (va_runV (As := [.int p1]) (rest := []) ⟨hx, hb, hml, hown, hts⟩ (c_X5_stationFor l G ad F12 p1 _) (cwV 1 hts gX10_vote_X5_stationFor rfl rfl rfl (by decide +kernel) ⟨Nat.le_of_ble_eq_true rfl, Nat.le_of_ble_eq_true rfl⟩) ⟨fun a U g mk h => ⟨h.1, gD_blind h.2.1, h.2.2⟩, g_recv (C := RX5) (T := TX5) (N := 3) hK hH 12 0 (by decide) Nat.zero_lt_one rfl rfl, fun U hU hW => ⟨rfl, gD_at hK hG hB hH hS hU hW, q⟩⟩ rfl rfl hl.1 rfl (lv_room (Nat.le_of_ble_eq_true rfl)) dX10_vote_66 ⟨Nat.le_of_ble_eq_true rfl, Nat.le_of_ble_eq_true rfl⟩) hS (fun _ _ h => h) (fun _ h => h) (fun r15 F16 t H locs ht hvm q hB1 hz hk hS => ?_)
    have hH : gH G ad F16 H := gH_to ht hB1
    refine lv_iload_n hx hb dX10_vote_69 rfl (lv_at hl 3 rfl) ?_
    refine lv_icmp_eq (tgt := 83) hx hb dX10_vote_70 (by decide) (fun c17 => ?_) (fun c17 => ?_)
    · have q := (if_pos c17).mp q
      refine lv_aload_n hx hb dX10_vote_83 rfl (lv_at hl 1 rfl) ?_
      refine lv_iload_n hx hb dX10_vote_84 rfl (lv_at hl 2 rfl) ?_
      refine va_calli (va_runV (As := [.int p1]) (rest := []) ⟨hx, hb, hml, hown, hts⟩ (c_X10_voidEnvelopeOf l G ad F16 p1 _) (cwV 1 hts gX10_vote_X10_voidEnvelopeOf rfl rfl rfl (by decide +kernel) ⟨Nat.le_of_ble_eq_true rfl, Nat.le_of_ble_eq_true rfl⟩) ⟨fun a U g mk h => ⟨h.1, gD_blind h.2.1, h.2.2⟩, g_recv (C := RX10) (T := TX10) (N := 8) hK hH 0 0 (by decide) Nat.zero_lt_one rfl rfl, fun U hU hW => ⟨rfl, gD_at hK hG hB hH hS hU hW, q⟩⟩ rfl rfl hl.1 rfl (lv_room (Nat.le_of_ble_eq_true rfl)) dX10_vote_85 ⟨Nat.le_of_ble_eq_true rfl, Nat.le_of_ble_eq_true rfl⟩) hS (fun _ _ h => h) (fun _ h => h) (fun r18 F19 t H locs ht hvm q hB1 hz hk hS => ?_)
      have hH : gH G ad F19 H := gH_to ht hB1
      refine lv_pop hx hb dX10_vote_88 rfl ?_
      refine lv_aload_n hx hb dX10_vote_89 rfl (lv_at hl 1 rfl) ?_
      refine g_get (ci := 14) (v := .ref (ad 10 0)) (C := RX10) (T := TX10) (N := 8) hx hb hts (fun _ h => (List.mem_cons_of_mem _ (List.mem_append_left _ (List.mem_append_left _ (List.mem_append_left _ (List.mem_append_left _ (List.mem_append_left _ (List.mem_append_left _ (List.mem_append_left _ (List.mem_append_left _ (List.mem_append_left _ (List.mem_append_left _ (List.mem_append_left _ (List.mem_append_right _ h)))))))))))))) hown hK hH 0 0 (by decide) Nat.zero_lt_one rfl rfl 6 (by decide) (hts (.fieldLink RX10 43 "BallotFoundry" "election" "LBallotFoundry$Election;") (List.mem_of_getElem? (i := 3) rfl)) (fun _ h => h) rfl dX10_vote_90 ?_
      refine g_getN (ci := 6) (v := .ref (ad 21 0)) (C := RX2) (T := TX2) (N := 10) hx hb hts (fun _ h => (List.mem_cons_of_mem _ (List.mem_append_left _ (List.mem_append_left _ (List.mem_append_left _ (List.mem_append_left _ (List.mem_append_left _ (List.mem_append_left _ (List.mem_append_left _ (List.mem_append_left _ (List.mem_append_left _ (List.mem_append_left _ (List.mem_append_right _ h))))))))))))) hown hK hH 10 0 (by decide) Nat.zero_lt_one rfl rfl 9 (by decide) (va_Nw.use rfl (hG.1 ("BallotFoundry", 194, "BallotFoundry$Election", "book", "LBallotFoundry$Book;", "BallotFoundry") (List.mem_of_getElem? (i := 25) rfl))) (fun _ h => h) rfl dX10_vote_93 ?_
      refine lv_aload_n hx hb dX10_vote_96 rfl (lv_at hl 1 rfl) ?_
      refine g_get (ci := 14) (v := .int (F19 0 0 5)) (C := RX10) (T := TX10) (N := 8) hx hb hts (fun _ h => (List.mem_cons_of_mem _ (List.mem_append_left _ (List.mem_append_left _ (List.mem_append_left _ (List.mem_append_left _ (List.mem_append_left _ (List.mem_append_left _ (List.mem_append_left _ (List.mem_append_left _ (List.mem_append_left _ (List.mem_append_left _ (List.mem_append_left _ (List.mem_append_right _ h)))))))))))))) hown hK hH 0 0 (by decide) Nat.zero_lt_one rfl rfl 5 (by decide) (hts (.fieldLink RX10 37 "BallotFoundry" "now" "I") (List.mem_of_getElem? (i := 4) rfl)) (fun _ h => h) rfl dX10_vote_97 ?_
      refine lv_bipush (v := 118) hx hb dX10_vote_100 (by decide) ?_
      refine lv_iload_n hx hb dX10_vote_102 rfl (lv_at hl 2 rfl) ?_
      refine va_callv (va_runV (As := [.int (F19 0 0 5), .int 118, .int p1]) (rest := []) ⟨hx, hb, hml, hown, hts⟩ (c_X0_write l G ad F19 (F19 0 0 5) 118 p1 _) (cwV 3 hts gX10_vote_X0_write rfl rfl rfl (by decide +kernel) ⟨Nat.le_of_ble_eq_true rfl, Nat.le_of_ble_eq_true rfl⟩) ⟨fun a U g mk h => ⟨h.1, gD_blind h.2.1, h.2.2⟩, g_recv (C := RX0) (T := TX0) (N := 5) hK hH 21 0 (by decide) Nat.zero_lt_one rfl rfl, fun U hU hW => ⟨rfl, gD_at hK hG hB hH hS hU hW, q⟩⟩ rfl rfl hl.1 rfl (lv_room (Nat.le_of_ble_eq_true rfl)) dX10_vote_103 ⟨Nat.le_of_ble_eq_true rfl, Nat.le_of_ble_eq_true rfl⟩) hS (fun _ _ h => h) (fun _ h => h) (fun F21 t H locs ht hvm q hB1 hz hk hS => ?_)
      have hH : gH G ad F21 H := gH_to ht hB1
      refine lv_aload_n hx hb dX10_vote_106 rfl (lv_at hl 1 rfl) ?_
      refine g_get (ci := 14) (v := .ref (ad 10 0)) (C := RX10) (T := TX10) (N := 8) hx hb hts (fun _ h => (List.mem_cons_of_mem _ (List.mem_append_left _ (List.mem_append_left _ (List.mem_append_left _ (List.mem_append_left _ (List.mem_append_left _ (List.mem_append_left _ (List.mem_append_left _ (List.mem_append_left _ (List.mem_append_left _ (List.mem_append_left _ (List.mem_append_left _ (List.mem_append_right _ h)))))))))))))) hown hK hH 0 0 (by decide) Nat.zero_lt_one rfl rfl 6 (by decide) (hts (.fieldLink RX10 43 "BallotFoundry" "election" "LBallotFoundry$Election;") (List.mem_of_getElem? (i := 3) rfl)) (fun _ h => h) rfl dX10_vote_107 ?_
      refine lv_iload_n hx hb dX10_vote_110 rfl (lv_at hl 2 rfl) ?_
      refine lv_iload_n hx hb dX10_vote_111 rfl (lv_at hl 4 rfl) ?_
      refine va_callv (va_runV (As := [.int p1, .int p3]) (rest := []) ⟨hx, hb, hml, hown, hts⟩ (c_X2_castFor l G ad F21 p1 p3 _) (cwV 2 hts gX10_vote_X2_castFor rfl rfl rfl (by decide +kernel) ⟨Nat.le_of_ble_eq_true rfl, Nat.le_of_ble_eq_true rfl⟩) ⟨fun a U g mk h => ⟨h.1, gD_blind h.2.1, h.2.2⟩, g_recv (C := RX2) (T := TX2) (N := 10) hK hH 10 0 (by decide) Nat.zero_lt_one rfl rfl, fun U hU hW => ⟨rfl, gD_at hK hG hB hH hS hU hW, q⟩⟩ rfl rfl hl.1 rfl (lv_room (Nat.le_of_ble_eq_true rfl)) dX10_vote_112 ⟨Nat.le_of_ble_eq_true rfl, Nat.le_of_ble_eq_true rfl⟩) hS (fun _ _ h => h) (fun _ h => h) (fun F23 t H locs ht hvm q hB1 hz hk hS => ?_)
      have hH : gH G ad F23 H := gH_to ht hB1
      refine lv_aload_n hx hb dX10_vote_115 rfl (lv_at hl 1 rfl) ?_
      refine g_get (ci := 14) (v := .ref (ad 10 0)) (C := RX10) (T := TX10) (N := 8) hx hb hts (fun _ h => (List.mem_cons_of_mem _ (List.mem_append_left _ (List.mem_append_left _ (List.mem_append_left _ (List.mem_append_left _ (List.mem_append_left _ (List.mem_append_left _ (List.mem_append_left _ (List.mem_append_left _ (List.mem_append_left _ (List.mem_append_left _ (List.mem_append_left _ (List.mem_append_right _ h)))))))))))))) hown hK hH 0 0 (by decide) Nat.zero_lt_one rfl rfl 6 (by decide) (hts (.fieldLink RX10 43 "BallotFoundry" "election" "LBallotFoundry$Election;") (List.mem_of_getElem? (i := 3) rfl)) (fun _ h => h) rfl dX10_vote_116 ?_
      refine g_getN (ci := 6) (v := .ref (ad 20 0)) (C := RX2) (T := TX2) (N := 10) hx hb hts (fun _ h => (List.mem_cons_of_mem _ (List.mem_append_left _ (List.mem_append_left _ (List.mem_append_left _ (List.mem_append_left _ (List.mem_append_left _ (List.mem_append_left _ (List.mem_append_left _ (List.mem_append_left _ (List.mem_append_left _ (List.mem_append_left _ (List.mem_append_right _ h))))))))))))) hown hK hH 10 0 (by decide) Nat.zero_lt_one rfl rfl 8 (by decide) (va_Nw.use rfl (hG.1 ("BallotFoundry", 217, "BallotFoundry$Election", "boxes", "[LBallotFoundry$Box;", "BallotFoundry") (List.mem_of_getElem? (i := 24) rfl))) (fun _ h => h) rfl dX10_vote_119 ?_
      refine lv_iload_n hx hb dX10_vote_122 rfl (lv_at hl 3 rfl) ?_
      obtain ⟨h24, q⟩ := q
      refine g_aald (a := ad 28 (p2.toNatClampNeg)) hx hb hK hH 20 0 (by decide) Nat.zero_lt_one 4 5 rfl rfl h24 rfl dX10_vote_123 ?_
      refine g_getN (ci := 5) (v := .int (F23 28 p2.toNatClampNeg 1)) (C := RX1) (T := TX1) (N := 6) hx hb hts (fun _ h => (List.mem_cons_of_mem _ (List.mem_append_left _ (List.mem_append_left _ (List.mem_append_left _ (List.mem_append_left _ (List.mem_append_left _ (List.mem_append_left _ (List.mem_append_left _ (List.mem_append_left _ (List.mem_append_right _ h))))))))))) hown hK hH 28 p2.toNatClampNeg (by decide) (gin h24) rfl rfl 1 (by decide) (va_Nw.use rfl (hG.1 ("BallotFoundry", 221, "BallotFoundry$Box", "size", "I", "BallotFoundry") (List.mem_of_getElem? (i := 14) rfl))) (fun _ h => h) rfl dX10_vote_124 ?_
      refine W.widen (k := 7) (n := 42) (Nat.le_of_ble_eq_true rfl) (Nat.le_of_ble_eq_true rfl) ?_
      exact vx_ret (W.iret (v := (F23 28 p2.toNatClampNeg 1)) hx hb hr (fun t ht hW => ⟨⟨(F23 28 p2.toNatClampNeg 1), F23, rfl, q, gH_at ht hH⟩, hS.F ht⟩) hS.2.2 dX10_vote_127)
    · have q := (if_neg c17).mp q
      exact g_throw (text := "another station is the person\'s") hx hb hfl hno hown hts hG hS (List.mem_of_getElem? (i := 2) rfl) (List.mem_of_getElem? (i := 18) rfl) (List.mem_of_getElem? (i := 1) rfl) (List.mem_of_getElem? (i := 2) rfl) (fun _ h => (List.mem_cons_of_mem _ (List.mem_append_left _ (List.mem_append_left _ (List.mem_append_right _ h))))) (hl.1.trans hml.symm) hlocks dX10_vote_73 dX10_vote_76 dX10_vote_77 dX10_vote_79 dX10_vote_82 (Nat.le_of_ble_eq_true rfl) (Nat.le_of_ble_eq_true rfl) (Nat.le_of_ble_eq_true rfl) (Nat.le_of_ble_eq_true rfl) (fun t hvm hz hk => ⟨F16, trivial, ⟨q, gH_grow hH hz hk⟩, gF_grow hS hz hk⟩) hS.2.2 (Nat.le_of_ble_eq_true rfl) (Nat.le_of_ble_eq_true rfl)
  · have q := (if_neg c14).mp q
    exact g_throw (text := "the person has voted") hx hb hfl hno hown hts hG hS (List.mem_of_getElem? (i := 2) rfl) (List.mem_of_getElem? (i := 17) rfl) (List.mem_of_getElem? (i := 1) rfl) (List.mem_of_getElem? (i := 2) rfl) (fun _ h => (List.mem_cons_of_mem _ (List.mem_append_left _ (List.mem_append_left _ (List.mem_append_right _ h))))) (hl.1.trans hml.symm) hlocks dX10_vote_48 dX10_vote_51 dX10_vote_52 dX10_vote_54 dX10_vote_57 (Nat.le_of_ble_eq_true rfl) (Nat.le_of_ble_eq_true rfl) (Nat.le_of_ble_eq_true rfl) (Nat.le_of_ble_eq_true rfl) (fun t hvm hz hk => ⟨F12, trivial, ⟨q, gH_grow hH hz hk⟩, gF_grow hS hz hk⟩) hS.2.2 (Nat.le_of_ble_eq_true rfl) (Nat.le_of_ble_eq_true rfl)
abbrev rm_X10_open : Room := { frames := 7, cells := 3, slots := 18, locals := 111 }
abbrev q_X10_open (G : GP) (ad : Nat → Nat → Nat) (K : Int32 → GF → Prop) (X : String → GF → Prop) (below : List Frame) (args : Array Value) (s : State) : State → Prop := vx_MQ below (gQi G ad K) (gX G ad X) args s 3 18 (gA G)
set_option maxHeartbeats 4000000 in
set_option maxRecDepth 100000 in
theorem c_X10_open (l : Launch) (hfl : l.stackTraces = false) (G : GP) (ad : Nat → Nat → Nat) (F : GF) (p1 : Int32) (K : Int32 → GF → Prop) (X : String → GF → Prop) : vx_Met l yX10_open wsX10_open rm_X10_open (va_Pc [.ref (ad 0 0), .int p1] (fun U => gD G ad F U ∧ P_X10_open F p1 K X)) (gQi G ad K) (gX G ad X) 3 18 (gA G) := by
  refine vx_ofW (cc := cX10_open) (maxL := 3) (ret := (some .int)) (by decide) rfl ?_
  intro p e s m args below meth c s₁ Bd hml hno hv
  obtain ⟨rfl, ⟨hK, hG, hB, hH⟩, q⟩ := hv
  have hx := Bd.exec
  have hb := Bd.bytes
  have hr := Bd.returns
  have hts := atoms_spec (ws := wsX10_open) Bd.pre
  have hown : s.vm.findClass RX10 = some m.cls := findClass_of_methodNamed Bd.named
  have hlocks := Bd.notSynchronized
  have hS : va_S (gA G) s.heap s.heap [] := va_S.rf
  have hl := lv_entry [.ref (ad 0 0), .int p1] (n := 3) (Nat.le_of_ble_eq_true rfl)
  rw [lg_entry_eq]
  generalize (lg_sl [.ref (ad 0 0), .int p1] ++ List.replicate (3 - (lg_sl [.ref (ad 0 0), .int p1]).length) Slot.unset).toArray = ls at hl ⊢
  have hl : lv_has ls 3 [(0, .ref (ad 0 0)), (1, .int p1)] := hl
  unfold P_X10_open at q
  refine lv_aload_n hx hb dX10_open_0 rfl (lv_at hl 0 rfl) ?_
  refine lv_iload_n hx hb dX10_open_1 rfl (lv_at hl 1 rfl) ?_
  refine vx_callv (vx_runV (As := [.int p1]) (rest := []) ⟨hx, hb, hml, hown, hts⟩ (c_X10_needPerson l hfl G ad F p1 _ _) (cwV 1 hts gX10_open_X10_needPerson rfl rfl rfl (by decide +kernel) ⟨Nat.le_of_ble_eq_true rfl, Nat.le_of_ble_eq_true rfl⟩) ⟨fun a U g mk h => ⟨h.1, gD_blind h.2.1, h.2.2⟩, g_recv (C := RX10) (T := TX10) (N := 8) hK hH 0 0 (by decide) Nat.zero_lt_one rfl rfl, fun U hU hW => ⟨rfl, gD_at hK hG hB hH hS hU hW, q⟩⟩ rfl rfl hl.1 rfl (lv_room (Nat.le_of_ble_eq_true rfl)) dX10_open_2 ⟨Nat.le_of_ble_eq_true rfl, Nat.le_of_ble_eq_true rfl⟩) hS (fun _ _ h => h) (fun _ h => h) (fun _ _ h => h) (fun E ce q9 u t H locs ht hvm _ hq hz hk hS hc9 hv9 hcl9 => vx_widen (Nat.le_of_ble_eq_true rfl) (Nat.le_of_ble_eq_true rfl) (vx_out (fun x hx => (hno x hx).elim) hlocks hc9 hv9 hcl9 (fun t1 ht1 hvm1 => ⟨u, trivial, ⟨hq.1, gH_at ht1 (gH_to ht hq.2)⟩, hS.F ht1⟩) hS.2.2 (Nat.le_refl _) (Nat.le_refl _))) (fun F2 t H locs ht hvm q hB1 hz hk hS => ?_)
  have hH : gH G ad F2 H := gH_to ht hB1
  refine lv_aload_n hx hb dX10_open_5 rfl (lv_at hl 0 rfl) ?_
  refine lv_iconst (v := 3) hx hb dX10_open_6 (by decide) ?_
  refine vx_callv (vx_runV (As := [.int 3]) (rest := []) ⟨hx, hb, hml, hown, hts⟩ (c_X10_needStage l hfl G ad F2 3 _ _) (cwV 1 hts gX10_open_X10_needStage rfl rfl rfl (by decide +kernel) ⟨Nat.le_of_ble_eq_true rfl, Nat.le_of_ble_eq_true rfl⟩) ⟨fun a U g mk h => ⟨h.1, gD_blind h.2.1, h.2.2⟩, g_recv (C := RX10) (T := TX10) (N := 8) hK hH 0 0 (by decide) Nat.zero_lt_one rfl rfl, fun U hU hW => ⟨rfl, gD_at hK hG hB hH hS hU hW, q⟩⟩ rfl rfl hl.1 rfl (lv_room (Nat.le_of_ble_eq_true rfl)) dX10_open_7 ⟨Nat.le_of_ble_eq_true rfl, Nat.le_of_ble_eq_true rfl⟩) hS (fun _ _ h => h) (fun _ h => h) (fun _ _ h => h) (fun E ce q9 u t H locs ht hvm _ hq hz hk hS hc9 hv9 hcl9 => vx_widen (Nat.le_of_ble_eq_true rfl) (Nat.le_of_ble_eq_true rfl) (vx_out (fun x hx => (hno x hx).elim) hlocks hc9 hv9 hcl9 (fun t1 ht1 hvm1 => ⟨u, trivial, ⟨hq.1, gH_at ht1 (gH_to ht hq.2)⟩, hS.F ht1⟩) hS.2.2 (Nat.le_refl _) (Nat.le_refl _))) (fun F4 t H locs ht hvm q hB1 hz hk hS => ?_)
  have hH : gH G ad F4 H := gH_to ht hB1
  refine lv_aload_n hx hb dX10_open_10 rfl (lv_at hl 0 rfl) ?_
  refine g_get (ci := 14) (v := .ref (ad 10 0)) (C := RX10) (T := TX10) (N := 8) hx hb hts (fun _ h => (List.mem_cons_of_mem _ (List.mem_append_left _ (List.mem_append_left _ (List.mem_append_left _ (List.mem_append_left _ (List.mem_append_left _ (List.mem_append_left _ (List.mem_append_left _ (List.mem_append_left _ (List.mem_append_right _ h))))))))))) hown hK hH 0 0 (by decide) Nat.zero_lt_one rfl rfl 6 (by decide) (hts (.fieldLink RX10 43 "BallotFoundry" "election" "LBallotFoundry$Election;") (List.mem_of_getElem? (i := 3) rfl)) (fun _ h => h) rfl dX10_open_11 ?_
  refine g_getN (ci := 6) (v := .ref (ad 16 0)) (C := RX2) (T := TX2) (N := 10) hx hb hts (fun _ h => (List.mem_cons_of_mem _ (List.mem_append_left _ (List.mem_append_left _ (List.mem_append_left _ (List.mem_append_left _ (List.mem_append_left _ (List.mem_append_left _ (List.mem_append_left _ (List.mem_append_right _ h)))))))))) hown hK hH 10 0 (by decide) Nat.zero_lt_one rfl rfl 7 (by decide) (va_Nw.use rfl (hG.1 ("BallotFoundry", 185, "BallotFoundry$Election", "envelopes", "LBallotFoundry$Envelopes;", "BallotFoundry") (List.mem_of_getElem? (i := 23) rfl))) (fun _ h => h) rfl dX10_open_14 ?_
  refine lv_iload_n hx hb dX10_open_17 rfl (lv_at hl 1 rfl) ?_
  refine va_calli (va_runV (As := [.int p1]) (rest := []) ⟨hx, hb, hml, hown, hts⟩ (c_X3_sealedOf l G ad F4 p1 _) (cwV 1 hts gX10_open_X3_sealedOf rfl rfl rfl (by decide +kernel) ⟨Nat.le_of_ble_eq_true rfl, Nat.le_of_ble_eq_true rfl⟩) ⟨fun a U g mk h => ⟨h.1, gD_blind h.2.1, h.2.2⟩, g_recv (C := RX3) (T := TX3) (N := 4) hK hH 16 0 (by decide) Nat.zero_lt_one rfl rfl, fun U hU hW => ⟨rfl, gD_at hK hG hB hH hS hU hW, q⟩⟩ rfl rfl hl.1 rfl (lv_room (Nat.le_of_ble_eq_true rfl)) dX10_open_18 ⟨Nat.le_of_ble_eq_true rfl, Nat.le_of_ble_eq_true rfl⟩) hS (fun _ _ h => h) (fun _ h => h) (fun r5 F6 t H locs ht hvm q hB1 hz hk hS => ?_)
  have hH : gH G ad F6 H := gH_to ht hB1
  refine lv_istore_n (lv' := [(2, .int r5), (0, .ref (ad 0 0)), (1, .int p1)]) hx hb dX10_open_21 rfl hl (by decide) rfl (fun ls hl => ?_)
  refine lv_iload_n hx hb dX10_open_22 rfl (lv_at hl 0 rfl) ?_
  refine lv_iconst (v := (-1)) hx hb dX10_open_23 (by decide) ?_
  refine lv_icmp_ne (tgt := 37) hx hb dX10_open_24 (by decide) (fun c7 => ?_) (fun c7 => ?_)
  · have q := (if_neg c7).mp q
    refine lv_aload_n hx hb dX10_open_37 rfl (lv_at hl 1 rfl) ?_
    refine g_get (ci := 14) (v := .ref (ad 10 0)) (C := RX10) (T := TX10) (N := 8) hx hb hts (fun _ h => (List.mem_cons_of_mem _ (List.mem_append_left _ (List.mem_append_left _ (List.mem_append_left _ (List.mem_append_left _ (List.mem_append_left _ (List.mem_append_left _ (List.mem_append_left _ (List.mem_append_left _ (List.mem_append_right _ h))))))))))) hown hK hH 0 0 (by decide) Nat.zero_lt_one rfl rfl 6 (by decide) (hts (.fieldLink RX10 43 "BallotFoundry" "election" "LBallotFoundry$Election;") (List.mem_of_getElem? (i := 3) rfl)) (fun _ h => h) rfl dX10_open_38 ?_
    refine lv_iload_n hx hb dX10_open_41 rfl (lv_at hl 0 rfl) ?_
    refine lv_bipush (v := 111) hx hb dX10_open_42 (by decide) ?_
    refine va_callv (va_runV (As := [.int r5, .int 111]) (rest := []) ⟨hx, hb, hml, hown, hts⟩ (c_X2_openEnvelope l G ad F6 r5 111 _) (cwV 2 hts gX10_open_X2_openEnvelope rfl rfl rfl (by decide +kernel) ⟨Nat.le_of_ble_eq_true rfl, Nat.le_of_ble_eq_true rfl⟩) ⟨fun a U g mk h => ⟨h.1, gD_blind h.2.1, h.2.2⟩, g_recv (C := RX2) (T := TX2) (N := 10) hK hH 10 0 (by decide) Nat.zero_lt_one rfl rfl, fun U hU hW => ⟨rfl, gD_at hK hG hB hH hS hU hW, q⟩⟩ rfl rfl hl.1 rfl (lv_room (Nat.le_of_ble_eq_true rfl)) dX10_open_44 ⟨Nat.le_of_ble_eq_true rfl, Nat.le_of_ble_eq_true rfl⟩) hS (fun _ _ h => h) (fun _ h => h) (fun F9 t H locs ht hvm q hB1 hz hk hS => ?_)
    have hH : gH G ad F9 H := gH_to ht hB1
    refine lv_iload_n hx hb dX10_open_47 rfl (lv_at hl 0 rfl) ?_
    refine W.widen (k := 3) (n := 18) (Nat.le_of_ble_eq_true rfl) (Nat.le_of_ble_eq_true rfl) ?_
    exact vx_ret (W.iret (v := r5) hx hb hr (fun t ht hW => ⟨⟨r5, F9, rfl, q, gH_at ht hH⟩, hS.F ht⟩) hS.2.2 dX10_open_48)
  · have q := (if_pos c7).mp q
    exact g_throw (text := "no sealed envelope") hx hb hfl hno hown hts hG hS (List.mem_of_getElem? (i := 2) rfl) (List.mem_of_getElem? (i := 19) rfl) (List.mem_of_getElem? (i := 1) rfl) (List.mem_of_getElem? (i := 2) rfl) (fun _ h => (List.mem_cons_of_mem _ (List.mem_append_left _ (List.mem_append_left _ (List.mem_append_right _ h))))) (hl.1.trans hml.symm) hlocks dX10_open_27 dX10_open_30 dX10_open_31 dX10_open_33 dX10_open_36 (Nat.le_of_ble_eq_true rfl) (Nat.le_of_ble_eq_true rfl) (Nat.le_of_ble_eq_true rfl) (Nat.le_of_ble_eq_true rfl) (fun t hvm hz hk => ⟨F6, trivial, ⟨q, gH_grow hH hz hk⟩, gF_grow hS hz hk⟩) hS.2.2 (Nat.le_of_ble_eq_true rfl) (Nat.le_of_ble_eq_true rfl)
abbrev rm_X10_envelopes : Room := { frames := 0, cells := 0, slots := 0, locals := 0 }
abbrev q_X10_envelopes (G : GP) (ad : Nat → Nat → Nat) (K : Int32 → GF → Prop) (below : List Frame) (args : Array Value) (s : State) : State → Prop := MQ below (gQi G ad K) args s 0 0 (gA G)
set_option maxHeartbeats 4000000 in
set_option maxRecDepth 100000 in
theorem c_X10_envelopes (l : Launch) (G : GP) (ad : Nat → Nat → Nat) (F : GF) (K : Int32 → GF → Prop) : Met l yX10_envelopes wsX10_envelopes rm_X10_envelopes (va_Pc [.ref (ad 0 0)] (fun U => gD G ad F U ∧ P_X10_envelopes F K)) (gQi G ad K) 0 0 (gA G) := by
  refine Met.ofW (cc := cX10_envelopes) (maxL := 1) (ret := (some .int)) (by decide) rfl ?_
  intro p e s m args below meth c s₁ Bd hml hv
  obtain ⟨rfl, ⟨hK, hG, hB, hH⟩, q⟩ := hv
  have hx := Bd.exec
  have hb := Bd.bytes
  have hr := Bd.returns
  have hts := atoms_spec (ws := wsX10_envelopes) Bd.pre
  have hown : s.vm.findClass RX10 = some m.cls := findClass_of_methodNamed Bd.named
  have hlocks := Bd.notSynchronized
  have hS : va_S (gA G) s.heap s.heap [] := va_S.rf
  have hl := lv_entry [.ref (ad 0 0)] (n := 1) (Nat.le_of_ble_eq_true rfl)
  rw [lg_entry_eq]
  generalize (lg_sl [.ref (ad 0 0)] ++ List.replicate (1 - (lg_sl [.ref (ad 0 0)]).length) Slot.unset).toArray = ls at hl ⊢
  have hl : lv_has ls 1 [(0, .ref (ad 0 0))] := hl
  unfold P_X10_envelopes at q
  refine lv_aload_n hx hb dX10_envelopes_0 rfl (lv_at hl 0 rfl) ?_
  refine g_get (ci := 14) (v := .ref (ad 10 0)) (C := RX10) (T := TX10) (N := 8) hx hb hts (fun _ h => (List.mem_cons_of_mem _ (List.mem_append_left _ (List.mem_append_left _ (List.mem_append_right _ h))))) hown hK hH 0 0 (by decide) Nat.zero_lt_one rfl rfl 6 (by decide) (hts (.fieldLink RX10 43 "BallotFoundry" "election" "LBallotFoundry$Election;") (List.mem_of_getElem? (i := 1) rfl)) (fun _ h => h) rfl dX10_envelopes_1 ?_
  refine g_getN (ci := 6) (v := .ref (ad 16 0)) (C := RX2) (T := TX2) (N := 10) hx hb hts (fun _ h => (List.mem_cons_of_mem _ (List.mem_append_left _ (List.mem_append_right _ h)))) hown hK hH 10 0 (by decide) Nat.zero_lt_one rfl rfl 7 (by decide) (va_Nw.use rfl (hG.1 ("BallotFoundry", 185, "BallotFoundry$Election", "envelopes", "LBallotFoundry$Envelopes;", "BallotFoundry") (List.mem_of_getElem? (i := 23) rfl))) (fun _ h => h) rfl dX10_envelopes_4 ?_
  refine g_getN (ci := 7) (v := .int (F 16 0 3)) (C := RX3) (T := TX3) (N := 4) hx hb hts (fun _ h => (List.mem_cons_of_mem _ (List.mem_append_right _ h))) hown hK hH 16 0 (by decide) Nat.zero_lt_one rfl rfl 3 (by decide) (va_Nw.use rfl (hG.1 ("BallotFoundry", 189, "BallotFoundry$Envelopes", "size", "I", "BallotFoundry") (List.mem_of_getElem? (i := 11) rfl))) (fun _ h => h) rfl dX10_envelopes_7 ?_
  exact (W.iret (v := (F 16 0 3)) hx hb hr (fun t ht hW => ⟨⟨(F 16 0 3), F, rfl, q, gH_at ht hH⟩, hS.F ht⟩) hS.2.2 dX10_envelopes_10)
abbrev rm_X10_needEnvelope : Room := { frames := 6, cells := 1, slots := 6, locals := 90 }
abbrev q_X10_needEnvelope (G : GP) (ad : Nat → Nat → Nat) (K : GF → Prop) (X : String → GF → Prop) (below : List Frame) (args : Array Value) (s : State) : State → Prop := vx_MQ below (gQv G ad K) (gX G ad X) args s 1 6 (gA G)
set_option maxHeartbeats 4000000 in
set_option maxRecDepth 100000 in
theorem c_X10_needEnvelope (l : Launch) (hfl : l.stackTraces = false) (G : GP) (ad : Nat → Nat → Nat) (F : GF) (p1 : Int32) (K : GF → Prop) (X : String → GF → Prop) : vx_Met l yX10_needEnvelope wsX10_needEnvelope rm_X10_needEnvelope (va_Pc [.ref (ad 0 0), .int p1] (fun U => gD G ad F U ∧ P_X10_needEnvelope F p1 K X)) (gQv G ad K) (gX G ad X) 1 6 (gA G) := by
  refine vx_ofW (cc := cX10_needEnvelope) (maxL := 2) (ret := none) (by decide) rfl ?_
  intro p e s m args below meth c s₁ Bd hml hno hv
  obtain ⟨rfl, ⟨hK, hG, hB, hH⟩, q⟩ := hv
  have hx := Bd.exec
  have hb := Bd.bytes
  have hr := Bd.returns
  have hts := atoms_spec (ws := wsX10_needEnvelope) Bd.pre
  have hown : s.vm.findClass RX10 = some m.cls := findClass_of_methodNamed Bd.named
  have hlocks := Bd.notSynchronized
  have hS : va_S (gA G) s.heap s.heap [] := va_S.rf
  have hl := lv_entry [.ref (ad 0 0), .int p1] (n := 2) (Nat.le_of_ble_eq_true rfl)
  rw [lg_entry_eq]
  generalize (lg_sl [.ref (ad 0 0), .int p1] ++ List.replicate (2 - (lg_sl [.ref (ad 0 0), .int p1]).length) Slot.unset).toArray = ls at hl ⊢
  have hl : lv_has ls 2 [(0, .ref (ad 0 0)), (1, .int p1)] := hl
  unfold P_X10_needEnvelope at q
  refine lv_iload_n hx hb dX10_needEnvelope_0 rfl (lv_at hl 1 rfl) ?_
  refine lv_if_lt (tgt := 18) hx hb dX10_needEnvelope_1 (by decide) (fun c1 => ?_) (fun c1 => ?_)
  · have q := (if_pos c1).mp q
    exact g_throwW (text := "no such envelope") hx hb hfl hno hown hts hG hS (List.mem_of_getElem? (i := 0) rfl) (List.mem_of_getElem? (i := 20) rfl) (List.mem_of_getElem? (i := 1) rfl) (List.mem_of_getElem? (i := 2) rfl) (fun _ h => (List.mem_cons_of_mem _ (List.mem_append_right _ h))) (hl.1.trans hml.symm) hlocks dX10_needEnvelope_18 dX10_needEnvelope_21 dX10_needEnvelope_22 dX10_needEnvelope_25 dX10_needEnvelope_28 (Nat.le_of_ble_eq_true rfl) (Nat.le_of_ble_eq_true rfl) (Nat.le_of_ble_eq_true rfl) (Nat.le_of_ble_eq_true rfl) (fun t hvm hz hk => ⟨F, trivial, ⟨q, gH_grow hH hz hk⟩, gF_grow hS hz hk⟩) hS.2.2 (Nat.le_of_ble_eq_true rfl) (Nat.le_of_ble_eq_true rfl)
  · have q := (if_neg c1).mp q
    refine lv_iload_n hx hb dX10_needEnvelope_4 rfl (lv_at hl 1 rfl) ?_
    refine lv_aload_n hx hb dX10_needEnvelope_5 rfl (lv_at hl 0 rfl) ?_
    refine g_get (ci := 14) (v := .ref (ad 10 0)) (C := RX10) (T := TX10) (N := 8) hx hb hts (fun _ h => (List.mem_cons_of_mem _ (List.mem_append_left _ (List.mem_append_left _ (List.mem_append_left _ (List.mem_append_right _ h)))))) hown hK hH 0 0 (by decide) Nat.zero_lt_one rfl rfl 6 (by decide) (hts (.fieldLink RX10 43 "BallotFoundry" "election" "LBallotFoundry$Election;") (List.mem_of_getElem? (i := 3) rfl)) (fun _ h => h) rfl dX10_needEnvelope_6 ?_
    refine g_getN (ci := 6) (v := .ref (ad 16 0)) (C := RX2) (T := TX2) (N := 10) hx hb hts (fun _ h => (List.mem_cons_of_mem _ (List.mem_append_left _ (List.mem_append_left _ (List.mem_append_right _ h))))) hown hK hH 10 0 (by decide) Nat.zero_lt_one rfl rfl 7 (by decide) (va_Nw.use rfl (hG.1 ("BallotFoundry", 185, "BallotFoundry$Election", "envelopes", "LBallotFoundry$Envelopes;", "BallotFoundry") (List.mem_of_getElem? (i := 23) rfl))) (fun _ h => h) rfl dX10_needEnvelope_9 ?_
    refine g_getN (ci := 7) (v := .int (F 16 0 3)) (C := RX3) (T := TX3) (N := 4) hx hb hts (fun _ h => (List.mem_cons_of_mem _ (List.mem_append_left _ (List.mem_append_right _ h)))) hown hK hH 16 0 (by decide) Nat.zero_lt_one rfl rfl 3 (by decide) (va_Nw.use rfl (hG.1 ("BallotFoundry", 189, "BallotFoundry$Envelopes", "size", "I", "BallotFoundry") (List.mem_of_getElem? (i := 11) rfl))) (fun _ h => h) rfl dX10_needEnvelope_12 ?_
    refine lv_icmp_lt (tgt := 29) hx hb dX10_needEnvelope_15 (by decide) (fun c2 => ?_) (fun c2 => ?_)
    · have q := (if_pos c2).mp q
      refine W.widen (k := 1) (n := 6) (Nat.le_of_ble_eq_true rfl) (Nat.le_of_ble_eq_true rfl) ?_
      exact vx_ret (W.vret hx hb hr (fun t ht hW => ⟨⟨F, rfl, q, gH_at ht hH⟩, hS.F ht⟩) hS.2.2 dX10_needEnvelope_29)
    · have q := (if_neg c2).mp q
      exact g_throwW (text := "no such envelope") hx hb hfl hno hown hts hG hS (List.mem_of_getElem? (i := 0) rfl) (List.mem_of_getElem? (i := 20) rfl) (List.mem_of_getElem? (i := 1) rfl) (List.mem_of_getElem? (i := 2) rfl) (fun _ h => (List.mem_cons_of_mem _ (List.mem_append_right _ h))) (hl.1.trans hml.symm) hlocks dX10_needEnvelope_18 dX10_needEnvelope_21 dX10_needEnvelope_22 dX10_needEnvelope_25 dX10_needEnvelope_28 (Nat.le_of_ble_eq_true rfl) (Nat.le_of_ble_eq_true rfl) (Nat.le_of_ble_eq_true rfl) (Nat.le_of_ble_eq_true rfl) (fun t hvm hz hk => ⟨F, trivial, ⟨q, gH_grow hH hz hk⟩, gF_grow hS hz hk⟩) hS.2.2 (Nat.le_of_ble_eq_true rfl) (Nat.le_of_ble_eq_true rfl)
abbrev rm_X10_stateOf : Room := { frames := 7, cells := 1, slots := 6, locals := 111 }
abbrev q_X10_stateOf (G : GP) (ad : Nat → Nat → Nat) (K : Int32 → GF → Prop) (X : String → GF → Prop) (below : List Frame) (args : Array Value) (s : State) : State → Prop := vx_MQ below (gQi G ad K) (gX G ad X) args s 1 6 (gA G)
set_option maxHeartbeats 4000000 in
set_option maxRecDepth 100000 in
theorem c_X10_stateOf (l : Launch) (hfl : l.stackTraces = false) (G : GP) (ad : Nat → Nat → Nat) (F : GF) (p1 : Int32) (K : Int32 → GF → Prop) (X : String → GF → Prop) : vx_Met l yX10_stateOf wsX10_stateOf rm_X10_stateOf (va_Pc [.ref (ad 0 0), .int p1] (fun U => gD G ad F U ∧ P_X10_stateOf F p1 K X)) (gQi G ad K) (gX G ad X) 1 6 (gA G) := by
  refine vx_ofW (cc := cX10_stateOf) (maxL := 2) (ret := (some .int)) (by decide) rfl ?_
  intro p e s m args below meth c s₁ Bd hml hno hv
  obtain ⟨rfl, ⟨hK, hG, hB, hH⟩, q⟩ := hv
  have hx := Bd.exec
  have hb := Bd.bytes
  have hr := Bd.returns
  have hts := atoms_spec (ws := wsX10_stateOf) Bd.pre
  have hown : s.vm.findClass RX10 = some m.cls := findClass_of_methodNamed Bd.named
  have hlocks := Bd.notSynchronized
  have hS : va_S (gA G) s.heap s.heap [] := va_S.rf
  have hl := lv_entry [.ref (ad 0 0), .int p1] (n := 2) (Nat.le_of_ble_eq_true rfl)
  rw [lg_entry_eq]
  generalize (lg_sl [.ref (ad 0 0), .int p1] ++ List.replicate (2 - (lg_sl [.ref (ad 0 0), .int p1]).length) Slot.unset).toArray = ls at hl ⊢
  have hl : lv_has ls 2 [(0, .ref (ad 0 0)), (1, .int p1)] := hl
  unfold P_X10_stateOf at q
  refine lv_aload_n hx hb dX10_stateOf_0 rfl (lv_at hl 0 rfl) ?_
  refine lv_iload_n hx hb dX10_stateOf_1 rfl (lv_at hl 1 rfl) ?_
  refine vx_callv (vx_runV (As := [.int p1]) (rest := []) ⟨hx, hb, hml, hown, hts⟩ (c_X10_needEnvelope l hfl G ad F p1 _ _) (cwV 1 hts gX10_stateOf_X10_needEnvelope rfl rfl rfl (by decide +kernel) ⟨Nat.le_of_ble_eq_true rfl, Nat.le_of_ble_eq_true rfl⟩) ⟨fun a U g mk h => ⟨h.1, gD_blind h.2.1, h.2.2⟩, g_recv (C := RX10) (T := TX10) (N := 8) hK hH 0 0 (by decide) Nat.zero_lt_one rfl rfl, fun U hU hW => ⟨rfl, gD_at hK hG hB hH hS hU hW, q⟩⟩ rfl rfl hl.1 rfl (lv_room (Nat.le_of_ble_eq_true rfl)) dX10_stateOf_2 ⟨Nat.le_of_ble_eq_true rfl, Nat.le_of_ble_eq_true rfl⟩) hS (fun _ _ h => h) (fun _ h => h) (fun _ _ h => h) (fun E ce q9 u t H locs ht hvm _ hq hz hk hS hc9 hv9 hcl9 => vx_widen (Nat.le_of_ble_eq_true rfl) (Nat.le_of_ble_eq_true rfl) (vx_out (fun x hx => (hno x hx).elim) hlocks hc9 hv9 hcl9 (fun t1 ht1 hvm1 => ⟨u, trivial, ⟨hq.1, gH_at ht1 (gH_to ht hq.2)⟩, hS.F ht1⟩) hS.2.2 (Nat.le_refl _) (Nat.le_refl _))) (fun F2 t H locs ht hvm q hB1 hz hk hS => ?_)
  have hH : gH G ad F2 H := gH_to ht hB1
  refine lv_aload_n hx hb dX10_stateOf_5 rfl (lv_at hl 0 rfl) ?_
  refine g_get (ci := 14) (v := .ref (ad 10 0)) (C := RX10) (T := TX10) (N := 8) hx hb hts (fun _ h => (List.mem_cons_of_mem _ (List.mem_append_left _ (List.mem_append_left _ (List.mem_append_left _ (List.mem_append_left _ (List.mem_append_right _ h))))))) hown hK hH 0 0 (by decide) Nat.zero_lt_one rfl rfl 6 (by decide) (hts (.fieldLink RX10 43 "BallotFoundry" "election" "LBallotFoundry$Election;") (List.mem_of_getElem? (i := 1) rfl)) (fun _ h => h) rfl dX10_stateOf_6 ?_
  refine g_getN (ci := 6) (v := .ref (ad 16 0)) (C := RX2) (T := TX2) (N := 10) hx hb hts (fun _ h => (List.mem_cons_of_mem _ (List.mem_append_left _ (List.mem_append_left _ (List.mem_append_left _ (List.mem_append_right _ h)))))) hown hK hH 10 0 (by decide) Nat.zero_lt_one rfl rfl 7 (by decide) (va_Nw.use rfl (hG.1 ("BallotFoundry", 185, "BallotFoundry$Election", "envelopes", "LBallotFoundry$Envelopes;", "BallotFoundry") (List.mem_of_getElem? (i := 23) rfl))) (fun _ h => h) rfl dX10_stateOf_9 ?_
  refine g_getN (ci := 7) (v := .ref (ad 19 0)) (C := RX3) (T := TX3) (N := 4) hx hb hts (fun _ h => (List.mem_cons_of_mem _ (List.mem_append_left _ (List.mem_append_left _ (List.mem_append_right _ h))))) hown hK hH 16 0 (by decide) Nat.zero_lt_one rfl rfl 2 (by decide) (va_Nw.use rfl (hG.1 ("BallotFoundry", 236, "BallotFoundry$Envelopes", "states", "[I", "BallotFoundry") (List.mem_of_getElem? (i := 9) rfl))) (fun _ h => h) rfl dX10_stateOf_12 ?_
  refine lv_iload_n hx hb dX10_stateOf_15 rfl (lv_at hl 1 rfl) ?_
  obtain ⟨h3, q⟩ := q
  refine g_iald hx hb hK hH 19 0 (by decide) Nat.zero_lt_one 60 rfl h3 dX10_stateOf_16 ?_
  exact vx_ret (W.iret (v := (F2 19 0 p1.toNatClampNeg)) hx hb hr (fun t ht hW => ⟨⟨(F2 19 0 p1.toNatClampNeg), F2, rfl, q, gH_at ht hH⟩, hS.F ht⟩) hS.2.2 dX10_stateOf_17)
abbrev rm_X10_personOf : Room := { frames := 7, cells := 1, slots := 6, locals := 111 }
abbrev q_X10_personOf (G : GP) (ad : Nat → Nat → Nat) (K : Int32 → GF → Prop) (X : String → GF → Prop) (below : List Frame) (args : Array Value) (s : State) : State → Prop := vx_MQ below (gQi G ad K) (gX G ad X) args s 1 6 (gA G)
set_option maxHeartbeats 4000000 in
set_option maxRecDepth 100000 in
theorem c_X10_personOf (l : Launch) (hfl : l.stackTraces = false) (G : GP) (ad : Nat → Nat → Nat) (F : GF) (p1 : Int32) (K : Int32 → GF → Prop) (X : String → GF → Prop) : vx_Met l yX10_personOf wsX10_personOf rm_X10_personOf (va_Pc [.ref (ad 0 0), .int p1] (fun U => gD G ad F U ∧ P_X10_personOf F p1 K X)) (gQi G ad K) (gX G ad X) 1 6 (gA G) := by
  refine vx_ofW (cc := cX10_personOf) (maxL := 2) (ret := (some .int)) (by decide) rfl ?_
  intro p e s m args below meth c s₁ Bd hml hno hv
  obtain ⟨rfl, ⟨hK, hG, hB, hH⟩, q⟩ := hv
  have hx := Bd.exec
  have hb := Bd.bytes
  have hr := Bd.returns
  have hts := atoms_spec (ws := wsX10_personOf) Bd.pre
  have hown : s.vm.findClass RX10 = some m.cls := findClass_of_methodNamed Bd.named
  have hlocks := Bd.notSynchronized
  have hS : va_S (gA G) s.heap s.heap [] := va_S.rf
  have hl := lv_entry [.ref (ad 0 0), .int p1] (n := 2) (Nat.le_of_ble_eq_true rfl)
  rw [lg_entry_eq]
  generalize (lg_sl [.ref (ad 0 0), .int p1] ++ List.replicate (2 - (lg_sl [.ref (ad 0 0), .int p1]).length) Slot.unset).toArray = ls at hl ⊢
  have hl : lv_has ls 2 [(0, .ref (ad 0 0)), (1, .int p1)] := hl
  unfold P_X10_personOf at q
  refine lv_aload_n hx hb dX10_personOf_0 rfl (lv_at hl 0 rfl) ?_
  refine lv_iload_n hx hb dX10_personOf_1 rfl (lv_at hl 1 rfl) ?_
  refine vx_callv (vx_runV (As := [.int p1]) (rest := []) ⟨hx, hb, hml, hown, hts⟩ (c_X10_needEnvelope l hfl G ad F p1 _ _) (cwV 1 hts gX10_personOf_X10_needEnvelope rfl rfl rfl (by decide +kernel) ⟨Nat.le_of_ble_eq_true rfl, Nat.le_of_ble_eq_true rfl⟩) ⟨fun a U g mk h => ⟨h.1, gD_blind h.2.1, h.2.2⟩, g_recv (C := RX10) (T := TX10) (N := 8) hK hH 0 0 (by decide) Nat.zero_lt_one rfl rfl, fun U hU hW => ⟨rfl, gD_at hK hG hB hH hS hU hW, q⟩⟩ rfl rfl hl.1 rfl (lv_room (Nat.le_of_ble_eq_true rfl)) dX10_personOf_2 ⟨Nat.le_of_ble_eq_true rfl, Nat.le_of_ble_eq_true rfl⟩) hS (fun _ _ h => h) (fun _ h => h) (fun _ _ h => h) (fun E ce q9 u t H locs ht hvm _ hq hz hk hS hc9 hv9 hcl9 => vx_widen (Nat.le_of_ble_eq_true rfl) (Nat.le_of_ble_eq_true rfl) (vx_out (fun x hx => (hno x hx).elim) hlocks hc9 hv9 hcl9 (fun t1 ht1 hvm1 => ⟨u, trivial, ⟨hq.1, gH_at ht1 (gH_to ht hq.2)⟩, hS.F ht1⟩) hS.2.2 (Nat.le_refl _) (Nat.le_refl _))) (fun F2 t H locs ht hvm q hB1 hz hk hS => ?_)
  have hH : gH G ad F2 H := gH_to ht hB1
  refine lv_aload_n hx hb dX10_personOf_5 rfl (lv_at hl 0 rfl) ?_
  refine g_get (ci := 14) (v := .ref (ad 10 0)) (C := RX10) (T := TX10) (N := 8) hx hb hts (fun _ h => (List.mem_cons_of_mem _ (List.mem_append_left _ (List.mem_append_left _ (List.mem_append_left _ (List.mem_append_left _ (List.mem_append_right _ h))))))) hown hK hH 0 0 (by decide) Nat.zero_lt_one rfl rfl 6 (by decide) (hts (.fieldLink RX10 43 "BallotFoundry" "election" "LBallotFoundry$Election;") (List.mem_of_getElem? (i := 1) rfl)) (fun _ h => h) rfl dX10_personOf_6 ?_
  refine g_getN (ci := 6) (v := .ref (ad 16 0)) (C := RX2) (T := TX2) (N := 10) hx hb hts (fun _ h => (List.mem_cons_of_mem _ (List.mem_append_left _ (List.mem_append_left _ (List.mem_append_left _ (List.mem_append_right _ h)))))) hown hK hH 10 0 (by decide) Nat.zero_lt_one rfl rfl 7 (by decide) (va_Nw.use rfl (hG.1 ("BallotFoundry", 185, "BallotFoundry$Election", "envelopes", "LBallotFoundry$Envelopes;", "BallotFoundry") (List.mem_of_getElem? (i := 23) rfl))) (fun _ h => h) rfl dX10_personOf_9 ?_
  refine g_getN (ci := 7) (v := .ref (ad 17 0)) (C := RX3) (T := TX3) (N := 4) hx hb hts (fun _ h => (List.mem_cons_of_mem _ (List.mem_append_left _ (List.mem_append_left _ (List.mem_append_right _ h))))) hown hK hH 16 0 (by decide) Nat.zero_lt_one rfl rfl 0 (by decide) (va_Nw.use rfl (hG.1 ("BallotFoundry", 239, "BallotFoundry$Envelopes", "people", "[I", "BallotFoundry") (List.mem_of_getElem? (i := 6) rfl))) (fun _ h => h) rfl dX10_personOf_12 ?_
  refine lv_iload_n hx hb dX10_personOf_15 rfl (lv_at hl 1 rfl) ?_
  obtain ⟨h3, q⟩ := q
  refine g_iald hx hb hK hH 17 0 (by decide) Nat.zero_lt_one 60 rfl h3 dX10_personOf_16 ?_
  exact vx_ret (W.iret (v := (F2 17 0 p1.toNatClampNeg)) hx hb hr (fun t ht hW => ⟨⟨(F2 17 0 p1.toNatClampNeg), F2, rfl, q, gH_at ht hH⟩, hS.F ht⟩) hS.2.2 dX10_personOf_17)
abbrev rm_X10_ballots : Room := { frames := 7, cells := 1, slots := 6, locals := 111 }
abbrev q_X10_ballots (G : GP) (ad : Nat → Nat → Nat) (K : Int32 → GF → Prop) (X : String → GF → Prop) (below : List Frame) (args : Array Value) (s : State) : State → Prop := vx_MQ below (gQi G ad K) (gX G ad X) args s 1 6 (gA G)
set_option maxHeartbeats 4000000 in
set_option maxRecDepth 100000 in
theorem c_X10_ballots (l : Launch) (hfl : l.stackTraces = false) (G : GP) (ad : Nat → Nat → Nat) (F : GF) (p1 : Int32) (K : Int32 → GF → Prop) (X : String → GF → Prop) : vx_Met l yX10_ballots wsX10_ballots rm_X10_ballots (va_Pc [.ref (ad 0 0), .int p1] (fun U => gD G ad F U ∧ P_X10_ballots F p1 K X)) (gQi G ad K) (gX G ad X) 1 6 (gA G) := by
  refine vx_ofW (cc := cX10_ballots) (maxL := 2) (ret := (some .int)) (by decide) rfl ?_
  intro p e s m args below meth c s₁ Bd hml hno hv
  obtain ⟨rfl, ⟨hK, hG, hB, hH⟩, q⟩ := hv
  have hx := Bd.exec
  have hb := Bd.bytes
  have hr := Bd.returns
  have hts := atoms_spec (ws := wsX10_ballots) Bd.pre
  have hown : s.vm.findClass RX10 = some m.cls := findClass_of_methodNamed Bd.named
  have hlocks := Bd.notSynchronized
  have hS : va_S (gA G) s.heap s.heap [] := va_S.rf
  have hl := lv_entry [.ref (ad 0 0), .int p1] (n := 2) (Nat.le_of_ble_eq_true rfl)
  rw [lg_entry_eq]
  generalize (lg_sl [.ref (ad 0 0), .int p1] ++ List.replicate (2 - (lg_sl [.ref (ad 0 0), .int p1]).length) Slot.unset).toArray = ls at hl ⊢
  have hl : lv_has ls 2 [(0, .ref (ad 0 0)), (1, .int p1)] := hl
  unfold P_X10_ballots at q
  refine lv_aload_n hx hb dX10_ballots_0 rfl (lv_at hl 0 rfl) ?_
  refine lv_iload_n hx hb dX10_ballots_1 rfl (lv_at hl 1 rfl) ?_
  refine vx_callv (vx_runV (As := [.int p1]) (rest := []) ⟨hx, hb, hml, hown, hts⟩ (c_X10_needStation l hfl G ad F p1 _ _) (cwV 1 hts gX10_ballots_X10_needStation rfl rfl rfl (by decide +kernel) ⟨Nat.le_of_ble_eq_true rfl, Nat.le_of_ble_eq_true rfl⟩) ⟨fun a U g mk h => ⟨h.1, gD_blind h.2.1, h.2.2⟩, g_recv (C := RX10) (T := TX10) (N := 8) hK hH 0 0 (by decide) Nat.zero_lt_one rfl rfl, fun U hU hW => ⟨rfl, gD_at hK hG hB hH hS hU hW, q⟩⟩ rfl rfl hl.1 rfl (lv_room (Nat.le_of_ble_eq_true rfl)) dX10_ballots_2 ⟨Nat.le_of_ble_eq_true rfl, Nat.le_of_ble_eq_true rfl⟩) hS (fun _ _ h => h) (fun _ h => h) (fun _ _ h => h) (fun E ce q9 u t H locs ht hvm _ hq hz hk hS hc9 hv9 hcl9 => vx_widen (Nat.le_of_ble_eq_true rfl) (Nat.le_of_ble_eq_true rfl) (vx_out (fun x hx => (hno x hx).elim) hlocks hc9 hv9 hcl9 (fun t1 ht1 hvm1 => ⟨u, trivial, ⟨hq.1, gH_at ht1 (gH_to ht hq.2)⟩, hS.F ht1⟩) hS.2.2 (Nat.le_refl _) (Nat.le_refl _))) (fun F2 t H locs ht hvm q hB1 hz hk hS => ?_)
  have hH : gH G ad F2 H := gH_to ht hB1
  refine lv_aload_n hx hb dX10_ballots_5 rfl (lv_at hl 0 rfl) ?_
  refine g_get (ci := 14) (v := .ref (ad 10 0)) (C := RX10) (T := TX10) (N := 8) hx hb hts (fun _ h => (List.mem_cons_of_mem _ (List.mem_append_left _ (List.mem_append_left _ (List.mem_append_left _ (List.mem_append_left _ (List.mem_append_right _ h))))))) hown hK hH 0 0 (by decide) Nat.zero_lt_one rfl rfl 6 (by decide) (hts (.fieldLink RX10 43 "BallotFoundry" "election" "LBallotFoundry$Election;") (List.mem_of_getElem? (i := 1) rfl)) (fun _ h => h) rfl dX10_ballots_6 ?_
  refine g_getN (ci := 6) (v := .ref (ad 20 0)) (C := RX2) (T := TX2) (N := 10) hx hb hts (fun _ h => (List.mem_cons_of_mem _ (List.mem_append_left _ (List.mem_append_left _ (List.mem_append_left _ (List.mem_append_right _ h)))))) hown hK hH 10 0 (by decide) Nat.zero_lt_one rfl rfl 8 (by decide) (va_Nw.use rfl (hG.1 ("BallotFoundry", 217, "BallotFoundry$Election", "boxes", "[LBallotFoundry$Box;", "BallotFoundry") (List.mem_of_getElem? (i := 24) rfl))) (fun _ h => h) rfl dX10_ballots_9 ?_
  refine lv_iload_n hx hb dX10_ballots_12 rfl (lv_at hl 1 rfl) ?_
  obtain ⟨h3, q⟩ := q
  refine g_aald (a := ad 28 (p1.toNatClampNeg)) hx hb hK hH 20 0 (by decide) Nat.zero_lt_one 4 5 rfl rfl h3 rfl dX10_ballots_13 ?_
  refine g_getN (ci := 5) (v := .int (F2 28 p1.toNatClampNeg 1)) (C := RX1) (T := TX1) (N := 6) hx hb hts (fun _ h => (List.mem_cons_of_mem _ (List.mem_append_left _ (List.mem_append_left _ (List.mem_append_right _ h))))) hown hK hH 28 p1.toNatClampNeg (by decide) (gin h3) rfl rfl 1 (by decide) (va_Nw.use rfl (hG.1 ("BallotFoundry", 221, "BallotFoundry$Box", "size", "I", "BallotFoundry") (List.mem_of_getElem? (i := 14) rfl))) (fun _ h => h) rfl dX10_ballots_14 ?_
  exact vx_ret (W.iret (v := (F2 28 p1.toNatClampNeg 1)) hx hb hr (fun t ht hW => ⟨⟨(F2 28 p1.toNatClampNeg 1), F2, rfl, q, gH_at ht hH⟩, hS.F ht⟩) hS.2.2 dX10_ballots_17)
abbrev rm_X10_needClerk : Room := { frames := 6, cells := 1, slots := 6, locals := 90 }
abbrev q_X10_needClerk (G : GP) (ad : Nat → Nat → Nat) (K : GF → Prop) (X : String → GF → Prop) (below : List Frame) (args : Array Value) (s : State) : State → Prop := vx_MQ below (gQv G ad K) (gX G ad X) args s 1 6 (gA G)
set_option maxHeartbeats 4000000 in
set_option maxRecDepth 100000 in
theorem c_X10_needClerk (l : Launch) (hfl : l.stackTraces = false) (G : GP) (ad : Nat → Nat → Nat) (F : GF) (p0 : Int32) (K : GF → Prop) (X : String → GF → Prop) : vx_Met l yX10_needClerk wsX10_needClerk rm_X10_needClerk (va_Pc [.int p0] (fun U => gD G ad F U ∧ P_X10_needClerk F p0 K X)) (gQv G ad K) (gX G ad X) 1 6 (gA G) := by
  refine vx_ofW (cc := cX10_needClerk) (maxL := 1) (ret := none) (by decide) rfl ?_
  intro p e s m args below meth c s₁ Bd hml hno hv
  obtain ⟨rfl, ⟨hK, hG, hB, hH⟩, q⟩ := hv
  have hx := Bd.exec
  have hb := Bd.bytes
  have hr := Bd.returns
  have hts := atoms_spec (ws := wsX10_needClerk) Bd.pre
  have hown : s.vm.findClass RX10 = some m.cls := findClass_of_methodNamed Bd.named
  have hlocks := Bd.notSynchronized
  have hS : va_S (gA G) s.heap s.heap [] := va_S.rf
  have hl := lv_entry [.int p0] (n := 1) (Nat.le_of_ble_eq_true rfl)
  rw [lg_entry_eq]
  generalize (lg_sl [.int p0] ++ List.replicate (1 - (lg_sl [.int p0]).length) Slot.unset).toArray = ls at hl ⊢
  have hl : lv_has ls 1 [(0, .int p0)] := hl
  unfold P_X10_needClerk at q
  refine lv_iload_n hx hb dX10_needClerk_0 rfl (lv_at hl 0 rfl) ?_
  refine lv_if_lt (tgt := 9) hx hb dX10_needClerk_1 (by decide) (fun c1 => ?_) (fun c1 => ?_)
  · have q := (if_pos c1).mp q
    exact g_throwW (text := "no such clerk") hx hb hfl hno hown hts hG hS (List.mem_of_getElem? (i := 0) rfl) (List.mem_of_getElem? (i := 21) rfl) (List.mem_of_getElem? (i := 1) rfl) (List.mem_of_getElem? (i := 2) rfl) (fun _ h => (List.mem_cons_of_mem _ (List.mem_append_right _ h))) (hl.1.trans hml.symm) hlocks dX10_needClerk_9 dX10_needClerk_12 dX10_needClerk_13 dX10_needClerk_16 dX10_needClerk_19 (Nat.le_of_ble_eq_true rfl) (Nat.le_of_ble_eq_true rfl) (Nat.le_of_ble_eq_true rfl) (Nat.le_of_ble_eq_true rfl) (fun t hvm hz hk => ⟨F, trivial, ⟨q, gH_grow hH hz hk⟩, gF_grow hS hz hk⟩) hS.2.2 (Nat.le_of_ble_eq_true rfl) (Nat.le_of_ble_eq_true rfl)
  · have q := (if_neg c1).mp q
    refine lv_iload_n hx hb dX10_needClerk_4 rfl (lv_at hl 0 rfl) ?_
    refine lv_iconst (v := 4) hx hb dX10_needClerk_5 (by decide) ?_
    refine lv_icmp_lt (tgt := 20) hx hb dX10_needClerk_6 (by decide) (fun c2 => ?_) (fun c2 => ?_)
    · have q := (if_pos c2).mp q
      refine W.widen (k := 1) (n := 6) (Nat.le_of_ble_eq_true rfl) (Nat.le_of_ble_eq_true rfl) ?_
      exact vx_ret (W.vret hx hb hr (fun t ht hW => ⟨⟨F, rfl, q, gH_at ht hH⟩, hS.F ht⟩) hS.2.2 dX10_needClerk_20)
    · have q := (if_neg c2).mp q
      exact g_throwW (text := "no such clerk") hx hb hfl hno hown hts hG hS (List.mem_of_getElem? (i := 0) rfl) (List.mem_of_getElem? (i := 21) rfl) (List.mem_of_getElem? (i := 1) rfl) (List.mem_of_getElem? (i := 2) rfl) (fun _ h => (List.mem_cons_of_mem _ (List.mem_append_right _ h))) (hl.1.trans hml.symm) hlocks dX10_needClerk_9 dX10_needClerk_12 dX10_needClerk_13 dX10_needClerk_16 dX10_needClerk_19 (Nat.le_of_ble_eq_true rfl) (Nat.le_of_ble_eq_true rfl) (Nat.le_of_ble_eq_true rfl) (Nat.le_of_ble_eq_true rfl) (fun t hvm hz hk => ⟨F, trivial, ⟨q, gH_grow hH hz hk⟩, gF_grow hS hz hk⟩) hS.2.2 (Nat.le_of_ble_eq_true rfl) (Nat.le_of_ble_eq_true rfl)
abbrev rm_X10_setSlip : Room := { frames := 7, cells := 3, slots := 18, locals := 112 }
abbrev q_X10_setSlip (G : GP) (ad : Nat → Nat → Nat) (K : Int32 → GF → Prop) (X : String → GF → Prop) (below : List Frame) (args : Array Value) (s : State) : State → Prop := vx_MQ below (gQi G ad K) (gX G ad X) args s 3 18 (gA G)
set_option maxHeartbeats 4000000 in
set_option maxRecDepth 100000 in
theorem c_X10_setSlip (l : Launch) (hfl : l.stackTraces = false) (G : GP) (ad : Nat → Nat → Nat) (F : GF) (p1 : Int32) (p2 : Int32) (K : Int32 → GF → Prop) (X : String → GF → Prop) : vx_Met l yX10_setSlip wsX10_setSlip rm_X10_setSlip (va_Pc [.ref (ad 0 0), .int p1, .int p2] (fun U => gD G ad F U ∧ P_X10_setSlip F p1 p2 K X)) (gQi G ad K) (gX G ad X) 3 18 (gA G) := by
  refine vx_ofW (cc := cX10_setSlip) (maxL := 4) (ret := (some .int)) (by decide) rfl ?_
  intro p e s m args below meth c s₁ Bd hml hno hv
  obtain ⟨rfl, ⟨hK, hG, hB, hH⟩, q⟩ := hv
  have hx := Bd.exec
  have hb := Bd.bytes
  have hr := Bd.returns
  have hts := atoms_spec (ws := wsX10_setSlip) Bd.pre
  have hown : s.vm.findClass RX10 = some m.cls := findClass_of_methodNamed Bd.named
  have hlocks := Bd.notSynchronized
  have hS : va_S (gA G) s.heap s.heap [] := va_S.rf
  have hl := lv_entry [.ref (ad 0 0), .int p1, .int p2] (n := 4) (Nat.le_of_ble_eq_true rfl)
  rw [lg_entry_eq]
  generalize (lg_sl [.ref (ad 0 0), .int p1, .int p2] ++ List.replicate (4 - (lg_sl [.ref (ad 0 0), .int p1, .int p2]).length) Slot.unset).toArray = ls at hl ⊢
  have hl : lv_has ls 4 [(0, .ref (ad 0 0)), (1, .int p1), (2, .int p2)] := hl
  unfold P_X10_setSlip at q
  refine lv_iload_n hx hb dX10_setSlip_0 rfl (lv_at hl 1 rfl) ?_
  refine vx_callv (vx_runS (As := [.int p1]) (rest := []) ⟨hx, hb, hml, hown, hts⟩ (c_X10_needClerk l hfl G ad F p1 _ _) (va_cwS 1 hts gX10_setSlip_X10_needClerk rfl rfl rfl (by decide +kernel) ⟨Nat.le_of_ble_eq_true rfl, Nat.le_of_ble_eq_true rfl⟩) ⟨fun a U g mk h => ⟨h.1, gD_blind h.2.1, h.2.2⟩, fun U hU hW => ⟨rfl, gD_at hK hG hB hH hS hU hW, q⟩⟩ rfl rfl hl.1 rfl (lv_room (Nat.le_of_ble_eq_true rfl)) dX10_setSlip_1 ⟨Nat.le_of_ble_eq_true rfl, Nat.le_of_ble_eq_true rfl⟩) hS (fun _ _ h => h) (fun _ h => h) (fun _ _ h => h) (fun E ce q9 u t H locs ht hvm _ hq hz hk hS hc9 hv9 hcl9 => vx_widen (Nat.le_of_ble_eq_true rfl) (Nat.le_of_ble_eq_true rfl) (vx_out (fun x hx => (hno x hx).elim) hlocks hc9 hv9 hcl9 (fun t1 ht1 hvm1 => ⟨u, trivial, ⟨hq.1, gH_at ht1 (gH_to ht hq.2)⟩, hS.F ht1⟩) hS.2.2 (Nat.le_refl _) (Nat.le_refl _))) (fun F2 t H locs ht hvm q hB1 hz hk hS => ?_)
  have hH : gH G ad F2 H := gH_to ht hB1
  refine lv_iload_n hx hb dX10_setSlip_4 rfl (lv_at hl 2 rfl) ?_
  refine lv_iconst (v := 0) hx hb dX10_setSlip_5 (by decide) ?_
  refine lv_bipush (v := 20) hx hb dX10_setSlip_6 (by decide) ?_
  refine vx_callv (vx_runS (As := [.int p2, .int 0, .int 20]) (rest := []) ⟨hx, hb, hml, hown, hts⟩ (c_X10_needRange l hfl G ad F2 p2 0 20 _ _) (va_cwS 3 hts gX10_setSlip_X10_needRange rfl rfl rfl (by decide +kernel) ⟨Nat.le_of_ble_eq_true rfl, Nat.le_of_ble_eq_true rfl⟩) ⟨fun a U g mk h => ⟨h.1, gD_blind h.2.1, h.2.2⟩, fun U hU hW => ⟨rfl, gD_at hK hG hB hH hS hU hW, q⟩⟩ rfl rfl hl.1 rfl (lv_room (Nat.le_of_ble_eq_true rfl)) dX10_setSlip_8 ⟨Nat.le_of_ble_eq_true rfl, Nat.le_of_ble_eq_true rfl⟩) hS (fun _ _ h => h) (fun _ h => h) (fun _ _ h => h) (fun E ce q9 u t H locs ht hvm _ hq hz hk hS hc9 hv9 hcl9 => vx_widen (Nat.le_of_ble_eq_true rfl) (Nat.le_of_ble_eq_true rfl) (vx_out (fun x hx => (hno x hx).elim) hlocks hc9 hv9 hcl9 (fun t1 ht1 hvm1 => ⟨u, trivial, ⟨hq.1, gH_at ht1 (gH_to ht hq.2)⟩, hS.F ht1⟩) hS.2.2 (Nat.le_refl _) (Nat.le_refl _))) (fun F4 t H locs ht hvm q hB1 hz hk hS => ?_)
  have hH : gH G ad F4 H := gH_to ht hB1
  refine lv_iload_n hx hb dX10_setSlip_11 rfl (lv_at hl 2 rfl) ?_
  refine lv_iconst (v := 1) hx hb dX10_setSlip_12 (by decide) ?_
  refine lv_icmp_ne (tgt := 26) hx hb dX10_setSlip_13 (by decide) (fun c5 => ?_) (fun c5 => ?_)
  · have q := (if_neg c5).mp q
    refine lv_aload_n hx hb dX10_setSlip_26 rfl (lv_at hl 0 rfl) ?_
    refine g_get (ci := 14) (v := .ref (ad 9 0)) (C := RX10) (T := TX10) (N := 8) hx hb hts (fun _ h => (List.mem_cons_of_mem _ (List.mem_append_left _ (List.mem_append_left _ (List.mem_append_left _ (List.mem_append_right _ h)))))) hown hK hH 0 0 (by decide) Nat.zero_lt_one rfl rfl 4 (by decide) (hts (.fieldLink RX10 33 "BallotFoundry" "slips" "[I") (List.mem_of_getElem? (i := 3) rfl)) (fun _ h => h) rfl dX10_setSlip_27 ?_
    refine lv_iload_n hx hb dX10_setSlip_30 rfl (lv_at hl 1 rfl) ?_
    obtain ⟨h6, q⟩ := q
    refine g_iald hx hb hK hH 9 0 (by decide) Nat.zero_lt_one 4 rfl h6 dX10_setSlip_31 ?_
    refine lv_istore_n (lv' := [(3, .int (F4 9 0 p1.toNatClampNeg)), (0, .ref (ad 0 0)), (1, .int p1), (2, .int p2)]) hx hb dX10_setSlip_32 rfl hl (by decide) rfl (fun ls hl => ?_)
    refine lv_aload_n hx hb dX10_setSlip_33 rfl (lv_at hl 1 rfl) ?_
    refine g_get (ci := 14) (v := .ref (ad 9 0)) (C := RX10) (T := TX10) (N := 8) hx hb hts (fun _ h => (List.mem_cons_of_mem _ (List.mem_append_left _ (List.mem_append_left _ (List.mem_append_left _ (List.mem_append_right _ h)))))) hown hK hH 0 0 (by decide) Nat.zero_lt_one rfl rfl 4 (by decide) (hts (.fieldLink RX10 33 "BallotFoundry" "slips" "[I") (List.mem_of_getElem? (i := 3) rfl)) (fun _ h => h) rfl dX10_setSlip_34 ?_
    refine lv_iload_n hx hb dX10_setSlip_37 rfl (lv_at hl 2 rfl) ?_
    refine lv_iload_n hx hb dX10_setSlip_38 rfl (lv_at hl 3 rfl) ?_
    obtain ⟨h7, q⟩ := q
    refine g_iast hx hb hK hH hS 9 0 (by decide) Nat.zero_lt_one (by decide) 4 (fun _ => rfl) h7 dX10_setSlip_39 (fun H locs hH hS => ?_)
    obtain ⟨F8, eF8⟩ : ∃ z, z = fs F4 9 0 p1.toNatClampNeg p2 := ⟨_, rfl⟩
    have q := q F8 eF8
    rw [← eF8] at hH
    refine lv_iload_n hx hb dX10_setSlip_40 rfl (lv_at hl 0 rfl) ?_
    refine W.widen (k := 3) (n := 18) (Nat.le_of_ble_eq_true rfl) (Nat.le_of_ble_eq_true rfl) ?_
    exact vx_ret (W.iret (v := (F4 9 0 p1.toNatClampNeg)) hx hb hr (fun t ht hW => ⟨⟨(F4 9 0 p1.toNatClampNeg), F8, rfl, q, gH_at ht hH⟩, hS.F ht⟩) hS.2.2 dX10_setSlip_41)
  · have q := (if_pos c5).mp q
    exact g_throw (text := "a slip at each ballot") hx hb hfl hno hown hts hG hS (List.mem_of_getElem? (i := 1) rfl) (List.mem_of_getElem? (i := 22) rfl) (List.mem_of_getElem? (i := 1) rfl) (List.mem_of_getElem? (i := 2) rfl) (fun _ h => (List.mem_cons_of_mem _ (List.mem_append_left _ (List.mem_append_left _ (List.mem_append_right _ h))))) (hl.1.trans hml.symm) hlocks dX10_setSlip_16 dX10_setSlip_19 dX10_setSlip_20 dX10_setSlip_22 dX10_setSlip_25 (Nat.le_of_ble_eq_true rfl) (Nat.le_of_ble_eq_true rfl) (Nat.le_of_ble_eq_true rfl) (Nat.le_of_ble_eq_true rfl) (fun t hvm hz hk => ⟨F4, trivial, ⟨q, gH_grow hH hz hk⟩, gF_grow hS hz hk⟩) hS.2.2 (Nat.le_of_ble_eq_true rfl) (Nat.le_of_ble_eq_true rfl)
abbrev rm_X1_hasNumbers : Room := { frames := 0, cells := 0, slots := 0, locals := 0 }
abbrev q_X1_hasNumbers (G : GP) (ad : Nat → Nat → Nat) (K : Int32 → GF → Prop) (below : List Frame) (args : Array Value) (s : State) : State → Prop := MQ below (gQi G ad K) args s 0 0 (gA G)
set_option maxHeartbeats 4000000 in
set_option maxRecDepth 100000 in
theorem c_X1_hasNumbers (l : Launch) (G : GP) (ad : Nat → Nat → Nat) (F : GF) (i0 : Nat) (hi0 : i0 < 5) (K : Int32 → GF → Prop) : Met l yX1_hasNumbers wsX1_hasNumbers rm_X1_hasNumbers (va_Pc [.ref (ad 28 i0)] (fun U => gD G ad F U ∧ P_X1_hasNumbers F i0 K)) (gQi G ad K) 0 0 (gA G) := by
  refine Met.ofW (cc := cX1_hasNumbers) (maxL := 1) (ret := (some .boolean)) (by decide) rfl ?_
  intro p e s m args below meth c s₁ Bd hml hv
  obtain ⟨rfl, ⟨hK, hG, hB, hH⟩, q⟩ := hv
  have hx := Bd.exec
  have hb := Bd.bytes
  have hr := Bd.returns
  have hts := atoms_spec (ws := wsX1_hasNumbers) Bd.pre
  have hown : s.vm.findClass RX1 = some m.cls := findClass_of_methodNamed Bd.named
  have hlocks := Bd.notSynchronized
  have hS : va_S (gA G) s.heap s.heap [] := va_S.rf
  have hl := lv_entry [.ref (ad 28 i0)] (n := 1) (Nat.le_of_ble_eq_true rfl)
  rw [lg_entry_eq]
  generalize (lg_sl [.ref (ad 28 i0)] ++ List.replicate (1 - (lg_sl [.ref (ad 28 i0)]).length) Slot.unset).toArray = ls at hl ⊢
  have hl : lv_has ls 1 [(0, .ref (ad 28 i0))] := hl
  unfold P_X1_hasNumbers at q
  refine lv_aload_n hx hb dX1_hasNumbers_0 rfl (lv_at hl 0 rfl) ?_
  refine g_get (ci := 5) (v := .int (F 28 i0 5)) (C := RX1) (T := TX1) (N := 6) hx hb hts (fun _ h => (List.mem_cons_of_mem _ (List.mem_append_right _ h))) hown hK hH 28 i0 (by decide) hi0 rfl rfl 5 (by decide) (hts (.fieldLink RX1 30 "BallotFoundry$Box" "settledBy" "I") (List.mem_of_getElem? (i := 1) rfl)) (fun _ h => h) rfl dX1_hasNumbers_1 ?_
  refine lv_iconst (v := (-1)) hx hb dX1_hasNumbers_4 (by decide) ?_
  refine lv_icmp_eq (tgt := 12) hx hb dX1_hasNumbers_5 (by decide) (fun c1 => ?_) (fun c1 => ?_)
  · have q := (if_pos c1).mp q
    refine lv_iconst (v := 0) hx hb dX1_hasNumbers_12 (by decide) ?_
    exact (W.zret (v := 0) hx hb hr rfl (fun t ht hW => ⟨⟨0, F, rfl, q, gH_at ht hH⟩, hS.F ht⟩) hS.2.2 dX1_hasNumbers_13)
  · have q := (if_neg c1).mp q
    refine lv_iconst (v := 1) hx hb dX1_hasNumbers_8 (by decide) ?_
    refine lv_goto (tgt := 13) hx hb dX1_hasNumbers_9 (by decide) ?_
    exact (W.zret (v := 1) hx hb hr rfl (fun t ht hW => ⟨⟨1, F, rfl, q, gH_at ht hH⟩, hS.F ht⟩) hS.2.2 dX1_hasNumbers_13)
abbrev rm_X1_readBallots : Room := { frames := 1, cells := 0, slots := 0, locals := 23 }
abbrev q_X1_readBallots (G : GP) (ad : Nat → Nat → Nat) (K : GF → Prop) (below : List Frame) (args : Array Value) (s : State) : State → Prop := MQ below (gQv G ad K) args s 0 0 (gA G)
set_option maxHeartbeats 4000000 in
set_option maxRecDepth 100000 in
theorem c_X1_readBallots (l : Launch) (G : GP) (ad : Nat → Nat → Nat) (F : GF) (i0 : Nat) (j0 : Nat) (p2 : Int32) (hi0 : i0 < 5) (hj0 : j0 < 40) (K : GF → Prop) : Met l yX1_readBallots wsX1_readBallots rm_X1_readBallots (va_Pc [.ref (ad 28 i0), .ref (ad 32 j0), .int p2] (fun U => gD G ad F U ∧ P_X1_readBallots F i0 j0 p2 K)) (gQv G ad K) 0 0 (gA G) := by
  refine Met.ofW (cc := cX1_readBallots) (maxL := 6) (ret := none) (by decide) rfl ?_
  intro p e s m args below meth c s₁ Bd hml hv
  obtain ⟨rfl, ⟨hK, hG, hB, hH⟩, q⟩ := hv
  have hx := Bd.exec
  have hb := Bd.bytes
  have hr := Bd.returns
  have hts := atoms_spec (ws := wsX1_readBallots) Bd.pre
  have hown : s.vm.findClass RX1 = some m.cls := findClass_of_methodNamed Bd.named
  have hlocks := Bd.notSynchronized
  have hS : va_S (gA G) s.heap s.heap [] := va_S.rf
  have hl := lv_entry [.ref (ad 28 i0), .ref (ad 32 j0), .int p2] (n := 6) (Nat.le_of_ble_eq_true rfl)
  rw [lg_entry_eq]
  generalize (lg_sl [.ref (ad 28 i0), .ref (ad 32 j0), .int p2] ++ List.replicate (6 - (lg_sl [.ref (ad 28 i0), .ref (ad 32 j0), .int p2]).length) Slot.unset).toArray = ls at hl ⊢
  have hl : lv_has ls 6 [(0, .ref (ad 28 i0)), (1, .ref (ad 32 j0)), (2, .int p2)] := hl
  show W p l e rm_X1_readBallots s m ([.ref (ad 28 i0), .ref (ad 32 j0), .int p2] : List Value).toArray below meth c s.heap [] 0 0 (q_X1_readBallots G ad K below ([.ref (ad 28 i0), .ref (ad 32 j0), .int p2] : List Value).toArray s) _
  have t_81 : ∀ (k7 : GF → Int32 → Int32 → Prop), (∀ (F : GF) (x2 : Int32) (x3 : Int32) (H : Heap) (locs : List Loc) (ls : Array Slot), gH G ad F H → va_S (gA G) s.heap H locs → lv_has ls 6 [(0, .ref (ad 28 i0)), (1, .ref (ad 32 j0)), (2, .int x2), (3, .int x3)] → k7 F x2 x3 → W p l e rm_X1_readBallots s m ([.ref (ad 28 i0), .ref (ad 32 j0), .int p2] : List Value).toArray below meth c H locs 0 0 (q_X1_readBallots G ad K below ([.ref (ad 28 i0), .ref (ad 32 j0), .int p2] : List Value).toArray s) (F0 m 7 ls [])) → ∀ (F : GF) (x2 : Int32) (x3 : Int32) (H : Heap) (locs : List Loc) (ls : Array Slot), gH G ad F H → va_S (gA G) s.heap H locs → lv_has ls 6 [(0, .ref (ad 28 i0)), (1, .ref (ad 32 j0)), (2, .int x2), (3, .int x3)] → (P_X1_readBallots_81 i0 j0 k7 K) F x2 x3 → W p l e rm_X1_readBallots s m ([.ref (ad 28 i0), .ref (ad 32 j0), .int p2] : List Value).toArray below meth c H locs 0 0 (q_X1_readBallots G ad K below ([.ref (ad 28 i0), .ref (ad 32 j0), .int p2] : List Value).toArray s) (F0 m 81 ls []) := by
    intro k7 hk7 F x2 x3 H locs ls hH hS hl q
    unfold P_X1_readBallots_81 at q
    refine lv_iinc (v := x3 + 1) (lv' := [(3, .int (x3 + 1)), (0, .ref (ad 28 i0)), (1, .ref (ad 32 j0)), (2, .int x2)]) hx hb dX1_readBallots_81 hl (k := 3) rfl rfl (by decide) rfl (fun ls hl => ?_)
    refine lv_goto (tgt := 7) hx hb dX1_readBallots_84 (by decide) ?_
    exact hk7 F x2 (x3 + 1) _ _ _ hH hS (lv_sub hl [1, 2, 3, 0] rfl) q
  have t_59 : ∀ (k7 : GF → Int32 → Int32 → Prop), (∀ (F : GF) (x2 : Int32) (x3 : Int32) (H : Heap) (locs : List Loc) (ls : Array Slot), gH G ad F H → va_S (gA G) s.heap H locs → lv_has ls 6 [(0, .ref (ad 28 i0)), (1, .ref (ad 32 j0)), (2, .int x2), (3, .int x3)] → k7 F x2 x3 → W p l e rm_X1_readBallots s m ([.ref (ad 28 i0), .ref (ad 32 j0), .int p2] : List Value).toArray below meth c H locs 0 0 (q_X1_readBallots G ad K below ([.ref (ad 28 i0), .ref (ad 32 j0), .int p2] : List Value).toArray s) (F0 m 7 ls [])) → ∀ (F : GF) (x2 : Int32) (x3 : Int32) (s0 : Int32) (H : Heap) (locs : List Loc) (ls : Array Slot), gH G ad F H → va_S (gA G) s.heap H locs → lv_has ls 6 [(0, .ref (ad 28 i0)), (1, .ref (ad 32 j0)), (2, .int x2), (3, .int x3)] → (P_X1_readBallots_59 i0 j0 k7 K) F x2 x3 s0 → W p l e rm_X1_readBallots s m ([.ref (ad 28 i0), .ref (ad 32 j0), .int p2] : List Value).toArray below meth c H locs 0 0 (q_X1_readBallots G ad K below ([.ref (ad 28 i0), .ref (ad 32 j0), .int p2] : List Value).toArray s) (F0 m 59 ls [.int s0]) := by
    intro k7 hk7 F x2 x3 s0 H locs ls hH hS hl q
    unfold P_X1_readBallots_59 at q
    refine lv_istore (lv' := [(5, .int s0), (0, .ref (ad 28 i0)), (1, .ref (ad 32 j0)), (2, .int x2), (3, .int x3)]) hx hb dX1_readBallots_59 hl (by decide) rfl (fun ls hl => ?_)
    refine lv_iload hx hb dX1_readBallots_61 (lv_at hl 0 rfl) ?_
    refine lv_if_lt (tgt := 81) hx hb dX1_readBallots_63 (by decide) (fun c7 => ?_) (fun c7 => ?_)
    · have q := (if_pos c7).mp q
      exact t_81 k7 hk7 F x2 x3 _ _ _ hH hS (lv_sub hl [1, 2, 3, 4] rfl) q
    · have q := (if_neg c7).mp q
      refine lv_iload hx hb dX1_readBallots_66 (lv_at hl 0 rfl) ?_
      refine lv_aload_n hx hb dX1_readBallots_68 rfl (lv_at hl 2 rfl) ?_
      refine g_alen (v := 6) hx hb hK hH 32 j0 (by decide) hj0 2 rfl rfl (by decide) dX1_readBallots_69 ?_
      refine lv_icmp_ge (tgt := 81) hx hb dX1_readBallots_70 (by decide) (fun c8 => ?_) (fun c8 => ?_)
      · have q := (if_pos c8).mp q
        exact t_81 k7 hk7 F x2 x3 _ _ _ hH hS (lv_sub hl [1, 2, 3, 4] rfl) q
      · have q := (if_neg c8).mp q
        refine lv_aload_n hx hb dX1_readBallots_73 rfl (lv_at hl 2 rfl) ?_
        refine lv_iload hx hb dX1_readBallots_74 (lv_at hl 0 rfl) ?_
        refine lv_dup2_11 hx hb dX1_readBallots_76 rfl rfl ?_
        obtain ⟨h9, q⟩ := q
        refine g_iald hx hb hK hH 32 j0 (by decide) hj0 6 rfl h9 dX1_readBallots_77 ?_
        refine lv_iconst (v := 1) hx hb dX1_readBallots_78 (by decide) ?_
        refine lv_iadd hx hb dX1_readBallots_79 ?_
        obtain ⟨h10, q⟩ := q
        refine g_iast hx hb hK hH hS 32 j0 (by decide) hj0 (by decide) 6 (fun _ => rfl) h10 dX1_readBallots_80 (fun H locs hH hS => ?_)
        obtain ⟨F11, eF11⟩ : ∃ z, z = fs F 32 j0 s0.toNatClampNeg ((F 32 j0 s0.toNatClampNeg) + 1) := ⟨_, rfl⟩
        have q := q F11 eF11
        rw [← eF11] at hH
        exact t_81 k7 hk7 F11 x2 x3 _ _ _ hH hS (lv_sub hl [1, 2, 3, 4] rfl) q
  have t_32 : ∀ (k7 : GF → Int32 → Int32 → Prop), (∀ (F : GF) (x2 : Int32) (x3 : Int32) (H : Heap) (locs : List Loc) (ls : Array Slot), gH G ad F H → va_S (gA G) s.heap H locs → lv_has ls 6 [(0, .ref (ad 28 i0)), (1, .ref (ad 32 j0)), (2, .int x2), (3, .int x3)] → k7 F x2 x3 → W p l e rm_X1_readBallots s m ([.ref (ad 28 i0), .ref (ad 32 j0), .int p2] : List Value).toArray below meth c H locs 0 0 (q_X1_readBallots G ad K below ([.ref (ad 28 i0), .ref (ad 32 j0), .int p2] : List Value).toArray s) (F0 m 7 ls [])) → ∀ (F : GF) (x2 : Int32) (x3 : Int32) (s0 : Int32) (H : Heap) (locs : List Loc) (ls : Array Slot), gH G ad F H → va_S (gA G) s.heap H locs → lv_has ls 6 [(0, .ref (ad 28 i0)), (1, .ref (ad 32 j0)), (2, .int x2), (3, .int x3)] → (P_X1_readBallots_32 i0 j0 k7 K) F x2 x3 s0 → W p l e rm_X1_readBallots s m ([.ref (ad 28 i0), .ref (ad 32 j0), .int p2] : List Value).toArray below meth c H locs 0 0 (q_X1_readBallots G ad K below ([.ref (ad 28 i0), .ref (ad 32 j0), .int p2] : List Value).toArray s) (F0 m 32 ls [.int s0]) := by
    intro k7 hk7 F x2 x3 s0 H locs ls hH hS hl q
    unfold P_X1_readBallots_32 at q
    refine lv_istore (lv' := [(4, .int s0), (0, .ref (ad 28 i0)), (1, .ref (ad 32 j0)), (2, .int x2), (3, .int x3)]) hx hb dX1_readBallots_32 hl (by decide) rfl (fun ls hl => ?_)
    refine lv_iload hx hb dX1_readBallots_34 (lv_at hl 0 rfl) ?_
    refine lv_if_eq (tgt := 53) hx hb dX1_readBallots_36 (by decide) (fun c5 => ?_) (fun c5 => ?_)
    · have q := (if_pos c5).mp q
      refine lv_aload_n hx hb dX1_readBallots_53 rfl (lv_at hl 1 rfl) ?_
      refine g_get (ci := 5) (v := .ref (ad 29 i0)) (C := RX1) (T := TX1) (N := 6) hx hb hts (fun _ h => (List.mem_cons_of_mem _ (List.mem_append_left _ (List.mem_append_right _ h)))) hown hK hH 28 i0 (by decide) hi0 rfl rfl 0 (by decide) (hts (.fieldLink RX1 9 "BallotFoundry$Box" "ballots" "[I") (List.mem_of_getElem? (i := 2) rfl)) (fun _ h => h) rfl dX1_readBallots_54 ?_
      refine lv_iload_n hx hb dX1_readBallots_57 rfl (lv_at hl 4 rfl) ?_
      obtain ⟨h6, q⟩ := q
      refine g_iald hx hb hK hH 29 i0 (by decide) hi0 20 rfl h6 dX1_readBallots_58 ?_
      exact t_59 k7 hk7 F x2 x3 (F 29 i0 x3.toNatClampNeg) _ _ _ hH hS (lv_sub hl [1, 2, 3, 4] rfl) q
    · have q := (if_neg c5).mp q
      refine lv_aload_n hx hb dX1_readBallots_39 rfl (lv_at hl 1 rfl) ?_
      refine g_get (ci := 5) (v := .ref (ad 29 i0)) (C := RX1) (T := TX1) (N := 6) hx hb hts (fun _ h => (List.mem_cons_of_mem _ (List.mem_append_left _ (List.mem_append_right _ h)))) hown hK hH 28 i0 (by decide) hi0 rfl rfl 0 (by decide) (hts (.fieldLink RX1 9 "BallotFoundry$Box" "ballots" "[I") (List.mem_of_getElem? (i := 2) rfl)) (fun _ h => h) rfl dX1_readBallots_40 ?_
      refine lv_iload_n hx hb dX1_readBallots_43 rfl (lv_at hl 4 rfl) ?_
      obtain ⟨h12, q⟩ := q
      refine g_iald hx hb hK hH 29 i0 (by decide) hi0 20 rfl h12 dX1_readBallots_44 ?_
      refine lv_iconst (v := 1) hx hb dX1_readBallots_45 (by decide) ?_
      refine lv_iadd hx hb dX1_readBallots_46 ?_
      refine lv_bipush (v := 6) hx hb dX1_readBallots_47 (by decide) ?_
      refine lv_irem hx hb dX1_readBallots_49 (by decide) ?_
      refine lv_goto (tgt := 59) hx hb dX1_readBallots_50 (by decide) ?_
      exact t_59 k7 hk7 F x2 x3 (((F 29 i0 x3.toNatClampNeg) + 1) - ((F 29 i0 x3.toNatClampNeg) + 1) / 6 * 6) _ _ _ hH hS (lv_sub hl [1, 2, 3, 4] rfl) q
  have t_31 : ∀ (k7 : GF → Int32 → Int32 → Prop), (∀ (F : GF) (x2 : Int32) (x3 : Int32) (H : Heap) (locs : List Loc) (ls : Array Slot), gH G ad F H → va_S (gA G) s.heap H locs → lv_has ls 6 [(0, .ref (ad 28 i0)), (1, .ref (ad 32 j0)), (2, .int x2), (3, .int x3)] → k7 F x2 x3 → W p l e rm_X1_readBallots s m ([.ref (ad 28 i0), .ref (ad 32 j0), .int p2] : List Value).toArray below meth c H locs 0 0 (q_X1_readBallots G ad K below ([.ref (ad 28 i0), .ref (ad 32 j0), .int p2] : List Value).toArray s) (F0 m 7 ls [])) → ∀ (F : GF) (x2 : Int32) (x3 : Int32) (H : Heap) (locs : List Loc) (ls : Array Slot), gH G ad F H → va_S (gA G) s.heap H locs → lv_has ls 6 [(0, .ref (ad 28 i0)), (1, .ref (ad 32 j0)), (2, .int x2), (3, .int x3)] → (P_X1_readBallots_31 i0 j0 k7 K) F x2 x3 → W p l e rm_X1_readBallots s m ([.ref (ad 28 i0), .ref (ad 32 j0), .int p2] : List Value).toArray below meth c H locs 0 0 (q_X1_readBallots G ad K below ([.ref (ad 28 i0), .ref (ad 32 j0), .int p2] : List Value).toArray s) (F0 m 31 ls []) := by
    intro k7 hk7 F x2 x3 H locs ls hH hS hl q
    unfold P_X1_readBallots_31 at q
    refine lv_iconst (v := 0) hx hb dX1_readBallots_31 (by decide) ?_
    exact t_32 k7 hk7 F x2 x3 0 _ _ _ hH hS (lv_sub hl [0, 1, 2, 3] rfl) q
  have t_7 : ∀ n : Nat, ∀ (F : GF) (x2 : Int32) (x3 : Int32) (H : Heap) (locs : List Loc) (ls : Array Slot), gH G ad F H → va_S (gA G) s.heap H locs → lv_has ls 6 [(0, .ref (ad 28 i0)), (1, .ref (ad 32 j0)), (2, .int x2), (3, .int x3)] → (P_X1_readBallots_7 i0 j0 K n) F x2 x3 → W p l e rm_X1_readBallots s m ([.ref (ad 28 i0), .ref (ad 32 j0), .int p2] : List Value).toArray below meth c H locs 0 0 (q_X1_readBallots G ad K below ([.ref (ad 28 i0), .ref (ad 32 j0), .int p2] : List Value).toArray s) (F0 m 7 ls []) := by
    intro n
    induction n with
    | zero =>
      intro F x2 x3 H locs ls hH hS hl q
      exact False.elim q
    | succ n ih =>
      intro F x2 x3 H locs ls hH hS hl q
      rw [P_X1_readBallots_7] at q
      refine lv_iload_n hx hb dX1_readBallots_7 rfl (lv_at hl 3 rfl) ?_
      refine lv_aload_n hx hb dX1_readBallots_8 rfl (lv_at hl 0 rfl) ?_
      refine g_get (ci := 5) (v := .int (F 28 i0 1)) (C := RX1) (T := TX1) (N := 6) hx hb hts (fun _ h => (List.mem_cons_of_mem _ (List.mem_append_left _ (List.mem_append_right _ h)))) hown hK hH 28 i0 (by decide) hi0 rfl rfl 1 (by decide) (hts (.fieldLink RX1 15 "BallotFoundry$Box" "size" "I") (List.mem_of_getElem? (i := 1) rfl)) (fun _ h => h) rfl dX1_readBallots_9 ?_
      refine lv_icmp_ge (tgt := 87) hx hb dX1_readBallots_12 (by decide) (fun c3 => ?_) (fun c3 => ?_)
      · have q := (if_pos c3).mp q
        exact (W.vret hx hb hr (fun t ht hW => ⟨⟨F, rfl, q, gH_at ht hH⟩, hS.F ht⟩) hS.2.2 dX1_readBallots_87)
      · have q := (if_neg c3).mp q
        refine lv_iload_n hx hb dX1_readBallots_15 rfl (lv_at hl 2 rfl) ?_
        refine lv_if_le (tgt := 31) hx hb dX1_readBallots_16 (by decide) (fun c4 => ?_) (fun c4 => ?_)
        · have q := (if_pos c4).mp q
          exact t_31 (fun F a0 a1 => P_X1_readBallots_7 i0 j0 K n F a0 a1) ih F x2 x3 _ _ _ hH hS (lv_sub hl [0, 1, 2, 3] rfl) q
        · have q := (if_neg c4).mp q
          refine lv_iload_n hx hb dX1_readBallots_19 rfl (lv_at hl 3 rfl) ?_
          refine lv_iconst (v := 1) hx hb dX1_readBallots_20 (by decide) ?_
          refine lv_iadd hx hb dX1_readBallots_21 ?_
          refine lv_iload_n hx hb dX1_readBallots_22 rfl (lv_at hl 2 rfl) ?_
          obtain ⟨h13, q⟩ := q
          refine lv_irem hx hb dX1_readBallots_23 h13 ?_
          refine lv_if_ne (tgt := 31) hx hb dX1_readBallots_24 (by decide) (fun c14 => ?_) (fun c14 => ?_)
          · have q := (if_neg c14).mp q
            exact t_31 (fun F a0 a1 => P_X1_readBallots_7 i0 j0 K n F a0 a1) ih F x2 x3 _ _ _ hH hS (lv_sub hl [0, 1, 2, 3] rfl) q
          · have q := (if_pos c14).mp q
            refine lv_iconst (v := 1) hx hb dX1_readBallots_27 (by decide) ?_
            refine lv_goto (tgt := 32) hx hb dX1_readBallots_28 (by decide) ?_
            exact t_32 (fun F a0 a1 => P_X1_readBallots_7 i0 j0 K n F a0 a1) ih F x2 x3 1 _ _ _ hH hS (lv_sub hl [0, 1, 2, 3] rfl) q
  unfold P_X1_readBallots at q
  refine lv_aload_n hx hb dX1_readBallots_0 rfl (lv_at hl 1 rfl) ?_
  refine lv_iconst (v := 0) hx hb dX1_readBallots_1 (by decide) ?_
  refine va_callv (va_runS (As := [.ref (ad 32 j0), .int 0]) (rest := []) ⟨hx, hb, hml, hown, hts⟩ (c_J7_fill_53178 l G ad F 32 j0 6 0 (by decide) hj0 (by decide) (by decide) (fun _ => rfl)) (va_cwS 2 hts gX1_readBallots_J7_fill_53178 rfl rfl rfl (by decide +kernel) ⟨Nat.le_of_ble_eq_true rfl, Nat.le_of_ble_eq_true rfl⟩) ⟨fun a U g mk h => ⟨h.1, gD_blind h.2.1, h.2.2⟩, fun U hU hW => ⟨rfl, gD_at hK hG hB hH hS hU hW, trivial⟩⟩ rfl rfl hl.1 rfl (lv_room (Nat.le_of_ble_eq_true rfl)) dX1_readBallots_2 ⟨Nat.le_of_ble_eq_true rfl, Nat.le_of_ble_eq_true rfl⟩) hS (fun _ _ h => h) (fun _ h => h) (fun F2 t H locs ht hvm q9 hB1 hz hk hS => ?_)
  have q := q F2 q9
  have hH : gH G ad F2 H := gH_to ht hB1
  refine lv_iconst (v := 0) hx hb dX1_readBallots_5 (by decide) ?_
  refine lv_istore_n (lv' := [(3, .int 0), (0, .ref (ad 28 i0)), (1, .ref (ad 32 j0)), (2, .int p2)]) hx hb dX1_readBallots_6 rfl hl (by decide) rfl (fun ls hl => ?_)
  obtain ⟨nn, q⟩ := q
  exact t_7 nn F2 p2 0 _ _ _ hH hS (lv_sub hl [1, 2, 3, 0] rfl) q
abbrev rm_X1_isAlike : Room := { frames := 0, cells := 0, slots := 0, locals := 0 }
abbrev q_X1_isAlike (G : GP) (ad : Nat → Nat → Nat) (K : Int32 → GF → Prop) (below : List Frame) (args : Array Value) (s : State) : State → Prop := MQ below (gQi G ad K) args s 0 0 (gA G)
set_option maxHeartbeats 4000000 in
set_option maxRecDepth 100000 in
theorem c_X1_isAlike (l : Launch) (G : GP) (ad : Nat → Nat → Nat) (F : GF) (j0 : Nat) (j1 : Nat) (hj0 : j0 < 40) (hj1 : j1 < 40) (K : Int32 → GF → Prop) : Met l yX1_isAlike wsX1_isAlike rm_X1_isAlike (va_Pc [.ref (ad 32 j0), .ref (ad 32 j1)] (fun U => gD G ad F U ∧ P_X1_isAlike F j0 j1 K)) (gQi G ad K) 0 0 (gA G) := by
  refine Met.ofW (cc := cX1_isAlike) (maxL := 3) (ret := (some .boolean)) (by decide) rfl ?_
  intro p e s m args below meth c s₁ Bd hml hv
  obtain ⟨rfl, ⟨hK, hG, hB, hH⟩, q⟩ := hv
  have hx := Bd.exec
  have hb := Bd.bytes
  have hr := Bd.returns
  have hts := atoms_spec (ws := wsX1_isAlike) Bd.pre
  have hown : s.vm.findClass RX1 = some m.cls := findClass_of_methodNamed Bd.named
  have hlocks := Bd.notSynchronized
  have hS : va_S (gA G) s.heap s.heap [] := va_S.rf
  have hl := lv_entry [.ref (ad 32 j0), .ref (ad 32 j1)] (n := 3) (Nat.le_of_ble_eq_true rfl)
  rw [lg_entry_eq]
  generalize (lg_sl [.ref (ad 32 j0), .ref (ad 32 j1)] ++ List.replicate (3 - (lg_sl [.ref (ad 32 j0), .ref (ad 32 j1)]).length) Slot.unset).toArray = ls at hl ⊢
  have hl : lv_has ls 3 [(0, .ref (ad 32 j0)), (1, .ref (ad 32 j1))] := hl
  show W p l e rm_X1_isAlike s m ([.ref (ad 32 j0), .ref (ad 32 j1)] : List Value).toArray below meth c s.heap [] 0 0 (q_X1_isAlike G ad K below ([.ref (ad 32 j0), .ref (ad 32 j1)] : List Value).toArray s) _
  have t_2 : ∀ n : Nat, ∀ (F : GF) (x2 : Int32) (H : Heap) (locs : List Loc) (ls : Array Slot), gH G ad F H → va_S (gA G) s.heap H locs → lv_has ls 3 [(0, .ref (ad 32 j0)), (1, .ref (ad 32 j1)), (2, .int x2)] → (P_X1_isAlike_2 j0 j1 K n) F x2 → W p l e rm_X1_isAlike s m ([.ref (ad 32 j0), .ref (ad 32 j1)] : List Value).toArray below meth c H locs 0 0 (q_X1_isAlike G ad K below ([.ref (ad 32 j0), .ref (ad 32 j1)] : List Value).toArray s) (F0 m 2 ls []) := by
    intro n
    induction n with
    | zero =>
      intro F x2 H locs ls hH hS hl q
      exact False.elim q
    | succ n ih =>
      intro F x2 H locs ls hH hS hl q
      rw [P_X1_isAlike_2] at q
      refine lv_iload_n hx hb dX1_isAlike_2 rfl (lv_at hl 2 rfl) ?_
      refine lv_aload_n hx hb dX1_isAlike_3 rfl (lv_at hl 0 rfl) ?_
      refine g_alen (v := 6) hx hb hK hH 32 j0 (by decide) hj0 2 rfl rfl (by decide) dX1_isAlike_4 ?_
      refine lv_icmp_ge (tgt := 31) hx hb dX1_isAlike_5 (by decide) (fun c1 => ?_) (fun c1 => ?_)
      · have q := (if_pos c1).mp q
        refine lv_iconst (v := 1) hx hb dX1_isAlike_31 (by decide) ?_
        exact (W.zret (v := 1) hx hb hr rfl (fun t ht hW => ⟨⟨1, F, rfl, q, gH_at ht hH⟩, hS.F ht⟩) hS.2.2 dX1_isAlike_32)
      · have q := (if_neg c1).mp q
        refine lv_iload_n hx hb dX1_isAlike_8 rfl (lv_at hl 2 rfl) ?_
        refine lv_aload_n hx hb dX1_isAlike_9 rfl (lv_at hl 1 rfl) ?_
        refine g_alen (v := 6) hx hb hK hH 32 j1 (by decide) hj1 2 rfl rfl (by decide) dX1_isAlike_10 ?_
        refine lv_icmp_ge (tgt := 31) hx hb dX1_isAlike_11 (by decide) (fun c2 => ?_) (fun c2 => ?_)
        · have q := (if_pos c2).mp q
          refine lv_iconst (v := 1) hx hb dX1_isAlike_31 (by decide) ?_
          exact (W.zret (v := 1) hx hb hr rfl (fun t ht hW => ⟨⟨1, F, rfl, q, gH_at ht hH⟩, hS.F ht⟩) hS.2.2 dX1_isAlike_32)
        · have q := (if_neg c2).mp q
          refine lv_aload_n hx hb dX1_isAlike_14 rfl (lv_at hl 0 rfl) ?_
          refine lv_iload_n hx hb dX1_isAlike_15 rfl (lv_at hl 2 rfl) ?_
          obtain ⟨h3, q⟩ := q
          refine g_iald hx hb hK hH 32 j0 (by decide) hj0 6 rfl h3 dX1_isAlike_16 ?_
          refine lv_aload_n hx hb dX1_isAlike_17 rfl (lv_at hl 1 rfl) ?_
          refine lv_iload_n hx hb dX1_isAlike_18 rfl (lv_at hl 2 rfl) ?_
          obtain ⟨h4, q⟩ := q
          refine g_iald hx hb hK hH 32 j1 (by decide) hj1 6 rfl h4 dX1_isAlike_19 ?_
          refine lv_icmp_eq (tgt := 25) hx hb dX1_isAlike_20 (by decide) (fun c5 => ?_) (fun c5 => ?_)
          · have q := (if_pos c5).mp q
            refine lv_iinc (v := x2 + 1) (lv' := [(2, .int (x2 + 1)), (0, .ref (ad 32 j0)), (1, .ref (ad 32 j1))]) hx hb dX1_isAlike_25 hl (k := 2) rfl rfl (by decide) rfl (fun ls hl => ?_)
            refine lv_goto (tgt := 2) hx hb dX1_isAlike_28 (by decide) ?_
            exact ih F (x2 + 1) _ _ _ hH hS (lv_sub hl [1, 2, 0] rfl) q
          · have q := (if_neg c5).mp q
            refine lv_iconst (v := 0) hx hb dX1_isAlike_23 (by decide) ?_
            exact (W.zret (v := 0) hx hb hr rfl (fun t ht hW => ⟨⟨0, F, rfl, q, gH_at ht hH⟩, hS.F ht⟩) hS.2.2 dX1_isAlike_24)
  unfold P_X1_isAlike at q
  refine lv_iconst (v := 0) hx hb dX1_isAlike_0 (by decide) ?_
  refine lv_istore_n (lv' := [(2, .int 0), (0, .ref (ad 32 j0)), (1, .ref (ad 32 j1))]) hx hb dX1_isAlike_1 rfl hl (by decide) rfl (fun ls hl => ?_)
  obtain ⟨nn, q⟩ := q
  exact t_2 nn F 0 _ _ _ hH hS (lv_sub hl [1, 2, 0] rfl) q
abbrev rm_X1_countBy : Room := { frames := 2, cells := 0, slots := 0, locals := 48 }
abbrev q_X1_countBy (G : GP) (ad : Nat → Nat → Nat) (K : GF → Prop) (below : List Frame) (args : Array Value) (s : State) : State → Prop := MQ below (gQv G ad K) args s 0 0 (gA G)
set_option maxHeartbeats 4000000 in
set_option maxRecDepth 100000 in
theorem c_X1_countBy (l : Launch) (G : GP) (ad : Nat → Nat → Nat) (F : GF) (i0 : Nat) (p1 : Int32) (p2 : Int32) (hi0 : i0 < 5) (K : GF → Prop) : Met l yX1_countBy wsX1_countBy rm_X1_countBy (va_Pc [.ref (ad 28 i0), .int p1, .int p2] (fun U => gD G ad F U ∧ P_X1_countBy F i0 p1 p2 K)) (gQv G ad K) 0 0 (gA G) := by
  refine Met.ofW (cc := cX1_countBy) (maxL := 4) (ret := none) (by decide) rfl ?_
  intro p e s m args below meth c s₁ Bd hml hv
  obtain ⟨rfl, ⟨hK, hG, hB, hH⟩, q⟩ := hv
  have hx := Bd.exec
  have hb := Bd.bytes
  have hr := Bd.returns
  have hts := atoms_spec (ws := wsX1_countBy) Bd.pre
  have hown : s.vm.findClass RX1 = some m.cls := findClass_of_methodNamed Bd.named
  have hlocks := Bd.notSynchronized
  have hS : va_S (gA G) s.heap s.heap [] := va_S.rf
  have hl := lv_entry [.ref (ad 28 i0), .int p1, .int p2] (n := 4) (Nat.le_of_ble_eq_true rfl)
  rw [lg_entry_eq]
  generalize (lg_sl [.ref (ad 28 i0), .int p1, .int p2] ++ List.replicate (4 - (lg_sl [.ref (ad 28 i0), .int p1, .int p2]).length) Slot.unset).toArray = ls at hl ⊢
  have hl : lv_has ls 4 [(0, .ref (ad 28 i0)), (1, .int p1), (2, .int p2)] := hl
  show W p l e rm_X1_countBy s m ([.ref (ad 28 i0), .int p1, .int p2] : List Value).toArray below meth c s.heap [] 0 0 (q_X1_countBy G ad K below ([.ref (ad 28 i0), .int p1, .int p2] : List Value).toArray s) _
  have t_83 : ∀ (k36 : GF → Int32 → Int32 → Prop), (∀ (F : GF) (x1 : Int32) (x3 : Int32) (H : Heap) (locs : List Loc) (ls : Array Slot), gH G ad F H → va_S (gA G) s.heap H locs → lv_has ls 4 [(0, .ref (ad 28 i0)), (1, .int x1), (3, .int x3)] → k36 F x1 x3 → W p l e rm_X1_countBy s m ([.ref (ad 28 i0), .int p1, .int p2] : List Value).toArray below meth c H locs 0 0 (q_X1_countBy G ad K below ([.ref (ad 28 i0), .int p1, .int p2] : List Value).toArray s) (F0 m 36 ls [])) → ∀ (F : GF) (x1 : Int32) (x3 : Int32) (H : Heap) (locs : List Loc) (ls : Array Slot), gH G ad F H → va_S (gA G) s.heap H locs → lv_has ls 4 [(0, .ref (ad 28 i0)), (1, .int x1), (3, .int x3)] → (P_X1_countBy_83 i0 k36 K) F x1 x3 → W p l e rm_X1_countBy s m ([.ref (ad 28 i0), .int p1, .int p2] : List Value).toArray below meth c H locs 0 0 (q_X1_countBy G ad K below ([.ref (ad 28 i0), .int p1, .int p2] : List Value).toArray s) (F0 m 83 ls []) := by
    intro k36 hk36 F x1 x3 H locs ls hH hS hl q
    unfold P_X1_countBy_83 at q
    refine lv_iinc (v := x3 + 1) (lv' := [(3, .int (x3 + 1)), (0, .ref (ad 28 i0)), (1, .int x1)]) hx hb dX1_countBy_83 hl (k := 2) rfl rfl (by decide) rfl (fun ls hl => ?_)
    refine lv_goto (tgt := 36) hx hb dX1_countBy_86 (by decide) ?_
    exact hk36 F x1 (x3 + 1) _ _ _ hH hS (lv_sub hl [1, 2, 0] rfl) q
  have t_36 : ∀ n : Nat, ∀ (F : GF) (x1 : Int32) (x3 : Int32) (H : Heap) (locs : List Loc) (ls : Array Slot), gH G ad F H → va_S (gA G) s.heap H locs → lv_has ls 4 [(0, .ref (ad 28 i0)), (1, .int x1), (3, .int x3)] → (P_X1_countBy_36 i0 K n) F x1 x3 → W p l e rm_X1_countBy s m ([.ref (ad 28 i0), .int p1, .int p2] : List Value).toArray below meth c H locs 0 0 (q_X1_countBy G ad K below ([.ref (ad 28 i0), .int p1, .int p2] : List Value).toArray s) (F0 m 36 ls []) := by
    intro n
    induction n with
    | zero =>
      intro F x1 x3 H locs ls hH hS hl q
      exact False.elim q
    | succ n ih =>
      intro F x1 x3 H locs ls hH hS hl q
      rw [P_X1_countBy_36] at q
      refine lv_iload_n hx hb dX1_countBy_36 rfl (lv_at hl 2 rfl) ?_
      refine lv_aload_n hx hb dX1_countBy_37 rfl (lv_at hl 0 rfl) ?_
      refine g_get (ci := 5) (v := .int (F 28 i0 4)) (C := RX1) (T := TX1) (N := 6) hx hb hts (fun _ h => (List.mem_cons_of_mem _ (List.mem_append_left _ (List.mem_append_right _ h)))) hown hK hH 28 i0 (by decide) hi0 rfl rfl 4 (by decide) (hts (.fieldLink RX1 27 "BallotFoundry$Box" "counts" "I") (List.mem_of_getElem? (i := 1) rfl)) (fun _ h => h) rfl dX1_countBy_38 ?_
      refine lv_icmp_ge (tgt := 89) hx hb dX1_countBy_41 (by decide) (fun c7 => ?_) (fun c7 => ?_)
      · have q := (if_pos c7).mp q
        refine lv_aload_n hx hb dX1_countBy_89 rfl (lv_at hl 0 rfl) ?_
        refine lv_dup hx hb dX1_countBy_90 rfl ?_
        refine g_get (ci := 5) (v := .int (F 28 i0 4)) (C := RX1) (T := TX1) (N := 6) hx hb hts (fun _ h => (List.mem_cons_of_mem _ (List.mem_append_left _ (List.mem_append_right _ h)))) hown hK hH 28 i0 (by decide) hi0 rfl rfl 4 (by decide) (hts (.fieldLink RX1 27 "BallotFoundry$Box" "counts" "I") (List.mem_of_getElem? (i := 1) rfl)) (fun _ h => h) rfl dX1_countBy_91 ?_
        refine lv_iconst (v := 1) hx hb dX1_countBy_94 (by decide) ?_
        refine lv_iadd hx hb dX1_countBy_95 ?_
        refine g_put (ci := 5) (v := .int ((F 28 i0 4) + 1)) (C := RX1) (T := TX1) (N := 6) hx hb hts (fun _ h => (List.mem_cons_of_mem _ (List.mem_append_left _ (List.mem_append_right _ h)))) tyX1 tyX1_ok nmX1 hown hK hH hS 28 i0 (by decide) hi0 (by decide) rfl rfl 4 (by decide) (hts (.fieldLink RX1 27 "BallotFoundry$Box" "counts" "I") (List.mem_of_getElem? (i := 1) rfl)) (fun _ h => h) rfl (ty := .int) (by decide +kernel) rfl rfl (Nat.le_of_ble_eq_true rfl) ((F 28 i0 4) + 1) rfl dX1_countBy_96 (fun H locs hH hS => ?_)
        obtain ⟨F8, eF8⟩ : ∃ z, z = fs F 28 i0 4 ((F 28 i0 4) + 1) := ⟨_, rfl⟩
        have q := q F8 eF8
        rw [← eF8] at hH
        exact (W.vret hx hb hr (fun t ht hW => ⟨⟨F8, rfl, q, gH_at ht hH⟩, hS.F ht⟩) hS.2.2 dX1_countBy_99)
      · have q := (if_neg c7).mp q
        refine lv_aload_n hx hb dX1_countBy_44 rfl (lv_at hl 0 rfl) ?_
        refine g_get (ci := 5) (v := .ref (ad 30 i0)) (C := RX1) (T := TX1) (N := 6) hx hb hts (fun _ h => (List.mem_cons_of_mem _ (List.mem_append_left _ (List.mem_append_right _ h)))) hown hK hH 28 i0 (by decide) hi0 rfl rfl 2 (by decide) (hts (.fieldLink RX1 19 "BallotFoundry$Box" "clerks" "[I") (List.mem_of_getElem? (i := 2) rfl)) (fun _ h => h) rfl dX1_countBy_45 ?_
        refine lv_iload_n hx hb dX1_countBy_48 rfl (lv_at hl 2 rfl) ?_
        obtain ⟨h9, q⟩ := q
        refine g_iald hx hb hK hH 30 i0 (by decide) hi0 8 rfl h9 dX1_countBy_49 ?_
        refine lv_iload_n hx hb dX1_countBy_50 rfl (lv_at hl 1 rfl) ?_
        refine lv_icmp_eq (tgt := 83) hx hb dX1_countBy_51 (by decide) (fun c10 => ?_) (fun c10 => ?_)
        · have q := (if_pos c10).mp q
          exact t_83 (fun F a0 a1 => P_X1_countBy_36 i0 K n F a0 a1) ih F x1 x3 _ _ _ hH hS (lv_sub hl [0, 1, 2] rfl) q
        · have q := (if_neg c10).mp q
          refine lv_aload_n hx hb dX1_countBy_54 rfl (lv_at hl 0 rfl) ?_
          refine g_get (ci := 5) (v := .ref (ad 31 i0)) (C := RX1) (T := TX1) (N := 6) hx hb hts (fun _ h => (List.mem_cons_of_mem _ (List.mem_append_left _ (List.mem_append_right _ h)))) hown hK hH 28 i0 (by decide) hi0 rfl rfl 3 (by decide) (hts (.fieldLink RX1 24 "BallotFoundry$Box" "numbers" "[[I") (List.mem_of_getElem? (i := 3) rfl)) (fun _ h => h) rfl dX1_countBy_55 ?_
          refine lv_iload_n hx hb dX1_countBy_58 rfl (lv_at hl 2 rfl) ?_
          obtain ⟨h11, q⟩ := q
          refine g_aaldA (a := ad 32 (8 * i0 + x3.toNatClampNeg)) hx hb hK hH 31 i0 (by decide) hi0 6 8 rfl rfl h11 rfl dX1_countBy_59 ?_
          refine lv_aload_n hx hb dX1_countBy_60 rfl (lv_at hl 0 rfl) ?_
          refine g_get (ci := 5) (v := .ref (ad 31 i0)) (C := RX1) (T := TX1) (N := 6) hx hb hts (fun _ h => (List.mem_cons_of_mem _ (List.mem_append_left _ (List.mem_append_right _ h)))) hown hK hH 28 i0 (by decide) hi0 rfl rfl 3 (by decide) (hts (.fieldLink RX1 24 "BallotFoundry$Box" "numbers" "[[I") (List.mem_of_getElem? (i := 3) rfl)) (fun _ h => h) rfl dX1_countBy_61 ?_
          refine lv_aload_n hx hb dX1_countBy_64 rfl (lv_at hl 0 rfl) ?_
          refine g_get (ci := 5) (v := .int (F 28 i0 4)) (C := RX1) (T := TX1) (N := 6) hx hb hts (fun _ h => (List.mem_cons_of_mem _ (List.mem_append_left _ (List.mem_append_right _ h)))) hown hK hH 28 i0 (by decide) hi0 rfl rfl 4 (by decide) (hts (.fieldLink RX1 27 "BallotFoundry$Box" "counts" "I") (List.mem_of_getElem? (i := 1) rfl)) (fun _ h => h) rfl dX1_countBy_65 ?_
          obtain ⟨h12, q⟩ := q
          refine g_aaldA (a := ad 32 (8 * i0 + (F 28 i0 4).toNatClampNeg)) hx hb hK hH 31 i0 (by decide) hi0 6 8 rfl rfl h12 rfl dX1_countBy_68 ?_
          refine va_calli (va_runS (As := [.ref (ad 32 (8 * i0 + x3.toNatClampNeg)), .ref (ad 32 (8 * i0 + (F 28 i0 4).toNatClampNeg))]) (rest := []) ⟨hx, hb, hml, hown, hts⟩ (c_X1_isAlike l G ad F (8 * i0 + x3.toNatClampNeg) (8 * i0 + (F 28 i0 4).toNatClampNeg) (gin8 hi0 h11) (gin8 hi0 h12) _) (va_cwS 2 hts gX1_countBy_X1_isAlike rfl rfl rfl (by decide +kernel) ⟨Nat.le_of_ble_eq_true rfl, Nat.le_of_ble_eq_true rfl⟩) ⟨fun a U g mk h => ⟨h.1, gD_blind h.2.1, h.2.2⟩, fun U hU hW => ⟨rfl, gD_at hK hG hB hH hS hU hW, q⟩⟩ rfl rfl hl.1 rfl (lv_room (Nat.le_of_ble_eq_true rfl)) dX1_countBy_69 ⟨Nat.le_of_ble_eq_true rfl, Nat.le_of_ble_eq_true rfl⟩) hS (fun _ _ h => h) (fun _ h => h) (fun r13 F14 t H locs ht hvm q hB1 hz hk hS => ?_)
          have hH : gH G ad F14 H := gH_to ht hB1
          refine lv_if_eq (tgt := 83) hx hb dX1_countBy_72 (by decide) (fun c15 => ?_) (fun c15 => ?_)
          · have q := (if_pos c15).mp q
            exact t_83 (fun F a0 a1 => P_X1_countBy_36 i0 K n F a0 a1) ih F14 x1 x3 _ _ _ hH hS (lv_sub hl [0, 1, 2] rfl) q
          · have q := (if_neg c15).mp q
            refine lv_aload_n hx hb dX1_countBy_75 rfl (lv_at hl 0 rfl) ?_
            refine lv_aload_n hx hb dX1_countBy_76 rfl (lv_at hl 0 rfl) ?_
            refine g_get (ci := 5) (v := .int (F14 28 i0 4)) (C := RX1) (T := TX1) (N := 6) hx hb hts (fun _ h => (List.mem_cons_of_mem _ (List.mem_append_left _ (List.mem_append_right _ h)))) hown hK hH 28 i0 (by decide) hi0 rfl rfl 4 (by decide) (hts (.fieldLink RX1 27 "BallotFoundry$Box" "counts" "I") (List.mem_of_getElem? (i := 1) rfl)) (fun _ h => h) rfl dX1_countBy_77 ?_
            refine g_put (ci := 5) (v := .int (F14 28 i0 4)) (C := RX1) (T := TX1) (N := 6) hx hb hts (fun _ h => (List.mem_cons_of_mem _ (List.mem_append_left _ (List.mem_append_right _ h)))) tyX1 tyX1_ok nmX1 hown hK hH hS 28 i0 (by decide) hi0 (by decide) rfl rfl 5 (by decide) (hts (.fieldLink RX1 30 "BallotFoundry$Box" "settledBy" "I") (List.mem_of_getElem? (i := 4) rfl)) (fun _ h => h) rfl (ty := .int) (by decide +kernel) rfl rfl (Nat.le_of_ble_eq_true rfl) (F14 28 i0 4) rfl dX1_countBy_80 (fun H locs hH hS => ?_)
            obtain ⟨F16, eF16⟩ : ∃ z, z = fs F14 28 i0 5 (F14 28 i0 4) := ⟨_, rfl⟩
            have q := q F16 eF16
            rw [← eF16] at hH
            exact t_83 (fun F a0 a1 => P_X1_countBy_36 i0 K n F a0 a1) ih F16 x1 x3 _ _ _ hH hS (lv_sub hl [0, 1, 2] rfl) q
  unfold P_X1_countBy at q
  refine lv_aload_n hx hb dX1_countBy_0 rfl (lv_at hl 0 rfl) ?_
  refine g_get (ci := 5) (v := .int (F 28 i0 4)) (C := RX1) (T := TX1) (N := 6) hx hb hts (fun _ h => (List.mem_cons_of_mem _ (List.mem_append_left _ (List.mem_append_right _ h)))) hown hK hH 28 i0 (by decide) hi0 rfl rfl 4 (by decide) (hts (.fieldLink RX1 27 "BallotFoundry$Box" "counts" "I") (List.mem_of_getElem? (i := 1) rfl)) (fun _ h => h) rfl dX1_countBy_1 ?_
  refine lv_bipush (v := 8) hx hb dX1_countBy_4 (by decide) ?_
  refine lv_icmp_lt (tgt := 10) hx hb dX1_countBy_6 (by decide) (fun c1 => ?_) (fun c1 => ?_)
  · have q := (if_pos c1).mp q
    refine lv_aload_n hx hb dX1_countBy_10 rfl (lv_at hl 0 rfl) ?_
    refine g_get (ci := 5) (v := .ref (ad 30 i0)) (C := RX1) (T := TX1) (N := 6) hx hb hts (fun _ h => (List.mem_cons_of_mem _ (List.mem_append_left _ (List.mem_append_right _ h)))) hown hK hH 28 i0 (by decide) hi0 rfl rfl 2 (by decide) (hts (.fieldLink RX1 19 "BallotFoundry$Box" "clerks" "[I") (List.mem_of_getElem? (i := 2) rfl)) (fun _ h => h) rfl dX1_countBy_11 ?_
    refine lv_aload_n hx hb dX1_countBy_14 rfl (lv_at hl 0 rfl) ?_
    refine g_get (ci := 5) (v := .int (F 28 i0 4)) (C := RX1) (T := TX1) (N := 6) hx hb hts (fun _ h => (List.mem_cons_of_mem _ (List.mem_append_left _ (List.mem_append_right _ h)))) hown hK hH 28 i0 (by decide) hi0 rfl rfl 4 (by decide) (hts (.fieldLink RX1 27 "BallotFoundry$Box" "counts" "I") (List.mem_of_getElem? (i := 1) rfl)) (fun _ h => h) rfl dX1_countBy_15 ?_
    refine lv_iload_n hx hb dX1_countBy_18 rfl (lv_at hl 1 rfl) ?_
    obtain ⟨h2, q⟩ := q
    refine g_iast hx hb hK hH hS 30 i0 (by decide) hi0 (by decide) 8 (fun _ => rfl) h2 dX1_countBy_19 (fun H locs hH hS => ?_)
    obtain ⟨F3, eF3⟩ : ∃ z, z = fs F 30 i0 (F 28 i0 4).toNatClampNeg p1 := ⟨_, rfl⟩
    have q := q F3 eF3
    rw [← eF3] at hH
    refine lv_aload_n hx hb dX1_countBy_20 rfl (lv_at hl 0 rfl) ?_
    refine lv_aload_n hx hb dX1_countBy_21 rfl (lv_at hl 0 rfl) ?_
    refine g_get (ci := 5) (v := .ref (ad 31 i0)) (C := RX1) (T := TX1) (N := 6) hx hb hts (fun _ h => (List.mem_cons_of_mem _ (List.mem_append_left _ (List.mem_append_right _ h)))) hown hK hH 28 i0 (by decide) hi0 rfl rfl 3 (by decide) (hts (.fieldLink RX1 24 "BallotFoundry$Box" "numbers" "[[I") (List.mem_of_getElem? (i := 3) rfl)) (fun _ h => h) rfl dX1_countBy_22 ?_
    refine lv_aload_n hx hb dX1_countBy_25 rfl (lv_at hl 0 rfl) ?_
    refine g_get (ci := 5) (v := .int (F3 28 i0 4)) (C := RX1) (T := TX1) (N := 6) hx hb hts (fun _ h => (List.mem_cons_of_mem _ (List.mem_append_left _ (List.mem_append_right _ h)))) hown hK hH 28 i0 (by decide) hi0 rfl rfl 4 (by decide) (hts (.fieldLink RX1 27 "BallotFoundry$Box" "counts" "I") (List.mem_of_getElem? (i := 1) rfl)) (fun _ h => h) rfl dX1_countBy_26 ?_
    obtain ⟨h4, q⟩ := q
    refine g_aaldA (a := ad 32 (8 * i0 + (F3 28 i0 4).toNatClampNeg)) hx hb hK hH 31 i0 (by decide) hi0 6 8 rfl rfl h4 rfl dX1_countBy_29 ?_
    refine lv_iload_n hx hb dX1_countBy_30 rfl (lv_at hl 2 rfl) ?_
    refine va_callv (va_runV (As := [.ref (ad 32 (8 * i0 + (F3 28 i0 4).toNatClampNeg)), .int p2]) (rest := []) ⟨hx, hb, hml, hown, hts⟩ (c_X1_readBallots l G ad F3 i0 (8 * i0 + (F3 28 i0 4).toNatClampNeg) p2 hi0 (gin8 hi0 h4) _) (cwV 2 hts gX1_countBy_X1_readBallots rfl rfl rfl (by decide +kernel) ⟨Nat.le_of_ble_eq_true rfl, Nat.le_of_ble_eq_true rfl⟩) ⟨fun a U g mk h => ⟨h.1, gD_blind h.2.1, h.2.2⟩, g_recv (C := RX1) (T := TX1) (N := 6) hK hH 28 i0 (by decide) hi0 rfl rfl, fun U hU hW => ⟨rfl, gD_at hK hG hB hH hS hU hW, q⟩⟩ rfl rfl hl.1 rfl (lv_room (Nat.le_of_ble_eq_true rfl)) dX1_countBy_31 ⟨Nat.le_of_ble_eq_true rfl, Nat.le_of_ble_eq_true rfl⟩) hS (fun _ _ h => h) (fun _ h => h) (fun F6 t H locs ht hvm q hB1 hz hk hS => ?_)
    have hH : gH G ad F6 H := gH_to ht hB1
    refine lv_iconst (v := 0) hx hb dX1_countBy_34 (by decide) ?_
    refine lv_istore_n (lv' := [(3, .int 0), (0, .ref (ad 28 i0)), (1, .int p1), (2, .int p2)]) hx hb dX1_countBy_35 rfl hl (by decide) rfl (fun ls hl => ?_)
    obtain ⟨nn, q⟩ := q
    exact t_36 nn F6 p1 0 _ _ _ hH hS (lv_sub hl [1, 2, 0] rfl) q
  · have q := (if_neg c1).mp q
    exact (W.vret hx hb hr (fun t ht hW => ⟨⟨F, rfl, q, gH_at ht hH⟩, hS.F ht⟩) hS.2.2 dX1_countBy_9)
abbrev rm_X2_isAllSettled : Room := { frames := 1, cells := 0, slots := 0, locals := 20 }
abbrev q_X2_isAllSettled (G : GP) (ad : Nat → Nat → Nat) (K : Int32 → GF → Prop) (below : List Frame) (args : Array Value) (s : State) : State → Prop := MQ below (gQi G ad K) args s 0 0 (gA G)
set_option maxHeartbeats 4000000 in
set_option maxRecDepth 100000 in
theorem c_X2_isAllSettled (l : Launch) (G : GP) (ad : Nat → Nat → Nat) (F : GF) (K : Int32 → GF → Prop) : Met l yX2_isAllSettled wsX2_isAllSettled rm_X2_isAllSettled (va_Pc [.ref (ad 10 0)] (fun U => gD G ad F U ∧ P_X2_isAllSettled F K)) (gQi G ad K) 0 0 (gA G) := by
  refine Met.ofW (cc := cX2_isAllSettled) (maxL := 2) (ret := (some .boolean)) (by decide) rfl ?_
  intro p e s m args below meth c s₁ Bd hml hv
  obtain ⟨rfl, ⟨hK, hG, hB, hH⟩, q⟩ := hv
  have hx := Bd.exec
  have hb := Bd.bytes
  have hr := Bd.returns
  have hts := atoms_spec (ws := wsX2_isAllSettled) Bd.pre
  have hown : s.vm.findClass RX2 = some m.cls := findClass_of_methodNamed Bd.named
  have hlocks := Bd.notSynchronized
  have hS : va_S (gA G) s.heap s.heap [] := va_S.rf
  have hl := lv_entry [.ref (ad 10 0)] (n := 2) (Nat.le_of_ble_eq_true rfl)
  rw [lg_entry_eq]
  generalize (lg_sl [.ref (ad 10 0)] ++ List.replicate (2 - (lg_sl [.ref (ad 10 0)]).length) Slot.unset).toArray = ls at hl ⊢
  have hl : lv_has ls 2 [(0, .ref (ad 10 0))] := hl
  show W p l e rm_X2_isAllSettled s m ([.ref (ad 10 0)] : List Value).toArray below meth c s.heap [] 0 0 (q_X2_isAllSettled G ad K below ([.ref (ad 10 0)] : List Value).toArray s) _
  have t_2 : ∀ n : Nat, ∀ (F : GF) (x1 : Int32) (H : Heap) (locs : List Loc) (ls : Array Slot), gH G ad F H → va_S (gA G) s.heap H locs → lv_has ls 2 [(0, .ref (ad 10 0)), (1, .int x1)] → (P_X2_isAllSettled_2 K n) F x1 → W p l e rm_X2_isAllSettled s m ([.ref (ad 10 0)] : List Value).toArray below meth c H locs 0 0 (q_X2_isAllSettled G ad K below ([.ref (ad 10 0)] : List Value).toArray s) (F0 m 2 ls []) := by
    intro n
    induction n with
    | zero =>
      intro F x1 H locs ls hH hS hl q
      exact False.elim q
    | succ n ih =>
      intro F x1 H locs ls hH hS hl q
      rw [P_X2_isAllSettled_2] at q
      refine lv_iload_n hx hb dX2_isAllSettled_2 rfl (lv_at hl 1 rfl) ?_
      refine lv_aload_n hx hb dX2_isAllSettled_3 rfl (lv_at hl 0 rfl) ?_
      refine g_get (ci := 6) (v := .int (F 10 0 4)) (C := RX2) (T := TX2) (N := 10) hx hb hts (fun _ h => (List.mem_cons_of_mem _ (List.mem_append_left _ (List.mem_append_right _ h)))) hown hK hH 10 0 (by decide) Nat.zero_lt_one rfl rfl 4 (by decide) (hts (.fieldLink RX2 25 "BallotFoundry$Election" "stationsOfIt" "I") (List.mem_of_getElem? (i := 1) rfl)) (fun _ h => h) rfl dX2_isAllSettled_4 ?_
      refine lv_icmp_ge (tgt := 30) hx hb dX2_isAllSettled_7 (by decide) (fun c1 => ?_) (fun c1 => ?_)
      · have q := (if_pos c1).mp q
        refine lv_iconst (v := 1) hx hb dX2_isAllSettled_30 (by decide) ?_
        exact (W.zret (v := 1) hx hb hr rfl (fun t ht hW => ⟨⟨1, F, rfl, q, gH_at ht hH⟩, hS.F ht⟩) hS.2.2 dX2_isAllSettled_31)
      · have q := (if_neg c1).mp q
        refine lv_aload_n hx hb dX2_isAllSettled_10 rfl (lv_at hl 0 rfl) ?_
        refine g_get (ci := 6) (v := .ref (ad 20 0)) (C := RX2) (T := TX2) (N := 10) hx hb hts (fun _ h => (List.mem_cons_of_mem _ (List.mem_append_left _ (List.mem_append_right _ h)))) hown hK hH 10 0 (by decide) Nat.zero_lt_one rfl rfl 8 (by decide) (hts (.fieldLink RX2 48 "BallotFoundry$Election" "boxes" "[LBallotFoundry$Box;") (List.mem_of_getElem? (i := 2) rfl)) (fun _ h => h) rfl dX2_isAllSettled_11 ?_
        refine lv_iload_n hx hb dX2_isAllSettled_14 rfl (lv_at hl 1 rfl) ?_
        obtain ⟨h2, q⟩ := q
        refine g_aald (a := ad 28 (x1.toNatClampNeg)) hx hb hK hH 20 0 (by decide) Nat.zero_lt_one 4 5 rfl rfl h2 rfl dX2_isAllSettled_15 ?_
        refine va_calli (va_runV (As := []) (rest := []) ⟨hx, hb, hml, hown, hts⟩ (c_X1_hasNumbers l G ad F x1.toNatClampNeg (gin h2) _) (cwV 0 hts gX2_isAllSettled_X1_hasNumbers rfl rfl rfl (by decide +kernel) ⟨Nat.le_of_ble_eq_true rfl, Nat.le_of_ble_eq_true rfl⟩) ⟨fun a U g mk h => ⟨h.1, gD_blind h.2.1, h.2.2⟩, g_recv (C := RX1) (T := TX1) (N := 6) hK hH 28 x1.toNatClampNeg (by decide) (gin h2) rfl rfl, fun U hU hW => ⟨rfl, gD_at hK hG hB hH hS hU hW, q⟩⟩ rfl rfl hl.1 rfl (lv_room (Nat.le_of_ble_eq_true rfl)) dX2_isAllSettled_16 ⟨Nat.le_of_ble_eq_true rfl, Nat.le_of_ble_eq_true rfl⟩) hS (fun _ _ h => h) (fun _ h => h) (fun r3 F4 t H locs ht hvm q hB1 hz hk hS => ?_)
        have hH : gH G ad F4 H := gH_to ht hB1
        refine lv_if_ne (tgt := 24) hx hb dX2_isAllSettled_19 (by decide) (fun c5 => ?_) (fun c5 => ?_)
        · have q := (if_neg c5).mp q
          refine lv_iinc (v := x1 + 1) (lv' := [(1, .int (x1 + 1)), (0, .ref (ad 10 0))]) hx hb dX2_isAllSettled_24 hl (k := 1) rfl rfl (by decide) rfl (fun ls hl => ?_)
          refine lv_goto (tgt := 2) hx hb dX2_isAllSettled_27 (by decide) ?_
          exact ih F4 (x1 + 1) _ _ _ hH hS (lv_sub hl [1, 0] rfl) q
        · have q := (if_pos c5).mp q
          refine lv_iconst (v := 0) hx hb dX2_isAllSettled_22 (by decide) ?_
          exact (W.zret (v := 0) hx hb hr rfl (fun t ht hW => ⟨⟨0, F4, rfl, q, gH_at ht hH⟩, hS.F ht⟩) hS.2.2 dX2_isAllSettled_23)
  unfold P_X2_isAllSettled at q
  refine lv_iconst (v := 0) hx hb dX2_isAllSettled_0 (by decide) ?_
  refine lv_istore_n (lv' := [(1, .int 0), (0, .ref (ad 10 0))]) hx hb dX2_isAllSettled_1 rfl hl (by decide) rfl (fun ls hl => ?_)
  obtain ⟨nn, q⟩ := q
  exact t_2 nn F 0 _ _ _ hH hS (lv_sub hl [1, 0] rfl) q
abbrev rm_X10_count : Room := { frames := 7, cells := 4, slots := 24, locals := 111 }
abbrev q_X10_count (G : GP) (ad : Nat → Nat → Nat) (K : Int32 → GF → Prop) (X : String → GF → Prop) (below : List Frame) (args : Array Value) (s : State) : State → Prop := vx_MQ below (gQi G ad K) (gX G ad X) args s 4 24 (gA G)
set_option maxHeartbeats 4000000 in
set_option maxRecDepth 100000 in
theorem c_X10_count (l : Launch) (hfl : l.stackTraces = false) (G : GP) (ad : Nat → Nat → Nat) (F : GF) (p1 : Int32) (p2 : Int32) (K : Int32 → GF → Prop) (X : String → GF → Prop) : vx_Met l yX10_count wsX10_count rm_X10_count (va_Pc [.ref (ad 0 0), .int p1, .int p2] (fun U => gD G ad F U ∧ P_X10_count F p1 p2 K X)) (gQi G ad K) (gX G ad X) 4 24 (gA G) := by
  refine vx_ofW (cc := cX10_count) (maxL := 4) (ret := (some .boolean)) (by decide) rfl ?_
  intro p e s m args below meth c s₁ Bd hml hno hv
  obtain ⟨rfl, ⟨hK, hG, hB, hH⟩, q⟩ := hv
  have hx := Bd.exec
  have hb := Bd.bytes
  have hr := Bd.returns
  have hts := atoms_spec (ws := wsX10_count) Bd.pre
  have hown : s.vm.findClass RX10 = some m.cls := findClass_of_methodNamed Bd.named
  have hlocks := Bd.notSynchronized
  have hS : va_S (gA G) s.heap s.heap [] := va_S.rf
  have hl := lv_entry [.ref (ad 0 0), .int p1, .int p2] (n := 4) (Nat.le_of_ble_eq_true rfl)
  rw [lg_entry_eq]
  generalize (lg_sl [.ref (ad 0 0), .int p1, .int p2] ++ List.replicate (4 - (lg_sl [.ref (ad 0 0), .int p1, .int p2]).length) Slot.unset).toArray = ls at hl ⊢
  have hl : lv_has ls 4 [(0, .ref (ad 0 0)), (1, .int p1), (2, .int p2)] := hl
  show W p l e rm_X10_count s m ([.ref (ad 0 0), .int p1, .int p2] : List Value).toArray below meth c s.heap [] 0 0 (q_X10_count G ad K X below ([.ref (ad 0 0), .int p1, .int p2] : List Value).toArray s) _
  have t_128 : ∀ (F : GF) (vx3 : Nat) (hx3 : vx3 < 5) (H : Heap) (locs : List Loc) (ls : Array Slot), gH G ad F H → va_S (gA G) s.heap H locs → lv_has ls 4 [(3, .ref (ad 28 vx3))] → (P_X10_count_128 K X) F vx3 → W p l e rm_X10_count s m ([.ref (ad 0 0), .int p1, .int p2] : List Value).toArray below meth c H locs 3 18 (q_X10_count G ad K X below ([.ref (ad 0 0), .int p1, .int p2] : List Value).toArray s) (F0 m 128 ls []) := by
    intro F vx3 hx3 H locs ls hH hS hl q
    unfold P_X10_count_128 at q
    refine lv_aload_n hx hb dX10_count_128 rfl (lv_at hl 0 rfl) ?_
    refine va_calli (va_runV (As := []) (rest := []) ⟨hx, hb, hml, hown, hts⟩ (c_X1_hasNumbers l G ad F vx3 hx3 _) (cwV 0 hts gX10_count_X1_hasNumbers rfl rfl rfl (by decide +kernel) ⟨Nat.le_of_ble_eq_true rfl, Nat.le_of_ble_eq_true rfl⟩) ⟨fun a U g mk h => ⟨h.1, gD_blind h.2.1, h.2.2⟩, g_recv (C := RX1) (T := TX1) (N := 6) hK hH 28 vx3 (by decide) hx3 rfl rfl, fun U hU hW => ⟨rfl, gD_at hK hG hB hH hS hU hW, q⟩⟩ rfl rfl hl.1 rfl (lv_room (Nat.le_of_ble_eq_true rfl)) dX10_count_129 ⟨Nat.le_of_ble_eq_true rfl, Nat.le_of_ble_eq_true rfl⟩) hS (fun _ _ h => h) (fun _ h => h) (fun r21 F22 t H locs ht hvm q hB1 hz hk hS => ?_)
    have hH : gH G ad F22 H := gH_to ht hB1
    refine W.widen (k := 4) (n := 24) (Nat.le_of_ble_eq_true rfl) (Nat.le_of_ble_eq_true rfl) ?_
    obtain ⟨h23, q⟩ := q
    exact vx_ret (W.zret (v := r21) hx hb hr (gz_nar h23) (fun t ht hW => ⟨⟨r21, F22, rfl, q, gH_at ht hH⟩, hS.F ht⟩) hS.2.2 dX10_count_132)
  unfold P_X10_count at q
  refine lv_aload_n hx hb dX10_count_0 rfl (lv_at hl 0 rfl) ?_
  refine lv_iload_n hx hb dX10_count_1 rfl (lv_at hl 1 rfl) ?_
  refine vx_callv (vx_runV (As := [.int p1]) (rest := []) ⟨hx, hb, hml, hown, hts⟩ (c_X10_needStation l hfl G ad F p1 _ _) (cwV 1 hts gX10_count_X10_needStation rfl rfl rfl (by decide +kernel) ⟨Nat.le_of_ble_eq_true rfl, Nat.le_of_ble_eq_true rfl⟩) ⟨fun a U g mk h => ⟨h.1, gD_blind h.2.1, h.2.2⟩, g_recv (C := RX10) (T := TX10) (N := 8) hK hH 0 0 (by decide) Nat.zero_lt_one rfl rfl, fun U hU hW => ⟨rfl, gD_at hK hG hB hH hS hU hW, q⟩⟩ rfl rfl hl.1 rfl (lv_room (Nat.le_of_ble_eq_true rfl)) dX10_count_2 ⟨Nat.le_of_ble_eq_true rfl, Nat.le_of_ble_eq_true rfl⟩) hS (fun _ _ h => h) (fun _ h => h) (fun _ _ h => h) (fun E ce q9 u t H locs ht hvm _ hq hz hk hS hc9 hv9 hcl9 => vx_widen (Nat.le_of_ble_eq_true rfl) (Nat.le_of_ble_eq_true rfl) (vx_out (fun x hx => (hno x hx).elim) hlocks hc9 hv9 hcl9 (fun t1 ht1 hvm1 => ⟨u, trivial, ⟨hq.1, gH_at ht1 (gH_to ht hq.2)⟩, hS.F ht1⟩) hS.2.2 (Nat.le_refl _) (Nat.le_refl _))) (fun F2 t H locs ht hvm q hB1 hz hk hS => ?_)
  have hH : gH G ad F2 H := gH_to ht hB1
  refine lv_iload_n hx hb dX10_count_5 rfl (lv_at hl 2 rfl) ?_
  refine vx_callv (vx_runS (As := [.int p2]) (rest := []) ⟨hx, hb, hml, hown, hts⟩ (c_X10_needClerk l hfl G ad F2 p2 _ _) (va_cwS 1 hts gX10_count_X10_needClerk rfl rfl rfl (by decide +kernel) ⟨Nat.le_of_ble_eq_true rfl, Nat.le_of_ble_eq_true rfl⟩) ⟨fun a U g mk h => ⟨h.1, gD_blind h.2.1, h.2.2⟩, fun U hU hW => ⟨rfl, gD_at hK hG hB hH hS hU hW, q⟩⟩ rfl rfl hl.1 rfl (lv_room (Nat.le_of_ble_eq_true rfl)) dX10_count_6 ⟨Nat.le_of_ble_eq_true rfl, Nat.le_of_ble_eq_true rfl⟩) hS (fun _ _ h => h) (fun _ h => h) (fun _ _ h => h) (fun E ce q9 u t H locs ht hvm _ hq hz hk hS hc9 hv9 hcl9 => vx_widen (Nat.le_of_ble_eq_true rfl) (Nat.le_of_ble_eq_true rfl) (vx_out (fun x hx => (hno x hx).elim) hlocks hc9 hv9 hcl9 (fun t1 ht1 hvm1 => ⟨u, trivial, ⟨hq.1, gH_at ht1 (gH_to ht hq.2)⟩, hS.F ht1⟩) hS.2.2 (Nat.le_refl _) (Nat.le_refl _))) (fun F4 t H locs ht hvm q hB1 hz hk hS => ?_)
  have hH : gH G ad F4 H := gH_to ht hB1
  refine lv_aload_n hx hb dX10_count_9 rfl (lv_at hl 0 rfl) ?_
  refine lv_iconst (v := 4) hx hb dX10_count_10 (by decide) ?_
  refine vx_callv (vx_runV (As := [.int 4]) (rest := []) ⟨hx, hb, hml, hown, hts⟩ (c_X10_needStage l hfl G ad F4 4 _ _) (cwV 1 hts gX10_count_X10_needStage rfl rfl rfl (by decide +kernel) ⟨Nat.le_of_ble_eq_true rfl, Nat.le_of_ble_eq_true rfl⟩) ⟨fun a U g mk h => ⟨h.1, gD_blind h.2.1, h.2.2⟩, g_recv (C := RX10) (T := TX10) (N := 8) hK hH 0 0 (by decide) Nat.zero_lt_one rfl rfl, fun U hU hW => ⟨rfl, gD_at hK hG hB hH hS hU hW, q⟩⟩ rfl rfl hl.1 rfl (lv_room (Nat.le_of_ble_eq_true rfl)) dX10_count_11 ⟨Nat.le_of_ble_eq_true rfl, Nat.le_of_ble_eq_true rfl⟩) hS (fun _ _ h => h) (fun _ h => h) (fun _ _ h => h) (fun E ce q9 u t H locs ht hvm _ hq hz hk hS hc9 hv9 hcl9 => vx_widen (Nat.le_of_ble_eq_true rfl) (Nat.le_of_ble_eq_true rfl) (vx_out (fun x hx => (hno x hx).elim) hlocks hc9 hv9 hcl9 (fun t1 ht1 hvm1 => ⟨u, trivial, ⟨hq.1, gH_at ht1 (gH_to ht hq.2)⟩, hS.F ht1⟩) hS.2.2 (Nat.le_refl _) (Nat.le_refl _))) (fun F6 t H locs ht hvm q hB1 hz hk hS => ?_)
  have hH : gH G ad F6 H := gH_to ht hB1
  refine lv_aload_n hx hb dX10_count_14 rfl (lv_at hl 0 rfl) ?_
  refine g_get (ci := 14) (v := .ref (ad 10 0)) (C := RX10) (T := TX10) (N := 8) hx hb hts (fun _ h => (List.mem_cons_of_mem _ (List.mem_append_left _ (List.mem_append_left _ (List.mem_append_left _ (List.mem_append_left _ (List.mem_append_left _ (List.mem_append_left _ (List.mem_append_left _ (List.mem_append_right _ h)))))))))) hown hK hH 0 0 (by decide) Nat.zero_lt_one rfl rfl 6 (by decide) (hts (.fieldLink RX10 43 "BallotFoundry" "election" "LBallotFoundry$Election;") (List.mem_of_getElem? (i := 3) rfl)) (fun _ h => h) rfl dX10_count_15 ?_
  refine g_getN (ci := 6) (v := .ref (ad 20 0)) (C := RX2) (T := TX2) (N := 10) hx hb hts (fun _ h => (List.mem_cons_of_mem _ (List.mem_append_left _ (List.mem_append_left _ (List.mem_append_left _ (List.mem_append_left _ (List.mem_append_left _ (List.mem_append_left _ (List.mem_append_right _ h))))))))) hown hK hH 10 0 (by decide) Nat.zero_lt_one rfl rfl 8 (by decide) (va_Nw.use rfl (hG.1 ("BallotFoundry", 217, "BallotFoundry$Election", "boxes", "[LBallotFoundry$Box;", "BallotFoundry") (List.mem_of_getElem? (i := 24) rfl))) (fun _ h => h) rfl dX10_count_18 ?_
  refine lv_iload_n hx hb dX10_count_21 rfl (lv_at hl 1 rfl) ?_
  obtain ⟨h7, q⟩ := q
  refine g_aald (a := ad 28 (p1.toNatClampNeg)) hx hb hK hH 20 0 (by decide) Nat.zero_lt_one 4 5 rfl rfl h7 rfl dX10_count_22 ?_
  refine lv_astore_n (lv' := [(3, .ref (ad 28 p1.toNatClampNeg)), (0, .ref (ad 0 0)), (1, .int p1), (2, .int p2)]) hx hb dX10_count_23 rfl hl (by decide) rfl (fun ls hl => ?_)
  refine lv_iload_n hx hb dX10_count_24 rfl (lv_at hl 2 rfl) ?_
  refine lv_aload_n hx hb dX10_count_25 rfl (lv_at hl 1 rfl) ?_
  refine g_get (ci := 14) (v := .ref (ad 10 0)) (C := RX10) (T := TX10) (N := 8) hx hb hts (fun _ h => (List.mem_cons_of_mem _ (List.mem_append_left _ (List.mem_append_left _ (List.mem_append_left _ (List.mem_append_left _ (List.mem_append_left _ (List.mem_append_left _ (List.mem_append_left _ (List.mem_append_right _ h)))))))))) hown hK hH 0 0 (by decide) Nat.zero_lt_one rfl rfl 6 (by decide) (hts (.fieldLink RX10 43 "BallotFoundry" "election" "LBallotFoundry$Election;") (List.mem_of_getElem? (i := 3) rfl)) (fun _ h => h) rfl dX10_count_26 ?_
  refine g_getN (ci := 6) (v := .int (F6 10 0 4)) (C := RX2) (T := TX2) (N := 10) hx hb hts (fun _ h => (List.mem_cons_of_mem _ (List.mem_append_left _ (List.mem_append_left _ (List.mem_append_left _ (List.mem_append_left _ (List.mem_append_left _ (List.mem_append_left _ (List.mem_append_right _ h))))))))) hown hK hH 10 0 (by decide) Nat.zero_lt_one rfl rfl 4 (by decide) (va_Nw.use rfl (hG.1 ("BallotFoundry", 246, "BallotFoundry$Election", "stationsOfIt", "I", "BallotFoundry") (List.mem_of_getElem? (i := 20) rfl))) (fun _ h => h) rfl dX10_count_29 ?_
  refine lv_icmp_lt (tgt := 45) hx hb dX10_count_32 (by decide) (fun c8 => ?_) (fun c8 => ?_)
  · have q := (if_pos c8).mp q
    refine lv_aload_n hx hb dX10_count_45 rfl (lv_at hl 0 rfl) ?_
    refine va_calli (va_runV (As := []) (rest := []) ⟨hx, hb, hml, hown, hts⟩ (c_X1_hasNumbers l G ad F6 p1.toNatClampNeg (gin h7) _) (cwV 0 hts gX10_count_X1_hasNumbers rfl rfl rfl (by decide +kernel) ⟨Nat.le_of_ble_eq_true rfl, Nat.le_of_ble_eq_true rfl⟩) ⟨fun a U g mk h => ⟨h.1, gD_blind h.2.1, h.2.2⟩, g_recv (C := RX1) (T := TX1) (N := 6) hK hH 28 p1.toNatClampNeg (by decide) (gin h7) rfl rfl, fun U hU hW => ⟨rfl, gD_at hK hG hB hH hS hU hW, q⟩⟩ rfl rfl hl.1 rfl (lv_room (Nat.le_of_ble_eq_true rfl)) dX10_count_46 ⟨Nat.le_of_ble_eq_true rfl, Nat.le_of_ble_eq_true rfl⟩) hS (fun _ _ h => h) (fun _ h => h) (fun r9 F10 t H locs ht hvm q hB1 hz hk hS => ?_)
    have hH : gH G ad F10 H := gH_to ht hB1
    refine lv_if_eq (tgt := 62) hx hb dX10_count_49 (by decide) (fun c11 => ?_) (fun c11 => ?_)
    · have q := (if_pos c11).mp q
      refine lv_aload_n hx hb dX10_count_62 rfl (lv_at hl 0 rfl) ?_
      refine g_getN (ci := 5) (v := .int (F10 28 p1.toNatClampNeg 4)) (C := RX1) (T := TX1) (N := 6) hx hb hts (fun _ h => (List.mem_cons_of_mem _ (List.mem_append_left _ (List.mem_append_left _ (List.mem_append_left _ (List.mem_append_left _ (List.mem_append_left _ (List.mem_append_right _ h)))))))) hown hK hH 28 p1.toNatClampNeg (by decide) (gin h7) rfl rfl 4 (by decide) (va_Nw.use rfl (hG.1 ("BallotFoundry", 257, "BallotFoundry$Box", "counts", "I", "BallotFoundry") (List.mem_of_getElem? (i := 15) rfl))) (fun _ h => h) rfl dX10_count_63 ?_
      refine lv_bipush (v := 8) hx hb dX10_count_66 (by decide) ?_
      refine lv_icmp_lt (tgt := 82) hx hb dX10_count_68 (by decide) (fun c12 => ?_) (fun c12 => ?_)
      · have q := (if_pos c12).mp q
        refine lv_aload_n hx hb dX10_count_82 rfl (lv_at hl 1 rfl) ?_
        refine g_get (ci := 14) (v := .ref (ad 10 0)) (C := RX10) (T := TX10) (N := 8) hx hb hts (fun _ h => (List.mem_cons_of_mem _ (List.mem_append_left _ (List.mem_append_left _ (List.mem_append_left _ (List.mem_append_left _ (List.mem_append_left _ (List.mem_append_left _ (List.mem_append_left _ (List.mem_append_right _ h)))))))))) hown hK hH 0 0 (by decide) Nat.zero_lt_one rfl rfl 6 (by decide) (hts (.fieldLink RX10 43 "BallotFoundry" "election" "LBallotFoundry$Election;") (List.mem_of_getElem? (i := 3) rfl)) (fun _ h => h) rfl dX10_count_83 ?_
        refine g_getN (ci := 6) (v := .ref (ad 21 0)) (C := RX2) (T := TX2) (N := 10) hx hb hts (fun _ h => (List.mem_cons_of_mem _ (List.mem_append_left _ (List.mem_append_left _ (List.mem_append_left _ (List.mem_append_left _ (List.mem_append_left _ (List.mem_append_left _ (List.mem_append_right _ h))))))))) hown hK hH 10 0 (by decide) Nat.zero_lt_one rfl rfl 9 (by decide) (va_Nw.use rfl (hG.1 ("BallotFoundry", 194, "BallotFoundry$Election", "book", "LBallotFoundry$Book;", "BallotFoundry") (List.mem_of_getElem? (i := 25) rfl))) (fun _ h => h) rfl dX10_count_86 ?_
        refine lv_aload_n hx hb dX10_count_89 rfl (lv_at hl 1 rfl) ?_
        refine g_get (ci := 14) (v := .int (F10 0 0 5)) (C := RX10) (T := TX10) (N := 8) hx hb hts (fun _ h => (List.mem_cons_of_mem _ (List.mem_append_left _ (List.mem_append_left _ (List.mem_append_left _ (List.mem_append_left _ (List.mem_append_left _ (List.mem_append_left _ (List.mem_append_left _ (List.mem_append_right _ h)))))))))) hown hK hH 0 0 (by decide) Nat.zero_lt_one rfl rfl 5 (by decide) (hts (.fieldLink RX10 37 "BallotFoundry" "now" "I") (List.mem_of_getElem? (i := 4) rfl)) (fun _ h => h) rfl dX10_count_90 ?_
        refine lv_bipush (v := 99) hx hb dX10_count_93 (by decide) ?_
        refine lv_iload_n hx hb dX10_count_95 rfl (lv_at hl 2 rfl) ?_
        refine va_callv (va_runV (As := [.int (F10 0 0 5), .int 99, .int p1]) (rest := []) ⟨hx, hb, hml, hown, hts⟩ (c_X0_write l G ad F10 (F10 0 0 5) 99 p1 _) (cwV 3 hts gX10_count_X0_write rfl rfl rfl (by decide +kernel) ⟨Nat.le_of_ble_eq_true rfl, Nat.le_of_ble_eq_true rfl⟩) ⟨fun a U g mk h => ⟨h.1, gD_blind h.2.1, h.2.2⟩, g_recv (C := RX0) (T := TX0) (N := 5) hK hH 21 0 (by decide) Nat.zero_lt_one rfl rfl, fun U hU hW => ⟨rfl, gD_at hK hG hB hH hS hU hW, q⟩⟩ rfl rfl hl.1 rfl (lv_room (Nat.le_of_ble_eq_true rfl)) dX10_count_96 ⟨Nat.le_of_ble_eq_true rfl, Nat.le_of_ble_eq_true rfl⟩) hS (fun _ _ h => h) (fun _ h => h) (fun F14 t H locs ht hvm q hB1 hz hk hS => ?_)
        have hH : gH G ad F14 H := gH_to ht hB1
        refine lv_aload_n hx hb dX10_count_99 rfl (lv_at hl 0 rfl) ?_
        refine lv_iload_n hx hb dX10_count_100 rfl (lv_at hl 3 rfl) ?_
        refine lv_aload_n hx hb dX10_count_101 rfl (lv_at hl 1 rfl) ?_
        refine g_get (ci := 14) (v := .ref (ad 9 0)) (C := RX10) (T := TX10) (N := 8) hx hb hts (fun _ h => (List.mem_cons_of_mem _ (List.mem_append_left _ (List.mem_append_left _ (List.mem_append_left _ (List.mem_append_left _ (List.mem_append_left _ (List.mem_append_left _ (List.mem_append_left _ (List.mem_append_right _ h)))))))))) hown hK hH 0 0 (by decide) Nat.zero_lt_one rfl rfl 4 (by decide) (hts (.fieldLink RX10 33 "BallotFoundry" "slips" "[I") (List.mem_of_getElem? (i := 5) rfl)) (fun _ h => h) rfl dX10_count_102 ?_
        refine lv_iload_n hx hb dX10_count_105 rfl (lv_at hl 3 rfl) ?_
        obtain ⟨h15, q⟩ := q
        refine g_iald hx hb hK hH 9 0 (by decide) Nat.zero_lt_one 4 rfl h15 dX10_count_106 ?_
        refine va_callv (va_runV (As := [.int p2, .int (F14 9 0 p2.toNatClampNeg)]) (rest := []) ⟨hx, hb, hml, hown, hts⟩ (c_X1_countBy l G ad F14 p1.toNatClampNeg p2 (F14 9 0 p2.toNatClampNeg) (gin h7) _) (cwV 2 hts gX10_count_X1_countBy rfl rfl rfl (by decide +kernel) ⟨Nat.le_of_ble_eq_true rfl, Nat.le_of_ble_eq_true rfl⟩) ⟨fun a U g mk h => ⟨h.1, gD_blind h.2.1, h.2.2⟩, g_recv (C := RX1) (T := TX1) (N := 6) hK hH 28 p1.toNatClampNeg (by decide) (gin h7) rfl rfl, fun U hU hW => ⟨rfl, gD_at hK hG hB hH hS hU hW, q⟩⟩ rfl rfl hl.1 rfl (lv_room (Nat.le_of_ble_eq_true rfl)) dX10_count_107 ⟨Nat.le_of_ble_eq_true rfl, Nat.le_of_ble_eq_true rfl⟩) hS (fun _ _ h => h) (fun _ h => h) (fun F17 t H locs ht hvm q hB1 hz hk hS => ?_)
        have hH : gH G ad F17 H := gH_to ht hB1
        refine lv_aload_n hx hb dX10_count_110 rfl (lv_at hl 1 rfl) ?_
        refine g_get (ci := 14) (v := .ref (ad 10 0)) (C := RX10) (T := TX10) (N := 8) hx hb hts (fun _ h => (List.mem_cons_of_mem _ (List.mem_append_left _ (List.mem_append_left _ (List.mem_append_left _ (List.mem_append_left _ (List.mem_append_left _ (List.mem_append_left _ (List.mem_append_left _ (List.mem_append_right _ h)))))))))) hown hK hH 0 0 (by decide) Nat.zero_lt_one rfl rfl 6 (by decide) (hts (.fieldLink RX10 43 "BallotFoundry" "election" "LBallotFoundry$Election;") (List.mem_of_getElem? (i := 3) rfl)) (fun _ h => h) rfl dX10_count_111 ?_
        refine va_calli (va_runV (As := []) (rest := []) ⟨hx, hb, hml, hown, hts⟩ (c_X2_isAllSettled l G ad F17 _) (cwV 0 hts gX10_count_X2_isAllSettled rfl rfl rfl (by decide +kernel) ⟨Nat.le_of_ble_eq_true rfl, Nat.le_of_ble_eq_true rfl⟩) ⟨fun a U g mk h => ⟨h.1, gD_blind h.2.1, h.2.2⟩, g_recv (C := RX2) (T := TX2) (N := 10) hK hH 10 0 (by decide) Nat.zero_lt_one rfl rfl, fun U hU hW => ⟨rfl, gD_at hK hG hB hH hS hU hW, q⟩⟩ rfl rfl hl.1 rfl (lv_room (Nat.le_of_ble_eq_true rfl)) dX10_count_114 ⟨Nat.le_of_ble_eq_true rfl, Nat.le_of_ble_eq_true rfl⟩) hS (fun _ _ h => h) (fun _ h => h) (fun r18 F19 t H locs ht hvm q hB1 hz hk hS => ?_)
        have hH : gH G ad F19 H := gH_to ht hB1
        refine lv_if_eq (tgt := 128) hx hb dX10_count_117 (by decide) (fun c20 => ?_) (fun c20 => ?_)
        · have q := (if_pos c20).mp q
          exact t_128 F19 p1.toNatClampNeg (gin h7) _ _ _ hH hS (lv_sub hl [0] rfl) q
        · have q := (if_neg c20).mp q
          refine lv_aload_n hx hb dX10_count_120 rfl (lv_at hl 1 rfl) ?_
          refine g_get (ci := 14) (v := .ref (ad 10 0)) (C := RX10) (T := TX10) (N := 8) hx hb hts (fun _ h => (List.mem_cons_of_mem _ (List.mem_append_left _ (List.mem_append_left _ (List.mem_append_left _ (List.mem_append_left _ (List.mem_append_left _ (List.mem_append_left _ (List.mem_append_left _ (List.mem_append_right _ h)))))))))) hown hK hH 0 0 (by decide) Nat.zero_lt_one rfl rfl 6 (by decide) (hts (.fieldLink RX10 43 "BallotFoundry" "election" "LBallotFoundry$Election;") (List.mem_of_getElem? (i := 3) rfl)) (fun _ h => h) rfl dX10_count_121 ?_
          refine lv_iconst (v := 5) hx hb dX10_count_124 (by decide) ?_
          refine g_putN (ci := 6) (v := .int 5) (C := RX2) (T := TX2) (N := 10) hx hb hts (fun _ h => (List.mem_cons_of_mem _ (List.mem_append_left _ (List.mem_append_left _ (List.mem_append_left _ (List.mem_append_left _ (List.mem_append_left _ (List.mem_append_left _ (List.mem_append_right _ h))))))))) tyX2 tyX2_ok nmX2 hown hK hH hS 10 0 (by decide) Nat.zero_lt_one (by decide) rfl rfl 0 (by decide) (va_Nw.use rfl (hG.1 ("BallotFoundry", 135, "BallotFoundry$Election", "stage", "I", "BallotFoundry") (List.mem_of_getElem? (i := 16) rfl))) (fun _ h => h) rfl (ty := .int) (by decide +kernel) rfl rfl (Nat.le_of_ble_eq_true rfl) 5 rfl dX10_count_125 (fun H locs hH hS => ?_)
          obtain ⟨F24, eF24⟩ : ∃ z, z = fs F19 10 0 0 5 := ⟨_, rfl⟩
          have q := q F24 eF24
          rw [← eF24] at hH
          exact t_128 F24 p1.toNatClampNeg (gin h7) _ _ _ hH hS (lv_sub hl [0] rfl) q
      · have q := (if_neg c12).mp q
        exact g_throwW (text := "no more counts") hx hb hfl hno hown hts hG hS (List.mem_of_getElem? (i := 2) rfl) (List.mem_of_getElem? (i := 25) rfl) (List.mem_of_getElem? (i := 1) rfl) (List.mem_of_getElem? (i := 2) rfl) (fun _ h => (List.mem_cons_of_mem _ (List.mem_append_left _ (List.mem_append_left _ (List.mem_append_right _ h))))) (hl.1.trans hml.symm) hlocks dX10_count_71 dX10_count_74 dX10_count_75 dX10_count_78 dX10_count_81 (Nat.le_of_ble_eq_true rfl) (Nat.le_of_ble_eq_true rfl) (Nat.le_of_ble_eq_true rfl) (Nat.le_of_ble_eq_true rfl) (fun t hvm hz hk => ⟨F10, trivial, ⟨q, gH_grow hH hz hk⟩, gF_grow hS hz hk⟩) hS.2.2 (Nat.le_of_ble_eq_true rfl) (Nat.le_of_ble_eq_true rfl)
    · have q := (if_neg c11).mp q
      exact g_throw (text := "the station is settled") hx hb hfl hno hown hts hG hS (List.mem_of_getElem? (i := 2) rfl) (List.mem_of_getElem? (i := 24) rfl) (List.mem_of_getElem? (i := 1) rfl) (List.mem_of_getElem? (i := 2) rfl) (fun _ h => (List.mem_cons_of_mem _ (List.mem_append_left _ (List.mem_append_left _ (List.mem_append_right _ h))))) (hl.1.trans hml.symm) hlocks dX10_count_52 dX10_count_55 dX10_count_56 dX10_count_58 dX10_count_61 (Nat.le_of_ble_eq_true rfl) (Nat.le_of_ble_eq_true rfl) (Nat.le_of_ble_eq_true rfl) (Nat.le_of_ble_eq_true rfl) (fun t hvm hz hk => ⟨F10, trivial, ⟨q, gH_grow hH hz hk⟩, gF_grow hS hz hk⟩) hS.2.2 (Nat.le_of_ble_eq_true rfl) (Nat.le_of_ble_eq_true rfl)
  · have q := (if_neg c8).mp q
    exact g_throw (text := "no station of the election") hx hb hfl hno hown hts hG hS (List.mem_of_getElem? (i := 2) rfl) (List.mem_of_getElem? (i := 23) rfl) (List.mem_of_getElem? (i := 1) rfl) (List.mem_of_getElem? (i := 2) rfl) (fun _ h => (List.mem_cons_of_mem _ (List.mem_append_left _ (List.mem_append_left _ (List.mem_append_right _ h))))) (hl.1.trans hml.symm) hlocks dX10_count_35 dX10_count_38 dX10_count_39 dX10_count_41 dX10_count_44 (Nat.le_of_ble_eq_true rfl) (Nat.le_of_ble_eq_true rfl) (Nat.le_of_ble_eq_true rfl) (Nat.le_of_ble_eq_true rfl) (fun t hvm hz hk => ⟨F6, trivial, ⟨q, gH_grow hH hz hk⟩, gF_grow hS hz hk⟩) hS.2.2 (Nat.le_of_ble_eq_true rfl) (Nat.le_of_ble_eq_true rfl)
abbrev rm_X1_dropCounts : Room := { frames := 0, cells := 0, slots := 0, locals := 0 }
abbrev q_X1_dropCounts (G : GP) (ad : Nat → Nat → Nat) (K : Int32 → GF → Prop) (below : List Frame) (args : Array Value) (s : State) : State → Prop := MQ below (gQi G ad K) args s 0 0 (gA G)
set_option maxHeartbeats 4000000 in
set_option maxRecDepth 100000 in
theorem c_X1_dropCounts (l : Launch) (G : GP) (ad : Nat → Nat → Nat) (F : GF) (i0 : Nat) (hi0 : i0 < 5) (K : Int32 → GF → Prop) : Met l yX1_dropCounts wsX1_dropCounts rm_X1_dropCounts (va_Pc [.ref (ad 28 i0)] (fun U => gD G ad F U ∧ P_X1_dropCounts F i0 K)) (gQi G ad K) 0 0 (gA G) := by
  refine Met.ofW (cc := cX1_dropCounts) (maxL := 2) (ret := (some .int)) (by decide) rfl ?_
  intro p e s m args below meth c s₁ Bd hml hv
  obtain ⟨rfl, ⟨hK, hG, hB, hH⟩, q⟩ := hv
  have hx := Bd.exec
  have hb := Bd.bytes
  have hr := Bd.returns
  have hts := atoms_spec (ws := wsX1_dropCounts) Bd.pre
  have hown : s.vm.findClass RX1 = some m.cls := findClass_of_methodNamed Bd.named
  have hlocks := Bd.notSynchronized
  have hS : va_S (gA G) s.heap s.heap [] := va_S.rf
  have hl := lv_entry [.ref (ad 28 i0)] (n := 2) (Nat.le_of_ble_eq_true rfl)
  rw [lg_entry_eq]
  generalize (lg_sl [.ref (ad 28 i0)] ++ List.replicate (2 - (lg_sl [.ref (ad 28 i0)]).length) Slot.unset).toArray = ls at hl ⊢
  have hl : lv_has ls 2 [(0, .ref (ad 28 i0))] := hl
  unfold P_X1_dropCounts at q
  refine lv_aload_n hx hb dX1_dropCounts_0 rfl (lv_at hl 0 rfl) ?_
  refine g_get (ci := 5) (v := .int (F 28 i0 4)) (C := RX1) (T := TX1) (N := 6) hx hb hts (fun _ h => (List.mem_cons_of_mem _ (List.mem_append_right _ h))) hown hK hH 28 i0 (by decide) hi0 rfl rfl 4 (by decide) (hts (.fieldLink RX1 27 "BallotFoundry$Box" "counts" "I") (List.mem_of_getElem? (i := 1) rfl)) (fun _ h => h) rfl dX1_dropCounts_1 ?_
  refine lv_istore_n (lv' := [(1, .int (F 28 i0 4)), (0, .ref (ad 28 i0))]) hx hb dX1_dropCounts_4 rfl hl (by decide) rfl (fun ls hl => ?_)
  refine lv_aload_n hx hb dX1_dropCounts_5 rfl (lv_at hl 1 rfl) ?_
  refine lv_iconst (v := 0) hx hb dX1_dropCounts_6 (by decide) ?_
  refine g_put (ci := 5) (v := .int 0) (C := RX1) (T := TX1) (N := 6) hx hb hts (fun _ h => (List.mem_cons_of_mem _ (List.mem_append_right _ h))) tyX1 tyX1_ok nmX1 hown hK hH hS 28 i0 (by decide) hi0 (by decide) rfl rfl 4 (by decide) (hts (.fieldLink RX1 27 "BallotFoundry$Box" "counts" "I") (List.mem_of_getElem? (i := 1) rfl)) (fun _ h => h) rfl (ty := .int) (by decide +kernel) rfl rfl (Nat.le_of_ble_eq_true rfl) 0 rfl dX1_dropCounts_7 (fun H locs hH hS => ?_)
  obtain ⟨F1, eF1⟩ : ∃ z, z = fs F 28 i0 4 0 := ⟨_, rfl⟩
  have q := q F1 eF1
  rw [← eF1] at hH
  refine lv_aload_n hx hb dX1_dropCounts_10 rfl (lv_at hl 1 rfl) ?_
  refine lv_iconst (v := (-1)) hx hb dX1_dropCounts_11 (by decide) ?_
  refine g_put (ci := 5) (v := .int (-1)) (C := RX1) (T := TX1) (N := 6) hx hb hts (fun _ h => (List.mem_cons_of_mem _ (List.mem_append_right _ h))) tyX1 tyX1_ok nmX1 hown hK hH hS 28 i0 (by decide) hi0 (by decide) rfl rfl 5 (by decide) (hts (.fieldLink RX1 30 "BallotFoundry$Box" "settledBy" "I") (List.mem_of_getElem? (i := 2) rfl)) (fun _ h => h) rfl (ty := .int) (by decide +kernel) rfl rfl (Nat.le_of_ble_eq_true rfl) (-1) rfl dX1_dropCounts_12 (fun H locs hH hS => ?_)
  obtain ⟨F2, eF2⟩ : ∃ z, z = fs F1 28 i0 5 (-1) := ⟨_, rfl⟩
  have q := q F2 eF2
  rw [← eF2] at hH
  refine lv_iload_n hx hb dX1_dropCounts_15 rfl (lv_at hl 0 rfl) ?_
  exact (W.iret (v := (F 28 i0 4)) hx hb hr (fun t ht hW => ⟨⟨(F 28 i0 4), F2, rfl, q, gH_at ht hH⟩, hS.F ht⟩) hS.2.2 dX1_dropCounts_16)
abbrev rm_X10_recount : Room := { frames := 7, cells := 2, slots := 12, locals := 111 }
abbrev q_X10_recount (G : GP) (ad : Nat → Nat → Nat) (K : Int32 → GF → Prop) (X : String → GF → Prop) (below : List Frame) (args : Array Value) (s : State) : State → Prop := vx_MQ below (gQi G ad K) (gX G ad X) args s 2 12 (gA G)
set_option maxHeartbeats 4000000 in
set_option maxRecDepth 100000 in
theorem c_X10_recount (l : Launch) (hfl : l.stackTraces = false) (G : GP) (ad : Nat → Nat → Nat) (F : GF) (p1 : Int32) (K : Int32 → GF → Prop) (X : String → GF → Prop) : vx_Met l yX10_recount wsX10_recount rm_X10_recount (va_Pc [.ref (ad 0 0), .int p1] (fun U => gD G ad F U ∧ P_X10_recount F p1 K X)) (gQi G ad K) (gX G ad X) 2 12 (gA G) := by
  refine vx_ofW (cc := cX10_recount) (maxL := 2) (ret := (some .int)) (by decide) rfl ?_
  intro p e s m args below meth c s₁ Bd hml hno hv
  obtain ⟨rfl, ⟨hK, hG, hB, hH⟩, q⟩ := hv
  have hx := Bd.exec
  have hb := Bd.bytes
  have hr := Bd.returns
  have hts := atoms_spec (ws := wsX10_recount) Bd.pre
  have hown : s.vm.findClass RX10 = some m.cls := findClass_of_methodNamed Bd.named
  have hlocks := Bd.notSynchronized
  have hS : va_S (gA G) s.heap s.heap [] := va_S.rf
  have hl := lv_entry [.ref (ad 0 0), .int p1] (n := 2) (Nat.le_of_ble_eq_true rfl)
  rw [lg_entry_eq]
  generalize (lg_sl [.ref (ad 0 0), .int p1] ++ List.replicate (2 - (lg_sl [.ref (ad 0 0), .int p1]).length) Slot.unset).toArray = ls at hl ⊢
  have hl : lv_has ls 2 [(0, .ref (ad 0 0)), (1, .int p1)] := hl
  unfold P_X10_recount at q
  refine lv_aload_n hx hb dX10_recount_0 rfl (lv_at hl 0 rfl) ?_
  refine lv_iload_n hx hb dX10_recount_1 rfl (lv_at hl 1 rfl) ?_
  refine vx_callv (vx_runV (As := [.int p1]) (rest := []) ⟨hx, hb, hml, hown, hts⟩ (c_X10_needStation l hfl G ad F p1 _ _) (cwV 1 hts gX10_recount_X10_needStation rfl rfl rfl (by decide +kernel) ⟨Nat.le_of_ble_eq_true rfl, Nat.le_of_ble_eq_true rfl⟩) ⟨fun a U g mk h => ⟨h.1, gD_blind h.2.1, h.2.2⟩, g_recv (C := RX10) (T := TX10) (N := 8) hK hH 0 0 (by decide) Nat.zero_lt_one rfl rfl, fun U hU hW => ⟨rfl, gD_at hK hG hB hH hS hU hW, q⟩⟩ rfl rfl hl.1 rfl (lv_room (Nat.le_of_ble_eq_true rfl)) dX10_recount_2 ⟨Nat.le_of_ble_eq_true rfl, Nat.le_of_ble_eq_true rfl⟩) hS (fun _ _ h => h) (fun _ h => h) (fun _ _ h => h) (fun E ce q9 u t H locs ht hvm _ hq hz hk hS hc9 hv9 hcl9 => vx_widen (Nat.le_of_ble_eq_true rfl) (Nat.le_of_ble_eq_true rfl) (vx_out (fun x hx => (hno x hx).elim) hlocks hc9 hv9 hcl9 (fun t1 ht1 hvm1 => ⟨u, trivial, ⟨hq.1, gH_at ht1 (gH_to ht hq.2)⟩, hS.F ht1⟩) hS.2.2 (Nat.le_refl _) (Nat.le_refl _))) (fun F2 t H locs ht hvm q hB1 hz hk hS => ?_)
  have hH : gH G ad F2 H := gH_to ht hB1
  refine lv_aload_n hx hb dX10_recount_5 rfl (lv_at hl 0 rfl) ?_
  refine lv_iconst (v := 4) hx hb dX10_recount_6 (by decide) ?_
  refine vx_callv (vx_runV (As := [.int 4]) (rest := []) ⟨hx, hb, hml, hown, hts⟩ (c_X10_needStage l hfl G ad F2 4 _ _) (cwV 1 hts gX10_recount_X10_needStage rfl rfl rfl (by decide +kernel) ⟨Nat.le_of_ble_eq_true rfl, Nat.le_of_ble_eq_true rfl⟩) ⟨fun a U g mk h => ⟨h.1, gD_blind h.2.1, h.2.2⟩, g_recv (C := RX10) (T := TX10) (N := 8) hK hH 0 0 (by decide) Nat.zero_lt_one rfl rfl, fun U hU hW => ⟨rfl, gD_at hK hG hB hH hS hU hW, q⟩⟩ rfl rfl hl.1 rfl (lv_room (Nat.le_of_ble_eq_true rfl)) dX10_recount_7 ⟨Nat.le_of_ble_eq_true rfl, Nat.le_of_ble_eq_true rfl⟩) hS (fun _ _ h => h) (fun _ h => h) (fun _ _ h => h) (fun E ce q9 u t H locs ht hvm _ hq hz hk hS hc9 hv9 hcl9 => vx_widen (Nat.le_of_ble_eq_true rfl) (Nat.le_of_ble_eq_true rfl) (vx_out (fun x hx => (hno x hx).elim) hlocks hc9 hv9 hcl9 (fun t1 ht1 hvm1 => ⟨u, trivial, ⟨hq.1, gH_at ht1 (gH_to ht hq.2)⟩, hS.F ht1⟩) hS.2.2 (Nat.le_refl _) (Nat.le_refl _))) (fun F4 t H locs ht hvm q hB1 hz hk hS => ?_)
  have hH : gH G ad F4 H := gH_to ht hB1
  refine lv_aload_n hx hb dX10_recount_10 rfl (lv_at hl 0 rfl) ?_
  refine g_get (ci := 14) (v := .ref (ad 10 0)) (C := RX10) (T := TX10) (N := 8) hx hb hts (fun _ h => (List.mem_cons_of_mem _ (List.mem_append_left _ (List.mem_append_left _ (List.mem_append_left _ (List.mem_append_left _ (List.mem_append_left _ (List.mem_append_right _ h)))))))) hown hK hH 0 0 (by decide) Nat.zero_lt_one rfl rfl 6 (by decide) (hts (.fieldLink RX10 43 "BallotFoundry" "election" "LBallotFoundry$Election;") (List.mem_of_getElem? (i := 1) rfl)) (fun _ h => h) rfl dX10_recount_11 ?_
  refine g_getN (ci := 6) (v := .ref (ad 20 0)) (C := RX2) (T := TX2) (N := 10) hx hb hts (fun _ h => (List.mem_cons_of_mem _ (List.mem_append_left _ (List.mem_append_left _ (List.mem_append_left _ (List.mem_append_left _ (List.mem_append_right _ h))))))) hown hK hH 10 0 (by decide) Nat.zero_lt_one rfl rfl 8 (by decide) (va_Nw.use rfl (hG.1 ("BallotFoundry", 217, "BallotFoundry$Election", "boxes", "[LBallotFoundry$Box;", "BallotFoundry") (List.mem_of_getElem? (i := 24) rfl))) (fun _ h => h) rfl dX10_recount_14 ?_
  refine lv_iload_n hx hb dX10_recount_17 rfl (lv_at hl 1 rfl) ?_
  obtain ⟨h5, q⟩ := q
  refine g_aald (a := ad 28 (p1.toNatClampNeg)) hx hb hK hH 20 0 (by decide) Nat.zero_lt_one 4 5 rfl rfl h5 rfl dX10_recount_18 ?_
  refine va_calli (va_runV (As := []) (rest := []) ⟨hx, hb, hml, hown, hts⟩ (c_X1_dropCounts l G ad F4 p1.toNatClampNeg (gin h5) _) (cwV 0 hts gX10_recount_X1_dropCounts rfl rfl rfl (by decide +kernel) ⟨Nat.le_of_ble_eq_true rfl, Nat.le_of_ble_eq_true rfl⟩) ⟨fun a U g mk h => ⟨h.1, gD_blind h.2.1, h.2.2⟩, g_recv (C := RX1) (T := TX1) (N := 6) hK hH 28 p1.toNatClampNeg (by decide) (gin h5) rfl rfl, fun U hU hW => ⟨rfl, gD_at hK hG hB hH hS hU hW, q⟩⟩ rfl rfl hl.1 rfl (lv_room (Nat.le_of_ble_eq_true rfl)) dX10_recount_19 ⟨Nat.le_of_ble_eq_true rfl, Nat.le_of_ble_eq_true rfl⟩) hS (fun _ _ h => h) (fun _ h => h) (fun r6 F7 t H locs ht hvm q hB1 hz hk hS => ?_)
  have hH : gH G ad F7 H := gH_to ht hB1
  exact vx_ret (W.iret (v := r6) hx hb hr (fun t ht hW => ⟨⟨r6, F7, rfl, q, gH_at ht hH⟩, hS.F ht⟩) hS.2.2 dX10_recount_22)
abbrev rm_X10_isSettled : Room := { frames := 7, cells := 1, slots := 6, locals := 111 }
abbrev q_X10_isSettled (G : GP) (ad : Nat → Nat → Nat) (K : Int32 → GF → Prop) (X : String → GF → Prop) (below : List Frame) (args : Array Value) (s : State) : State → Prop := vx_MQ below (gQi G ad K) (gX G ad X) args s 1 6 (gA G)
set_option maxHeartbeats 4000000 in
set_option maxRecDepth 100000 in
theorem c_X10_isSettled (l : Launch) (hfl : l.stackTraces = false) (G : GP) (ad : Nat → Nat → Nat) (F : GF) (p1 : Int32) (K : Int32 → GF → Prop) (X : String → GF → Prop) : vx_Met l yX10_isSettled wsX10_isSettled rm_X10_isSettled (va_Pc [.ref (ad 0 0), .int p1] (fun U => gD G ad F U ∧ P_X10_isSettled F p1 K X)) (gQi G ad K) (gX G ad X) 1 6 (gA G) := by
  refine vx_ofW (cc := cX10_isSettled) (maxL := 2) (ret := (some .boolean)) (by decide) rfl ?_
  intro p e s m args below meth c s₁ Bd hml hno hv
  obtain ⟨rfl, ⟨hK, hG, hB, hH⟩, q⟩ := hv
  have hx := Bd.exec
  have hb := Bd.bytes
  have hr := Bd.returns
  have hts := atoms_spec (ws := wsX10_isSettled) Bd.pre
  have hown : s.vm.findClass RX10 = some m.cls := findClass_of_methodNamed Bd.named
  have hlocks := Bd.notSynchronized
  have hS : va_S (gA G) s.heap s.heap [] := va_S.rf
  have hl := lv_entry [.ref (ad 0 0), .int p1] (n := 2) (Nat.le_of_ble_eq_true rfl)
  rw [lg_entry_eq]
  generalize (lg_sl [.ref (ad 0 0), .int p1] ++ List.replicate (2 - (lg_sl [.ref (ad 0 0), .int p1]).length) Slot.unset).toArray = ls at hl ⊢
  have hl : lv_has ls 2 [(0, .ref (ad 0 0)), (1, .int p1)] := hl
  unfold P_X10_isSettled at q
  refine lv_aload_n hx hb dX10_isSettled_0 rfl (lv_at hl 0 rfl) ?_
  refine lv_iload_n hx hb dX10_isSettled_1 rfl (lv_at hl 1 rfl) ?_
  refine vx_callv (vx_runV (As := [.int p1]) (rest := []) ⟨hx, hb, hml, hown, hts⟩ (c_X10_needStation l hfl G ad F p1 _ _) (cwV 1 hts gX10_isSettled_X10_needStation rfl rfl rfl (by decide +kernel) ⟨Nat.le_of_ble_eq_true rfl, Nat.le_of_ble_eq_true rfl⟩) ⟨fun a U g mk h => ⟨h.1, gD_blind h.2.1, h.2.2⟩, g_recv (C := RX10) (T := TX10) (N := 8) hK hH 0 0 (by decide) Nat.zero_lt_one rfl rfl, fun U hU hW => ⟨rfl, gD_at hK hG hB hH hS hU hW, q⟩⟩ rfl rfl hl.1 rfl (lv_room (Nat.le_of_ble_eq_true rfl)) dX10_isSettled_2 ⟨Nat.le_of_ble_eq_true rfl, Nat.le_of_ble_eq_true rfl⟩) hS (fun _ _ h => h) (fun _ h => h) (fun _ _ h => h) (fun E ce q9 u t H locs ht hvm _ hq hz hk hS hc9 hv9 hcl9 => vx_widen (Nat.le_of_ble_eq_true rfl) (Nat.le_of_ble_eq_true rfl) (vx_out (fun x hx => (hno x hx).elim) hlocks hc9 hv9 hcl9 (fun t1 ht1 hvm1 => ⟨u, trivial, ⟨hq.1, gH_at ht1 (gH_to ht hq.2)⟩, hS.F ht1⟩) hS.2.2 (Nat.le_refl _) (Nat.le_refl _))) (fun F2 t H locs ht hvm q hB1 hz hk hS => ?_)
  have hH : gH G ad F2 H := gH_to ht hB1
  refine lv_aload_n hx hb dX10_isSettled_5 rfl (lv_at hl 0 rfl) ?_
  refine g_get (ci := 14) (v := .ref (ad 10 0)) (C := RX10) (T := TX10) (N := 8) hx hb hts (fun _ h => (List.mem_cons_of_mem _ (List.mem_append_left _ (List.mem_append_left _ (List.mem_append_left _ (List.mem_append_left _ (List.mem_append_right _ h))))))) hown hK hH 0 0 (by decide) Nat.zero_lt_one rfl rfl 6 (by decide) (hts (.fieldLink RX10 43 "BallotFoundry" "election" "LBallotFoundry$Election;") (List.mem_of_getElem? (i := 1) rfl)) (fun _ h => h) rfl dX10_isSettled_6 ?_
  refine g_getN (ci := 6) (v := .ref (ad 20 0)) (C := RX2) (T := TX2) (N := 10) hx hb hts (fun _ h => (List.mem_cons_of_mem _ (List.mem_append_left _ (List.mem_append_left _ (List.mem_append_left _ (List.mem_append_right _ h)))))) hown hK hH 10 0 (by decide) Nat.zero_lt_one rfl rfl 8 (by decide) (va_Nw.use rfl (hG.1 ("BallotFoundry", 217, "BallotFoundry$Election", "boxes", "[LBallotFoundry$Box;", "BallotFoundry") (List.mem_of_getElem? (i := 24) rfl))) (fun _ h => h) rfl dX10_isSettled_9 ?_
  refine lv_iload_n hx hb dX10_isSettled_12 rfl (lv_at hl 1 rfl) ?_
  obtain ⟨h3, q⟩ := q
  refine g_aald (a := ad 28 (p1.toNatClampNeg)) hx hb hK hH 20 0 (by decide) Nat.zero_lt_one 4 5 rfl rfl h3 rfl dX10_isSettled_13 ?_
  refine va_calli (va_runV (As := []) (rest := []) ⟨hx, hb, hml, hown, hts⟩ (c_X1_hasNumbers l G ad F2 p1.toNatClampNeg (gin h3) _) (cwV 0 hts gX10_isSettled_X1_hasNumbers rfl rfl rfl (by decide +kernel) ⟨Nat.le_of_ble_eq_true rfl, Nat.le_of_ble_eq_true rfl⟩) ⟨fun a U g mk h => ⟨h.1, gD_blind h.2.1, h.2.2⟩, g_recv (C := RX1) (T := TX1) (N := 6) hK hH 28 p1.toNatClampNeg (by decide) (gin h3) rfl rfl, fun U hU hW => ⟨rfl, gD_at hK hG hB hH hS hU hW, q⟩⟩ rfl rfl hl.1 rfl (lv_room (Nat.le_of_ble_eq_true rfl)) dX10_isSettled_14 ⟨Nat.le_of_ble_eq_true rfl, Nat.le_of_ble_eq_true rfl⟩) hS (fun _ _ h => h) (fun _ h => h) (fun r4 F5 t H locs ht hvm q hB1 hz hk hS => ?_)
  have hH : gH G ad F5 H := gH_to ht hB1
  obtain ⟨h6, q⟩ := q
  exact vx_ret (W.zret (v := r4) hx hb hr (gz_nar h6) (fun t ht hW => ⟨⟨r4, F5, rfl, q, gH_at ht hH⟩, hS.F ht⟩) hS.2.2 dX10_isSettled_17)
abbrev rm_X1_settledNumber : Room := { frames := 0, cells := 0, slots := 0, locals := 0 }
abbrev q_X1_settledNumber (G : GP) (ad : Nat → Nat → Nat) (K : Int32 → GF → Prop) (below : List Frame) (args : Array Value) (s : State) : State → Prop := MQ below (gQi G ad K) args s 0 0 (gA G)
set_option maxHeartbeats 4000000 in
set_option maxRecDepth 100000 in
theorem c_X1_settledNumber (l : Launch) (G : GP) (ad : Nat → Nat → Nat) (F : GF) (i0 : Nat) (p1 : Int32) (hi0 : i0 < 5) (K : Int32 → GF → Prop) : Met l yX1_settledNumber wsX1_settledNumber rm_X1_settledNumber (va_Pc [.ref (ad 28 i0), .int p1] (fun U => gD G ad F U ∧ P_X1_settledNumber F i0 p1 K)) (gQi G ad K) 0 0 (gA G) := by
  refine Met.ofW (cc := cX1_settledNumber) (maxL := 2) (ret := (some .int)) (by decide) rfl ?_
  intro p e s m args below meth c s₁ Bd hml hv
  obtain ⟨rfl, ⟨hK, hG, hB, hH⟩, q⟩ := hv
  have hx := Bd.exec
  have hb := Bd.bytes
  have hr := Bd.returns
  have hts := atoms_spec (ws := wsX1_settledNumber) Bd.pre
  have hown : s.vm.findClass RX1 = some m.cls := findClass_of_methodNamed Bd.named
  have hlocks := Bd.notSynchronized
  have hS : va_S (gA G) s.heap s.heap [] := va_S.rf
  have hl := lv_entry [.ref (ad 28 i0), .int p1] (n := 2) (Nat.le_of_ble_eq_true rfl)
  rw [lg_entry_eq]
  generalize (lg_sl [.ref (ad 28 i0), .int p1] ++ List.replicate (2 - (lg_sl [.ref (ad 28 i0), .int p1]).length) Slot.unset).toArray = ls at hl ⊢
  have hl : lv_has ls 2 [(0, .ref (ad 28 i0)), (1, .int p1)] := hl
  unfold P_X1_settledNumber at q
  refine lv_aload_n hx hb dX1_settledNumber_0 rfl (lv_at hl 0 rfl) ?_
  refine g_get (ci := 5) (v := .int (F 28 i0 5)) (C := RX1) (T := TX1) (N := 6) hx hb hts (fun _ h => (List.mem_cons_of_mem _ (List.mem_append_left _ (List.mem_append_right _ h)))) hown hK hH 28 i0 (by decide) hi0 rfl rfl 5 (by decide) (hts (.fieldLink RX1 30 "BallotFoundry$Box" "settledBy" "I") (List.mem_of_getElem? (i := 1) rfl)) (fun _ h => h) rfl dX1_settledNumber_1 ?_
  refine lv_if_lt (tgt := 26) hx hb dX1_settledNumber_4 (by decide) (fun c1 => ?_) (fun c1 => ?_)
  · have q := (if_pos c1).mp q
    refine lv_iconst (v := (-1)) hx hb dX1_settledNumber_26 (by decide) ?_
    exact (W.iret (v := (-1)) hx hb hr (fun t ht hW => ⟨⟨(-1), F, rfl, q, gH_at ht hH⟩, hS.F ht⟩) hS.2.2 dX1_settledNumber_27)
  · have q := (if_neg c1).mp q
    refine lv_aload_n hx hb dX1_settledNumber_7 rfl (lv_at hl 0 rfl) ?_
    refine g_get (ci := 5) (v := .int (F 28 i0 5)) (C := RX1) (T := TX1) (N := 6) hx hb hts (fun _ h => (List.mem_cons_of_mem _ (List.mem_append_left _ (List.mem_append_right _ h)))) hown hK hH 28 i0 (by decide) hi0 rfl rfl 5 (by decide) (hts (.fieldLink RX1 30 "BallotFoundry$Box" "settledBy" "I") (List.mem_of_getElem? (i := 1) rfl)) (fun _ h => h) rfl dX1_settledNumber_8 ?_
    refine lv_bipush (v := 8) hx hb dX1_settledNumber_11 (by decide) ?_
    refine lv_icmp_ge (tgt := 26) hx hb dX1_settledNumber_13 (by decide) (fun c2 => ?_) (fun c2 => ?_)
    · have q := (if_pos c2).mp q
      refine lv_iconst (v := (-1)) hx hb dX1_settledNumber_26 (by decide) ?_
      exact (W.iret (v := (-1)) hx hb hr (fun t ht hW => ⟨⟨(-1), F, rfl, q, gH_at ht hH⟩, hS.F ht⟩) hS.2.2 dX1_settledNumber_27)
    · have q := (if_neg c2).mp q
      refine lv_iload_n hx hb dX1_settledNumber_16 rfl (lv_at hl 1 rfl) ?_
      refine lv_if_lt (tgt := 26) hx hb dX1_settledNumber_17 (by decide) (fun c3 => ?_) (fun c3 => ?_)
      · have q := (if_pos c3).mp q
        refine lv_iconst (v := (-1)) hx hb dX1_settledNumber_26 (by decide) ?_
        exact (W.iret (v := (-1)) hx hb hr (fun t ht hW => ⟨⟨(-1), F, rfl, q, gH_at ht hH⟩, hS.F ht⟩) hS.2.2 dX1_settledNumber_27)
      · have q := (if_neg c3).mp q
        refine lv_iload_n hx hb dX1_settledNumber_20 rfl (lv_at hl 1 rfl) ?_
        refine lv_bipush (v := 6) hx hb dX1_settledNumber_21 (by decide) ?_
        refine lv_icmp_lt (tgt := 28) hx hb dX1_settledNumber_23 (by decide) (fun c4 => ?_) (fun c4 => ?_)
        · have q := (if_pos c4).mp q
          refine lv_aload_n hx hb dX1_settledNumber_28 rfl (lv_at hl 0 rfl) ?_
          refine g_get (ci := 5) (v := .ref (ad 31 i0)) (C := RX1) (T := TX1) (N := 6) hx hb hts (fun _ h => (List.mem_cons_of_mem _ (List.mem_append_left _ (List.mem_append_right _ h)))) hown hK hH 28 i0 (by decide) hi0 rfl rfl 3 (by decide) (hts (.fieldLink RX1 24 "BallotFoundry$Box" "numbers" "[[I") (List.mem_of_getElem? (i := 2) rfl)) (fun _ h => h) rfl dX1_settledNumber_29 ?_
          refine lv_aload_n hx hb dX1_settledNumber_32 rfl (lv_at hl 0 rfl) ?_
          refine g_get (ci := 5) (v := .int (F 28 i0 5)) (C := RX1) (T := TX1) (N := 6) hx hb hts (fun _ h => (List.mem_cons_of_mem _ (List.mem_append_left _ (List.mem_append_right _ h)))) hown hK hH 28 i0 (by decide) hi0 rfl rfl 5 (by decide) (hts (.fieldLink RX1 30 "BallotFoundry$Box" "settledBy" "I") (List.mem_of_getElem? (i := 1) rfl)) (fun _ h => h) rfl dX1_settledNumber_33 ?_
          obtain ⟨h5, q⟩ := q
          refine g_aaldA (a := ad 32 (8 * i0 + (F 28 i0 5).toNatClampNeg)) hx hb hK hH 31 i0 (by decide) hi0 6 8 rfl rfl h5 rfl dX1_settledNumber_36 ?_
          refine lv_iload_n hx hb dX1_settledNumber_37 rfl (lv_at hl 1 rfl) ?_
          obtain ⟨h6, q⟩ := q
          refine g_iald hx hb hK hH 32 (8 * i0 + (F 28 i0 5).toNatClampNeg) (by decide) (gin8 hi0 h5) 6 rfl h6 dX1_settledNumber_38 ?_
          exact (W.iret (v := (F 32 (8 * i0 + (F 28 i0 5).toNatClampNeg) p1.toNatClampNeg)) hx hb hr (fun t ht hW => ⟨⟨(F 32 (8 * i0 + (F 28 i0 5).toNatClampNeg) p1.toNatClampNeg), F, rfl, q, gH_at ht hH⟩, hS.F ht⟩) hS.2.2 dX1_settledNumber_39)
        · have q := (if_neg c4).mp q
          refine lv_iconst (v := (-1)) hx hb dX1_settledNumber_26 (by decide) ?_
          exact (W.iret (v := (-1)) hx hb hr (fun t ht hW => ⟨⟨(-1), F, rfl, q, gH_at ht hH⟩, hS.F ht⟩) hS.2.2 dX1_settledNumber_27)
abbrev rm_X10_numberOf : Room := { frames := 7, cells := 2, slots := 12, locals := 112 }
abbrev q_X10_numberOf (G : GP) (ad : Nat → Nat → Nat) (K : Int32 → GF → Prop) (X : String → GF → Prop) (below : List Frame) (args : Array Value) (s : State) : State → Prop := vx_MQ below (gQi G ad K) (gX G ad X) args s 2 12 (gA G)
set_option maxHeartbeats 4000000 in
set_option maxRecDepth 100000 in
theorem c_X10_numberOf (l : Launch) (hfl : l.stackTraces = false) (G : GP) (ad : Nat → Nat → Nat) (F : GF) (p1 : Int32) (p2 : Int32) (K : Int32 → GF → Prop) (X : String → GF → Prop) : vx_Met l yX10_numberOf wsX10_numberOf rm_X10_numberOf (va_Pc [.ref (ad 0 0), .int p1, .int p2] (fun U => gD G ad F U ∧ P_X10_numberOf F p1 p2 K X)) (gQi G ad K) (gX G ad X) 2 12 (gA G) := by
  refine vx_ofW (cc := cX10_numberOf) (maxL := 3) (ret := (some .int)) (by decide) rfl ?_
  intro p e s m args below meth c s₁ Bd hml hno hv
  obtain ⟨rfl, ⟨hK, hG, hB, hH⟩, q⟩ := hv
  have hx := Bd.exec
  have hb := Bd.bytes
  have hr := Bd.returns
  have hts := atoms_spec (ws := wsX10_numberOf) Bd.pre
  have hown : s.vm.findClass RX10 = some m.cls := findClass_of_methodNamed Bd.named
  have hlocks := Bd.notSynchronized
  have hS : va_S (gA G) s.heap s.heap [] := va_S.rf
  have hl := lv_entry [.ref (ad 0 0), .int p1, .int p2] (n := 3) (Nat.le_of_ble_eq_true rfl)
  rw [lg_entry_eq]
  generalize (lg_sl [.ref (ad 0 0), .int p1, .int p2] ++ List.replicate (3 - (lg_sl [.ref (ad 0 0), .int p1, .int p2]).length) Slot.unset).toArray = ls at hl ⊢
  have hl : lv_has ls 3 [(0, .ref (ad 0 0)), (1, .int p1), (2, .int p2)] := hl
  unfold P_X10_numberOf at q
  refine lv_aload_n hx hb dX10_numberOf_0 rfl (lv_at hl 0 rfl) ?_
  refine lv_iload_n hx hb dX10_numberOf_1 rfl (lv_at hl 1 rfl) ?_
  refine vx_callv (vx_runV (As := [.int p1]) (rest := []) ⟨hx, hb, hml, hown, hts⟩ (c_X10_needStation l hfl G ad F p1 _ _) (cwV 1 hts gX10_numberOf_X10_needStation rfl rfl rfl (by decide +kernel) ⟨Nat.le_of_ble_eq_true rfl, Nat.le_of_ble_eq_true rfl⟩) ⟨fun a U g mk h => ⟨h.1, gD_blind h.2.1, h.2.2⟩, g_recv (C := RX10) (T := TX10) (N := 8) hK hH 0 0 (by decide) Nat.zero_lt_one rfl rfl, fun U hU hW => ⟨rfl, gD_at hK hG hB hH hS hU hW, q⟩⟩ rfl rfl hl.1 rfl (lv_room (Nat.le_of_ble_eq_true rfl)) dX10_numberOf_2 ⟨Nat.le_of_ble_eq_true rfl, Nat.le_of_ble_eq_true rfl⟩) hS (fun _ _ h => h) (fun _ h => h) (fun _ _ h => h) (fun E ce q9 u t H locs ht hvm _ hq hz hk hS hc9 hv9 hcl9 => vx_widen (Nat.le_of_ble_eq_true rfl) (Nat.le_of_ble_eq_true rfl) (vx_out (fun x hx => (hno x hx).elim) hlocks hc9 hv9 hcl9 (fun t1 ht1 hvm1 => ⟨u, trivial, ⟨hq.1, gH_at ht1 (gH_to ht hq.2)⟩, hS.F ht1⟩) hS.2.2 (Nat.le_refl _) (Nat.le_refl _))) (fun F2 t H locs ht hvm q hB1 hz hk hS => ?_)
  have hH : gH G ad F2 H := gH_to ht hB1
  refine lv_iload_n hx hb dX10_numberOf_5 rfl (lv_at hl 2 rfl) ?_
  refine lv_iconst (v := 0) hx hb dX10_numberOf_6 (by decide) ?_
  refine lv_iconst (v := 5) hx hb dX10_numberOf_7 (by decide) ?_
  refine vx_callv (vx_runS (As := [.int p2, .int 0, .int 5]) (rest := []) ⟨hx, hb, hml, hown, hts⟩ (c_X10_needRange l hfl G ad F2 p2 0 5 _ _) (va_cwS 3 hts gX10_numberOf_X10_needRange rfl rfl rfl (by decide +kernel) ⟨Nat.le_of_ble_eq_true rfl, Nat.le_of_ble_eq_true rfl⟩) ⟨fun a U g mk h => ⟨h.1, gD_blind h.2.1, h.2.2⟩, fun U hU hW => ⟨rfl, gD_at hK hG hB hH hS hU hW, q⟩⟩ rfl rfl hl.1 rfl (lv_room (Nat.le_of_ble_eq_true rfl)) dX10_numberOf_8 ⟨Nat.le_of_ble_eq_true rfl, Nat.le_of_ble_eq_true rfl⟩) hS (fun _ _ h => h) (fun _ h => h) (fun _ _ h => h) (fun E ce q9 u t H locs ht hvm _ hq hz hk hS hc9 hv9 hcl9 => vx_widen (Nat.le_of_ble_eq_true rfl) (Nat.le_of_ble_eq_true rfl) (vx_out (fun x hx => (hno x hx).elim) hlocks hc9 hv9 hcl9 (fun t1 ht1 hvm1 => ⟨u, trivial, ⟨hq.1, gH_at ht1 (gH_to ht hq.2)⟩, hS.F ht1⟩) hS.2.2 (Nat.le_refl _) (Nat.le_refl _))) (fun F4 t H locs ht hvm q hB1 hz hk hS => ?_)
  have hH : gH G ad F4 H := gH_to ht hB1
  refine lv_aload_n hx hb dX10_numberOf_11 rfl (lv_at hl 0 rfl) ?_
  refine g_get (ci := 14) (v := .ref (ad 10 0)) (C := RX10) (T := TX10) (N := 8) hx hb hts (fun _ h => (List.mem_cons_of_mem _ (List.mem_append_left _ (List.mem_append_left _ (List.mem_append_left _ (List.mem_append_left _ (List.mem_append_left _ (List.mem_append_left _ (List.mem_append_right _ h))))))))) hown hK hH 0 0 (by decide) Nat.zero_lt_one rfl rfl 6 (by decide) (hts (.fieldLink RX10 43 "BallotFoundry" "election" "LBallotFoundry$Election;") (List.mem_of_getElem? (i := 1) rfl)) (fun _ h => h) rfl dX10_numberOf_12 ?_
  refine g_getN (ci := 6) (v := .ref (ad 20 0)) (C := RX2) (T := TX2) (N := 10) hx hb hts (fun _ h => (List.mem_cons_of_mem _ (List.mem_append_left _ (List.mem_append_left _ (List.mem_append_left _ (List.mem_append_left _ (List.mem_append_left _ (List.mem_append_right _ h)))))))) hown hK hH 10 0 (by decide) Nat.zero_lt_one rfl rfl 8 (by decide) (va_Nw.use rfl (hG.1 ("BallotFoundry", 217, "BallotFoundry$Election", "boxes", "[LBallotFoundry$Box;", "BallotFoundry") (List.mem_of_getElem? (i := 24) rfl))) (fun _ h => h) rfl dX10_numberOf_15 ?_
  refine lv_iload_n hx hb dX10_numberOf_18 rfl (lv_at hl 1 rfl) ?_
  obtain ⟨h5, q⟩ := q
  refine g_aald (a := ad 28 (p1.toNatClampNeg)) hx hb hK hH 20 0 (by decide) Nat.zero_lt_one 4 5 rfl rfl h5 rfl dX10_numberOf_19 ?_
  refine lv_iload_n hx hb dX10_numberOf_20 rfl (lv_at hl 2 rfl) ?_
  refine va_calli (va_runV (As := [.int p2]) (rest := []) ⟨hx, hb, hml, hown, hts⟩ (c_X1_settledNumber l G ad F4 p1.toNatClampNeg p2 (gin h5) _) (cwV 1 hts gX10_numberOf_X1_settledNumber rfl rfl rfl (by decide +kernel) ⟨Nat.le_of_ble_eq_true rfl, Nat.le_of_ble_eq_true rfl⟩) ⟨fun a U g mk h => ⟨h.1, gD_blind h.2.1, h.2.2⟩, g_recv (C := RX1) (T := TX1) (N := 6) hK hH 28 p1.toNatClampNeg (by decide) (gin h5) rfl rfl, fun U hU hW => ⟨rfl, gD_at hK hG hB hH hS hU hW, q⟩⟩ rfl rfl hl.1 rfl (lv_room (Nat.le_of_ble_eq_true rfl)) dX10_numberOf_21 ⟨Nat.le_of_ble_eq_true rfl, Nat.le_of_ble_eq_true rfl⟩) hS (fun _ _ h => h) (fun _ h => h) (fun r6 F7 t H locs ht hvm q hB1 hz hk hS => ?_)
  have hH : gH G ad F7 H := gH_to ht hB1
  exact vx_ret (W.iret (v := r6) hx hb hr (fun t ht hW => ⟨⟨r6, F7, rfl, q, gH_at ht hH⟩, hS.F ht⟩) hS.2.2 dX10_numberOf_24)
abbrev rm_X1_ballotsFor : Room := { frames := 0, cells := 0, slots := 0, locals := 0 }
abbrev q_X1_ballotsFor (G : GP) (ad : Nat → Nat → Nat) (K : Int32 → GF → Prop) (below : List Frame) (args : Array Value) (s : State) : State → Prop := MQ below (gQi G ad K) args s 0 0 (gA G)
set_option maxHeartbeats 4000000 in
set_option maxRecDepth 100000 in
theorem c_X1_ballotsFor (l : Launch) (G : GP) (ad : Nat → Nat → Nat) (F : GF) (i0 : Nat) (p1 : Int32) (hi0 : i0 < 5) (K : Int32 → GF → Prop) : Met l yX1_ballotsFor wsX1_ballotsFor rm_X1_ballotsFor (va_Pc [.ref (ad 28 i0), .int p1] (fun U => gD G ad F U ∧ P_X1_ballotsFor F i0 p1 K)) (gQi G ad K) 0 0 (gA G) := by
  refine Met.ofW (cc := cX1_ballotsFor) (maxL := 4) (ret := (some .int)) (by decide) rfl ?_
  intro p e s m args below meth c s₁ Bd hml hv
  obtain ⟨rfl, ⟨hK, hG, hB, hH⟩, q⟩ := hv
  have hx := Bd.exec
  have hb := Bd.bytes
  have hr := Bd.returns
  have hts := atoms_spec (ws := wsX1_ballotsFor) Bd.pre
  have hown : s.vm.findClass RX1 = some m.cls := findClass_of_methodNamed Bd.named
  have hlocks := Bd.notSynchronized
  have hS : va_S (gA G) s.heap s.heap [] := va_S.rf
  have hl := lv_entry [.ref (ad 28 i0), .int p1] (n := 4) (Nat.le_of_ble_eq_true rfl)
  rw [lg_entry_eq]
  generalize (lg_sl [.ref (ad 28 i0), .int p1] ++ List.replicate (4 - (lg_sl [.ref (ad 28 i0), .int p1]).length) Slot.unset).toArray = ls at hl ⊢
  have hl : lv_has ls 4 [(0, .ref (ad 28 i0)), (1, .int p1)] := hl
  show W p l e rm_X1_ballotsFor s m ([.ref (ad 28 i0), .int p1] : List Value).toArray below meth c s.heap [] 0 0 (q_X1_ballotsFor G ad K below ([.ref (ad 28 i0), .int p1] : List Value).toArray s) _
  have t_25 : ∀ (k4 : GF → Int32 → Int32 → Int32 → Prop), (∀ (F : GF) (x1 : Int32) (x2 : Int32) (x3 : Int32) (H : Heap) (locs : List Loc) (ls : Array Slot), gH G ad F H → va_S (gA G) s.heap H locs → lv_has ls 4 [(0, .ref (ad 28 i0)), (1, .int x1), (2, .int x2), (3, .int x3)] → k4 F x1 x2 x3 → W p l e rm_X1_ballotsFor s m ([.ref (ad 28 i0), .int p1] : List Value).toArray below meth c H locs 0 0 (q_X1_ballotsFor G ad K below ([.ref (ad 28 i0), .int p1] : List Value).toArray s) (F0 m 4 ls [])) → ∀ (F : GF) (x1 : Int32) (x2 : Int32) (x3 : Int32) (H : Heap) (locs : List Loc) (ls : Array Slot), gH G ad F H → va_S (gA G) s.heap H locs → lv_has ls 4 [(0, .ref (ad 28 i0)), (1, .int x1), (2, .int x2), (3, .int x3)] → (P_X1_ballotsFor_25 i0 k4 K) F x1 x2 x3 → W p l e rm_X1_ballotsFor s m ([.ref (ad 28 i0), .int p1] : List Value).toArray below meth c H locs 0 0 (q_X1_ballotsFor G ad K below ([.ref (ad 28 i0), .int p1] : List Value).toArray s) (F0 m 25 ls []) := by
    intro k4 hk4 F x1 x2 x3 H locs ls hH hS hl q
    unfold P_X1_ballotsFor_25 at q
    refine lv_iinc (v := x3 + 1) (lv' := [(3, .int (x3 + 1)), (0, .ref (ad 28 i0)), (1, .int x1), (2, .int x2)]) hx hb dX1_ballotsFor_25 hl (k := 3) rfl rfl (by decide) rfl (fun ls hl => ?_)
    refine lv_goto (tgt := 4) hx hb dX1_ballotsFor_28 (by decide) ?_
    exact hk4 F x1 x2 (x3 + 1) _ _ _ hH hS (lv_sub hl [1, 2, 3, 0] rfl) q
  have t_4 : ∀ n : Nat, ∀ (F : GF) (x1 : Int32) (x2 : Int32) (x3 : Int32) (H : Heap) (locs : List Loc) (ls : Array Slot), gH G ad F H → va_S (gA G) s.heap H locs → lv_has ls 4 [(0, .ref (ad 28 i0)), (1, .int x1), (2, .int x2), (3, .int x3)] → (P_X1_ballotsFor_4 i0 K n) F x1 x2 x3 → W p l e rm_X1_ballotsFor s m ([.ref (ad 28 i0), .int p1] : List Value).toArray below meth c H locs 0 0 (q_X1_ballotsFor G ad K below ([.ref (ad 28 i0), .int p1] : List Value).toArray s) (F0 m 4 ls []) := by
    intro n
    induction n with
    | zero =>
      intro F x1 x2 x3 H locs ls hH hS hl q
      exact False.elim q
    | succ n ih =>
      intro F x1 x2 x3 H locs ls hH hS hl q
      rw [P_X1_ballotsFor_4] at q
      refine lv_iload_n hx hb dX1_ballotsFor_4 rfl (lv_at hl 3 rfl) ?_
      refine lv_aload_n hx hb dX1_ballotsFor_5 rfl (lv_at hl 0 rfl) ?_
      refine g_get (ci := 5) (v := .int (F 28 i0 1)) (C := RX1) (T := TX1) (N := 6) hx hb hts (fun _ h => (List.mem_cons_of_mem _ (List.mem_append_left _ (List.mem_append_right _ h)))) hown hK hH 28 i0 (by decide) hi0 rfl rfl 1 (by decide) (hts (.fieldLink RX1 15 "BallotFoundry$Box" "size" "I") (List.mem_of_getElem? (i := 1) rfl)) (fun _ h => h) rfl dX1_ballotsFor_6 ?_
      refine lv_icmp_ge (tgt := 31) hx hb dX1_ballotsFor_9 (by decide) (fun c1 => ?_) (fun c1 => ?_)
      · have q := (if_pos c1).mp q
        refine lv_iload_n hx hb dX1_ballotsFor_31 rfl (lv_at hl 2 rfl) ?_
        exact (W.iret (v := x2) hx hb hr (fun t ht hW => ⟨⟨x2, F, rfl, q, gH_at ht hH⟩, hS.F ht⟩) hS.2.2 dX1_ballotsFor_32)
      · have q := (if_neg c1).mp q
        refine lv_aload_n hx hb dX1_ballotsFor_12 rfl (lv_at hl 0 rfl) ?_
        refine g_get (ci := 5) (v := .ref (ad 29 i0)) (C := RX1) (T := TX1) (N := 6) hx hb hts (fun _ h => (List.mem_cons_of_mem _ (List.mem_append_left _ (List.mem_append_right _ h)))) hown hK hH 28 i0 (by decide) hi0 rfl rfl 0 (by decide) (hts (.fieldLink RX1 9 "BallotFoundry$Box" "ballots" "[I") (List.mem_of_getElem? (i := 2) rfl)) (fun _ h => h) rfl dX1_ballotsFor_13 ?_
        refine lv_iload_n hx hb dX1_ballotsFor_16 rfl (lv_at hl 3 rfl) ?_
        obtain ⟨h2, q⟩ := q
        refine g_iald hx hb hK hH 29 i0 (by decide) hi0 20 rfl h2 dX1_ballotsFor_17 ?_
        refine lv_iload_n hx hb dX1_ballotsFor_18 rfl (lv_at hl 1 rfl) ?_
        refine lv_icmp_ne (tgt := 25) hx hb dX1_ballotsFor_19 (by decide) (fun c3 => ?_) (fun c3 => ?_)
        · have q := (if_neg c3).mp q
          exact t_25 (fun F a0 a1 a2 => P_X1_ballotsFor_4 i0 K n F a0 a1 a2) ih F x1 x2 x3 _ _ _ hH hS (lv_sub hl [0, 1, 2, 3] rfl) q
        · have q := (if_pos c3).mp q
          refine lv_iinc (v := x2 + 1) (lv' := [(2, .int (x2 + 1)), (0, .ref (ad 28 i0)), (1, .int x1), (3, .int x3)]) hx hb dX1_ballotsFor_22 hl (k := 2) rfl rfl (by decide) rfl (fun ls hl => ?_)
          exact t_25 (fun F a0 a1 a2 => P_X1_ballotsFor_4 i0 K n F a0 a1 a2) ih F x1 (x2 + 1) x3 _ _ _ hH hS (lv_sub hl [1, 2, 0, 3] rfl) q
  unfold P_X1_ballotsFor at q
  refine lv_iconst (v := 0) hx hb dX1_ballotsFor_0 (by decide) ?_
  refine lv_istore_n (lv' := [(2, .int 0), (0, .ref (ad 28 i0)), (1, .int p1)]) hx hb dX1_ballotsFor_1 rfl hl (by decide) rfl (fun ls hl => ?_)
  refine lv_iconst (v := 0) hx hb dX1_ballotsFor_2 (by decide) ?_
  refine lv_istore_n (lv' := [(3, .int 0), (2, .int 0), (0, .ref (ad 28 i0)), (1, .int p1)]) hx hb dX1_ballotsFor_3 rfl hl (by decide) rfl (fun ls hl => ?_)
  obtain ⟨nn, q⟩ := q
  exact t_4 nn F p1 0 0 _ _ _ hH hS (lv_sub hl [2, 3, 1, 0] rfl) q
abbrev rm_X1_lostByReading : Room := { frames := 1, cells := 0, slots := 0, locals := 23 }
abbrev q_X1_lostByReading (G : GP) (ad : Nat → Nat → Nat) (K : Int32 → GF → Prop) (below : List Frame) (args : Array Value) (s : State) : State → Prop := MQ below (gQi G ad K) args s 0 0 (gA G)
set_option maxHeartbeats 4000000 in
set_option maxRecDepth 100000 in
theorem c_X1_lostByReading (l : Launch) (G : GP) (ad : Nat → Nat → Nat) (F : GF) (i0 : Nat) (hi0 : i0 < 5) (K : Int32 → GF → Prop) : Met l yX1_lostByReading wsX1_lostByReading rm_X1_lostByReading (va_Pc [.ref (ad 28 i0)] (fun U => gD G ad F U ∧ P_X1_lostByReading F i0 K)) (gQi G ad K) 0 0 (gA G) := by
  refine Met.ofW (cc := cX1_lostByReading) (maxL := 3) (ret := (some .int)) (by decide) rfl ?_
  intro p e s m args below meth c s₁ Bd hml hv
  obtain ⟨rfl, ⟨hK, hG, hB, hH⟩, q⟩ := hv
  have hx := Bd.exec
  have hb := Bd.bytes
  have hr := Bd.returns
  have hts := atoms_spec (ws := wsX1_lostByReading) Bd.pre
  have hown : s.vm.findClass RX1 = some m.cls := findClass_of_methodNamed Bd.named
  have hlocks := Bd.notSynchronized
  have hS : va_S (gA G) s.heap s.heap [] := va_S.rf
  have hl := lv_entry [.ref (ad 28 i0)] (n := 3) (Nat.le_of_ble_eq_true rfl)
  rw [lg_entry_eq]
  generalize (lg_sl [.ref (ad 28 i0)] ++ List.replicate (3 - (lg_sl [.ref (ad 28 i0)]).length) Slot.unset).toArray = ls at hl ⊢
  have hl : lv_has ls 3 [(0, .ref (ad 28 i0))] := hl
  show W p l e rm_X1_lostByReading s m ([.ref (ad 28 i0)] : List Value).toArray below meth c s.heap [] 0 0 (q_X1_lostByReading G ad K below ([.ref (ad 28 i0)] : List Value).toArray s) _
  have t_13 : ∀ n : Nat, ∀ (F : GF) (x1 : Int32) (x2 : Int32) (H : Heap) (locs : List Loc) (ls : Array Slot), gH G ad F H → va_S (gA G) s.heap H locs → lv_has ls 3 [(0, .ref (ad 28 i0)), (1, .int x1), (2, .int x2)] → (P_X1_lostByReading_13 i0 K n) F x1 x2 → W p l e rm_X1_lostByReading s m ([.ref (ad 28 i0)] : List Value).toArray below meth c H locs 0 0 (q_X1_lostByReading G ad K below ([.ref (ad 28 i0)] : List Value).toArray s) (F0 m 13 ls []) := by
    intro n
    induction n with
    | zero =>
      intro F x1 x2 H locs ls hH hS hl q
      exact False.elim q
    | succ n ih =>
      intro F x1 x2 H locs ls hH hS hl q
      rw [P_X1_lostByReading_13] at q
      refine lv_iload_n hx hb dX1_lostByReading_13 rfl (lv_at hl 2 rfl) ?_
      refine lv_bipush (v := 6) hx hb dX1_lostByReading_14 (by decide) ?_
      refine lv_icmp_ge (tgt := 43) hx hb dX1_lostByReading_16 (by decide) (fun c4 => ?_) (fun c4 => ?_)
      · have q := (if_pos c4).mp q
        refine lv_iload_n hx hb dX1_lostByReading_43 rfl (lv_at hl 1 rfl) ?_
        exact (W.iret (v := x1) hx hb hr (fun t ht hW => ⟨⟨x1, F, rfl, q, gH_at ht hH⟩, hS.F ht⟩) hS.2.2 dX1_lostByReading_44)
      · have q := (if_neg c4).mp q
        refine lv_iload_n hx hb dX1_lostByReading_19 rfl (lv_at hl 1 rfl) ?_
        refine lv_iconst (v := 0) hx hb dX1_lostByReading_20 (by decide) ?_
        refine lv_aload_n hx hb dX1_lostByReading_21 rfl (lv_at hl 0 rfl) ?_
        refine lv_iload_n hx hb dX1_lostByReading_22 rfl (lv_at hl 2 rfl) ?_
        refine va_calli (va_runV (As := [.int x2]) (rest := [.int 0, .int x1]) ⟨hx, hb, hml, hown, hts⟩ (c_X1_ballotsFor l G ad F i0 x2 hi0 _) (cwV 1 hts gX1_lostByReading_X1_ballotsFor rfl rfl rfl (by decide +kernel) ⟨Nat.le_of_ble_eq_true rfl, Nat.le_of_ble_eq_true rfl⟩) ⟨fun a U g mk h => ⟨h.1, gD_blind h.2.1, h.2.2⟩, g_recv (C := RX1) (T := TX1) (N := 6) hK hH 28 i0 (by decide) hi0 rfl rfl, fun U hU hW => ⟨rfl, gD_at hK hG hB hH hS hU hW, q⟩⟩ rfl rfl hl.1 rfl (lv_room (Nat.le_of_ble_eq_true rfl)) dX1_lostByReading_23 ⟨Nat.le_of_ble_eq_true rfl, Nat.le_of_ble_eq_true rfl⟩) hS (fun _ _ h => h) (fun _ h => h) (fun r5 F6 t H locs ht hvm q hB1 hz hk hS => ?_)
        have hH : gH G ad F6 H := gH_to ht hB1
        refine lv_aload_n hx hb dX1_lostByReading_26 rfl (lv_at hl 0 rfl) ?_
        refine lv_iload_n hx hb dX1_lostByReading_27 rfl (lv_at hl 2 rfl) ?_
        refine va_calli (va_runV (As := [.int x2]) (rest := [.int r5, .int 0, .int x1]) ⟨hx, hb, hml, hown, hts⟩ (c_X1_settledNumber l G ad F6 i0 x2 hi0 _) (cwV 1 hts gX1_lostByReading_X1_settledNumber rfl rfl rfl (by decide +kernel) ⟨Nat.le_of_ble_eq_true rfl, Nat.le_of_ble_eq_true rfl⟩) ⟨fun a U g mk h => ⟨h.1, gD_blind h.2.1, h.2.2⟩, g_recv (C := RX1) (T := TX1) (N := 6) hK hH 28 i0 (by decide) hi0 rfl rfl, fun U hU hW => ⟨rfl, gD_at hK hG hB hH hS hU hW, q⟩⟩ rfl rfl hl.1 rfl (lv_room (Nat.le_of_ble_eq_true rfl)) dX1_lostByReading_28 ⟨Nat.le_of_ble_eq_true rfl, Nat.le_of_ble_eq_true rfl⟩) hS (fun _ _ h => h) (fun _ h => h) (fun r7 F8 t H locs ht hvm q hB1 hz hk hS => ?_)
        have hH : gH G ad F8 H := gH_to ht hB1
        refine lv_isub hx hb dX1_lostByReading_31 ?_
        refine va_mmax hx hb (hml.trans hl.1.symm) hown (hts (.methodLink RX1 57 Lib.Math.max.name) (List.mem_of_getElem? (i := 1) rfl)) (hts (.static Lib.Math.max.name) (List.mem_of_getElem? (i := 2) rfl)) (hts (.initialized "java/lang/Math") (List.mem_of_getElem? (i := 3) rfl)) (hts (.code Lib.Math.max.name Lib.Math.max.code 2 (some .int)) (List.mem_of_getElem? (i := 4) rfl)) (Nat.le_of_ble_eq_true rfl) (Nat.le_of_ble_eq_true rfl) (Nat.le_of_ble_eq_true rfl) (Nat.le_of_ble_eq_true rfl) dX1_lostByReading_32 ?_
        refine lv_iadd hx hb dX1_lostByReading_35 ?_
        refine lv_topi (fun y9 ey9 => ?_)
        have q := q y9 ey9
        refine lv_istore_n (lv' := [(1, .int y9), (0, .ref (ad 28 i0)), (2, .int x2)]) hx hb dX1_lostByReading_36 rfl hl (by decide) rfl (fun ls hl => ?_)
        refine lv_iinc (v := x2 + 1) (lv' := [(2, .int (x2 + 1)), (1, .int y9), (0, .ref (ad 28 i0))]) hx hb dX1_lostByReading_37 hl (k := 2) rfl rfl (by decide) rfl (fun ls hl => ?_)
        refine lv_goto (tgt := 13) hx hb dX1_lostByReading_40 (by decide) ?_
        exact ih F8 y9 (x2 + 1) _ _ _ hH hS (lv_sub hl [2, 1, 0] rfl) q
  unfold P_X1_lostByReading at q
  refine lv_aload_n hx hb dX1_lostByReading_0 rfl (lv_at hl 0 rfl) ?_
  refine va_calli (va_runV (As := []) (rest := []) ⟨hx, hb, hml, hown, hts⟩ (c_X1_hasNumbers l G ad F i0 hi0 _) (cwV 0 hts gX1_lostByReading_X1_hasNumbers rfl rfl rfl (by decide +kernel) ⟨Nat.le_of_ble_eq_true rfl, Nat.le_of_ble_eq_true rfl⟩) ⟨fun a U g mk h => ⟨h.1, gD_blind h.2.1, h.2.2⟩, g_recv (C := RX1) (T := TX1) (N := 6) hK hH 28 i0 (by decide) hi0 rfl rfl, fun U hU hW => ⟨rfl, gD_at hK hG hB hH hS hU hW, q⟩⟩ rfl rfl hl.1 rfl (lv_room (Nat.le_of_ble_eq_true rfl)) dX1_lostByReading_1 ⟨Nat.le_of_ble_eq_true rfl, Nat.le_of_ble_eq_true rfl⟩) hS (fun _ _ h => h) (fun _ h => h) (fun r1 F2 t H locs ht hvm q hB1 hz hk hS => ?_)
  have hH : gH G ad F2 H := gH_to ht hB1
  refine lv_if_ne (tgt := 9) hx hb dX1_lostByReading_4 (by decide) (fun c3 => ?_) (fun c3 => ?_)
  · have q := (if_neg c3).mp q
    refine lv_iconst (v := 0) hx hb dX1_lostByReading_9 (by decide) ?_
    refine lv_istore_n (lv' := [(1, .int 0), (0, .ref (ad 28 i0))]) hx hb dX1_lostByReading_10 rfl hl (by decide) rfl (fun ls hl => ?_)
    refine lv_iconst (v := 0) hx hb dX1_lostByReading_11 (by decide) ?_
    refine lv_istore_n (lv' := [(2, .int 0), (1, .int 0), (0, .ref (ad 28 i0))]) hx hb dX1_lostByReading_12 rfl hl (by decide) rfl (fun ls hl => ?_)
    obtain ⟨nn, q⟩ := q
    exact t_13 nn F2 0 0 _ _ _ hH hS (lv_sub hl [2, 1, 0] rfl) q
  · have q := (if_pos c3).mp q
    refine lv_iconst (v := (-1)) hx hb dX1_lostByReading_7 (by decide) ?_
    exact (W.iret (v := (-1)) hx hb hr (fun t ht hW => ⟨⟨(-1), F2, rfl, q, gH_at ht hH⟩, hS.F ht⟩) hS.2.2 dX1_lostByReading_8)
