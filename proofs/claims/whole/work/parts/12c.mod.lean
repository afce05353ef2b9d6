abbrev rm_X11_seatAt : Room := { frames := 4, cells := 0, slots := 0, locals := 90 }
abbrev q_X11_seatAt (G : GP) (ad : Nat → Nat → Nat) (K : Int32 → GF → Prop) (below : List Frame) (args : Array Value) (s : State) : State → Prop := MQ below (gQi G ad K) args s 0 0 (gA G)
set_option maxHeartbeats 4000000 in
set_option maxRecDepth 100000 in
theorem c_X11_seatAt (l : Launch) (G : GP) (ad : Nat → Nat → Nat) (F : GF) (p1 : Int32) (K : Int32 → GF → Prop) : Met l yX11_seatAt wsX11_seatAt rm_X11_seatAt (va_Pc [.ref (ad 40 0), .int p1] (fun U => gD G ad F U ∧ P_X11_seatAt F p1 K)) (gQi G ad K) 0 0 (gA G) := by
  refine Met.ofW (cc := cX11_seatAt) (maxL := 2) (ret := (some .int)) (by decide) rfl ?_
  intro p e s m args below meth c s₁ Bd hml hv
  obtain ⟨rfl, ⟨hK, hG, hB, hH⟩, q⟩ := hv
  have hx := Bd.exec
  have hb := Bd.bytes
  have hr := Bd.returns
  have hts := atoms_spec (ws := wsX11_seatAt) Bd.pre
  have hown : s.vm.findClass RX11 = some m.cls := findClass_of_methodNamed Bd.named
  have hlocks := Bd.notSynchronized
  have hS : va_S (gA G) s.heap s.heap [] := va_S.rf
  have hl := lv_entry [.ref (ad 40 0), .int p1] (n := 2) (Nat.le_of_ble_eq_true rfl)
  rw [lg_entry_eq]
  generalize (lg_sl [.ref (ad 40 0), .int p1] ++ List.replicate (2 - (lg_sl [.ref (ad 40 0), .int p1]).length) Slot.unset).toArray = ls at hl ⊢
  have hl : lv_has ls 2 [(0, .ref (ad 40 0)), (1, .int p1)] := hl
  show W p l e rm_X11_seatAt s m ([.ref (ad 40 0), .int p1] : List Value).toArray below meth c s.heap [] 0 0 (q_X11_seatAt G ad K below ([.ref (ad 40 0), .int p1] : List Value).toArray s) _
  have t_10 : ∀ (F : GF) (x1 : Int32) (s1 : Int32) (H : Heap) (locs : List Loc) (ls : Array Slot), gH G ad F H → va_S (gA G) s.heap H locs → lv_has ls 2 [(0, .ref (ad 40 0)), (1, .int x1)] → (P_X11_seatAt_10 K) F x1 s1 → W p l e rm_X11_seatAt s m ([.ref (ad 40 0), .int p1] : List Value).toArray below meth c H locs 0 0 (q_X11_seatAt G ad K below ([.ref (ad 40 0), .int p1] : List Value).toArray s) (F0 m 10 ls [.int s1, .ref (ad 40 0)]) := by
    intro F x1 s1 H locs ls hH hS hl q
    unfold P_X11_seatAt_10 at q
    refine va_calli (va_runV (As := [.int s1]) (rest := []) ⟨hx, hb, hml, hown, hts⟩ (c_X11_asked l G ad F s1 _) (cwV 1 hts gX11_seatAt_X11_asked rfl rfl rfl (by decide +kernel) ⟨Nat.le_of_ble_eq_true rfl, Nat.le_of_ble_eq_true rfl⟩) ⟨fun a U g mk h => ⟨h.1, gD_blind h.2.1, h.2.2⟩, g_recv (C := RX11) (T := TX11) (N := 44) hK hH 40 0 (by decide) Nat.zero_lt_one rfl rfl, fun U hU hW => ⟨rfl, gD_at hK hG hB hH hS hU hW, q⟩⟩ rfl rfl hl.1 rfl (lv_room (Nat.le_of_ble_eq_true rfl)) dX11_seatAt_10 ⟨Nat.le_of_ble_eq_true rfl, Nat.le_of_ble_eq_true rfl⟩) hS (fun _ _ h => h) (fun _ h => h) (fun r2 F3 t H locs ht hvm q hB1 hz hk hS => ?_)
    have hH : gH G ad F3 H := gH_to ht hB1
    refine lv_if_ne (tgt := 18) hx hb dX11_seatAt_13 (by decide) (fun c4 => ?_) (fun c4 => ?_)
    · have q := (if_neg c4).mp q
      refine lv_aload_n hx hb dX11_seatAt_18 rfl (lv_at hl 0 rfl) ?_
      refine va_calli (va_runV (As := []) (rest := []) ⟨hx, hb, hml, hown, hts⟩ (c_X11_done l G ad F3 _) (cwV 0 hts gX11_seatAt_X11_done rfl rfl rfl (by decide +kernel) ⟨Nat.le_of_ble_eq_true rfl, Nat.le_of_ble_eq_true rfl⟩) ⟨fun a U g mk h => ⟨h.1, gD_blind h.2.1, h.2.2⟩, g_recv (C := RX11) (T := TX11) (N := 44) hK hH 40 0 (by decide) Nat.zero_lt_one rfl rfl, fun U hU hW => ⟨rfl, gD_at hK hG hB hH hS hU hW, q⟩⟩ rfl rfl hl.1 rfl (lv_room (Nat.le_of_ble_eq_true rfl)) dX11_seatAt_19 ⟨Nat.le_of_ble_eq_true rfl, Nat.le_of_ble_eq_true rfl⟩) hS (fun _ _ h => h) (fun _ h => h) (fun r5 F6 t H locs ht hvm q hB1 hz hk hS => ?_)
      have hH : gH G ad F6 H := gH_to ht hB1
      refine lv_if_eq (tgt := 42) hx hb dX11_seatAt_22 (by decide) (fun c7 => ?_) (fun c7 => ?_)
      · have q := (if_pos c7).mp q
        refine lv_iconst (v := (-1)) hx hb dX11_seatAt_42 (by decide) ?_
        exact (W.iret (v := (-1)) hx hb hr (fun t ht hW => ⟨⟨(-1), F6, rfl, q, gH_at ht hH⟩, hS.F ht⟩) hS.2.2 dX11_seatAt_43)
      · have q := (if_neg c7).mp q
        refine lv_iload_n hx hb dX11_seatAt_25 rfl (lv_at hl 1 rfl) ?_
        refine lv_aload_n hx hb dX11_seatAt_26 rfl (lv_at hl 0 rfl) ?_
        refine g_get (ci := 15) (v := .int (F6 40 0 37)) (C := RX11) (T := TX11) (N := 44) hx hb hts (fun _ h => (List.mem_cons_of_mem _ (List.mem_append_left _ (List.mem_append_right _ h)))) hown hK hH 40 0 (by decide) Nat.zero_lt_one rfl rfl 37 (by decide) (hts (.fieldLink RX11 220 "BallotFoundryModel" "givenAll" "I") (List.mem_of_getElem? (i := 1) rfl)) (fun _ h => h) rfl dX11_seatAt_27 ?_
        refine lv_icmp_ge (tgt := 42) hx hb dX11_seatAt_30 (by decide) (fun c8 => ?_) (fun c8 => ?_)
        · have q := (if_pos c8).mp q
          refine lv_iconst (v := (-1)) hx hb dX11_seatAt_42 (by decide) ?_
          exact (W.iret (v := (-1)) hx hb hr (fun t ht hW => ⟨⟨(-1), F6, rfl, q, gH_at ht hH⟩, hS.F ht⟩) hS.2.2 dX11_seatAt_43)
        · have q := (if_neg c8).mp q
          refine lv_aload_n hx hb dX11_seatAt_33 rfl (lv_at hl 0 rfl) ?_
          refine g_get (ci := 15) (v := .ref (ad 67 0)) (C := RX11) (T := TX11) (N := 44) hx hb hts (fun _ h => (List.mem_cons_of_mem _ (List.mem_append_left _ (List.mem_append_right _ h)))) hown hK hH 40 0 (by decide) Nat.zero_lt_one rfl rfl 36 (by decide) (hts (.fieldLink RX11 93 "BallotFoundryModel" "order" "[I") (List.mem_of_getElem? (i := 2) rfl)) (fun _ h => h) rfl dX11_seatAt_34 ?_
          refine lv_iload_n hx hb dX11_seatAt_37 rfl (lv_at hl 1 rfl) ?_
          obtain ⟨h9, q⟩ := q
          refine g_iald hx hb hK hH 67 0 (by decide) Nat.zero_lt_one 30 rfl h9 dX11_seatAt_38 ?_
          refine lv_goto (tgt := 43) hx hb dX11_seatAt_39 (by decide) ?_
          exact (W.iret (v := (F6 67 0 x1.toNatClampNeg)) hx hb hr (fun t ht hW => ⟨⟨(F6 67 0 x1.toNatClampNeg), F6, rfl, q, gH_at ht hH⟩, hS.F ht⟩) hS.2.2 dX11_seatAt_43)
    · have q := (if_pos c4).mp q
      refine lv_iconst (v := 0) hx hb dX11_seatAt_16 (by decide) ?_
      exact (W.iret (v := 0) hx hb hr (fun t ht hW => ⟨⟨0, F3, rfl, q, gH_at ht hH⟩, hS.F ht⟩) hS.2.2 dX11_seatAt_17)
  unfold P_X11_seatAt at q
  refine lv_aload_n hx hb dX11_seatAt_0 rfl (lv_at hl 0 rfl) ?_
  refine lv_iload_n hx hb dX11_seatAt_1 rfl (lv_at hl 1 rfl) ?_
  refine lv_if_lt (tgt := 9) hx hb dX11_seatAt_2 (by decide) (fun c1 => ?_) (fun c1 => ?_)
  · have q := (if_pos c1).mp q
    refine lv_iconst (v := 0) hx hb dX11_seatAt_9 (by decide) ?_
    exact t_10 F p1 0 _ _ _ hH hS (lv_sub hl [0, 1] rfl) q
  · have q := (if_neg c1).mp q
    refine lv_iconst (v := 1) hx hb dX11_seatAt_5 (by decide) ?_
    refine lv_goto (tgt := 10) hx hb dX11_seatAt_6 (by decide) ?_
    exact t_10 F p1 1 _ _ _ hH hS (lv_sub hl [0, 1] rfl) q
abbrev rm_X11_lots : Room := { frames := 4, cells := 0, slots := 0, locals := 90 }
abbrev q_X11_lots (G : GP) (ad : Nat → Nat → Nat) (K : Int32 → GF → Prop) (below : List Frame) (args : Array Value) (s : State) : State → Prop := MQ below (gQi G ad K) args s 0 0 (gA G)
set_option maxHeartbeats 4000000 in
set_option maxRecDepth 100000 in
theorem c_X11_lots (l : Launch) (G : GP) (ad : Nat → Nat → Nat) (F : GF) (K : Int32 → GF → Prop) : Met l yX11_lots wsX11_lots rm_X11_lots (va_Pc [.ref (ad 40 0)] (fun U => gD G ad F U ∧ P_X11_lots F K)) (gQi G ad K) 0 0 (gA G) := by
  refine Met.ofW (cc := cX11_lots) (maxL := 1) (ret := (some .int)) (by decide) rfl ?_
  intro p e s m args below meth c s₁ Bd hml hv
  obtain ⟨rfl, ⟨hK, hG, hB, hH⟩, q⟩ := hv
  have hx := Bd.exec
  have hb := Bd.bytes
  have hr := Bd.returns
  have hts := atoms_spec (ws := wsX11_lots) Bd.pre
  have hown : s.vm.findClass RX11 = some m.cls := findClass_of_methodNamed Bd.named
  have hlocks := Bd.notSynchronized
  have hS : va_S (gA G) s.heap s.heap [] := va_S.rf
  have hl := lv_entry [.ref (ad 40 0)] (n := 1) (Nat.le_of_ble_eq_true rfl)
  rw [lg_entry_eq]
  generalize (lg_sl [.ref (ad 40 0)] ++ List.replicate (1 - (lg_sl [.ref (ad 40 0)]).length) Slot.unset).toArray = ls at hl ⊢
  have hl : lv_has ls 1 [(0, .ref (ad 40 0))] := hl
  unfold P_X11_lots at q
  refine lv_aload_n hx hb dX11_lots_0 rfl (lv_at hl 0 rfl) ?_
  refine lv_iconst (v := 0) hx hb dX11_lots_1 (by decide) ?_
  refine g_put (ci := 15) (v := .int 0) (C := RX11) (T := TX11) (N := 44) hx hb hts (fun _ h => (List.mem_cons_of_mem _ (List.mem_append_left _ (List.mem_append_right _ h)))) tyX11 tyX11_ok nmX11 hown hK hH hS 40 0 (by decide) Nat.zero_lt_one (by decide) rfl rfl 43 (by decide) (hts (.fieldLink RX11 108 "BallotFoundryModel" "thrown" "I") (List.mem_of_getElem? (i := 1) rfl)) (fun _ h => h) rfl (ty := .int) (by decide +kernel) rfl rfl (Nat.le_of_ble_eq_true rfl) 0 rfl dX11_lots_2 (fun H locs hH hS => ?_)
  obtain ⟨F1, eF1⟩ : ∃ z, z = fs F 40 0 43 0 := ⟨_, rfl⟩
  have q := q F1 eF1
  rw [← eF1] at hH
  refine lv_aload_n hx hb dX11_lots_5 rfl (lv_at hl 0 rfl) ?_
  refine va_calli (va_runV (As := []) (rest := []) ⟨hx, hb, hml, hown, hts⟩ (c_X11_done l G ad F1 _) (cwV 0 hts gX11_lots_X11_done rfl rfl rfl (by decide +kernel) ⟨Nat.le_of_ble_eq_true rfl, Nat.le_of_ble_eq_true rfl⟩) ⟨fun a U g mk h => ⟨h.1, gD_blind h.2.1, h.2.2⟩, g_recv (C := RX11) (T := TX11) (N := 44) hK hH 40 0 (by decide) Nat.zero_lt_one rfl rfl, fun U hU hW => ⟨rfl, gD_at hK hG hB hH hS hU hW, q⟩⟩ rfl rfl hl.1 rfl (lv_room (Nat.le_of_ble_eq_true rfl)) dX11_lots_6 ⟨Nat.le_of_ble_eq_true rfl, Nat.le_of_ble_eq_true rfl⟩) hS (fun _ _ h => h) (fun _ h => h) (fun r2 F3 t H locs ht hvm q hB1 hz hk hS => ?_)
  have hH : gH G ad F3 H := gH_to ht hB1
  refine lv_if_eq (tgt := 19) hx hb dX11_lots_9 (by decide) (fun c4 => ?_) (fun c4 => ?_)
  · have q := (if_pos c4).mp q
    refine lv_iconst (v := (-1)) hx hb dX11_lots_19 (by decide) ?_
    exact (W.iret (v := (-1)) hx hb hr (fun t ht hW => ⟨⟨(-1), F3, rfl, q, gH_at ht hH⟩, hS.F ht⟩) hS.2.2 dX11_lots_20)
  · have q := (if_neg c4).mp q
    refine lv_aload_n hx hb dX11_lots_12 rfl (lv_at hl 0 rfl) ?_
    refine g_get (ci := 15) (v := .int (F3 40 0 38)) (C := RX11) (T := TX11) (N := 44) hx hb hts (fun _ h => (List.mem_cons_of_mem _ (List.mem_append_left _ (List.mem_append_right _ h)))) hown hK hH 40 0 (by decide) Nat.zero_lt_one rfl rfl 38 (by decide) (hts (.fieldLink RX11 223 "BallotFoundryModel" "lots" "I") (List.mem_of_getElem? (i := 2) rfl)) (fun _ h => h) rfl dX11_lots_13 ?_
    refine lv_goto (tgt := 20) hx hb dX11_lots_16 (by decide) ?_
    exact (W.iret (v := (F3 40 0 38)) hx hb hr (fun t ht hW => ⟨⟨(F3 40 0 38), F3, rfl, q, gH_at ht hH⟩, hS.F ht⟩) hS.2.2 dX11_lots_20)
abbrev rm_X11_seatsByBallots : Room := { frames := 3, cells := 0, slots := 0, locals := 70 }
abbrev q_X11_seatsByBallots (G : GP) (ad : Nat → Nat → Nat) (K : Int32 → GF → Prop) (below : List Frame) (args : Array Value) (s : State) : State → Prop := MQ below (gQi G ad K) args s 0 0 (gA G)
set_option maxHeartbeats 4000000 in
set_option maxRecDepth 100000 in
theorem c_X11_seatsByBallots (l : Launch) (G : GP) (ad : Nat → Nat → Nat) (F : GF) (p1 : Int32) (K : Int32 → GF → Prop) : Met l yX11_seatsByBallots wsX11_seatsByBallots rm_X11_seatsByBallots (va_Pc [.ref (ad 40 0), .int p1] (fun U => gD G ad F U ∧ P_X11_seatsByBallots F p1 K)) (gQi G ad K) 0 0 (gA G) := by
  refine Met.ofW (cc := cX11_seatsByBallots) (maxL := 2) (ret := (some .int)) (by decide) rfl ?_
  intro p e s m args below meth c s₁ Bd hml hv
  obtain ⟨rfl, ⟨hK, hG, hB, hH⟩, q⟩ := hv
  have hx := Bd.exec
  have hb := Bd.bytes
  have hr := Bd.returns
  have hts := atoms_spec (ws := wsX11_seatsByBallots) Bd.pre
  have hown : s.vm.findClass RX11 = some m.cls := findClass_of_methodNamed Bd.named
  have hlocks := Bd.notSynchronized
  have hS : va_S (gA G) s.heap s.heap [] := va_S.rf
  have hl := lv_entry [.ref (ad 40 0), .int p1] (n := 2) (Nat.le_of_ble_eq_true rfl)
  rw [lg_entry_eq]
  generalize (lg_sl [.ref (ad 40 0), .int p1] ++ List.replicate (2 - (lg_sl [.ref (ad 40 0), .int p1]).length) Slot.unset).toArray = ls at hl ⊢
  have hl : lv_has ls 2 [(0, .ref (ad 40 0)), (1, .int p1)] := hl
  unfold P_X11_seatsByBallots at q
  refine lv_aload_n hx hb dX11_seatsByBallots_0 rfl (lv_at hl 0 rfl) ?_
  refine lv_iload_n hx hb dX11_seatsByBallots_1 rfl (lv_at hl 1 rfl) ?_
  refine va_calli (va_runS (As := [.int p1]) (rest := [.ref (ad 40 0)]) ⟨hx, hb, hml, hown, hts⟩ (c_X11_isParty l G ad F p1 _) (va_cwS 1 hts gX11_seatsByBallots_X11_isParty rfl rfl rfl (by decide +kernel) ⟨Nat.le_of_ble_eq_true rfl, Nat.le_of_ble_eq_true rfl⟩) ⟨fun a U g mk h => ⟨h.1, gD_blind h.2.1, h.2.2⟩, fun U hU hW => ⟨rfl, gD_at hK hG hB hH hS hU hW, q⟩⟩ rfl rfl hl.1 rfl (lv_room (Nat.le_of_ble_eq_true rfl)) dX11_seatsByBallots_2 ⟨Nat.le_of_ble_eq_true rfl, Nat.le_of_ble_eq_true rfl⟩) hS (fun _ _ h => h) (fun _ h => h) (fun r1 F2 t H locs ht hvm q hB1 hz hk hS => ?_)
  have hH : gH G ad F2 H := gH_to ht hB1
  refine va_calli (va_runV (As := [.int r1]) (rest := []) ⟨hx, hb, hml, hown, hts⟩ (c_X11_asked l G ad F2 r1 _) (cwV 1 hts gX11_seatsByBallots_X11_asked rfl rfl rfl (by decide +kernel) ⟨Nat.le_of_ble_eq_true rfl, Nat.le_of_ble_eq_true rfl⟩) ⟨fun a U g mk h => ⟨h.1, gD_blind h.2.1, h.2.2⟩, g_recv (C := RX11) (T := TX11) (N := 44) hK hH 40 0 (by decide) Nat.zero_lt_one rfl rfl, fun U hU hW => ⟨rfl, gD_at hK hG hB hH hS hU hW, q⟩⟩ rfl rfl hl.1 rfl (lv_room (Nat.le_of_ble_eq_true rfl)) dX11_seatsByBallots_5 ⟨Nat.le_of_ble_eq_true rfl, Nat.le_of_ble_eq_true rfl⟩) hS (fun _ _ h => h) (fun _ h => h) (fun r3 F4 t H locs ht hvm q hB1 hz hk hS => ?_)
  have hH : gH G ad F4 H := gH_to ht hB1
  refine lv_if_ne (tgt := 13) hx hb dX11_seatsByBallots_8 (by decide) (fun c5 => ?_) (fun c5 => ?_)
  · have q := (if_neg c5).mp q
    refine lv_aload_n hx hb dX11_seatsByBallots_13 rfl (lv_at hl 0 rfl) ?_
    refine g_get (ci := 15) (v := .int (F4 40 0 14)) (C := RX11) (T := TX11) (N := 44) hx hb hts (fun _ h => (List.mem_cons_of_mem _ (List.mem_append_left _ (List.mem_append_right _ h)))) hown hK hH 40 0 (by decide) Nat.zero_lt_one rfl rfl 14 (by decide) (hts (.fieldLink RX11 41 "BallotFoundryModel" "stage" "I") (List.mem_of_getElem? (i := 1) rfl)) (fun _ h => h) rfl dX11_seatsByBallots_14 ?_
    refine lv_iconst (v := 4) hx hb dX11_seatsByBallots_17 (by decide) ?_
    refine lv_icmp_ge (tgt := 23) hx hb dX11_seatsByBallots_18 (by decide) (fun c6 => ?_) (fun c6 => ?_)
    · have q := (if_pos c6).mp q
      refine lv_aload_n hx hb dX11_seatsByBallots_23 rfl (lv_at hl 0 rfl) ?_
      refine lv_iconst (v := 1) hx hb dX11_seatsByBallots_24 (by decide) ?_
      refine va_callv (va_runV (As := [.int 1]) (rest := []) ⟨hx, hb, hml, hown, hts⟩ (c_X11_gives l G ad F4 1 _) (cwV 1 hts gX11_seatsByBallots_X11_gives rfl rfl rfl (by decide +kernel) ⟨Nat.le_of_ble_eq_true rfl, Nat.le_of_ble_eq_true rfl⟩) ⟨fun a U g mk h => ⟨h.1, gD_blind h.2.1, h.2.2⟩, g_recv (C := RX11) (T := TX11) (N := 44) hK hH 40 0 (by decide) Nat.zero_lt_one rfl rfl, fun U hU hW => ⟨rfl, gD_at hK hG hB hH hS hU hW, q⟩⟩ rfl rfl hl.1 rfl (lv_room (Nat.le_of_ble_eq_true rfl)) dX11_seatsByBallots_25 ⟨Nat.le_of_ble_eq_true rfl, Nat.le_of_ble_eq_true rfl⟩) hS (fun _ _ h => h) (fun _ h => h) (fun F8 t H locs ht hvm q hB1 hz hk hS => ?_)
      have hH : gH G ad F8 H := gH_to ht hB1
      refine lv_aload_n hx hb dX11_seatsByBallots_28 rfl (lv_at hl 0 rfl) ?_
      refine g_get (ci := 15) (v := .ref (ad 66 0)) (C := RX11) (T := TX11) (N := 44) hx hb hts (fun _ h => (List.mem_cons_of_mem _ (List.mem_append_left _ (List.mem_append_right _ h)))) hown hK hH 40 0 (by decide) Nat.zero_lt_one rfl rfl 35 (by decide) (hts (.fieldLink RX11 90 "BallotFoundryModel" "given" "[I") (List.mem_of_getElem? (i := 2) rfl)) (fun _ h => h) rfl dX11_seatsByBallots_29 ?_
      refine lv_iload_n hx hb dX11_seatsByBallots_32 rfl (lv_at hl 1 rfl) ?_
      obtain ⟨h9, q⟩ := q
      refine g_iald hx hb hK hH 66 0 (by decide) Nat.zero_lt_one 5 rfl h9 dX11_seatsByBallots_33 ?_
      exact (W.iret (v := (F8 66 0 p1.toNatClampNeg)) hx hb hr (fun t ht hW => ⟨⟨(F8 66 0 p1.toNatClampNeg), F8, rfl, q, gH_at ht hH⟩, hS.F ht⟩) hS.2.2 dX11_seatsByBallots_34)
    · have q := (if_neg c6).mp q
      refine lv_iconst (v := (-1)) hx hb dX11_seatsByBallots_21 (by decide) ?_
      exact (W.iret (v := (-1)) hx hb hr (fun t ht hW => ⟨⟨(-1), F4, rfl, q, gH_at ht hH⟩, hS.F ht⟩) hS.2.2 dX11_seatsByBallots_22)
  · have q := (if_pos c5).mp q
    refine lv_iconst (v := 0) hx hb dX11_seatsByBallots_11 (by decide) ?_
    exact (W.iret (v := 0) hx hb hr (fun t ht hW => ⟨⟨0, F4, rfl, q, gH_at ht hH⟩, hS.F ht⟩) hS.2.2 dX11_seatsByBallots_12)
abbrev rm_X11_notes_ : Room := { frames := 1, cells := 0, slots := 0, locals := 21 }
abbrev q_X11_notes_ (G : GP) (ad : Nat → Nat → Nat) (K : Int32 → GF → Prop) (below : List Frame) (args : Array Value) (s : State) : State → Prop := MQ below (gQi G ad K) args s 0 0 (gA G)
set_option maxHeartbeats 4000000 in
set_option maxRecDepth 100000 in
theorem c_X11_notes_ (l : Launch) (G : GP) (ad : Nat → Nat → Nat) (F : GF) (K : Int32 → GF → Prop) : Met l yX11_notes_ wsX11_notes_ rm_X11_notes_ (va_Pc [.ref (ad 40 0)] (fun U => gD G ad F U ∧ P_X11_notes_ F K)) (gQi G ad K) 0 0 (gA G) := by
  refine Met.ofW (cc := cX11_notes_) (maxL := 1) (ret := (some .int)) (by decide) rfl ?_
  intro p e s m args below meth c s₁ Bd hml hv
  obtain ⟨rfl, ⟨hK, hG, hB, hH⟩, q⟩ := hv
  have hx := Bd.exec
  have hb := Bd.bytes
  have hr := Bd.returns
  have hts := atoms_spec (ws := wsX11_notes_) Bd.pre
  have hown : s.vm.findClass RX11 = some m.cls := findClass_of_methodNamed Bd.named
  have hlocks := Bd.notSynchronized
  have hS : va_S (gA G) s.heap s.heap [] := va_S.rf
  have hl := lv_entry [.ref (ad 40 0)] (n := 1) (Nat.le_of_ble_eq_true rfl)
  rw [lg_entry_eq]
  generalize (lg_sl [.ref (ad 40 0)] ++ List.replicate (1 - (lg_sl [.ref (ad 40 0)]).length) Slot.unset).toArray = ls at hl ⊢
  have hl : lv_has ls 1 [(0, .ref (ad 40 0))] := hl
  unfold P_X11_notes_ at q
  refine lv_aload_n hx hb dX11_notes__0 rfl (lv_at hl 0 rfl) ?_
  refine lv_aload_n hx hb dX11_notes__1 rfl (lv_at hl 0 rfl) ?_
  refine g_get (ci := 15) (v := .int (F 40 0 42)) (C := RX11) (T := TX11) (N := 44) hx hb hts (fun _ h => (List.mem_cons_of_mem _ (List.mem_append_right _ h))) hown hK hH 40 0 (by decide) Nat.zero_lt_one rfl rfl 42 (by decide) (hts (.fieldLink RX11 162 "BallotFoundryModel" "notes" "I") (List.mem_of_getElem? (i := 1) rfl)) (fun _ h => h) rfl dX11_notes__2 ?_
  refine va_calli (va_runV (As := [.int (F 40 0 42)]) (rest := []) ⟨hx, hb, hml, hown, hts⟩ (c_X11_told l G ad F (F 40 0 42) _) (cwV 1 hts gX11_notes__X11_told rfl rfl rfl (by decide +kernel) ⟨Nat.le_of_ble_eq_true rfl, Nat.le_of_ble_eq_true rfl⟩) ⟨fun a U g mk h => ⟨h.1, gD_blind h.2.1, h.2.2⟩, g_recv (C := RX11) (T := TX11) (N := 44) hK hH 40 0 (by decide) Nat.zero_lt_one rfl rfl, fun U hU hW => ⟨rfl, gD_at hK hG hB hH hS hU hW, q⟩⟩ rfl rfl hl.1 rfl (lv_room (Nat.le_of_ble_eq_true rfl)) dX11_notes__5 ⟨Nat.le_of_ble_eq_true rfl, Nat.le_of_ble_eq_true rfl⟩) hS (fun _ _ h => h) (fun _ h => h) (fun r1 F2 t H locs ht hvm q hB1 hz hk hS => ?_)
  have hH : gH G ad F2 H := gH_to ht hB1
  exact (W.iret (v := r1) hx hb hr (fun t ht hW => ⟨⟨r1, F2, rfl, q, gH_at ht hH⟩, hS.F ht⟩) hS.2.2 dX11_notes__8)
abbrev rm_X11_digits : Room := { frames := 0, cells := 0, slots := 0, locals := 0 }
abbrev q_X11_digits (G : GP) (ad : Nat → Nat → Nat) (K : Int32 → GF → Prop) (below : List Frame) (args : Array Value) (s : State) : State → Prop := MQ below (gQi G ad K) args s 0 0 (gA G)
set_option maxHeartbeats 4000000 in
set_option maxRecDepth 100000 in
theorem c_X11_digits (l : Launch) (G : GP) (ad : Nat → Nat → Nat) (F : GF) (p0 : Int32) (K : Int32 → GF → Prop) : Met l yX11_digits wsX11_digits rm_X11_digits (va_Pc [.int p0] (fun U => gD G ad F U ∧ P_X11_digits F p0 K)) (gQi G ad K) 0 0 (gA G) := by
  refine Met.ofW (cc := cX11_digits) (maxL := 3) (ret := (some .int)) (by decide) rfl ?_
  intro p e s m args below meth c s₁ Bd hml hv
  obtain ⟨rfl, ⟨hK, hG, hB, hH⟩, q⟩ := hv
  have hx := Bd.exec
  have hb := Bd.bytes
  have hr := Bd.returns
  have hts := atoms_spec (ws := wsX11_digits) Bd.pre
  have hown : s.vm.findClass RX11 = some m.cls := findClass_of_methodNamed Bd.named
  have hlocks := Bd.notSynchronized
  have hS : va_S (gA G) s.heap s.heap [] := va_S.rf
  have hl := lv_entry [.int p0] (n := 3) (Nat.le_of_ble_eq_true rfl)
  rw [lg_entry_eq]
  generalize (lg_sl [.int p0] ++ List.replicate (3 - (lg_sl [.int p0]).length) Slot.unset).toArray = ls at hl ⊢
  have hl : lv_has ls 3 [(0, .int p0)] := hl
  show W p l e rm_X11_digits s m ([.int p0] : List Value).toArray below meth c s.heap [] 0 0 (q_X11_digits G ad K below ([.int p0] : List Value).toArray s) _
  have t_7 : ∀ n : Nat, ∀ (F : GF) (x1 : Int32) (x2 : Int32) (H : Heap) (locs : List Loc) (ls : Array Slot), gH G ad F H → va_S (gA G) s.heap H locs → lv_has ls 3 [(1, .int x1), (2, .int x2)] → (P_X11_digits_7 K n) F x1 x2 → W p l e rm_X11_digits s m ([.int p0] : List Value).toArray below meth c H locs 0 0 (q_X11_digits G ad K below ([.int p0] : List Value).toArray s) (F0 m 7 ls []) := by
    intro n
    induction n with
    | zero =>
      intro F x1 x2 H locs ls hH hS hl q
      exact False.elim q
    | succ n ih =>
      intro F x1 x2 H locs ls hH hS hl q
      rw [P_X11_digits_7] at q
      refine lv_iload_n hx hb dX11_digits_7 rfl (lv_at hl 1 rfl) ?_
      refine lv_if_le (tgt := 22) hx hb dX11_digits_8 (by decide) (fun c1 => ?_) (fun c1 => ?_)
      · have q := (if_pos c1).mp q
        refine lv_iload_n hx hb dX11_digits_22 rfl (lv_at hl 0 rfl) ?_
        exact (W.iret (v := x1) hx hb hr (fun t ht hW => ⟨⟨x1, F, rfl, q, gH_at ht hH⟩, hS.F ht⟩) hS.2.2 dX11_digits_23)
      · have q := (if_neg c1).mp q
        refine lv_iinc (v := x1 + 1) (lv' := [(1, .int (x1 + 1)), (2, .int x2)]) hx hb dX11_digits_11 hl (k := 0) rfl rfl (by decide) rfl (fun ls hl => ?_)
        refine lv_iload_n hx hb dX11_digits_14 rfl (lv_at hl 1 rfl) ?_
        refine lv_bipush (v := 10) hx hb dX11_digits_15 (by decide) ?_
        refine lv_idiv hx hb dX11_digits_17 (by decide) ?_
        refine lv_istore_n (lv' := [(2, .int (x2 / 10)), (1, .int (x1 + 1))]) hx hb dX11_digits_18 rfl hl (by decide) rfl (fun ls hl => ?_)
        refine lv_goto (tgt := 7) hx hb dX11_digits_19 (by decide) ?_
        exact ih F (x1 + 1) (x2 / 10) _ _ _ hH hS (lv_sub hl [1, 0] rfl) q
  unfold P_X11_digits at q
  refine lv_iconst (v := 1) hx hb dX11_digits_0 (by decide) ?_
  refine lv_istore_n (lv' := [(1, .int 1), (0, .int p0)]) hx hb dX11_digits_1 rfl hl (by decide) rfl (fun ls hl => ?_)
  refine lv_iload_n hx hb dX11_digits_2 rfl (lv_at hl 1 rfl) ?_
  refine lv_bipush (v := 10) hx hb dX11_digits_3 (by decide) ?_
  refine lv_idiv hx hb dX11_digits_5 (by decide) ?_
  refine lv_istore_n (lv' := [(2, .int (p0 / 10)), (1, .int 1), (0, .int p0)]) hx hb dX11_digits_6 rfl hl (by decide) rfl (fun ls hl => ?_)
  obtain ⟨nn, q⟩ := q
  exact t_7 nn F 1 (p0 / 10) _ _ _ hH hS (lv_sub hl [1, 0] rfl) q
abbrev rm_X11_digitAt : Room := { frames := 1, cells := 0, slots := 0, locals := 22 }
abbrev q_X11_digitAt (G : GP) (ad : Nat → Nat → Nat) (K : Int32 → GF → Prop) (below : List Frame) (args : Array Value) (s : State) : State → Prop := MQ below (gQi G ad K) args s 0 0 (gA G)
set_option maxHeartbeats 4000000 in
set_option maxRecDepth 100000 in
theorem c_X11_digitAt (l : Launch) (G : GP) (ad : Nat → Nat → Nat) (F : GF) (p0 : Int32) (p1 : Int32) (K : Int32 → GF → Prop) : Met l yX11_digitAt wsX11_digitAt rm_X11_digitAt (va_Pc [.int p0, .int p1] (fun U => gD G ad F U ∧ P_X11_digitAt F p0 p1 K)) (gQi G ad K) 0 0 (gA G) := by
  refine Met.ofW (cc := cX11_digitAt) (maxL := 4) (ret := (some .int)) (by decide) rfl ?_
  intro p e s m args below meth c s₁ Bd hml hv
  obtain ⟨rfl, ⟨hK, hG, hB, hH⟩, q⟩ := hv
  have hx := Bd.exec
  have hb := Bd.bytes
  have hr := Bd.returns
  have hts := atoms_spec (ws := wsX11_digitAt) Bd.pre
  have hown : s.vm.findClass RX11 = some m.cls := findClass_of_methodNamed Bd.named
  have hlocks := Bd.notSynchronized
  have hS : va_S (gA G) s.heap s.heap [] := va_S.rf
  have hl := lv_entry [.int p0, .int p1] (n := 4) (Nat.le_of_ble_eq_true rfl)
  rw [lg_entry_eq]
  generalize (lg_sl [.int p0, .int p1] ++ List.replicate (4 - (lg_sl [.int p0, .int p1]).length) Slot.unset).toArray = ls at hl ⊢
  have hl : lv_has ls 4 [(0, .int p0), (1, .int p1)] := hl
  show W p l e rm_X11_digitAt s m ([.int p0, .int p1] : List Value).toArray below meth c s.heap [] 0 0 (q_X11_digitAt G ad K below ([.int p0, .int p1] : List Value).toArray s) _
  have t_9 : ∀ n : Nat, ∀ (F : GF) (x1 : Int32) (x2 : Int32) (x3 : Int32) (H : Heap) (locs : List Loc) (ls : Array Slot), gH G ad F H → va_S (gA G) s.heap H locs → lv_has ls 4 [(1, .int x1), (2, .int x2), (3, .int x3)] → (P_X11_digitAt_9 K n) F x1 x2 x3 → W p l e rm_X11_digitAt s m ([.int p0, .int p1] : List Value).toArray below meth c H locs 0 0 (q_X11_digitAt G ad K below ([.int p0, .int p1] : List Value).toArray s) (F0 m 9 ls []) := by
    intro n
    induction n with
    | zero =>
      intro F x1 x2 x3 H locs ls hH hS hl q
      exact False.elim q
    | succ n ih =>
      intro F x1 x2 x3 H locs ls hH hS hl q
      rw [P_X11_digitAt_9] at q
      refine lv_iload_n hx hb dX11_digitAt_9 rfl (lv_at hl 2 rfl) ?_
      refine lv_iload_n hx hb dX11_digitAt_10 rfl (lv_at hl 0 rfl) ?_
      refine lv_icmp_le (tgt := 25) hx hb dX11_digitAt_11 (by decide) (fun c3 => ?_) (fun c3 => ?_)
      · have q := (if_pos c3).mp q
        refine lv_bipush (v := 48) hx hb dX11_digitAt_25 (by decide) ?_
        refine lv_iload_n hx hb dX11_digitAt_27 rfl (lv_at hl 1 rfl) ?_
        refine lv_bipush (v := 10) hx hb dX11_digitAt_28 (by decide) ?_
        refine lv_irem hx hb dX11_digitAt_30 (by decide) ?_
        refine lv_iadd hx hb dX11_digitAt_31 ?_
        exact (W.iret (v := (48 + (x2 - x2 / 10 * 10))) hx hb hr (fun t ht hW => ⟨⟨(48 + (x2 - x2 / 10 * 10)), F, rfl, q, gH_at ht hH⟩, hS.F ht⟩) hS.2.2 dX11_digitAt_32)
      · have q := (if_neg c3).mp q
        refine lv_iload_n hx hb dX11_digitAt_14 rfl (lv_at hl 1 rfl) ?_
        refine lv_bipush (v := 10) hx hb dX11_digitAt_15 (by decide) ?_
        refine lv_idiv hx hb dX11_digitAt_17 (by decide) ?_
        refine lv_istore_n (lv' := [(2, .int (x2 / 10)), (1, .int x1), (3, .int x3)]) hx hb dX11_digitAt_18 rfl hl (by decide) rfl (fun ls hl => ?_)
        refine lv_iinc (v := x3 + (-1)) (lv' := [(3, .int (x3 + (-1))), (2, .int (x2 / 10)), (1, .int x1)]) hx hb dX11_digitAt_19 hl (k := 2) rfl rfl (by decide) rfl (fun ls hl => ?_)
        refine lv_goto (tgt := 9) hx hb dX11_digitAt_22 (by decide) ?_
        exact ih F x1 (x2 / 10) (x3 + (-1)) _ _ _ hH hS (lv_sub hl [2, 1, 0] rfl) q
  unfold P_X11_digitAt at q
  refine lv_iload_n hx hb dX11_digitAt_0 rfl (lv_at hl 0 rfl) ?_
  refine lv_istore_n (lv' := [(2, .int p0), (0, .int p0), (1, .int p1)]) hx hb dX11_digitAt_1 rfl hl (by decide) rfl (fun ls hl => ?_)
  refine lv_iload_n hx hb dX11_digitAt_2 rfl (lv_at hl 1 rfl) ?_
  refine va_calli (va_runS (As := [.int p0]) (rest := []) ⟨hx, hb, hml, hown, hts⟩ (c_X11_digits l G ad F p0 _) (va_cwS 1 hts gX11_digitAt_X11_digits rfl rfl rfl (by decide +kernel) ⟨Nat.le_of_ble_eq_true rfl, Nat.le_of_ble_eq_true rfl⟩) ⟨fun a U g mk h => ⟨h.1, gD_blind h.2.1, h.2.2⟩, fun U hU hW => ⟨rfl, gD_at hK hG hB hH hS hU hW, q⟩⟩ rfl rfl hl.1 rfl (lv_room (Nat.le_of_ble_eq_true rfl)) dX11_digitAt_3 ⟨Nat.le_of_ble_eq_true rfl, Nat.le_of_ble_eq_true rfl⟩) hS (fun _ _ h => h) (fun _ h => h) (fun r1 F2 t H locs ht hvm q hB1 hz hk hS => ?_)
  have hH : gH G ad F2 H := gH_to ht hB1
  refine lv_iconst (v := 1) hx hb dX11_digitAt_6 (by decide) ?_
  refine lv_isub hx hb dX11_digitAt_7 ?_
  refine lv_istore_n (lv' := [(3, .int (r1 - 1)), (2, .int p0), (0, .int p0), (1, .int p1)]) hx hb dX11_digitAt_8 rfl hl (by decide) rfl (fun ls hl => ?_)
  obtain ⟨nn, q⟩ := q
  exact t_9 nn F2 p1 p0 (r1 - 1) _ _ _ hH hS (lv_sub hl [3, 1, 0] rfl) q
abbrev rm_X11_signAt : Room := { frames := 2, cells := 0, slots := 0, locals := 45 }
abbrev q_X11_signAt (G : GP) (ad : Nat → Nat → Nat) (K : Int32 → GF → Prop) (below : List Frame) (args : Array Value) (s : State) : State → Prop := MQ below (gQi G ad K) args s 0 0 (gA G)
set_option maxHeartbeats 4000000 in
set_option maxRecDepth 100000 in
theorem c_X11_signAt (l : Launch) (G : GP) (ad : Nat → Nat → Nat) (F : GF) (p1 : Int32) (p2 : Int32) (K : Int32 → GF → Prop) : Met l yX11_signAt wsX11_signAt rm_X11_signAt (va_Pc [.ref (ad 40 0), .int p1, .int p2] (fun U => gD G ad F U ∧ P_X11_signAt F p1 p2 K)) (gQi G ad K) 0 0 (gA G) := by
  refine Met.ofW (cc := cX11_signAt) (maxL := 4) (ret := (some .int)) (by decide) rfl ?_
  intro p e s m args below meth c s₁ Bd hml hv
  obtain ⟨rfl, ⟨hK, hG, hB, hH⟩, q⟩ := hv
  have hx := Bd.exec
  have hb := Bd.bytes
  have hr := Bd.returns
  have hts := atoms_spec (ws := wsX11_signAt) Bd.pre
  have hown : s.vm.findClass RX11 = some m.cls := findClass_of_methodNamed Bd.named
  have hlocks := Bd.notSynchronized
  have hS : va_S (gA G) s.heap s.heap [] := va_S.rf
  have hl := lv_entry [.ref (ad 40 0), .int p1, .int p2] (n := 4) (Nat.le_of_ble_eq_true rfl)
  rw [lg_entry_eq]
  generalize (lg_sl [.ref (ad 40 0), .int p1, .int p2] ++ List.replicate (4 - (lg_sl [.ref (ad 40 0), .int p1, .int p2]).length) Slot.unset).toArray = ls at hl ⊢
  have hl : lv_has ls 4 [(0, .ref (ad 40 0)), (1, .int p1), (2, .int p2)] := hl
  show W p l e rm_X11_signAt s m ([.ref (ad 40 0), .int p1, .int p2] : List Value).toArray below meth c s.heap [] 0 0 (q_X11_signAt G ad K below ([.ref (ad 40 0), .int p1, .int p2] : List Value).toArray s) _
  have t_24 : ∀ (F : GF) (x1 : Int32) (x2 : Int32) (s1 : Int32) (H : Heap) (locs : List Loc) (ls : Array Slot), gH G ad F H → va_S (gA G) s.heap H locs → lv_has ls 4 [(0, .ref (ad 40 0)), (1, .int x1), (2, .int x2)] → (P_X11_signAt_24 K) F x1 x2 s1 → W p l e rm_X11_signAt s m ([.ref (ad 40 0), .int p1, .int p2] : List Value).toArray below meth c H locs 0 0 (q_X11_signAt G ad K below ([.ref (ad 40 0), .int p1, .int p2] : List Value).toArray s) (F0 m 24 ls [.int s1, .ref (ad 40 0)]) := by
    intro F x1 x2 s1 H locs ls hH hS hl q
    unfold P_X11_signAt_24 at q
    refine va_calli (va_runV (As := [.int s1]) (rest := []) ⟨hx, hb, hml, hown, hts⟩ (c_X11_asked l G ad F s1 _) (cwV 1 hts gX11_signAt_X11_asked rfl rfl rfl (by decide +kernel) ⟨Nat.le_of_ble_eq_true rfl, Nat.le_of_ble_eq_true rfl⟩) ⟨fun a U g mk h => ⟨h.1, gD_blind h.2.1, h.2.2⟩, g_recv (C := RX11) (T := TX11) (N := 44) hK hH 40 0 (by decide) Nat.zero_lt_one rfl rfl, fun U hU hW => ⟨rfl, gD_at hK hG hB hH hS hU hW, q⟩⟩ rfl rfl hl.1 rfl (lv_room (Nat.le_of_ble_eq_true rfl)) dX11_signAt_24 ⟨Nat.le_of_ble_eq_true rfl, Nat.le_of_ble_eq_true rfl⟩) hS (fun _ _ h => h) (fun _ h => h) (fun r4 F5 t H locs ht hvm q hB1 hz hk hS => ?_)
    have hH : gH G ad F5 H := gH_to ht hB1
    refine lv_if_ne (tgt := 32) hx hb dX11_signAt_27 (by decide) (fun c6 => ?_) (fun c6 => ?_)
    · have q := (if_neg c6).mp q
      refine lv_aload_n hx hb dX11_signAt_32 rfl (lv_at hl 0 rfl) ?_
      refine g_get (ci := 15) (v := .ref (ad 68 0)) (C := RX11) (T := TX11) (N := 44) hx hb hts (fun _ h => (List.mem_cons_of_mem _ (List.mem_append_left _ (List.mem_append_right _ h)))) hown hK hH 40 0 (by decide) Nat.zero_lt_one rfl rfl 39 (by decide) (hts (.fieldLink RX11 96 "BallotFoundryModel" "noteDay" "[I") (List.mem_of_getElem? (i := 2) rfl)) (fun _ h => h) rfl dX11_signAt_33 ?_
      refine lv_iload_n hx hb dX11_signAt_36 rfl (lv_at hl 1 rfl) ?_
      obtain ⟨h7, q⟩ := q
      refine g_iald hx hb hK hH 68 0 (by decide) Nat.zero_lt_one 1000 rfl h7 dX11_signAt_37 ?_
      refine va_calli (va_runS (As := [.int (F5 68 0 x1.toNatClampNeg)]) (rest := []) ⟨hx, hb, hml, hown, hts⟩ (c_X11_digits l G ad F5 (F5 68 0 x1.toNatClampNeg) _) (va_cwS 1 hts gX11_signAt_X11_digits rfl rfl rfl (by decide +kernel) ⟨Nat.le_of_ble_eq_true rfl, Nat.le_of_ble_eq_true rfl⟩) ⟨fun a U g mk h => ⟨h.1, gD_blind h.2.1, h.2.2⟩, fun U hU hW => ⟨rfl, gD_at hK hG hB hH hS hU hW, q⟩⟩ rfl rfl hl.1 rfl (lv_room (Nat.le_of_ble_eq_true rfl)) dX11_signAt_38 ⟨Nat.le_of_ble_eq_true rfl, Nat.le_of_ble_eq_true rfl⟩) hS (fun _ _ h => h) (fun _ h => h) (fun r8 F9 t H locs ht hvm q hB1 hz hk hS => ?_)
      have hH : gH G ad F9 H := gH_to ht hB1
      refine lv_istore_n (lv' := [(3, .int r8), (0, .ref (ad 40 0)), (1, .int x1), (2, .int x2)]) hx hb dX11_signAt_41 rfl hl (by decide) rfl (fun ls hl => ?_)
      refine lv_iload_n hx hb dX11_signAt_42 rfl (lv_at hl 3 rfl) ?_
      refine lv_iload_n hx hb dX11_signAt_43 rfl (lv_at hl 0 rfl) ?_
      refine lv_icmp_ge (tgt := 58) hx hb dX11_signAt_44 (by decide) (fun c10 => ?_) (fun c10 => ?_)
      · have q := (if_pos c10).mp q
        refine lv_iload_n hx hb dX11_signAt_58 rfl (lv_at hl 3 rfl) ?_
        refine lv_iload_n hx hb dX11_signAt_59 rfl (lv_at hl 0 rfl) ?_
        refine lv_icmp_ne (tgt := 70) hx hb dX11_signAt_60 (by decide) (fun c11 => ?_) (fun c11 => ?_)
        · have q := (if_neg c11).mp q
          refine lv_iload_n hx hb dX11_signAt_70 rfl (lv_at hl 3 rfl) ?_
          refine lv_iload_n hx hb dX11_signAt_71 rfl (lv_at hl 0 rfl) ?_
          refine lv_isub hx hb dX11_signAt_72 ?_
          refine lv_iconst (v := 1) hx hb dX11_signAt_73 (by decide) ?_
          refine lv_isub hx hb dX11_signAt_74 ?_
          refine lv_aload_n hx hb dX11_signAt_75 rfl (lv_at hl 1 rfl) ?_
          refine g_get (ci := 15) (v := .ref (ad 70 0)) (C := RX11) (T := TX11) (N := 44) hx hb hts (fun _ h => (List.mem_cons_of_mem _ (List.mem_append_left _ (List.mem_append_right _ h)))) hown hK hH 40 0 (by decide) Nat.zero_lt_one rfl rfl 41 (by decide) (hts (.fieldLink RX11 102 "BallotFoundryModel" "noteNumber" "[I") (List.mem_of_getElem? (i := 4) rfl)) (fun _ h => h) rfl dX11_signAt_76 ?_
          refine lv_iload_n hx hb dX11_signAt_79 rfl (lv_at hl 2 rfl) ?_
          obtain ⟨h12, q⟩ := q
          refine g_iald hx hb hK hH 70 0 (by decide) Nat.zero_lt_one 1000 rfl h12 dX11_signAt_80 ?_
          refine va_calli (va_runS (As := [.int (F9 70 0 x1.toNatClampNeg)]) (rest := [.int ((x2 - r8) - 1)]) ⟨hx, hb, hml, hown, hts⟩ (c_X11_digits l G ad F9 (F9 70 0 x1.toNatClampNeg) _) (va_cwS 1 hts gX11_signAt_X11_digits rfl rfl rfl (by decide +kernel) ⟨Nat.le_of_ble_eq_true rfl, Nat.le_of_ble_eq_true rfl⟩) ⟨fun a U g mk h => ⟨h.1, gD_blind h.2.1, h.2.2⟩, fun U hU hW => ⟨rfl, gD_at hK hG hB hH hS hU hW, q⟩⟩ rfl rfl hl.1 rfl (lv_room (Nat.le_of_ble_eq_true rfl)) dX11_signAt_81 ⟨Nat.le_of_ble_eq_true rfl, Nat.le_of_ble_eq_true rfl⟩) hS (fun _ _ h => h) (fun _ h => h) (fun r13 F14 t H locs ht hvm q hB1 hz hk hS => ?_)
          have hH : gH G ad F14 H := gH_to ht hB1
          refine lv_icmp_ge (tgt := 104) hx hb dX11_signAt_84 (by decide) (fun c15 => ?_) (fun c15 => ?_)
          · have q := (if_pos c15).mp q
            refine lv_iconst (v := (-1)) hx hb dX11_signAt_104 (by decide) ?_
            exact (W.iret (v := (-1)) hx hb hr (fun t ht hW => ⟨⟨(-1), F14, rfl, q, gH_at ht hH⟩, hS.F ht⟩) hS.2.2 dX11_signAt_105)
          · have q := (if_neg c15).mp q
            refine lv_aload_n hx hb dX11_signAt_87 rfl (lv_at hl 1 rfl) ?_
            refine g_get (ci := 15) (v := .ref (ad 70 0)) (C := RX11) (T := TX11) (N := 44) hx hb hts (fun _ h => (List.mem_cons_of_mem _ (List.mem_append_left _ (List.mem_append_right _ h)))) hown hK hH 40 0 (by decide) Nat.zero_lt_one rfl rfl 41 (by decide) (hts (.fieldLink RX11 102 "BallotFoundryModel" "noteNumber" "[I") (List.mem_of_getElem? (i := 4) rfl)) (fun _ h => h) rfl dX11_signAt_88 ?_
            refine lv_iload_n hx hb dX11_signAt_91 rfl (lv_at hl 2 rfl) ?_
            obtain ⟨h16, q⟩ := q
            refine g_iald hx hb hK hH 70 0 (by decide) Nat.zero_lt_one 1000 rfl h16 dX11_signAt_92 ?_
            refine lv_iload_n hx hb dX11_signAt_93 rfl (lv_at hl 3 rfl) ?_
            refine lv_iload_n hx hb dX11_signAt_94 rfl (lv_at hl 0 rfl) ?_
            refine lv_isub hx hb dX11_signAt_95 ?_
            refine lv_iconst (v := 1) hx hb dX11_signAt_96 (by decide) ?_
            refine lv_isub hx hb dX11_signAt_97 ?_
            refine va_calli (va_runS (As := [.int (F14 70 0 x1.toNatClampNeg), .int ((x2 - r8) - 1)]) (rest := []) ⟨hx, hb, hml, hown, hts⟩ (c_X11_digitAt l G ad F14 (F14 70 0 x1.toNatClampNeg) ((x2 - r8) - 1) _) (va_cwS 2 hts gX11_signAt_X11_digitAt rfl rfl rfl (by decide +kernel) ⟨Nat.le_of_ble_eq_true rfl, Nat.le_of_ble_eq_true rfl⟩) ⟨fun a U g mk h => ⟨h.1, gD_blind h.2.1, h.2.2⟩, fun U hU hW => ⟨rfl, gD_at hK hG hB hH hS hU hW, q⟩⟩ rfl rfl hl.1 rfl (lv_room (Nat.le_of_ble_eq_true rfl)) dX11_signAt_98 ⟨Nat.le_of_ble_eq_true rfl, Nat.le_of_ble_eq_true rfl⟩) hS (fun _ _ h => h) (fun _ h => h) (fun r17 F18 t H locs ht hvm q hB1 hz hk hS => ?_)
            have hH : gH G ad F18 H := gH_to ht hB1
            refine lv_goto (tgt := 105) hx hb dX11_signAt_101 (by decide) ?_
            exact (W.iret (v := r17) hx hb hr (fun t ht hW => ⟨⟨r17, F18, rfl, q, gH_at ht hH⟩, hS.F ht⟩) hS.2.2 dX11_signAt_105)
        · have q := (if_pos c11).mp q
          refine lv_aload_n hx hb dX11_signAt_63 rfl (lv_at hl 1 rfl) ?_
          refine g_get (ci := 15) (v := .ref (ad 69 0)) (C := RX11) (T := TX11) (N := 44) hx hb hts (fun _ h => (List.mem_cons_of_mem _ (List.mem_append_left _ (List.mem_append_right _ h)))) hown hK hH 40 0 (by decide) Nat.zero_lt_one rfl rfl 40 (by decide) (hts (.fieldLink RX11 99 "BallotFoundryModel" "noteSign" "[I") (List.mem_of_getElem? (i := 3) rfl)) (fun _ h => h) rfl dX11_signAt_64 ?_
          refine lv_iload_n hx hb dX11_signAt_67 rfl (lv_at hl 2 rfl) ?_
          obtain ⟨h19, q⟩ := q
          refine g_iald hx hb hK hH 69 0 (by decide) Nat.zero_lt_one 1000 rfl h19 dX11_signAt_68 ?_
          exact (W.iret (v := (F9 69 0 x1.toNatClampNeg)) hx hb hr (fun t ht hW => ⟨⟨(F9 69 0 x1.toNatClampNeg), F9, rfl, q, gH_at ht hH⟩, hS.F ht⟩) hS.2.2 dX11_signAt_69)
      · have q := (if_neg c10).mp q
        refine lv_aload_n hx hb dX11_signAt_47 rfl (lv_at hl 1 rfl) ?_
        refine g_get (ci := 15) (v := .ref (ad 68 0)) (C := RX11) (T := TX11) (N := 44) hx hb hts (fun _ h => (List.mem_cons_of_mem _ (List.mem_append_left _ (List.mem_append_right _ h)))) hown hK hH 40 0 (by decide) Nat.zero_lt_one rfl rfl 39 (by decide) (hts (.fieldLink RX11 96 "BallotFoundryModel" "noteDay" "[I") (List.mem_of_getElem? (i := 2) rfl)) (fun _ h => h) rfl dX11_signAt_48 ?_
        refine lv_iload_n hx hb dX11_signAt_51 rfl (lv_at hl 2 rfl) ?_
        obtain ⟨h20, q⟩ := q
        refine g_iald hx hb hK hH 68 0 (by decide) Nat.zero_lt_one 1000 rfl h20 dX11_signAt_52 ?_
        refine lv_iload_n hx hb dX11_signAt_53 rfl (lv_at hl 3 rfl) ?_
        refine va_calli (va_runS (As := [.int (F9 68 0 x1.toNatClampNeg), .int x2]) (rest := []) ⟨hx, hb, hml, hown, hts⟩ (c_X11_digitAt l G ad F9 (F9 68 0 x1.toNatClampNeg) x2 _) (va_cwS 2 hts gX11_signAt_X11_digitAt rfl rfl rfl (by decide +kernel) ⟨Nat.le_of_ble_eq_true rfl, Nat.le_of_ble_eq_true rfl⟩) ⟨fun a U g mk h => ⟨h.1, gD_blind h.2.1, h.2.2⟩, fun U hU hW => ⟨rfl, gD_at hK hG hB hH hS hU hW, q⟩⟩ rfl rfl hl.1 rfl (lv_room (Nat.le_of_ble_eq_true rfl)) dX11_signAt_54 ⟨Nat.le_of_ble_eq_true rfl, Nat.le_of_ble_eq_true rfl⟩) hS (fun _ _ h => h) (fun _ h => h) (fun r21 F22 t H locs ht hvm q hB1 hz hk hS => ?_)
        have hH : gH G ad F22 H := gH_to ht hB1
        exact (W.iret (v := r21) hx hb hr (fun t ht hW => ⟨⟨r21, F22, rfl, q, gH_at ht hH⟩, hS.F ht⟩) hS.2.2 dX11_signAt_57)
    · have q := (if_pos c6).mp q
      refine lv_iconst (v := 0) hx hb dX11_signAt_30 (by decide) ?_
      exact (W.iret (v := 0) hx hb hr (fun t ht hW => ⟨⟨0, F5, rfl, q, gH_at ht hH⟩, hS.F ht⟩) hS.2.2 dX11_signAt_31)
  have t_23 : ∀ (F : GF) (x1 : Int32) (x2 : Int32) (H : Heap) (locs : List Loc) (ls : Array Slot), gH G ad F H → va_S (gA G) s.heap H locs → lv_has ls 4 [(0, .ref (ad 40 0)), (1, .int x1), (2, .int x2)] → (P_X11_signAt_23 K) F x1 x2 → W p l e rm_X11_signAt s m ([.ref (ad 40 0), .int p1, .int p2] : List Value).toArray below meth c H locs 0 0 (q_X11_signAt G ad K below ([.ref (ad 40 0), .int p1, .int p2] : List Value).toArray s) (F0 m 23 ls [.ref (ad 40 0)]) := by
    intro F x1 x2 H locs ls hH hS hl q
    unfold P_X11_signAt_23 at q
    refine lv_iconst (v := 0) hx hb dX11_signAt_23 (by decide) ?_
    exact t_24 F x1 x2 0 _ _ _ hH hS (lv_sub hl [0, 1, 2] rfl) q
  unfold P_X11_signAt at q
  refine lv_aload_n hx hb dX11_signAt_0 rfl (lv_at hl 0 rfl) ?_
  refine lv_iload_n hx hb dX11_signAt_1 rfl (lv_at hl 1 rfl) ?_
  refine lv_iconst (v := 0) hx hb dX11_signAt_2 (by decide) ?_
  refine lv_aload_n hx hb dX11_signAt_3 rfl (lv_at hl 0 rfl) ?_
  refine g_get (ci := 15) (v := .int (F 40 0 42)) (C := RX11) (T := TX11) (N := 44) hx hb hts (fun _ h => (List.mem_cons_of_mem _ (List.mem_append_left _ (List.mem_append_right _ h)))) hown hK hH 40 0 (by decide) Nat.zero_lt_one rfl rfl 42 (by decide) (hts (.fieldLink RX11 162 "BallotFoundryModel" "notes" "I") (List.mem_of_getElem? (i := 1) rfl)) (fun _ h => h) rfl dX11_signAt_4 ?_
  refine lv_iconst (v := 1) hx hb dX11_signAt_7 (by decide) ?_
  refine lv_isub hx hb dX11_signAt_8 ?_
  refine va_calli (va_runS (As := [.int p1, .int 0, .int ((F 40 0 42) - 1)]) (rest := [.ref (ad 40 0)]) ⟨hx, hb, hml, hown, hts⟩ (c_X11_in l G ad F p1 0 ((F 40 0 42) - 1) _) (va_cwS 3 hts gX11_signAt_X11_in rfl rfl rfl (by decide +kernel) ⟨Nat.le_of_ble_eq_true rfl, Nat.le_of_ble_eq_true rfl⟩) ⟨fun a U g mk h => ⟨h.1, gD_blind h.2.1, h.2.2⟩, fun U hU hW => ⟨rfl, gD_at hK hG hB hH hS hU hW, q⟩⟩ rfl rfl hl.1 rfl (lv_room (Nat.le_of_ble_eq_true rfl)) dX11_signAt_9 ⟨Nat.le_of_ble_eq_true rfl, Nat.le_of_ble_eq_true rfl⟩) hS (fun _ _ h => h) (fun _ h => h) (fun r1 F2 t H locs ht hvm q hB1 hz hk hS => ?_)
  have hH : gH G ad F2 H := gH_to ht hB1
  refine lv_if_eq (tgt := 23) hx hb dX11_signAt_12 (by decide) (fun c3 => ?_) (fun c3 => ?_)
  · have q := (if_pos c3).mp q
    exact t_23 F2 p1 p2 _ _ _ hH hS (lv_sub hl [0, 1, 2] rfl) q
  · have q := (if_neg c3).mp q
    refine lv_iload_n hx hb dX11_signAt_15 rfl (lv_at hl 2 rfl) ?_
    refine lv_if_lt (tgt := 23) hx hb dX11_signAt_16 (by decide) (fun c23 => ?_) (fun c23 => ?_)
    · have q := (if_pos c23).mp q
      exact t_23 F2 p1 p2 _ _ _ hH hS (lv_sub hl [0, 1, 2] rfl) q
    · have q := (if_neg c23).mp q
      refine lv_iconst (v := 1) hx hb dX11_signAt_19 (by decide) ?_
      refine lv_goto (tgt := 24) hx hb dX11_signAt_20 (by decide) ?_
      exact t_24 F2 p1 p2 1 _ _ _ hH hS (lv_sub hl [0, 1, 2] rfl) q
