abbrev rm_X5_clear : Room := { frames := 1, cells := 0, slots := 0, locals := 23 }
abbrev q_X5_clear (G : GP) (ad : Nat → Nat → Nat) (K : GF → Prop) (below : List Frame) (args : Array Value) (s : State) : State → Prop := MQ below (gQv G ad K) args s 0 0 (gA G)
set_option maxHeartbeats 4000000 in
set_option maxRecDepth 100000 in
theorem c_X5_clear (l : Launch) (G : GP) (ad : Nat → Nat → Nat) (F : GF) (K : GF → Prop) : Met l yX5_clear wsX5_clear rm_X5_clear (va_Pc [.ref (ad 12 0)] (fun U => gD G ad F U ∧ P_X5_clear F K)) (gQv G ad K) 0 0 (gA G) := by
  refine Met.ofW (cc := cX5_clear) (maxL := 2) (ret := none) (by decide) rfl ?_
  intro p e s m args below meth c s₁ Bd hml hv
  obtain ⟨rfl, ⟨hK, hG, hB, hH⟩, q⟩ := hv
  have hx := Bd.exec
  have hb := Bd.bytes
  have hr := Bd.returns
  have hts := atoms_spec (ws := wsX5_clear) Bd.pre
  have hown : s.vm.findClass RX5 = some m.cls := findClass_of_methodNamed Bd.named
  have hlocks := Bd.notSynchronized
  have hS : va_S (gA G) s.heap s.heap [] := va_S.rf
  have hl := lv_entry [.ref (ad 12 0)] (n := 2) (Nat.le_of_ble_eq_true rfl)
  rw [lg_entry_eq]
  generalize (lg_sl [.ref (ad 12 0)] ++ List.replicate (2 - (lg_sl [.ref (ad 12 0)]).length) Slot.unset).toArray = ls at hl ⊢
  have hl : lv_has ls 2 [(0, .ref (ad 12 0))] := hl
  show W p l e rm_X5_clear s m ([.ref (ad 12 0)] : List Value).toArray below meth c s.heap [] 0 0 (q_X5_clear G ad K below ([.ref (ad 12 0)] : List Value).toArray s) _
  have t_18 : ∀ n : Nat, ∀ (F : GF) (x1 : Int32) (H : Heap) (locs : List Loc) (ls : Array Slot), gH G ad F H → va_S (gA G) s.heap H locs → lv_has ls 2 [(0, .ref (ad 12 0)), (1, .int x1)] → (P_X5_clear_18 K n) F x1 → W p l e rm_X5_clear s m ([.ref (ad 12 0)] : List Value).toArray below meth c H locs 0 0 (q_X5_clear G ad K below ([.ref (ad 12 0)] : List Value).toArray s) (F0 m 18 ls []) := by
    intro n
    induction n with
    | zero =>
      intro F x1 H locs ls hH hS hl q
      exact False.elim q
    | succ n ih =>
      intro F x1 H locs ls hH hS hl q
      rw [P_X5_clear_18] at q
      refine lv_iload_n hx hb dX5_clear_18 rfl (lv_at hl 1 rfl) ?_
      refine lv_bipush (v := 20) hx hb dX5_clear_19 (by decide) ?_
      refine lv_icmp_ge (tgt := 37) hx hb dX5_clear_21 (by decide) (fun c5 => ?_) (fun c5 => ?_)
      · have q := (if_pos c5).mp q
        exact (W.vret hx hb hr (fun t ht hW => ⟨⟨F, rfl, q, gH_at ht hH⟩, hS.F ht⟩) hS.2.2 dX5_clear_37)
      · have q := (if_neg c5).mp q
        refine lv_aload_n hx hb dX5_clear_24 rfl (lv_at hl 0 rfl) ?_
        refine g_get (ci := 9) (v := .ref (ad 15 0)) (C := RX5) (T := TX5) (N := 3) hx hb hts (fun _ h => (List.mem_cons_of_mem _ (List.mem_append_left _ (List.mem_append_right _ h)))) hown hK hH 12 0 (by decide) Nat.zero_lt_one rfl rfl 2 (by decide) (hts (.fieldLink RX5 18 "BallotFoundry$Roll" "hasVoted" "[Z") (List.mem_of_getElem? (i := 3) rfl)) (fun _ h => h) rfl dX5_clear_25 ?_
        refine lv_iload_n hx hb dX5_clear_28 rfl (lv_at hl 1 rfl) ?_
        refine lv_iconst (v := 0) hx hb dX5_clear_29 (by decide) ?_
        obtain ⟨h6, q⟩ := q
        refine g_zast hx hb hK hH hS 15 0 (by decide) Nat.zero_lt_one (by decide) 20 (fun _ => rfl) h6 dX5_clear_30 (fun H locs hH hS => ?_)
        rw [gz_vp (by decide)] at hH
        obtain ⟨F7, eF7⟩ : ∃ z, z = fs F 15 0 x1.toNatClampNeg 0 := ⟨_, rfl⟩
        have q := q F7 eF7
        rw [← eF7] at hH
        refine lv_iinc (v := x1 + 1) (lv' := [(1, .int (x1 + 1)), (0, .ref (ad 12 0))]) hx hb dX5_clear_31 hl (k := 1) rfl rfl (by decide) rfl (fun ls hl => ?_)
        refine lv_goto (tgt := 18) hx hb dX5_clear_34 (by decide) ?_
        exact ih F7 (x1 + 1) _ _ _ hH hS (lv_sub hl [1, 0] rfl) q
  unfold P_X5_clear at q
  refine lv_aload_n hx hb dX5_clear_0 rfl (lv_at hl 0 rfl) ?_
  refine g_get (ci := 9) (v := .ref (ad 13 0)) (C := RX5) (T := TX5) (N := 3) hx hb hts (fun _ h => (List.mem_cons_of_mem _ (List.mem_append_left _ (List.mem_append_right _ h)))) hown hK hH 12 0 (by decide) Nat.zero_lt_one rfl rfl 0 (by decide) (hts (.fieldLink RX5 9 "BallotFoundry$Roll" "stationsOfPeople" "[I") (List.mem_of_getElem? (i := 1) rfl)) (fun _ h => h) rfl dX5_clear_1 ?_
  refine lv_iconst (v := (-1)) hx hb dX5_clear_4 (by decide) ?_
  refine va_callv (va_runS (As := [.ref (ad 13 0), .int (-1)]) (rest := []) ⟨hx, hb, hml, hown, hts⟩ (c_J7_fill_53178 l G ad F 13 0 20 (-1) (by decide) Nat.zero_lt_one (by decide) (by decide) (fun _ => rfl)) (va_cwS 2 hts gX5_clear_J7_fill_53178 rfl rfl rfl (by decide +kernel) ⟨Nat.le_of_ble_eq_true rfl, Nat.le_of_ble_eq_true rfl⟩) ⟨fun a U g mk h => ⟨h.1, gD_blind h.2.1, h.2.2⟩, fun U hU hW => ⟨rfl, gD_at hK hG hB hH hS hU hW, trivial⟩⟩ rfl rfl hl.1 rfl (lv_room (Nat.le_of_ble_eq_true rfl)) dX5_clear_5 ⟨Nat.le_of_ble_eq_true rfl, Nat.le_of_ble_eq_true rfl⟩) hS (fun _ _ h => h) (fun _ h => h) (fun F2 t H locs ht hvm q9 hB1 hz hk hS => ?_)
  have q := q F2 q9
  have hH : gH G ad F2 H := gH_to ht hB1
  refine lv_aload_n hx hb dX5_clear_8 rfl (lv_at hl 0 rfl) ?_
  refine g_get (ci := 9) (v := .ref (ad 14 0)) (C := RX5) (T := TX5) (N := 3) hx hb hts (fun _ h => (List.mem_cons_of_mem _ (List.mem_append_left _ (List.mem_append_right _ h)))) hown hK hH 12 0 (by decide) Nat.zero_lt_one rfl rfl 1 (by decide) (hts (.fieldLink RX5 15 "BallotFoundry$Roll" "peopleOfStations" "[I") (List.mem_of_getElem? (i := 2) rfl)) (fun _ h => h) rfl dX5_clear_9 ?_
  refine lv_iconst (v := 0) hx hb dX5_clear_12 (by decide) ?_
  refine va_callv (va_runS (As := [.ref (ad 14 0), .int 0]) (rest := []) ⟨hx, hb, hml, hown, hts⟩ (c_J7_fill_53178 l G ad F2 14 0 5 0 (by decide) Nat.zero_lt_one (by decide) (by decide) (fun _ => rfl)) (va_cwS 2 hts gX5_clear_J7_fill_53178 rfl rfl rfl (by decide +kernel) ⟨Nat.le_of_ble_eq_true rfl, Nat.le_of_ble_eq_true rfl⟩) ⟨fun a U g mk h => ⟨h.1, gD_blind h.2.1, h.2.2⟩, fun U hU hW => ⟨rfl, gD_at hK hG hB hH hS hU hW, trivial⟩⟩ rfl rfl hl.1 rfl (lv_room (Nat.le_of_ble_eq_true rfl)) dX5_clear_13 ⟨Nat.le_of_ble_eq_true rfl, Nat.le_of_ble_eq_true rfl⟩) hS (fun _ _ h => h) (fun _ h => h) (fun F4 t H locs ht hvm q9 hB1 hz hk hS => ?_)
  have q := q F4 q9
  have hH : gH G ad F4 H := gH_to ht hB1
  refine lv_iconst (v := 0) hx hb dX5_clear_16 (by decide) ?_
  refine lv_istore_n (lv' := [(1, .int 0), (0, .ref (ad 12 0))]) hx hb dX5_clear_17 rfl hl (by decide) rfl (fun ls hl => ?_)
  obtain ⟨nn, q⟩ := q
  exact t_18 nn F4 0 _ _ _ hH hS (lv_sub hl [1, 0] rfl) q
abbrev rm_X1_clear : Room := { frames := 0, cells := 0, slots := 0, locals := 0 }
abbrev q_X1_clear (G : GP) (ad : Nat → Nat → Nat) (K : GF → Prop) (below : List Frame) (args : Array Value) (s : State) : State → Prop := MQ below (gQv G ad K) args s 0 0 (gA G)
set_option maxHeartbeats 4000000 in
set_option maxRecDepth 100000 in
theorem c_X1_clear (l : Launch) (G : GP) (ad : Nat → Nat → Nat) (F : GF) (i0 : Nat) (hi0 : i0 < 5) (K : GF → Prop) : Met l yX1_clear wsX1_clear rm_X1_clear (va_Pc [.ref (ad 28 i0)] (fun U => gD G ad F U ∧ P_X1_clear F i0 K)) (gQv G ad K) 0 0 (gA G) := by
  refine Met.ofW (cc := cX1_clear) (maxL := 1) (ret := none) (by decide) rfl ?_
  intro p e s m args below meth c s₁ Bd hml hv
  obtain ⟨rfl, ⟨hK, hG, hB, hH⟩, q⟩ := hv
  have hx := Bd.exec
  have hb := Bd.bytes
  have hr := Bd.returns
  have hts := atoms_spec (ws := wsX1_clear) Bd.pre
  have hown : s.vm.findClass RX1 = some m.cls := findClass_of_methodNamed Bd.named
  have hlocks := Bd.notSynchronized
  have hS : va_S (gA G) s.heap s.heap [] := va_S.rf
  have hl := lv_entry [.ref (ad 28 i0)] (n := 1) (Nat.le_of_ble_eq_true rfl)
  rw [lg_entry_eq]
  generalize (lg_sl [.ref (ad 28 i0)] ++ List.replicate (1 - (lg_sl [.ref (ad 28 i0)]).length) Slot.unset).toArray = ls at hl ⊢
  have hl : lv_has ls 1 [(0, .ref (ad 28 i0))] := hl
  unfold P_X1_clear at q
  refine lv_aload_n hx hb dX1_clear_0 rfl (lv_at hl 0 rfl) ?_
  refine lv_iconst (v := 0) hx hb dX1_clear_1 (by decide) ?_
  refine g_put (ci := 5) (v := .int 0) (C := RX1) (T := TX1) (N := 6) hx hb hts (fun _ h => (List.mem_cons_of_mem _ (List.mem_append_right _ h))) tyX1 tyX1_ok nmX1 hown hK hH hS 28 i0 (by decide) hi0 (by decide) rfl rfl 1 (by decide) (hts (.fieldLink RX1 15 "BallotFoundry$Box" "size" "I") (List.mem_of_getElem? (i := 1) rfl)) (fun _ h => h) rfl (ty := .int) (by decide +kernel) rfl rfl (Nat.le_of_ble_eq_true rfl) 0 rfl dX1_clear_2 (fun H locs hH hS => ?_)
  obtain ⟨F1, eF1⟩ : ∃ z, z = fs F 28 i0 1 0 := ⟨_, rfl⟩
  have q := q F1 eF1
  rw [← eF1] at hH
  refine lv_aload_n hx hb dX1_clear_5 rfl (lv_at hl 0 rfl) ?_
  refine lv_iconst (v := 0) hx hb dX1_clear_6 (by decide) ?_
  refine g_put (ci := 5) (v := .int 0) (C := RX1) (T := TX1) (N := 6) hx hb hts (fun _ h => (List.mem_cons_of_mem _ (List.mem_append_right _ h))) tyX1 tyX1_ok nmX1 hown hK hH hS 28 i0 (by decide) hi0 (by decide) rfl rfl 4 (by decide) (hts (.fieldLink RX1 27 "BallotFoundry$Box" "counts" "I") (List.mem_of_getElem? (i := 2) rfl)) (fun _ h => h) rfl (ty := .int) (by decide +kernel) rfl rfl (Nat.le_of_ble_eq_true rfl) 0 rfl dX1_clear_7 (fun H locs hH hS => ?_)
  obtain ⟨F2, eF2⟩ : ∃ z, z = fs F1 28 i0 4 0 := ⟨_, rfl⟩
  have q := q F2 eF2
  rw [← eF2] at hH
  refine lv_aload_n hx hb dX1_clear_10 rfl (lv_at hl 0 rfl) ?_
  refine lv_iconst (v := (-1)) hx hb dX1_clear_11 (by decide) ?_
  refine g_put (ci := 5) (v := .int (-1)) (C := RX1) (T := TX1) (N := 6) hx hb hts (fun _ h => (List.mem_cons_of_mem _ (List.mem_append_right _ h))) tyX1 tyX1_ok nmX1 hown hK hH hS 28 i0 (by decide) hi0 (by decide) rfl rfl 5 (by decide) (hts (.fieldLink RX1 30 "BallotFoundry$Box" "settledBy" "I") (List.mem_of_getElem? (i := 3) rfl)) (fun _ h => h) rfl (ty := .int) (by decide +kernel) rfl rfl (Nat.le_of_ble_eq_true rfl) (-1) rfl dX1_clear_12 (fun H locs hH hS => ?_)
  obtain ⟨F3, eF3⟩ : ∃ z, z = fs F2 28 i0 5 (-1) := ⟨_, rfl⟩
  have q := q F3 eF3
  rw [← eF3] at hH
  exact (W.vret hx hb hr (fun t ht hW => ⟨⟨F3, rfl, q, gH_at ht hH⟩, hS.F ht⟩) hS.2.2 dX1_clear_15)
abbrev rm_X2_start : Room := { frames := 2, cells := 0, slots := 0, locals := 44 }
abbrev q_X2_start (G : GP) (ad : Nat → Nat → Nat) (K : GF → Prop) (below : List Frame) (args : Array Value) (s : State) : State → Prop := MQ below (gQv G ad K) args s 0 0 (gA G)
set_option maxHeartbeats 4000000 in
set_option maxRecDepth 100000 in
theorem c_X2_start (l : Launch) (G : GP) (ad : Nat → Nat → Nat) (F : GF) (p1 : Int32) (p2 : Int32) (p3 : Int32) (K : GF → Prop) : Met l yX2_start wsX2_start rm_X2_start (va_Pc [.ref (ad 10 0), .int p1, .int p2, .int p3] (fun U => gD G ad F U ∧ P_X2_start F p1 p2 p3 K)) (gQv G ad K) 0 0 (gA G) := by
  refine Met.ofW (cc := cX2_start) (maxL := 5) (ret := none) (by decide) rfl ?_
  intro p e s m args below meth c s₁ Bd hml hv
  obtain ⟨rfl, ⟨hK, hG, hB, hH⟩, q⟩ := hv
  have hx := Bd.exec
  have hb := Bd.bytes
  have hr := Bd.returns
  have hts := atoms_spec (ws := wsX2_start) Bd.pre
  have hown : s.vm.findClass RX2 = some m.cls := findClass_of_methodNamed Bd.named
  have hlocks := Bd.notSynchronized
  have hS : va_S (gA G) s.heap s.heap [] := va_S.rf
  have hl := lv_entry [.ref (ad 10 0), .int p1, .int p2, .int p3] (n := 5) (Nat.le_of_ble_eq_true rfl)
  rw [lg_entry_eq]
  generalize (lg_sl [.ref (ad 10 0), .int p1, .int p2, .int p3] ++ List.replicate (5 - (lg_sl [.ref (ad 10 0), .int p1, .int p2, .int p3]).length) Slot.unset).toArray = ls at hl ⊢
  have hl : lv_has ls 5 [(0, .ref (ad 10 0)), (1, .int p1), (2, .int p2), (3, .int p3)] := hl
  show W p l e rm_X2_start s m ([.ref (ad 10 0), .int p1, .int p2, .int p3] : List Value).toArray below meth c s.heap [] 0 0 (q_X2_start G ad K below ([.ref (ad 10 0), .int p1, .int p2, .int p3] : List Value).toArray s) _
  have t_51 : ∀ n : Nat, ∀ (F : GF) (x4 : Int32) (H : Heap) (locs : List Loc) (ls : Array Slot), gH G ad F H → va_S (gA G) s.heap H locs → lv_has ls 5 [(0, .ref (ad 10 0)), (4, .int x4)] → (P_X2_start_51 K n) F x4 → W p l e rm_X2_start s m ([.ref (ad 10 0), .int p1, .int p2, .int p3] : List Value).toArray below meth c H locs 0 0 (q_X2_start G ad K below ([.ref (ad 10 0), .int p1, .int p2, .int p3] : List Value).toArray s) (F0 m 51 ls []) := by
    intro n
    induction n with
    | zero =>
      intro F x4 H locs ls hH hS hl q
      exact False.elim q
    | succ n ih =>
      intro F x4 H locs ls hH hS hl q
      rw [P_X2_start_51] at q
      refine lv_iload hx hb dX2_start_51 (lv_at hl 1 rfl) ?_
      refine lv_iconst (v := 5) hx hb dX2_start_53 (by decide) ?_
      refine lv_icmp_ge (tgt := 73) hx hb dX2_start_54 (by decide) (fun c12 => ?_) (fun c12 => ?_)
      · have q := (if_pos c12).mp q
        refine lv_aload_n hx hb dX2_start_73 rfl (lv_at hl 0 rfl) ?_
        refine g_get (ci := 6) (v := .ref (ad 21 0)) (C := RX2) (T := TX2) (N := 10) hx hb hts (fun _ h => (List.mem_cons_of_mem _ (List.mem_append_left _ (List.mem_append_left _ (List.mem_append_left _ (List.mem_append_left _ (List.mem_append_left _ (List.mem_append_right _ h)))))))) hown hK hH 10 0 (by decide) Nat.zero_lt_one rfl rfl 9 (by decide) (hts (.fieldLink RX2 55 "BallotFoundry$Election" "book" "LBallotFoundry$Book;") (List.mem_of_getElem? (i := 10) rfl)) (fun _ h => h) rfl dX2_start_74 ?_
        refine lv_iconst (v := 0) hx hb dX2_start_77 (by decide) ?_
        refine g_putN (ci := 4) (v := .int 0) (C := RX0) (T := TX0) (N := 5) hx hb hts (fun _ h => (List.mem_cons_of_mem _ (List.mem_append_left _ (List.mem_append_left _ (List.mem_append_left _ (List.mem_append_right _ h)))))) tyX0 tyX0_ok nmX0 hown hK hH hS 21 0 (by decide) Nat.zero_lt_one (by decide) rfl rfl 4 (by decide) (va_Nw.use rfl (hG.1 ("BallotFoundry$Election", 73, "BallotFoundry$Book", "size", "I", "BallotFoundry") (List.mem_of_getElem? (i := 12) rfl))) (fun _ h => h) rfl (ty := .int) (by decide +kernel) rfl rfl (Nat.le_of_ble_eq_true rfl) 0 rfl dX2_start_78 (fun H locs hH hS => ?_)
        obtain ⟨F13, eF13⟩ : ∃ z, z = fs F 21 0 4 0 := ⟨_, rfl⟩
        have q := q F13 eF13
        rw [← eF13] at hH
        exact (W.vret hx hb hr (fun t ht hW => ⟨⟨F13, rfl, q, gH_at ht hH⟩, hS.F ht⟩) hS.2.2 dX2_start_81)
      · have q := (if_neg c12).mp q
        refine lv_aload_n hx hb dX2_start_57 rfl (lv_at hl 0 rfl) ?_
        refine g_get (ci := 6) (v := .ref (ad 20 0)) (C := RX2) (T := TX2) (N := 10) hx hb hts (fun _ h => (List.mem_cons_of_mem _ (List.mem_append_left _ (List.mem_append_left _ (List.mem_append_left _ (List.mem_append_left _ (List.mem_append_left _ (List.mem_append_right _ h)))))))) hown hK hH 10 0 (by decide) Nat.zero_lt_one rfl rfl 8 (by decide) (hts (.fieldLink RX2 48 "BallotFoundry$Election" "boxes" "[LBallotFoundry$Box;") (List.mem_of_getElem? (i := 9) rfl)) (fun _ h => h) rfl dX2_start_58 ?_
        refine lv_iload hx hb dX2_start_61 (lv_at hl 1 rfl) ?_
        obtain ⟨h14, q⟩ := q
        refine g_aald (a := ad 28 (x4.toNatClampNeg)) hx hb hK hH 20 0 (by decide) Nat.zero_lt_one 4 5 rfl rfl h14 rfl dX2_start_63 ?_
        refine va_callv (va_runV (As := []) (rest := []) ⟨hx, hb, hml, hown, hts⟩ (c_X1_clear l G ad F x4.toNatClampNeg (gin h14) _) (cwV 0 hts gX2_start_X1_clear rfl rfl rfl (by decide +kernel) ⟨Nat.le_of_ble_eq_true rfl, Nat.le_of_ble_eq_true rfl⟩) ⟨fun a U g mk h => ⟨h.1, gD_blind h.2.1, h.2.2⟩, g_recv (C := RX1) (T := TX1) (N := 6) hK hH 28 x4.toNatClampNeg (by decide) (gin h14) rfl rfl, fun U hU hW => ⟨rfl, gD_at hK hG hB hH hS hU hW, q⟩⟩ rfl rfl hl.1 rfl (lv_room (Nat.le_of_ble_eq_true rfl)) dX2_start_64 ⟨Nat.le_of_ble_eq_true rfl, Nat.le_of_ble_eq_true rfl⟩) hS (fun _ _ h => h) (fun _ h => h) (fun F16 t H locs ht hvm q hB1 hz hk hS => ?_)
        have hH : gH G ad F16 H := gH_to ht hB1
        refine lv_iinc (v := x4 + 1) (lv' := [(4, .int (x4 + 1)), (0, .ref (ad 10 0))]) hx hb dX2_start_67 hl (k := 1) rfl rfl (by decide) rfl (fun ls hl => ?_)
        refine lv_goto (tgt := 51) hx hb dX2_start_70 (by decide) ?_
        exact ih F16 (x4 + 1) _ _ _ hH hS (lv_sub hl [1, 0] rfl) q
  unfold P_X2_start at q
  refine lv_aload_n hx hb dX2_start_0 rfl (lv_at hl 0 rfl) ?_
  refine lv_iconst (v := 1) hx hb dX2_start_1 (by decide) ?_
  refine g_put (ci := 6) (v := .int 1) (C := RX2) (T := TX2) (N := 10) hx hb hts (fun _ h => (List.mem_cons_of_mem _ (List.mem_append_left _ (List.mem_append_left _ (List.mem_append_left _ (List.mem_append_left _ (List.mem_append_left _ (List.mem_append_right _ h)))))))) tyX2 tyX2_ok nmX2 hown hK hH hS 10 0 (by decide) Nat.zero_lt_one (by decide) rfl rfl 0 (by decide) (hts (.fieldLink RX2 9 "BallotFoundry$Election" "stage" "I") (List.mem_of_getElem? (i := 1) rfl)) (fun _ h => h) rfl (ty := .int) (by decide +kernel) rfl rfl (Nat.le_of_ble_eq_true rfl) 1 rfl dX2_start_2 (fun H locs hH hS => ?_)
  obtain ⟨F1, eF1⟩ : ∃ z, z = fs F 10 0 0 1 := ⟨_, rfl⟩
  have q := q F1 eF1
  rw [← eF1] at hH
  refine lv_aload_n hx hb dX2_start_5 rfl (lv_at hl 0 rfl) ?_
  refine lv_iload_n hx hb dX2_start_6 rfl (lv_at hl 1 rfl) ?_
  refine g_put (ci := 6) (v := .int p1) (C := RX2) (T := TX2) (N := 10) hx hb hts (fun _ h => (List.mem_cons_of_mem _ (List.mem_append_left _ (List.mem_append_left _ (List.mem_append_left _ (List.mem_append_left _ (List.mem_append_left _ (List.mem_append_right _ h)))))))) tyX2 tyX2_ok nmX2 hown hK hH hS 10 0 (by decide) Nat.zero_lt_one (by decide) rfl rfl 1 (by decide) (hts (.fieldLink RX2 15 "BallotFoundry$Election" "day" "I") (List.mem_of_getElem? (i := 2) rfl)) (fun _ h => h) rfl (ty := .int) (by decide +kernel) rfl rfl (Nat.le_of_ble_eq_true rfl) p1 rfl dX2_start_7 (fun H locs hH hS => ?_)
  obtain ⟨F2, eF2⟩ : ∃ z, z = fs F1 10 0 1 p1 := ⟨_, rfl⟩
  have q := q F2 eF2
  rw [← eF2] at hH
  refine lv_aload_n hx hb dX2_start_10 rfl (lv_at hl 0 rfl) ?_
  refine lv_iload_n hx hb dX2_start_11 rfl (lv_at hl 2 rfl) ?_
  refine g_put (ci := 6) (v := .int p2) (C := RX2) (T := TX2) (N := 10) hx hb hts (fun _ h => (List.mem_cons_of_mem _ (List.mem_append_left _ (List.mem_append_left _ (List.mem_append_left _ (List.mem_append_left _ (List.mem_append_left _ (List.mem_append_right _ h)))))))) tyX2 tyX2_ok nmX2 hown hK hH hS 10 0 (by decide) Nat.zero_lt_one (by decide) rfl rfl 2 (by decide) (hts (.fieldLink RX2 18 "BallotFoundry$Election" "partySeats" "I") (List.mem_of_getElem? (i := 3) rfl)) (fun _ h => h) rfl (ty := .int) (by decide +kernel) rfl rfl (Nat.le_of_ble_eq_true rfl) p2 rfl dX2_start_12 (fun H locs hH hS => ?_)
  obtain ⟨F3, eF3⟩ : ∃ z, z = fs F2 10 0 2 p2 := ⟨_, rfl⟩
  have q := q F3 eF3
  rw [← eF3] at hH
  refine lv_aload_n hx hb dX2_start_15 rfl (lv_at hl 0 rfl) ?_
  refine lv_iload_n hx hb dX2_start_16 rfl (lv_at hl 3 rfl) ?_
  obtain ⟨h5, q⟩ := q
  refine g_put (ci := 6) (v := .int p3) (C := RX2) (T := TX2) (N := 10) hx hb hts (fun _ h => (List.mem_cons_of_mem _ (List.mem_append_left _ (List.mem_append_left _ (List.mem_append_left _ (List.mem_append_left _ (List.mem_append_left _ (List.mem_append_right _ h)))))))) tyX2 tyX2_ok nmX2 hown hK hH hS 10 0 (by decide) Nat.zero_lt_one (by decide) rfl rfl 3 (by decide) (hts (.fieldLink RX2 21 "BallotFoundry$Election" "isOdd" "Z") (List.mem_of_getElem? (i := 4) rfl)) (fun _ h => h) rfl (ty := .boolean) (by decide +kernel) (gz_nar h5) (gz_fit h5) (Nat.le_of_ble_eq_true rfl) p3 rfl dX2_start_17 (fun H locs hH hS => ?_)
  obtain ⟨F4, eF4⟩ : ∃ z, z = fs F3 10 0 3 p3 := ⟨_, rfl⟩
  have q := q F4 eF4
  rw [← eF4] at hH
  refine lv_aload_n hx hb dX2_start_20 rfl (lv_at hl 0 rfl) ?_
  refine lv_iconst (v := 0) hx hb dX2_start_21 (by decide) ?_
  refine g_put (ci := 6) (v := .int 0) (C := RX2) (T := TX2) (N := 10) hx hb hts (fun _ h => (List.mem_cons_of_mem _ (List.mem_append_left _ (List.mem_append_left _ (List.mem_append_left _ (List.mem_append_left _ (List.mem_append_left _ (List.mem_append_right _ h)))))))) tyX2 tyX2_ok nmX2 hown hK hH hS 10 0 (by decide) Nat.zero_lt_one (by decide) rfl rfl 4 (by decide) (hts (.fieldLink RX2 25 "BallotFoundry$Election" "stationsOfIt" "I") (List.mem_of_getElem? (i := 5) rfl)) (fun _ h => h) rfl (ty := .int) (by decide +kernel) rfl rfl (Nat.le_of_ble_eq_true rfl) 0 rfl dX2_start_22 (fun H locs hH hS => ?_)
  obtain ⟨F6, eF6⟩ : ∃ z, z = fs F4 10 0 4 0 := ⟨_, rfl⟩
  have q := q F6 eF6
  rw [← eF6] at hH
  refine lv_aload_n hx hb dX2_start_25 rfl (lv_at hl 0 rfl) ?_
  refine g_get (ci := 6) (v := .ref (ad 11 0)) (C := RX2) (T := TX2) (N := 10) hx hb hts (fun _ h => (List.mem_cons_of_mem _ (List.mem_append_left _ (List.mem_append_left _ (List.mem_append_left _ (List.mem_append_left _ (List.mem_append_left _ (List.mem_append_right _ h)))))))) hown hK hH 10 0 (by decide) Nat.zero_lt_one rfl rfl 5 (by decide) (hts (.fieldLink RX2 28 "BallotFoundry$Election" "seeds" "[I") (List.mem_of_getElem? (i := 6) rfl)) (fun _ h => h) rfl dX2_start_26 ?_
  refine lv_iconst (v := 0) hx hb dX2_start_29 (by decide) ?_
  refine va_callv (va_runS (As := [.ref (ad 11 0), .int 0]) (rest := []) ⟨hx, hb, hml, hown, hts⟩ (c_J7_fill_53178 l G ad F6 11 0 5 0 (by decide) Nat.zero_lt_one (by decide) (by decide) (fun _ => rfl)) (va_cwS 2 hts gX2_start_J7_fill_53178 rfl rfl rfl (by decide +kernel) ⟨Nat.le_of_ble_eq_true rfl, Nat.le_of_ble_eq_true rfl⟩) ⟨fun a U g mk h => ⟨h.1, gD_blind h.2.1, h.2.2⟩, fun U hU hW => ⟨rfl, gD_at hK hG hB hH hS hU hW, trivial⟩⟩ rfl rfl hl.1 rfl (lv_room (Nat.le_of_ble_eq_true rfl)) dX2_start_30 ⟨Nat.le_of_ble_eq_true rfl, Nat.le_of_ble_eq_true rfl⟩) hS (fun _ _ h => h) (fun _ h => h) (fun F8 t H locs ht hvm q9 hB1 hz hk hS => ?_)
  have q := q F8 q9
  have hH : gH G ad F8 H := gH_to ht hB1
  refine lv_aload_n hx hb dX2_start_33 rfl (lv_at hl 0 rfl) ?_
  refine g_get (ci := 6) (v := .ref (ad 12 0)) (C := RX2) (T := TX2) (N := 10) hx hb hts (fun _ h => (List.mem_cons_of_mem _ (List.mem_append_left _ (List.mem_append_left _ (List.mem_append_left _ (List.mem_append_left _ (List.mem_append_left _ (List.mem_append_right _ h)))))))) hown hK hH 10 0 (by decide) Nat.zero_lt_one rfl rfl 6 (by decide) (hts (.fieldLink RX2 35 "BallotFoundry$Election" "roll" "LBallotFoundry$Roll;") (List.mem_of_getElem? (i := 7) rfl)) (fun _ h => h) rfl dX2_start_34 ?_
  refine va_callv (va_runV (As := []) (rest := []) ⟨hx, hb, hml, hown, hts⟩ (c_X5_clear l G ad F8 _) (cwV 0 hts gX2_start_X5_clear rfl rfl rfl (by decide +kernel) ⟨Nat.le_of_ble_eq_true rfl, Nat.le_of_ble_eq_true rfl⟩) ⟨fun a U g mk h => ⟨h.1, gD_blind h.2.1, h.2.2⟩, g_recv (C := RX5) (T := TX5) (N := 3) hK hH 12 0 (by decide) Nat.zero_lt_one rfl rfl, fun U hU hW => ⟨rfl, gD_at hK hG hB hH hS hU hW, q⟩⟩ rfl rfl hl.1 rfl (lv_room (Nat.le_of_ble_eq_true rfl)) dX2_start_37 ⟨Nat.le_of_ble_eq_true rfl, Nat.le_of_ble_eq_true rfl⟩) hS (fun _ _ h => h) (fun _ h => h) (fun F10 t H locs ht hvm q hB1 hz hk hS => ?_)
  have hH : gH G ad F10 H := gH_to ht hB1
  refine lv_aload_n hx hb dX2_start_40 rfl (lv_at hl 0 rfl) ?_
  refine g_get (ci := 6) (v := .ref (ad 16 0)) (C := RX2) (T := TX2) (N := 10) hx hb hts (fun _ h => (List.mem_cons_of_mem _ (List.mem_append_left _ (List.mem_append_left _ (List.mem_append_left _ (List.mem_append_left _ (List.mem_append_left _ (List.mem_append_right _ h)))))))) hown hK hH 10 0 (by decide) Nat.zero_lt_one rfl rfl 7 (by decide) (hts (.fieldLink RX2 42 "BallotFoundry$Election" "envelopes" "LBallotFoundry$Envelopes;") (List.mem_of_getElem? (i := 8) rfl)) (fun _ h => h) rfl dX2_start_41 ?_
  refine lv_iconst (v := 0) hx hb dX2_start_44 (by decide) ?_
  refine g_putN (ci := 7) (v := .int 0) (C := RX3) (T := TX3) (N := 4) hx hb hts (fun _ h => (List.mem_cons_of_mem _ (List.mem_append_left _ (List.mem_append_left _ (List.mem_append_left _ (List.mem_append_left _ (List.mem_append_right _ h))))))) tyX3 tyX3_ok nmX3 hown hK hH hS 16 0 (by decide) Nat.zero_lt_one (by decide) rfl rfl 3 (by decide) (va_Nw.use rfl (hG.1 ("BallotFoundry$Election", 69, "BallotFoundry$Envelopes", "size", "I", "BallotFoundry") (List.mem_of_getElem? (i := 10) rfl))) (fun _ h => h) rfl (ty := .int) (by decide +kernel) rfl rfl (Nat.le_of_ble_eq_true rfl) 0 rfl dX2_start_45 (fun H locs hH hS => ?_)
  obtain ⟨F11, eF11⟩ : ∃ z, z = fs F10 16 0 3 0 := ⟨_, rfl⟩
  have q := q F11 eF11
  rw [← eF11] at hH
  refine lv_iconst (v := 0) hx hb dX2_start_48 (by decide) ?_
  refine lv_istore (lv' := [(4, .int 0), (0, .ref (ad 10 0)), (1, .int p1), (2, .int p2), (3, .int p3)]) hx hb dX2_start_49 hl (by decide) rfl (fun ls hl => ?_)
  obtain ⟨nn, q⟩ := q
  exact t_51 nn F11 0 _ _ _ hH hS (lv_sub hl [1, 0] rfl) q
abbrev rm_X10_call : Room := { frames := 7, cells := 3, slots := 18, locals := 112 }
abbrev q_X10_call (G : GP) (ad : Nat → Nat → Nat) (K : Int32 → GF → Prop) (X : String → GF → Prop) (below : List Frame) (args : Array Value) (s : State) : State → Prop := vx_MQ below (gQi G ad K) (gX G ad X) args s 3 18 (gA G)
set_option maxHeartbeats 4000000 in
set_option maxRecDepth 100000 in
theorem c_X10_call (l : Launch) (hfl : l.stackTraces = false) (G : GP) (ad : Nat → Nat → Nat) (F : GF) (p1 : Int32) (p2 : Int32) (p3 : Int32) (K : Int32 → GF → Prop) (X : String → GF → Prop) : vx_Met l yX10_call wsX10_call rm_X10_call (va_Pc [.ref (ad 0 0), .int p1, .int p2, .int p3] (fun U => gD G ad F U ∧ P_X10_call F p1 p2 p3 K X)) (gQi G ad K) (gX G ad X) 3 18 (gA G) := by
  refine vx_ofW (cc := cX10_call) (maxL := 4) (ret := (some .int)) (by decide) rfl ?_
  intro p e s m args below meth c s₁ Bd hml hno hv
  obtain ⟨rfl, ⟨hK, hG, hB, hH⟩, q⟩ := hv
  have hx := Bd.exec
  have hb := Bd.bytes
  have hr := Bd.returns
  have hts := atoms_spec (ws := wsX10_call) Bd.pre
  have hown : s.vm.findClass RX10 = some m.cls := findClass_of_methodNamed Bd.named
  have hlocks := Bd.notSynchronized
  have hS : va_S (gA G) s.heap s.heap [] := va_S.rf
  have hl := lv_entry [.ref (ad 0 0), .int p1, .int p2, .int p3] (n := 4) (Nat.le_of_ble_eq_true rfl)
  rw [lg_entry_eq]
  generalize (lg_sl [.ref (ad 0 0), .int p1, .int p2, .int p3] ++ List.replicate (4 - (lg_sl [.ref (ad 0 0), .int p1, .int p2, .int p3]).length) Slot.unset).toArray = ls at hl ⊢
  have hl : lv_has ls 4 [(0, .ref (ad 0 0)), (1, .int p1), (2, .int p2), (3, .int p3)] := hl
  show W p l e rm_X10_call s m ([.ref (ad 0 0), .int p1, .int p2, .int p3] : List Value).toArray below meth c s.heap [] 0 0 (q_X10_call G ad K X below ([.ref (ad 0 0), .int p1, .int p2, .int p3] : List Value).toArray s) _
  have t_46 : ∀ (F : GF) (x1 : Int32) (x2 : Int32) (x3 : Int32) (H : Heap) (locs : List Loc) (ls : Array Slot), gH G ad F H → va_S (gA G) s.heap H locs → lv_has ls 4 [(0, .ref (ad 0 0)), (1, .int x1), (2, .int x2), (3, .int x3)] → (P_X10_call_46 K X) F x1 x2 x3 → W p l e rm_X10_call s m ([.ref (ad 0 0), .int p1, .int p2, .int p3] : List Value).toArray below meth c H locs 2 12 (q_X10_call G ad K X below ([.ref (ad 0 0), .int p1, .int p2, .int p3] : List Value).toArray s) (F0 m 46 ls []) := by
    intro F x1 x2 x3 H locs ls hH hS hl q
    unfold P_X10_call_46 at q
    refine lv_aload_n hx hb dX10_call_46 rfl (lv_at hl 0 rfl) ?_
    refine g_get (ci := 14) (v := .ref (ad 6 0)) (C := RX10) (T := TX10) (N := 8) hx hb hts (fun _ h => (List.mem_cons_of_mem _ (List.mem_append_left _ (List.mem_append_left _ (List.mem_append_left _ (List.mem_append_left _ (List.mem_append_left _ (List.mem_append_left _ (List.mem_append_left _ (List.mem_append_left _ (List.mem_append_left _ (List.mem_append_right _ h)))))))))))) hown hK hH 0 0 (by decide) Nat.zero_lt_one rfl rfl 3 (by decide) (hts (.fieldLink RX10 29 "BallotFoundry" "stations" "LBallotFoundry$Stations;") (List.mem_of_getElem? (i := 4) rfl)) (fun _ h => h) rfl dX10_call_47 ?_
    refine g_getN (ci := 11) (v := .int (F 6 0 2)) (C := RX7) (T := TX7) (N := 3) hx hb hts (fun _ h => (List.mem_cons_of_mem _ (List.mem_append_left _ (List.mem_append_left _ (List.mem_append_left _ (List.mem_append_left _ (List.mem_append_left _ (List.mem_append_left _ (List.mem_append_left _ (List.mem_append_right _ h)))))))))) hown hK hH 6 0 (by decide) Nat.zero_lt_one rfl rfl 2 (by decide) (va_Nw.use rfl (hG.1 ("BallotFoundry", 85, "BallotFoundry$Stations", "size", "I", "BallotFoundry") (List.mem_of_getElem? (i := 2) rfl))) (fun _ h => h) rfl dX10_call_50 ?_
    refine lv_if_ne (tgt := 66) hx hb dX10_call_53 (by decide) (fun c6 => ?_) (fun c6 => ?_)
    · have q := (if_neg c6).mp q
      refine lv_aload_n hx hb dX10_call_66 rfl (lv_at hl 0 rfl) ?_
      refine g_get (ci := 14) (v := .int (F 0 0 5)) (C := RX10) (T := TX10) (N := 8) hx hb hts (fun _ h => (List.mem_cons_of_mem _ (List.mem_append_left _ (List.mem_append_left _ (List.mem_append_left _ (List.mem_append_left _ (List.mem_append_left _ (List.mem_append_left _ (List.mem_append_left _ (List.mem_append_left _ (List.mem_append_left _ (List.mem_append_right _ h)))))))))))) hown hK hH 0 0 (by decide) Nat.zero_lt_one rfl rfl 5 (by decide) (hts (.fieldLink RX10 37 "BallotFoundry" "now" "I") (List.mem_of_getElem? (i := 5) rfl)) (fun _ h => h) rfl dX10_call_67 ?_
      refine lv_iload_n hx hb dX10_call_70 rfl (lv_at hl 1 rfl) ?_
      refine lv_iadd hx hb dX10_call_71 ?_
      refine lv_sipush (v := 2000) hx hb dX10_call_72 (by decide) ?_
      refine lv_icmp_le (tgt := 88) hx hb dX10_call_75 (by decide) (fun c7 => ?_) (fun c7 => ?_)
      · have q := (if_pos c7).mp q
        refine lv_aload_n hx hb dX10_call_88 rfl (lv_at hl 0 rfl) ?_
        refine g_get (ci := 14) (v := .ref (ad 10 0)) (C := RX10) (T := TX10) (N := 8) hx hb hts (fun _ h => (List.mem_cons_of_mem _ (List.mem_append_left _ (List.mem_append_left _ (List.mem_append_left _ (List.mem_append_left _ (List.mem_append_left _ (List.mem_append_left _ (List.mem_append_left _ (List.mem_append_left _ (List.mem_append_left _ (List.mem_append_right _ h)))))))))))) hown hK hH 0 0 (by decide) Nat.zero_lt_one rfl rfl 6 (by decide) (hts (.fieldLink RX10 43 "BallotFoundry" "election" "LBallotFoundry$Election;") (List.mem_of_getElem? (i := 3) rfl)) (fun _ h => h) rfl dX10_call_89 ?_
        refine lv_aload_n hx hb dX10_call_92 rfl (lv_at hl 0 rfl) ?_
        refine g_get (ci := 14) (v := .int (F 0 0 5)) (C := RX10) (T := TX10) (N := 8) hx hb hts (fun _ h => (List.mem_cons_of_mem _ (List.mem_append_left _ (List.mem_append_left _ (List.mem_append_left _ (List.mem_append_left _ (List.mem_append_left _ (List.mem_append_left _ (List.mem_append_left _ (List.mem_append_left _ (List.mem_append_left _ (List.mem_append_right _ h)))))))))))) hown hK hH 0 0 (by decide) Nat.zero_lt_one rfl rfl 5 (by decide) (hts (.fieldLink RX10 37 "BallotFoundry" "now" "I") (List.mem_of_getElem? (i := 5) rfl)) (fun _ h => h) rfl dX10_call_93 ?_
        refine lv_iload_n hx hb dX10_call_96 rfl (lv_at hl 1 rfl) ?_
        refine lv_iadd hx hb dX10_call_97 ?_
        refine lv_iload_n hx hb dX10_call_98 rfl (lv_at hl 2 rfl) ?_
        refine lv_iload_n hx hb dX10_call_99 rfl (lv_at hl 3 rfl) ?_
        refine va_callv (va_runV (As := [.int ((F 0 0 5) + x1), .int x2, .int x3]) (rest := []) ⟨hx, hb, hml, hown, hts⟩ (c_X2_start l G ad F ((F 0 0 5) + x1) x2 x3 _) (cwV 3 hts gX10_call_X2_start rfl rfl rfl (by decide +kernel) ⟨Nat.le_of_ble_eq_true rfl, Nat.le_of_ble_eq_true rfl⟩) ⟨fun a U g mk h => ⟨h.1, gD_blind h.2.1, h.2.2⟩, g_recv (C := RX2) (T := TX2) (N := 10) hK hH 10 0 (by decide) Nat.zero_lt_one rfl rfl, fun U hU hW => ⟨rfl, gD_at hK hG hB hH hS hU hW, q⟩⟩ rfl rfl hl.1 rfl (lv_room (Nat.le_of_ble_eq_true rfl)) dX10_call_100 ⟨Nat.le_of_ble_eq_true rfl, Nat.le_of_ble_eq_true rfl⟩) hS (fun _ _ h => h) (fun _ h => h) (fun F9 t H locs ht hvm q hB1 hz hk hS => ?_)
        have hH : gH G ad F9 H := gH_to ht hB1
        refine lv_aload_n hx hb dX10_call_103 rfl (lv_at hl 0 rfl) ?_
        refine g_get (ci := 14) (v := .ref (ad 10 0)) (C := RX10) (T := TX10) (N := 8) hx hb hts (fun _ h => (List.mem_cons_of_mem _ (List.mem_append_left _ (List.mem_append_left _ (List.mem_append_left _ (List.mem_append_left _ (List.mem_append_left _ (List.mem_append_left _ (List.mem_append_left _ (List.mem_append_left _ (List.mem_append_left _ (List.mem_append_right _ h)))))))))))) hown hK hH 0 0 (by decide) Nat.zero_lt_one rfl rfl 6 (by decide) (hts (.fieldLink RX10 43 "BallotFoundry" "election" "LBallotFoundry$Election;") (List.mem_of_getElem? (i := 3) rfl)) (fun _ h => h) rfl dX10_call_104 ?_
        refine g_getN (ci := 6) (v := .int (F9 10 0 1)) (C := RX2) (T := TX2) (N := 10) hx hb hts (fun _ h => (List.mem_cons_of_mem _ (List.mem_append_left _ (List.mem_append_left _ (List.mem_append_left _ (List.mem_append_left _ (List.mem_append_left _ (List.mem_append_left _ (List.mem_append_left _ (List.mem_append_left _ (List.mem_append_right _ h))))))))))) hown hK hH 10 0 (by decide) Nat.zero_lt_one rfl rfl 1 (by decide) (va_Nw.use rfl (hG.1 ("BallotFoundry", 148, "BallotFoundry$Election", "day", "I", "BallotFoundry") (List.mem_of_getElem? (i := 17) rfl))) (fun _ h => h) rfl dX10_call_107 ?_
        refine W.widen (k := 3) (n := 18) (Nat.le_of_ble_eq_true rfl) (Nat.le_of_ble_eq_true rfl) ?_
        exact vx_ret (W.iret (v := (F9 10 0 1)) hx hb hr (fun t ht hW => ⟨⟨(F9 10 0 1), F9, rfl, q, gH_at ht hH⟩, hS.F ht⟩) hS.2.2 dX10_call_110)
      · have q := (if_neg c7).mp q
        exact g_throw (text := "too late a day for an election") hx hb hfl hno hown hts hG hS (List.mem_of_getElem? (i := 2) rfl) (List.mem_of_getElem? (i := 10) rfl) (List.mem_of_getElem? (i := 1) rfl) (List.mem_of_getElem? (i := 2) rfl) (fun _ h => (List.mem_cons_of_mem _ (List.mem_append_left _ (List.mem_append_left _ (List.mem_append_right _ h))))) (hl.1.trans hml.symm) hlocks dX10_call_78 dX10_call_81 dX10_call_82 dX10_call_84 dX10_call_87 (Nat.le_of_ble_eq_true rfl) (Nat.le_of_ble_eq_true rfl) (Nat.le_of_ble_eq_true rfl) (Nat.le_of_ble_eq_true rfl) (fun t hvm hz hk => ⟨F, trivial, ⟨q, gH_grow hH hz hk⟩, gF_grow hS hz hk⟩) hS.2.2 (Nat.le_of_ble_eq_true rfl) (Nat.le_of_ble_eq_true rfl)
    · have q := (if_pos c6).mp q
      exact g_throw (text := "no station") hx hb hfl hno hown hts hG hS (List.mem_of_getElem? (i := 2) rfl) (List.mem_of_getElem? (i := 9) rfl) (List.mem_of_getElem? (i := 1) rfl) (List.mem_of_getElem? (i := 2) rfl) (fun _ h => (List.mem_cons_of_mem _ (List.mem_append_left _ (List.mem_append_left _ (List.mem_append_right _ h))))) (hl.1.trans hml.symm) hlocks dX10_call_56 dX10_call_59 dX10_call_60 dX10_call_62 dX10_call_65 (Nat.le_of_ble_eq_true rfl) (Nat.le_of_ble_eq_true rfl) (Nat.le_of_ble_eq_true rfl) (Nat.le_of_ble_eq_true rfl) (fun t hvm hz hk => ⟨F, trivial, ⟨q, gH_grow hH hz hk⟩, gF_grow hS hz hk⟩) hS.2.2 (Nat.le_of_ble_eq_true rfl) (Nat.le_of_ble_eq_true rfl)
  unfold P_X10_call at q
  refine lv_iload_n hx hb dX10_call_0 rfl (lv_at hl 1 rfl) ?_
  refine lv_bipush (v := 8) hx hb dX10_call_1 (by decide) ?_
  refine lv_bipush (v := 100) hx hb dX10_call_3 (by decide) ?_
  refine vx_callv (vx_runS (As := [.int p1, .int 8, .int 100]) (rest := []) ⟨hx, hb, hml, hown, hts⟩ (c_X10_needRange l hfl G ad F p1 8 100 _ _) (va_cwS 3 hts gX10_call_X10_needRange rfl rfl rfl (by decide +kernel) ⟨Nat.le_of_ble_eq_true rfl, Nat.le_of_ble_eq_true rfl⟩) ⟨fun a U g mk h => ⟨h.1, gD_blind h.2.1, h.2.2⟩, fun U hU hW => ⟨rfl, gD_at hK hG hB hH hS hU hW, q⟩⟩ rfl rfl hl.1 rfl (lv_room (Nat.le_of_ble_eq_true rfl)) dX10_call_5 ⟨Nat.le_of_ble_eq_true rfl, Nat.le_of_ble_eq_true rfl⟩) hS (fun _ _ h => h) (fun _ h => h) (fun _ _ h => h) (fun E ce q9 u t H locs ht hvm _ hq hz hk hS hc9 hv9 hcl9 => vx_widen (Nat.le_of_ble_eq_true rfl) (Nat.le_of_ble_eq_true rfl) (vx_out (fun x hx => (hno x hx).elim) hlocks hc9 hv9 hcl9 (fun t1 ht1 hvm1 => ⟨u, trivial, ⟨hq.1, gH_at ht1 (gH_to ht hq.2)⟩, hS.F ht1⟩) hS.2.2 (Nat.le_refl _) (Nat.le_refl _))) (fun F2 t H locs ht hvm q hB1 hz hk hS => ?_)
  have hH : gH G ad F2 H := gH_to ht hB1
  refine lv_iload_n hx hb dX10_call_8 rfl (lv_at hl 2 rfl) ?_
  refine lv_iconst (v := 0) hx hb dX10_call_9 (by decide) ?_
  refine lv_bipush (v := 30) hx hb dX10_call_10 (by decide) ?_
  refine vx_callv (vx_runS (As := [.int p2, .int 0, .int 30]) (rest := []) ⟨hx, hb, hml, hown, hts⟩ (c_X10_needRange l hfl G ad F2 p2 0 30 _ _) (va_cwS 3 hts gX10_call_X10_needRange rfl rfl rfl (by decide +kernel) ⟨Nat.le_of_ble_eq_true rfl, Nat.le_of_ble_eq_true rfl⟩) ⟨fun a U g mk h => ⟨h.1, gD_blind h.2.1, h.2.2⟩, fun U hU hW => ⟨rfl, gD_at hK hG hB hH hS hU hW, q⟩⟩ rfl rfl hl.1 rfl (lv_room (Nat.le_of_ble_eq_true rfl)) dX10_call_12 ⟨Nat.le_of_ble_eq_true rfl, Nat.le_of_ble_eq_true rfl⟩) hS (fun _ _ h => h) (fun _ h => h) (fun _ _ h => h) (fun E ce q9 u t H locs ht hvm _ hq hz hk hS hc9 hv9 hcl9 => vx_widen (Nat.le_of_ble_eq_true rfl) (Nat.le_of_ble_eq_true rfl) (vx_out (fun x hx => (hno x hx).elim) hlocks hc9 hv9 hcl9 (fun t1 ht1 hvm1 => ⟨u, trivial, ⟨hq.1, gH_at ht1 (gH_to ht hq.2)⟩, hS.F ht1⟩) hS.2.2 (Nat.le_refl _) (Nat.le_refl _))) (fun F4 t H locs ht hvm q hB1 hz hk hS => ?_)
  have hH : gH G ad F4 H := gH_to ht hB1
  refine lv_aload_n hx hb dX10_call_15 rfl (lv_at hl 0 rfl) ?_
  refine g_get (ci := 14) (v := .ref (ad 10 0)) (C := RX10) (T := TX10) (N := 8) hx hb hts (fun _ h => (List.mem_cons_of_mem _ (List.mem_append_left _ (List.mem_append_left _ (List.mem_append_left _ (List.mem_append_left _ (List.mem_append_left _ (List.mem_append_left _ (List.mem_append_left _ (List.mem_append_left _ (List.mem_append_left _ (List.mem_append_right _ h)))))))))))) hown hK hH 0 0 (by decide) Nat.zero_lt_one rfl rfl 6 (by decide) (hts (.fieldLink RX10 43 "BallotFoundry" "election" "LBallotFoundry$Election;") (List.mem_of_getElem? (i := 3) rfl)) (fun _ h => h) rfl dX10_call_16 ?_
  refine g_getN (ci := 6) (v := .int (F4 10 0 0)) (C := RX2) (T := TX2) (N := 10) hx hb hts (fun _ h => (List.mem_cons_of_mem _ (List.mem_append_left _ (List.mem_append_left _ (List.mem_append_left _ (List.mem_append_left _ (List.mem_append_left _ (List.mem_append_left _ (List.mem_append_left _ (List.mem_append_left _ (List.mem_append_right _ h))))))))))) hown hK hH 10 0 (by decide) Nat.zero_lt_one rfl rfl 0 (by decide) (va_Nw.use rfl (hG.1 ("BallotFoundry", 135, "BallotFoundry$Election", "stage", "I", "BallotFoundry") (List.mem_of_getElem? (i := 16) rfl))) (fun _ h => h) rfl dX10_call_19 ?_
  refine lv_if_eq (tgt := 46) hx hb dX10_call_22 (by decide) (fun c5 => ?_) (fun c5 => ?_)
  · have q := (if_pos c5).mp q
    exact t_46 F4 p1 p2 p3 _ _ _ hH hS (lv_sub hl [0, 1, 2, 3] rfl) q
  · have q := (if_neg c5).mp q
    refine lv_aload_n hx hb dX10_call_25 rfl (lv_at hl 0 rfl) ?_
    refine g_get (ci := 14) (v := .ref (ad 10 0)) (C := RX10) (T := TX10) (N := 8) hx hb hts (fun _ h => (List.mem_cons_of_mem _ (List.mem_append_left _ (List.mem_append_left _ (List.mem_append_left _ (List.mem_append_left _ (List.mem_append_left _ (List.mem_append_left _ (List.mem_append_left _ (List.mem_append_left _ (List.mem_append_left _ (List.mem_append_right _ h)))))))))))) hown hK hH 0 0 (by decide) Nat.zero_lt_one rfl rfl 6 (by decide) (hts (.fieldLink RX10 43 "BallotFoundry" "election" "LBallotFoundry$Election;") (List.mem_of_getElem? (i := 3) rfl)) (fun _ h => h) rfl dX10_call_26 ?_
    refine g_getN (ci := 6) (v := .int (F4 10 0 0)) (C := RX2) (T := TX2) (N := 10) hx hb hts (fun _ h => (List.mem_cons_of_mem _ (List.mem_append_left _ (List.mem_append_left _ (List.mem_append_left _ (List.mem_append_left _ (List.mem_append_left _ (List.mem_append_left _ (List.mem_append_left _ (List.mem_append_left _ (List.mem_append_right _ h))))))))))) hown hK hH 10 0 (by decide) Nat.zero_lt_one rfl rfl 0 (by decide) (va_Nw.use rfl (hG.1 ("BallotFoundry", 135, "BallotFoundry$Election", "stage", "I", "BallotFoundry") (List.mem_of_getElem? (i := 16) rfl))) (fun _ h => h) rfl dX10_call_29 ?_
    refine lv_iconst (v := 5) hx hb dX10_call_32 (by decide) ?_
    refine lv_icmp_eq (tgt := 46) hx hb dX10_call_33 (by decide) (fun c10 => ?_) (fun c10 => ?_)
    · have q := (if_pos c10).mp q
      exact t_46 F4 p1 p2 p3 _ _ _ hH hS (lv_sub hl [0, 1, 2, 3] rfl) q
    · have q := (if_neg c10).mp q
      exact g_throw (text := "the latest election is not done") hx hb hfl hno hown hts hG hS (List.mem_of_getElem? (i := 2) rfl) (List.mem_of_getElem? (i := 8) rfl) (List.mem_of_getElem? (i := 1) rfl) (List.mem_of_getElem? (i := 2) rfl) (fun _ h => (List.mem_cons_of_mem _ (List.mem_append_left _ (List.mem_append_left _ (List.mem_append_right _ h))))) (hl.1.trans hml.symm) hlocks dX10_call_36 dX10_call_39 dX10_call_40 dX10_call_42 dX10_call_45 (Nat.le_of_ble_eq_true rfl) (Nat.le_of_ble_eq_true rfl) (Nat.le_of_ble_eq_true rfl) (Nat.le_of_ble_eq_true rfl) (fun t hvm hz hk => ⟨F4, trivial, ⟨q, gH_grow hH hz hk⟩, gF_grow hS hz hk⟩) hS.2.2 (Nat.le_of_ble_eq_true rfl) (Nat.le_of_ble_eq_true rfl)
abbrev rm_X10_needParty : Room := { frames := 6, cells := 1, slots := 6, locals := 90 }
abbrev q_X10_needParty (G : GP) (ad : Nat → Nat → Nat) (K : GF → Prop) (X : String → GF → Prop) (below : List Frame) (args : Array Value) (s : State) : State → Prop := vx_MQ below (gQv G ad K) (gX G ad X) args s 1 6 (gA G)
set_option maxHeartbeats 4000000 in
set_option maxRecDepth 100000 in
theorem c_X10_needParty (l : Launch) (hfl : l.stackTraces = false) (G : GP) (ad : Nat → Nat → Nat) (F : GF) (p0 : Int32) (K : GF → Prop) (X : String → GF → Prop) : vx_Met l yX10_needParty wsX10_needParty rm_X10_needParty (va_Pc [.int p0] (fun U => gD G ad F U ∧ P_X10_needParty F p0 K X)) (gQv G ad K) (gX G ad X) 1 6 (gA G) := by
  refine vx_ofW (cc := cX10_needParty) (maxL := 1) (ret := none) (by decide) rfl ?_
  intro p e s m args below meth c s₁ Bd hml hno hv
  obtain ⟨rfl, ⟨hK, hG, hB, hH⟩, q⟩ := hv
  have hx := Bd.exec
  have hb := Bd.bytes
  have hr := Bd.returns
  have hts := atoms_spec (ws := wsX10_needParty) Bd.pre
  have hown : s.vm.findClass RX10 = some m.cls := findClass_of_methodNamed Bd.named
  have hlocks := Bd.notSynchronized
  have hS : va_S (gA G) s.heap s.heap [] := va_S.rf
  have hl := lv_entry [.int p0] (n := 1) (Nat.le_of_ble_eq_true rfl)
  rw [lg_entry_eq]
  generalize (lg_sl [.int p0] ++ List.replicate (1 - (lg_sl [.int p0]).length) Slot.unset).toArray = ls at hl ⊢
  have hl : lv_has ls 1 [(0, .int p0)] := hl
  unfold P_X10_needParty at q
  refine lv_iload_n hx hb dX10_needParty_0 rfl (lv_at hl 0 rfl) ?_
  refine lv_if_lt (tgt := 9) hx hb dX10_needParty_1 (by decide) (fun c1 => ?_) (fun c1 => ?_)
  · have q := (if_pos c1).mp q
    exact g_throwW (text := "no such party") hx hb hfl hno hown hts hG hS (List.mem_of_getElem? (i := 0) rfl) (List.mem_of_getElem? (i := 11) rfl) (List.mem_of_getElem? (i := 1) rfl) (List.mem_of_getElem? (i := 2) rfl) (fun _ h => (List.mem_cons_of_mem _ (List.mem_append_right _ h))) (hl.1.trans hml.symm) hlocks dX10_needParty_9 dX10_needParty_12 dX10_needParty_13 dX10_needParty_16 dX10_needParty_19 (Nat.le_of_ble_eq_true rfl) (Nat.le_of_ble_eq_true rfl) (Nat.le_of_ble_eq_true rfl) (Nat.le_of_ble_eq_true rfl) (fun t hvm hz hk => ⟨F, trivial, ⟨q, gH_grow hH hz hk⟩, gF_grow hS hz hk⟩) hS.2.2 (Nat.le_of_ble_eq_true rfl) (Nat.le_of_ble_eq_true rfl)
  · have q := (if_neg c1).mp q
    refine lv_iload_n hx hb dX10_needParty_4 rfl (lv_at hl 0 rfl) ?_
    refine lv_iconst (v := 5) hx hb dX10_needParty_5 (by decide) ?_
    refine lv_icmp_lt (tgt := 20) hx hb dX10_needParty_6 (by decide) (fun c2 => ?_) (fun c2 => ?_)
    · have q := (if_pos c2).mp q
      refine W.widen (k := 1) (n := 6) (Nat.le_of_ble_eq_true rfl) (Nat.le_of_ble_eq_true rfl) ?_
      exact vx_ret (W.vret hx hb hr (fun t ht hW => ⟨⟨F, rfl, q, gH_at ht hH⟩, hS.F ht⟩) hS.2.2 dX10_needParty_20)
    · have q := (if_neg c2).mp q
      exact g_throwW (text := "no such party") hx hb hfl hno hown hts hG hS (List.mem_of_getElem? (i := 0) rfl) (List.mem_of_getElem? (i := 11) rfl) (List.mem_of_getElem? (i := 1) rfl) (List.mem_of_getElem? (i := 2) rfl) (fun _ h => (List.mem_cons_of_mem _ (List.mem_append_right _ h))) (hl.1.trans hml.symm) hlocks dX10_needParty_9 dX10_needParty_12 dX10_needParty_13 dX10_needParty_16 dX10_needParty_19 (Nat.le_of_ble_eq_true rfl) (Nat.le_of_ble_eq_true rfl) (Nat.le_of_ble_eq_true rfl) (Nat.le_of_ble_eq_true rfl) (fun t hvm hz hk => ⟨F, trivial, ⟨q, gH_grow hH hz hk⟩, gF_grow hS hz hk⟩) hS.2.2 (Nat.le_of_ble_eq_true rfl) (Nat.le_of_ble_eq_true rfl)
abbrev rm_X10_seed : Room := { frames := 7, cells := 3, slots := 18, locals := 112 }
abbrev q_X10_seed (G : GP) (ad : Nat → Nat → Nat) (K : Int32 → GF → Prop) (X : String → GF → Prop) (below : List Frame) (args : Array Value) (s : State) : State → Prop := vx_MQ below (gQi G ad K) (gX G ad X) args s 3 18 (gA G)
set_option maxHeartbeats 4000000 in
set_option maxRecDepth 100000 in
theorem c_X10_seed (l : Launch) (hfl : l.stackTraces = false) (G : GP) (ad : Nat → Nat → Nat) (F : GF) (p1 : Int32) (p2 : Int32) (K : Int32 → GF → Prop) (X : String → GF → Prop) : vx_Met l yX10_seed wsX10_seed rm_X10_seed (va_Pc [.ref (ad 0 0), .int p1, .int p2] (fun U => gD G ad F U ∧ P_X10_seed F p1 p2 K X)) (gQi G ad K) (gX G ad X) 3 18 (gA G) := by
  refine vx_ofW (cc := cX10_seed) (maxL := 4) (ret := (some .int)) (by decide) rfl ?_
  intro p e s m args below meth c s₁ Bd hml hno hv
  obtain ⟨rfl, ⟨hK, hG, hB, hH⟩, q⟩ := hv
  have hx := Bd.exec
  have hb := Bd.bytes
  have hr := Bd.returns
  have hts := atoms_spec (ws := wsX10_seed) Bd.pre
  have hown : s.vm.findClass RX10 = some m.cls := findClass_of_methodNamed Bd.named
  have hlocks := Bd.notSynchronized
  have hS : va_S (gA G) s.heap s.heap [] := va_S.rf
  have hl := lv_entry [.ref (ad 0 0), .int p1, .int p2] (n := 4) (Nat.le_of_ble_eq_true rfl)
  rw [lg_entry_eq]
  generalize (lg_sl [.ref (ad 0 0), .int p1, .int p2] ++ List.replicate (4 - (lg_sl [.ref (ad 0 0), .int p1, .int p2]).length) Slot.unset).toArray = ls at hl ⊢
  have hl : lv_has ls 4 [(0, .ref (ad 0 0)), (1, .int p1), (2, .int p2)] := hl
  show W p l e rm_X10_seed s m ([.ref (ad 0 0), .int p1, .int p2] : List Value).toArray below meth c s.heap [] 0 0 (q_X10_seed G ad K X below ([.ref (ad 0 0), .int p1, .int p2] : List Value).toArray s) _
  have t_44 : ∀ (F : GF) (x1 : Int32) (x2 : Int32) (H : Heap) (locs : List Loc) (ls : Array Slot), gH G ad F H → va_S (gA G) s.heap H locs → lv_has ls 4 [(0, .ref (ad 0 0)), (1, .int x1), (2, .int x2)] → (P_X10_seed_44 K X) F x1 x2 → W p l e rm_X10_seed s m ([.ref (ad 0 0), .int p1, .int p2] : List Value).toArray below meth c H locs 2 12 (q_X10_seed G ad K X below ([.ref (ad 0 0), .int p1, .int p2] : List Value).toArray s) (F0 m 44 ls []) := by
    intro F x1 x2 H locs ls hH hS hl q
    unfold P_X10_seed_44 at q
    refine lv_aload_n hx hb dX10_seed_44 rfl (lv_at hl 0 rfl) ?_
    refine g_get (ci := 14) (v := .ref (ad 10 0)) (C := RX10) (T := TX10) (N := 8) hx hb hts (fun _ h => (List.mem_cons_of_mem _ (List.mem_append_left _ (List.mem_append_left _ (List.mem_append_left _ (List.mem_append_left _ (List.mem_append_left _ (List.mem_append_right _ h)))))))) hown hK hH 0 0 (by decide) Nat.zero_lt_one rfl rfl 6 (by decide) (hts (.fieldLink RX10 43 "BallotFoundry" "election" "LBallotFoundry$Election;") (List.mem_of_getElem? (i := 3) rfl)) (fun _ h => h) rfl dX10_seed_45 ?_
    refine g_getN (ci := 6) (v := .ref (ad 11 0)) (C := RX2) (T := TX2) (N := 10) hx hb hts (fun _ h => (List.mem_cons_of_mem _ (List.mem_append_left _ (List.mem_append_left _ (List.mem_append_left _ (List.mem_append_left _ (List.mem_append_right _ h))))))) hown hK hH 10 0 (by decide) Nat.zero_lt_one rfl rfl 5 (by decide) (va_Nw.use rfl (hG.1 ("BallotFoundry", 156, "BallotFoundry$Election", "seeds", "[I", "BallotFoundry") (List.mem_of_getElem? (i := 21) rfl))) (fun _ h => h) rfl dX10_seed_48 ?_
    refine lv_iload_n hx hb dX10_seed_51 rfl (lv_at hl 1 rfl) ?_
    obtain ⟨h6, q⟩ := q
    refine g_iald hx hb hK hH 11 0 (by decide) Nat.zero_lt_one 5 rfl h6 dX10_seed_52 ?_
    refine lv_istore_n (lv' := [(3, .int (F 11 0 x1.toNatClampNeg)), (0, .ref (ad 0 0)), (1, .int x1), (2, .int x2)]) hx hb dX10_seed_53 rfl hl (by decide) rfl (fun ls hl => ?_)
    refine lv_aload_n hx hb dX10_seed_54 rfl (lv_at hl 1 rfl) ?_
    refine g_get (ci := 14) (v := .ref (ad 10 0)) (C := RX10) (T := TX10) (N := 8) hx hb hts (fun _ h => (List.mem_cons_of_mem _ (List.mem_append_left _ (List.mem_append_left _ (List.mem_append_left _ (List.mem_append_left _ (List.mem_append_left _ (List.mem_append_right _ h)))))))) hown hK hH 0 0 (by decide) Nat.zero_lt_one rfl rfl 6 (by decide) (hts (.fieldLink RX10 43 "BallotFoundry" "election" "LBallotFoundry$Election;") (List.mem_of_getElem? (i := 3) rfl)) (fun _ h => h) rfl dX10_seed_55 ?_
    refine g_getN (ci := 6) (v := .ref (ad 11 0)) (C := RX2) (T := TX2) (N := 10) hx hb hts (fun _ h => (List.mem_cons_of_mem _ (List.mem_append_left _ (List.mem_append_left _ (List.mem_append_left _ (List.mem_append_left _ (List.mem_append_right _ h))))))) hown hK hH 10 0 (by decide) Nat.zero_lt_one rfl rfl 5 (by decide) (va_Nw.use rfl (hG.1 ("BallotFoundry", 156, "BallotFoundry$Election", "seeds", "[I", "BallotFoundry") (List.mem_of_getElem? (i := 21) rfl))) (fun _ h => h) rfl dX10_seed_58 ?_
    refine lv_iload_n hx hb dX10_seed_61 rfl (lv_at hl 2 rfl) ?_
    refine lv_iload_n hx hb dX10_seed_62 rfl (lv_at hl 3 rfl) ?_
    obtain ⟨h7, q⟩ := q
    refine g_iast hx hb hK hH hS 11 0 (by decide) Nat.zero_lt_one (by decide) 5 (fun _ => rfl) h7 dX10_seed_63 (fun H locs hH hS => ?_)
    obtain ⟨F8, eF8⟩ : ∃ z, z = fs F 11 0 x1.toNatClampNeg x2 := ⟨_, rfl⟩
    have q := q F8 eF8
    rw [← eF8] at hH
    refine lv_iload_n hx hb dX10_seed_64 rfl (lv_at hl 0 rfl) ?_
    refine W.widen (k := 3) (n := 18) (Nat.le_of_ble_eq_true rfl) (Nat.le_of_ble_eq_true rfl) ?_
    exact vx_ret (W.iret (v := (F 11 0 x1.toNatClampNeg)) hx hb hr (fun t ht hW => ⟨⟨(F 11 0 x1.toNatClampNeg), F8, rfl, q, gH_at ht hH⟩, hS.F ht⟩) hS.2.2 dX10_seed_65)
  unfold P_X10_seed at q
  refine lv_iload_n hx hb dX10_seed_0 rfl (lv_at hl 1 rfl) ?_
  refine vx_callv (vx_runS (As := [.int p1]) (rest := []) ⟨hx, hb, hml, hown, hts⟩ (c_X10_needParty l hfl G ad F p1 _ _) (va_cwS 1 hts gX10_seed_X10_needParty rfl rfl rfl (by decide +kernel) ⟨Nat.le_of_ble_eq_true rfl, Nat.le_of_ble_eq_true rfl⟩) ⟨fun a U g mk h => ⟨h.1, gD_blind h.2.1, h.2.2⟩, fun U hU hW => ⟨rfl, gD_at hK hG hB hH hS hU hW, q⟩⟩ rfl rfl hl.1 rfl (lv_room (Nat.le_of_ble_eq_true rfl)) dX10_seed_1 ⟨Nat.le_of_ble_eq_true rfl, Nat.le_of_ble_eq_true rfl⟩) hS (fun _ _ h => h) (fun _ h => h) (fun _ _ h => h) (fun E ce q9 u t H locs ht hvm _ hq hz hk hS hc9 hv9 hcl9 => vx_widen (Nat.le_of_ble_eq_true rfl) (Nat.le_of_ble_eq_true rfl) (vx_out (fun x hx => (hno x hx).elim) hlocks hc9 hv9 hcl9 (fun t1 ht1 hvm1 => ⟨u, trivial, ⟨hq.1, gH_at ht1 (gH_to ht hq.2)⟩, hS.F ht1⟩) hS.2.2 (Nat.le_refl _) (Nat.le_refl _))) (fun F2 t H locs ht hvm q hB1 hz hk hS => ?_)
  have hH : gH G ad F2 H := gH_to ht hB1
  refine lv_iload_n hx hb dX10_seed_4 rfl (lv_at hl 2 rfl) ?_
  refine lv_iconst (v := 0) hx hb dX10_seed_5 (by decide) ?_
  refine lv_sipush (v := 9999) hx hb dX10_seed_6 (by decide) ?_
  refine vx_callv (vx_runS (As := [.int p2, .int 0, .int 9999]) (rest := []) ⟨hx, hb, hml, hown, hts⟩ (c_X10_needRange l hfl G ad F2 p2 0 9999 _ _) (va_cwS 3 hts gX10_seed_X10_needRange rfl rfl rfl (by decide +kernel) ⟨Nat.le_of_ble_eq_true rfl, Nat.le_of_ble_eq_true rfl⟩) ⟨fun a U g mk h => ⟨h.1, gD_blind h.2.1, h.2.2⟩, fun U hU hW => ⟨rfl, gD_at hK hG hB hH hS hU hW, q⟩⟩ rfl rfl hl.1 rfl (lv_room (Nat.le_of_ble_eq_true rfl)) dX10_seed_9 ⟨Nat.le_of_ble_eq_true rfl, Nat.le_of_ble_eq_true rfl⟩) hS (fun _ _ h => h) (fun _ h => h) (fun _ _ h => h) (fun E ce q9 u t H locs ht hvm _ hq hz hk hS hc9 hv9 hcl9 => vx_widen (Nat.le_of_ble_eq_true rfl) (Nat.le_of_ble_eq_true rfl) (vx_out (fun x hx => (hno x hx).elim) hlocks hc9 hv9 hcl9 (fun t1 ht1 hvm1 => ⟨u, trivial, ⟨hq.1, gH_at ht1 (gH_to ht hq.2)⟩, hS.F ht1⟩) hS.2.2 (Nat.le_refl _) (Nat.le_refl _))) (fun F4 t H locs ht hvm q hB1 hz hk hS => ?_)
  have hH : gH G ad F4 H := gH_to ht hB1
  refine lv_aload_n hx hb dX10_seed_12 rfl (lv_at hl 0 rfl) ?_
  refine g_get (ci := 14) (v := .ref (ad 10 0)) (C := RX10) (T := TX10) (N := 8) hx hb hts (fun _ h => (List.mem_cons_of_mem _ (List.mem_append_left _ (List.mem_append_left _ (List.mem_append_left _ (List.mem_append_left _ (List.mem_append_left _ (List.mem_append_right _ h)))))))) hown hK hH 0 0 (by decide) Nat.zero_lt_one rfl rfl 6 (by decide) (hts (.fieldLink RX10 43 "BallotFoundry" "election" "LBallotFoundry$Election;") (List.mem_of_getElem? (i := 3) rfl)) (fun _ h => h) rfl dX10_seed_13 ?_
  refine g_getN (ci := 6) (v := .int (F4 10 0 0)) (C := RX2) (T := TX2) (N := 10) hx hb hts (fun _ h => (List.mem_cons_of_mem _ (List.mem_append_left _ (List.mem_append_left _ (List.mem_append_left _ (List.mem_append_left _ (List.mem_append_right _ h))))))) hown hK hH 10 0 (by decide) Nat.zero_lt_one rfl rfl 0 (by decide) (va_Nw.use rfl (hG.1 ("BallotFoundry", 135, "BallotFoundry$Election", "stage", "I", "BallotFoundry") (List.mem_of_getElem? (i := 16) rfl))) (fun _ h => h) rfl dX10_seed_16 ?_
  refine lv_iconst (v := 1) hx hb dX10_seed_19 (by decide) ?_
  refine lv_icmp_eq (tgt := 44) hx hb dX10_seed_20 (by decide) (fun c5 => ?_) (fun c5 => ?_)
  · have q := (if_pos c5).mp q
    exact t_44 F4 p1 p2 _ _ _ hH hS (lv_sub hl [0, 1, 2] rfl) q
  · have q := (if_neg c5).mp q
    refine lv_aload_n hx hb dX10_seed_23 rfl (lv_at hl 0 rfl) ?_
    refine g_get (ci := 14) (v := .ref (ad 10 0)) (C := RX10) (T := TX10) (N := 8) hx hb hts (fun _ h => (List.mem_cons_of_mem _ (List.mem_append_left _ (List.mem_append_left _ (List.mem_append_left _ (List.mem_append_left _ (List.mem_append_left _ (List.mem_append_right _ h)))))))) hown hK hH 0 0 (by decide) Nat.zero_lt_one rfl rfl 6 (by decide) (hts (.fieldLink RX10 43 "BallotFoundry" "election" "LBallotFoundry$Election;") (List.mem_of_getElem? (i := 3) rfl)) (fun _ h => h) rfl dX10_seed_24 ?_
    refine g_getN (ci := 6) (v := .int (F4 10 0 0)) (C := RX2) (T := TX2) (N := 10) hx hb hts (fun _ h => (List.mem_cons_of_mem _ (List.mem_append_left _ (List.mem_append_left _ (List.mem_append_left _ (List.mem_append_left _ (List.mem_append_right _ h))))))) hown hK hH 10 0 (by decide) Nat.zero_lt_one rfl rfl 0 (by decide) (va_Nw.use rfl (hG.1 ("BallotFoundry", 135, "BallotFoundry$Election", "stage", "I", "BallotFoundry") (List.mem_of_getElem? (i := 16) rfl))) (fun _ h => h) rfl dX10_seed_27 ?_
    refine lv_iconst (v := 2) hx hb dX10_seed_30 (by decide) ?_
    refine lv_icmp_eq (tgt := 44) hx hb dX10_seed_31 (by decide) (fun c9 => ?_) (fun c9 => ?_)
    · have q := (if_pos c9).mp q
      exact t_44 F4 p1 p2 _ _ _ hH hS (lv_sub hl [0, 1, 2] rfl) q
    · have q := (if_neg c9).mp q
      exact g_throw (text := "no seeds are told now") hx hb hfl hno hown hts hG hS (List.mem_of_getElem? (i := 2) rfl) (List.mem_of_getElem? (i := 12) rfl) (List.mem_of_getElem? (i := 1) rfl) (List.mem_of_getElem? (i := 2) rfl) (fun _ h => (List.mem_cons_of_mem _ (List.mem_append_left _ (List.mem_append_left _ (List.mem_append_left _ (List.mem_append_right _ h)))))) (hl.1.trans hml.symm) hlocks dX10_seed_34 dX10_seed_37 dX10_seed_38 dX10_seed_40 dX10_seed_43 (Nat.le_of_ble_eq_true rfl) (Nat.le_of_ble_eq_true rfl) (Nat.le_of_ble_eq_true rfl) (Nat.le_of_ble_eq_true rfl) (fun t hvm hz hk => ⟨F4, trivial, ⟨q, gH_grow hH hz hk⟩, gF_grow hS hz hk⟩) hS.2.2 (Nat.le_of_ble_eq_true rfl) (Nat.le_of_ble_eq_true rfl)
abbrev rm_X5_peopleAt : Room := { frames := 0, cells := 0, slots := 0, locals := 0 }
abbrev q_X5_peopleAt (G : GP) (ad : Nat → Nat → Nat) (K : Int32 → GF → Prop) (below : List Frame) (args : Array Value) (s : State) : State → Prop := MQ below (gQi G ad K) args s 0 0 (gA G)
set_option maxHeartbeats 4000000 in
set_option maxRecDepth 100000 in
theorem c_X5_peopleAt (l : Launch) (G : GP) (ad : Nat → Nat → Nat) (F : GF) (p1 : Int32) (K : Int32 → GF → Prop) : Met l yX5_peopleAt wsX5_peopleAt rm_X5_peopleAt (va_Pc [.ref (ad 12 0), .int p1] (fun U => gD G ad F U ∧ P_X5_peopleAt F p1 K)) (gQi G ad K) 0 0 (gA G) := by
  refine Met.ofW (cc := cX5_peopleAt) (maxL := 2) (ret := (some .int)) (by decide) rfl ?_
  intro p e s m args below meth c s₁ Bd hml hv
  obtain ⟨rfl, ⟨hK, hG, hB, hH⟩, q⟩ := hv
  have hx := Bd.exec
  have hb := Bd.bytes
  have hr := Bd.returns
  have hts := atoms_spec (ws := wsX5_peopleAt) Bd.pre
  have hown : s.vm.findClass RX5 = some m.cls := findClass_of_methodNamed Bd.named
  have hlocks := Bd.notSynchronized
  have hS : va_S (gA G) s.heap s.heap [] := va_S.rf
  have hl := lv_entry [.ref (ad 12 0), .int p1] (n := 2) (Nat.le_of_ble_eq_true rfl)
  rw [lg_entry_eq]
  generalize (lg_sl [.ref (ad 12 0), .int p1] ++ List.replicate (2 - (lg_sl [.ref (ad 12 0), .int p1]).length) Slot.unset).toArray = ls at hl ⊢
  have hl : lv_has ls 2 [(0, .ref (ad 12 0)), (1, .int p1)] := hl
  unfold P_X5_peopleAt at q
  refine lv_iload_n hx hb dX5_peopleAt_0 rfl (lv_at hl 1 rfl) ?_
  refine lv_if_lt (tgt := 9) hx hb dX5_peopleAt_1 (by decide) (fun c1 => ?_) (fun c1 => ?_)
  · have q := (if_pos c1).mp q
    refine lv_iconst (v := 0) hx hb dX5_peopleAt_9 (by decide) ?_
    exact (W.iret (v := 0) hx hb hr (fun t ht hW => ⟨⟨0, F, rfl, q, gH_at ht hH⟩, hS.F ht⟩) hS.2.2 dX5_peopleAt_10)
  · have q := (if_neg c1).mp q
    refine lv_iload_n hx hb dX5_peopleAt_4 rfl (lv_at hl 1 rfl) ?_
    refine lv_iconst (v := 5) hx hb dX5_peopleAt_5 (by decide) ?_
    refine lv_icmp_lt (tgt := 11) hx hb dX5_peopleAt_6 (by decide) (fun c2 => ?_) (fun c2 => ?_)
    · have q := (if_pos c2).mp q
      refine lv_aload_n hx hb dX5_peopleAt_11 rfl (lv_at hl 0 rfl) ?_
      refine g_get (ci := 9) (v := .ref (ad 14 0)) (C := RX5) (T := TX5) (N := 3) hx hb hts (fun _ h => (List.mem_cons_of_mem _ (List.mem_append_left _ (List.mem_append_right _ h)))) hown hK hH 12 0 (by decide) Nat.zero_lt_one rfl rfl 1 (by decide) (hts (.fieldLink RX5 15 "BallotFoundry$Roll" "peopleOfStations" "[I") (List.mem_of_getElem? (i := 1) rfl)) (fun _ h => h) rfl dX5_peopleAt_12 ?_
      refine lv_iload_n hx hb dX5_peopleAt_15 rfl (lv_at hl 1 rfl) ?_
      obtain ⟨h3, q⟩ := q
      refine g_iald hx hb hK hH 14 0 (by decide) Nat.zero_lt_one 5 rfl h3 dX5_peopleAt_16 ?_
      exact (W.iret (v := (F 14 0 p1.toNatClampNeg)) hx hb hr (fun t ht hW => ⟨⟨(F 14 0 p1.toNatClampNeg), F, rfl, q, gH_at ht hH⟩, hS.F ht⟩) hS.2.2 dX5_peopleAt_17)
    · have q := (if_neg c2).mp q
      refine lv_iconst (v := 0) hx hb dX5_peopleAt_9 (by decide) ?_
      exact (W.iret (v := 0) hx hb hr (fun t ht hW => ⟨⟨0, F, rfl, q, gH_at ht hH⟩, hS.F ht⟩) hS.2.2 dX5_peopleAt_10)
abbrev rm_X10_nearestWithSeat : Room := { frames := 1, cells := 0, slots := 0, locals := 21 }
abbrev q_X10_nearestWithSeat (G : GP) (ad : Nat → Nat → Nat) (K : Int32 → GF → Prop) (below : List Frame) (args : Array Value) (s : State) : State → Prop := MQ below (gQi G ad K) args s 0 0 (gA G)
set_option maxHeartbeats 4000000 in
set_option maxRecDepth 100000 in
theorem c_X10_nearestWithSeat (l : Launch) (G : GP) (ad : Nat → Nat → Nat) (F : GF) (K : Int32 → GF → Prop) : Met l yX10_nearestWithSeat wsX10_nearestWithSeat rm_X10_nearestWithSeat (va_Pc [.ref (ad 0 0)] (fun U => gD G ad F U ∧ P_X10_nearestWithSeat F K)) (gQi G ad K) 0 0 (gA G) := by
  refine Met.ofW (cc := cX10_nearestWithSeat) (maxL := 6) (ret := (some .int)) (by decide) rfl ?_
  intro p e s m args below meth c s₁ Bd hml hv
  obtain ⟨rfl, ⟨hK, hG, hB, hH⟩, q⟩ := hv
  have hx := Bd.exec
  have hb := Bd.bytes
  have hr := Bd.returns
  have hts := atoms_spec (ws := wsX10_nearestWithSeat) Bd.pre
  have hown : s.vm.findClass RX10 = some m.cls := findClass_of_methodNamed Bd.named
  have hlocks := Bd.notSynchronized
  have hS : va_S (gA G) s.heap s.heap [] := va_S.rf
  have hl := lv_entry [.ref (ad 0 0)] (n := 6) (Nat.le_of_ble_eq_true rfl)
  rw [lg_entry_eq]
  generalize (lg_sl [.ref (ad 0 0)] ++ List.replicate (6 - (lg_sl [.ref (ad 0 0)]).length) Slot.unset).toArray = ls at hl ⊢
  have hl : lv_has ls 6 [(0, .ref (ad 0 0))] := hl
  show W p l e rm_X10_nearestWithSeat s m ([.ref (ad 0 0)] : List Value).toArray below meth c s.heap [] 0 0 (q_X10_nearestWithSeat G ad K below ([.ref (ad 0 0)] : List Value).toArray s) _
  have t_92 : ∀ (k6 : GF → Int32 → Int32 → Int32 → Prop), (∀ (F : GF) (x1 : Int32) (x2 : Int32) (x3 : Int32) (H : Heap) (locs : List Loc) (ls : Array Slot), gH G ad F H → va_S (gA G) s.heap H locs → lv_has ls 6 [(0, .ref (ad 0 0)), (1, .int x1), (2, .int x2), (3, .int x3)] → k6 F x1 x2 x3 → W p l e rm_X10_nearestWithSeat s m ([.ref (ad 0 0)] : List Value).toArray below meth c H locs 0 0 (q_X10_nearestWithSeat G ad K below ([.ref (ad 0 0)] : List Value).toArray s) (F0 m 6 ls [])) → ∀ (F : GF) (x1 : Int32) (x2 : Int32) (x3 : Int32) (H : Heap) (locs : List Loc) (ls : Array Slot), gH G ad F H → va_S (gA G) s.heap H locs → lv_has ls 6 [(0, .ref (ad 0 0)), (1, .int x1), (2, .int x2), (3, .int x3)] → (P_X10_nearestWithSeat_92 k6 K) F x1 x2 x3 → W p l e rm_X10_nearestWithSeat s m ([.ref (ad 0 0)] : List Value).toArray below meth c H locs 0 0 (q_X10_nearestWithSeat G ad K below ([.ref (ad 0 0)] : List Value).toArray s) (F0 m 92 ls []) := by
    intro k6 hk6 F x1 x2 x3 H locs ls hH hS hl q
    unfold P_X10_nearestWithSeat_92 at q
    refine lv_iinc (v := x3 + 1) (lv' := [(3, .int (x3 + 1)), (0, .ref (ad 0 0)), (1, .int x1), (2, .int x2)]) hx hb dX10_nearestWithSeat_92 hl (k := 3) rfl rfl (by decide) rfl (fun ls hl => ?_)
    refine lv_goto (tgt := 6) hx hb dX10_nearestWithSeat_95 (by decide) ?_
    exact hk6 F x1 x2 (x3 + 1) _ _ _ hH hS (lv_sub hl [1, 2, 3, 0] rfl) q
  have t_87 : ∀ (k6 : GF → Int32 → Int32 → Int32 → Prop), (∀ (F : GF) (x1 : Int32) (x2 : Int32) (x3 : Int32) (H : Heap) (locs : List Loc) (ls : Array Slot), gH G ad F H → va_S (gA G) s.heap H locs → lv_has ls 6 [(0, .ref (ad 0 0)), (1, .int x1), (2, .int x2), (3, .int x3)] → k6 F x1 x2 x3 → W p l e rm_X10_nearestWithSeat s m ([.ref (ad 0 0)] : List Value).toArray below meth c H locs 0 0 (q_X10_nearestWithSeat G ad K below ([.ref (ad 0 0)] : List Value).toArray s) (F0 m 6 ls [])) → ∀ (F : GF) (x3 : Int32) (x4 : Int32) (H : Heap) (locs : List Loc) (ls : Array Slot), gH G ad F H → va_S (gA G) s.heap H locs → lv_has ls 6 [(0, .ref (ad 0 0)), (3, .int x3), (4, .int x4)] → (P_X10_nearestWithSeat_87 k6 K) F x3 x4 → W p l e rm_X10_nearestWithSeat s m ([.ref (ad 0 0)] : List Value).toArray below meth c H locs 0 0 (q_X10_nearestWithSeat G ad K below ([.ref (ad 0 0)] : List Value).toArray s) (F0 m 87 ls []) := by
    intro k6 hk6 F x3 x4 H locs ls hH hS hl q
    unfold P_X10_nearestWithSeat_87 at q
    refine lv_iload_n hx hb dX10_nearestWithSeat_87 rfl (lv_at hl 1 rfl) ?_
    refine lv_istore_n (lv' := [(1, .int x3), (0, .ref (ad 0 0)), (3, .int x3), (4, .int x4)]) hx hb dX10_nearestWithSeat_88 rfl hl (by decide) rfl (fun ls hl => ?_)
    refine lv_iload hx hb dX10_nearestWithSeat_89 (lv_at hl 3 rfl) ?_
    refine lv_istore_n (lv' := [(2, .int x4), (1, .int x3), (0, .ref (ad 0 0)), (3, .int x3), (4, .int x4)]) hx hb dX10_nearestWithSeat_91 rfl hl (by decide) rfl (fun ls hl => ?_)
    exact t_92 k6 hk6 F x3 x4 x3 _ _ _ hH hS (lv_sub hl [2, 1, 0, 3] rfl) q
  have t_63 : ∀ (k6 : GF → Int32 → Int32 → Int32 → Prop), (∀ (F : GF) (x1 : Int32) (x2 : Int32) (x3 : Int32) (H : Heap) (locs : List Loc) (ls : Array Slot), gH G ad F H → va_S (gA G) s.heap H locs → lv_has ls 6 [(0, .ref (ad 0 0)), (1, .int x1), (2, .int x2), (3, .int x3)] → k6 F x1 x2 x3 → W p l e rm_X10_nearestWithSeat s m ([.ref (ad 0 0)] : List Value).toArray below meth c H locs 0 0 (q_X10_nearestWithSeat G ad K below ([.ref (ad 0 0)] : List Value).toArray s) (F0 m 6 ls [])) → ∀ (F : GF) (x1 : Int32) (x2 : Int32) (x3 : Int32) (x4 : Int32) (s0 : Int32) (H : Heap) (locs : List Loc) (ls : Array Slot), gH G ad F H → va_S (gA G) s.heap H locs → lv_has ls 6 [(0, .ref (ad 0 0)), (1, .int x1), (2, .int x2), (3, .int x3), (4, .int x4)] → (P_X10_nearestWithSeat_63 k6 K) F x1 x2 x3 x4 s0 → W p l e rm_X10_nearestWithSeat s m ([.ref (ad 0 0)] : List Value).toArray below meth c H locs 0 0 (q_X10_nearestWithSeat G ad K below ([.ref (ad 0 0)] : List Value).toArray s) (F0 m 63 ls [.int s0]) := by
    intro k6 hk6 F x1 x2 x3 x4 s0 H locs ls hH hS hl q
    unfold P_X10_nearestWithSeat_63 at q
    refine lv_istore (lv' := [(5, .int s0), (0, .ref (ad 0 0)), (1, .int x1), (2, .int x2), (3, .int x3), (4, .int x4)]) hx hb dX10_nearestWithSeat_63 hl (by decide) rfl (fun ls hl => ?_)
    refine lv_iload hx hb dX10_nearestWithSeat_65 (lv_at hl 5 rfl) ?_
    refine lv_iconst (v := (-1)) hx hb dX10_nearestWithSeat_67 (by decide) ?_
    refine lv_icmp_eq (tgt := 92) hx hb dX10_nearestWithSeat_68 (by decide) (fun c9 => ?_) (fun c9 => ?_)
    · have q := (if_pos c9).mp q
      exact t_92 k6 hk6 F x1 x2 x3 _ _ _ hH hS (lv_sub hl [1, 2, 3, 4] rfl) q
    · have q := (if_neg c9).mp q
      refine lv_iload hx hb dX10_nearestWithSeat_71 (lv_at hl 0 rfl) ?_
      refine lv_if_eq (tgt := 92) hx hb dX10_nearestWithSeat_73 (by decide) (fun c10 => ?_) (fun c10 => ?_)
      · have q := (if_pos c10).mp q
        exact t_92 k6 hk6 F x1 x2 x3 _ _ _ hH hS (lv_sub hl [1, 2, 3, 4] rfl) q
      · have q := (if_neg c10).mp q
        refine lv_iload_n hx hb dX10_nearestWithSeat_76 rfl (lv_at hl 2 rfl) ?_
        refine lv_iconst (v := (-1)) hx hb dX10_nearestWithSeat_77 (by decide) ?_
        refine lv_icmp_eq (tgt := 87) hx hb dX10_nearestWithSeat_78 (by decide) (fun c11 => ?_) (fun c11 => ?_)
        · have q := (if_pos c11).mp q
          exact t_87 k6 hk6 F x3 x4 _ _ _ hH hS (lv_sub hl [1, 4, 5] rfl) q
        · have q := (if_neg c11).mp q
          refine lv_iload hx hb dX10_nearestWithSeat_81 (lv_at hl 5 rfl) ?_
          refine lv_iload_n hx hb dX10_nearestWithSeat_83 rfl (lv_at hl 3 rfl) ?_
          refine lv_icmp_ge (tgt := 92) hx hb dX10_nearestWithSeat_84 (by decide) (fun c12 => ?_) (fun c12 => ?_)
          · have q := (if_pos c12).mp q
            exact t_92 k6 hk6 F x1 x2 x3 _ _ _ hH hS (lv_sub hl [1, 2, 3, 4] rfl) q
          · have q := (if_neg c12).mp q
            exact t_87 k6 hk6 F x3 x4 _ _ _ hH hS (lv_sub hl [1, 4, 5] rfl) q
  have t_6 : ∀ n : Nat, ∀ (F : GF) (x1 : Int32) (x2 : Int32) (x3 : Int32) (H : Heap) (locs : List Loc) (ls : Array Slot), gH G ad F H → va_S (gA G) s.heap H locs → lv_has ls 6 [(0, .ref (ad 0 0)), (1, .int x1), (2, .int x2), (3, .int x3)] → (P_X10_nearestWithSeat_6 K n) F x1 x2 x3 → W p l e rm_X10_nearestWithSeat s m ([.ref (ad 0 0)] : List Value).toArray below meth c H locs 0 0 (q_X10_nearestWithSeat G ad K below ([.ref (ad 0 0)] : List Value).toArray s) (F0 m 6 ls []) := by
    intro n
    induction n with
    | zero =>
      intro F x1 x2 x3 H locs ls hH hS hl q
      exact False.elim q
    | succ n ih =>
      intro F x1 x2 x3 H locs ls hH hS hl q
      rw [P_X10_nearestWithSeat_6] at q
      refine lv_iload_n hx hb dX10_nearestWithSeat_6 rfl (lv_at hl 3 rfl) ?_
      refine lv_aload_n hx hb dX10_nearestWithSeat_7 rfl (lv_at hl 0 rfl) ?_
      refine g_get (ci := 14) (v := .ref (ad 6 0)) (C := RX10) (T := TX10) (N := 8) hx hb hts (fun _ h => (List.mem_cons_of_mem _ (List.mem_append_left _ (List.mem_append_left _ (List.mem_append_left _ (List.mem_append_left _ (List.mem_append_left _ (List.mem_append_right _ h)))))))) hown hK hH 0 0 (by decide) Nat.zero_lt_one rfl rfl 3 (by decide) (hts (.fieldLink RX10 29 "BallotFoundry" "stations" "LBallotFoundry$Stations;") (List.mem_of_getElem? (i := 1) rfl)) (fun _ h => h) rfl dX10_nearestWithSeat_8 ?_
      refine g_getN (ci := 11) (v := .int (F 6 0 2)) (C := RX7) (T := TX7) (N := 3) hx hb hts (fun _ h => (List.mem_cons_of_mem _ (List.mem_append_left _ (List.mem_append_left _ (List.mem_append_left _ (List.mem_append_left _ (List.mem_append_right _ h))))))) hown hK hH 6 0 (by decide) Nat.zero_lt_one rfl rfl 2 (by decide) (va_Nw.use rfl (hG.1 ("BallotFoundry", 85, "BallotFoundry$Stations", "size", "I", "BallotFoundry") (List.mem_of_getElem? (i := 2) rfl))) (fun _ h => h) rfl dX10_nearestWithSeat_11 ?_
      refine lv_icmp_ge (tgt := 98) hx hb dX10_nearestWithSeat_14 (by decide) (fun c1 => ?_) (fun c1 => ?_)
      · have q := (if_pos c1).mp q
        refine lv_iload_n hx hb dX10_nearestWithSeat_98 rfl (lv_at hl 1 rfl) ?_
        exact (W.iret (v := x1) hx hb hr (fun t ht hW => ⟨⟨x1, F, rfl, q, gH_at ht hH⟩, hS.F ht⟩) hS.2.2 dX10_nearestWithSeat_99)
      · have q := (if_neg c1).mp q
        refine lv_aload_n hx hb dX10_nearestWithSeat_17 rfl (lv_at hl 0 rfl) ?_
        refine g_get (ci := 14) (v := .ref (ad 1 0)) (C := RX10) (T := TX10) (N := 8) hx hb hts (fun _ h => (List.mem_cons_of_mem _ (List.mem_append_left _ (List.mem_append_left _ (List.mem_append_left _ (List.mem_append_left _ (List.mem_append_left _ (List.mem_append_right _ h)))))))) hown hK hH 0 0 (by decide) Nat.zero_lt_one rfl rfl 0 (by decide) (hts (.fieldLink RX10 12 "BallotFoundry" "town" "LBallotFoundry$Town;") (List.mem_of_getElem? (i := 2) rfl)) (fun _ h => h) rfl dX10_nearestWithSeat_18 ?_
        refine lv_aload_n hx hb dX10_nearestWithSeat_21 rfl (lv_at hl 0 rfl) ?_
        refine g_get (ci := 14) (v := .ref (ad 6 0)) (C := RX10) (T := TX10) (N := 8) hx hb hts (fun _ h => (List.mem_cons_of_mem _ (List.mem_append_left _ (List.mem_append_left _ (List.mem_append_left _ (List.mem_append_left _ (List.mem_append_left _ (List.mem_append_right _ h)))))))) hown hK hH 0 0 (by decide) Nat.zero_lt_one rfl rfl 3 (by decide) (hts (.fieldLink RX10 29 "BallotFoundry" "stations" "LBallotFoundry$Stations;") (List.mem_of_getElem? (i := 1) rfl)) (fun _ h => h) rfl dX10_nearestWithSeat_22 ?_
        refine g_getN (ci := 11) (v := .ref (ad 7 0)) (C := RX7) (T := TX7) (N := 3) hx hb hts (fun _ h => (List.mem_cons_of_mem _ (List.mem_append_left _ (List.mem_append_left _ (List.mem_append_left _ (List.mem_append_left _ (List.mem_append_right _ h))))))) hown hK hH 6 0 (by decide) Nat.zero_lt_one rfl rfl 0 (by decide) (va_Nw.use rfl (hG.1 ("BallotFoundry", 343, "BallotFoundry$Stations", "crossings", "[I", "BallotFoundry") (List.mem_of_getElem? (i := 0) rfl))) (fun _ h => h) rfl dX10_nearestWithSeat_25 ?_
        refine lv_iload_n hx hb dX10_nearestWithSeat_28 rfl (lv_at hl 3 rfl) ?_
        obtain ⟨h2, q⟩ := q
        refine g_iald hx hb hK hH 7 0 (by decide) Nat.zero_lt_one 5 rfl h2 dX10_nearestWithSeat_29 ?_
        refine va_calli (va_runV (As := [.int (F 7 0 x3.toNatClampNeg)]) (rest := []) ⟨hx, hb, hml, hown, hts⟩ (c_X9_measuredTo l G ad F (F 7 0 x3.toNatClampNeg) _) (cwV 1 hts gX10_nearestWithSeat_X9_measuredTo rfl rfl rfl (by decide +kernel) ⟨Nat.le_of_ble_eq_true rfl, Nat.le_of_ble_eq_true rfl⟩) ⟨fun a U g mk h => ⟨h.1, gD_blind h.2.1, h.2.2⟩, g_recv (C := RX9) (T := TX9) (N := 3) hK hH 1 0 (by decide) Nat.zero_lt_one rfl rfl, fun U hU hW => ⟨rfl, gD_at hK hG hB hH hS hU hW, q⟩⟩ rfl rfl hl.1 rfl (lv_room (Nat.le_of_ble_eq_true rfl)) dX10_nearestWithSeat_30 ⟨Nat.le_of_ble_eq_true rfl, Nat.le_of_ble_eq_true rfl⟩) hS (fun _ _ h => h) (fun _ h => h) (fun r3 F4 t H locs ht hvm q hB1 hz hk hS => ?_)
        have hH : gH G ad F4 H := gH_to ht hB1
        refine lv_istore (lv' := [(4, .int r3), (0, .ref (ad 0 0)), (1, .int x1), (2, .int x2), (3, .int x3)]) hx hb dX10_nearestWithSeat_33 hl (by decide) rfl (fun ls hl => ?_)
        refine lv_aload_n hx hb dX10_nearestWithSeat_35 rfl (lv_at hl 1 rfl) ?_
        refine g_get (ci := 14) (v := .ref (ad 10 0)) (C := RX10) (T := TX10) (N := 8) hx hb hts (fun _ h => (List.mem_cons_of_mem _ (List.mem_append_left _ (List.mem_append_left _ (List.mem_append_left _ (List.mem_append_left _ (List.mem_append_left _ (List.mem_append_right _ h)))))))) hown hK hH 0 0 (by decide) Nat.zero_lt_one rfl rfl 6 (by decide) (hts (.fieldLink RX10 43 "BallotFoundry" "election" "LBallotFoundry$Election;") (List.mem_of_getElem? (i := 3) rfl)) (fun _ h => h) rfl dX10_nearestWithSeat_36 ?_
        refine g_getN (ci := 6) (v := .ref (ad 12 0)) (C := RX2) (T := TX2) (N := 10) hx hb hts (fun _ h => (List.mem_cons_of_mem _ (List.mem_append_left _ (List.mem_append_left _ (List.mem_append_left _ (List.mem_append_right _ h)))))) hown hK hH 10 0 (by decide) Nat.zero_lt_one rfl rfl 6 (by decide) (va_Nw.use rfl (hG.1 ("BallotFoundry", 167, "BallotFoundry$Election", "roll", "LBallotFoundry$Roll;", "BallotFoundry") (List.mem_of_getElem? (i := 22) rfl))) (fun _ h => h) rfl dX10_nearestWithSeat_39 ?_
        refine lv_iload_n hx hb dX10_nearestWithSeat_42 rfl (lv_at hl 4 rfl) ?_
        refine va_calli (va_runV (As := [.int x3]) (rest := []) ⟨hx, hb, hml, hown, hts⟩ (c_X5_peopleAt l G ad F4 x3 _) (cwV 1 hts gX10_nearestWithSeat_X5_peopleAt rfl rfl rfl (by decide +kernel) ⟨Nat.le_of_ble_eq_true rfl, Nat.le_of_ble_eq_true rfl⟩) ⟨fun a U g mk h => ⟨h.1, gD_blind h.2.1, h.2.2⟩, g_recv (C := RX5) (T := TX5) (N := 3) hK hH 12 0 (by decide) Nat.zero_lt_one rfl rfl, fun U hU hW => ⟨rfl, gD_at hK hG hB hH hS hU hW, q⟩⟩ rfl rfl hl.1 rfl (lv_room (Nat.le_of_ble_eq_true rfl)) dX10_nearestWithSeat_43 ⟨Nat.le_of_ble_eq_true rfl, Nat.le_of_ble_eq_true rfl⟩) hS (fun _ _ h => h) (fun _ h => h) (fun r5 F6 t H locs ht hvm q hB1 hz hk hS => ?_)
        have hH : gH G ad F6 H := gH_to ht hB1
        refine lv_aload_n hx hb dX10_nearestWithSeat_46 rfl (lv_at hl 1 rfl) ?_
        refine g_get (ci := 14) (v := .ref (ad 6 0)) (C := RX10) (T := TX10) (N := 8) hx hb hts (fun _ h => (List.mem_cons_of_mem _ (List.mem_append_left _ (List.mem_append_left _ (List.mem_append_left _ (List.mem_append_left _ (List.mem_append_left _ (List.mem_append_right _ h)))))))) hown hK hH 0 0 (by decide) Nat.zero_lt_one rfl rfl 3 (by decide) (hts (.fieldLink RX10 29 "BallotFoundry" "stations" "LBallotFoundry$Stations;") (List.mem_of_getElem? (i := 1) rfl)) (fun _ h => h) rfl dX10_nearestWithSeat_47 ?_
        refine g_getN (ci := 11) (v := .ref (ad 8 0)) (C := RX7) (T := TX7) (N := 3) hx hb hts (fun _ h => (List.mem_cons_of_mem _ (List.mem_append_left _ (List.mem_append_left _ (List.mem_append_left _ (List.mem_append_left _ (List.mem_append_right _ h))))))) hown hK hH 6 0 (by decide) Nat.zero_lt_one rfl rfl 1 (by decide) (va_Nw.use rfl (hG.1 ("BallotFoundry", 99, "BallotFoundry$Stations", "seats", "[I", "BallotFoundry") (List.mem_of_getElem? (i := 1) rfl))) (fun _ h => h) rfl dX10_nearestWithSeat_50 ?_
        refine lv_iload_n hx hb dX10_nearestWithSeat_53 rfl (lv_at hl 4 rfl) ?_
        obtain ⟨h7, q⟩ := q
        refine g_iald hx hb hK hH 8 0 (by decide) Nat.zero_lt_one 5 rfl h7 dX10_nearestWithSeat_54 ?_
        refine lv_icmp_ge (tgt := 62) hx hb dX10_nearestWithSeat_55 (by decide) (fun c8 => ?_) (fun c8 => ?_)
        · have q := (if_pos c8).mp q
          refine lv_iconst (v := 0) hx hb dX10_nearestWithSeat_62 (by decide) ?_
          exact t_63 (fun F a0 a1 a2 => P_X10_nearestWithSeat_6 K n F a0 a1 a2) ih F6 x1 x2 x3 r3 0 _ _ _ hH hS (lv_sub hl [1, 2, 3, 4, 0] rfl) q
        · have q := (if_neg c8).mp q
          refine lv_iconst (v := 1) hx hb dX10_nearestWithSeat_58 (by decide) ?_
          refine lv_goto (tgt := 63) hx hb dX10_nearestWithSeat_59 (by decide) ?_
          exact t_63 (fun F a0 a1 a2 => P_X10_nearestWithSeat_6 K n F a0 a1 a2) ih F6 x1 x2 x3 r3 1 _ _ _ hH hS (lv_sub hl [1, 2, 3, 4, 0] rfl) q
  unfold P_X10_nearestWithSeat at q
  refine lv_iconst (v := (-1)) hx hb dX10_nearestWithSeat_0 (by decide) ?_
  refine lv_istore_n (lv' := [(1, .int (-1)), (0, .ref (ad 0 0))]) hx hb dX10_nearestWithSeat_1 rfl hl (by decide) rfl (fun ls hl => ?_)
  refine lv_iconst (v := 0) hx hb dX10_nearestWithSeat_2 (by decide) ?_
  refine lv_istore_n (lv' := [(2, .int 0), (1, .int (-1)), (0, .ref (ad 0 0))]) hx hb dX10_nearestWithSeat_3 rfl hl (by decide) rfl (fun ls hl => ?_)
  refine lv_iconst (v := 0) hx hb dX10_nearestWithSeat_4 (by decide) ?_
  refine lv_istore_n (lv' := [(3, .int 0), (2, .int 0), (1, .int (-1)), (0, .ref (ad 0 0))]) hx hb dX10_nearestWithSeat_5 rfl hl (by decide) rfl (fun ls hl => ?_)
  obtain ⟨nn, q⟩ := q
  exact t_6 nn F (-1) 0 0 _ _ _ hH hS (lv_sub hl [3, 2, 1, 0] rfl) q
abbrev rm_X10_emptiestWithWay : Room := { frames := 1, cells := 0, slots := 0, locals := 21 }
abbrev q_X10_emptiestWithWay (G : GP) (ad : Nat → Nat → Nat) (K : Int32 → GF → Prop) (below : List Frame) (args : Array Value) (s : State) : State → Prop := MQ below (gQi G ad K) args s 0 0 (gA G)
set_option maxHeartbeats 4000000 in
set_option maxRecDepth 100000 in
theorem c_X10_emptiestWithWay (l : Launch) (G : GP) (ad : Nat → Nat → Nat) (F : GF) (K : Int32 → GF → Prop) : Met l yX10_emptiestWithWay wsX10_emptiestWithWay rm_X10_emptiestWithWay (va_Pc [.ref (ad 0 0)] (fun U => gD G ad F U ∧ P_X10_emptiestWithWay F K)) (gQi G ad K) 0 0 (gA G) := by
  refine Met.ofW (cc := cX10_emptiestWithWay) (maxL := 6) (ret := (some .int)) (by decide) rfl ?_
  intro p e s m args below meth c s₁ Bd hml hv
  obtain ⟨rfl, ⟨hK, hG, hB, hH⟩, q⟩ := hv
  have hx := Bd.exec
  have hb := Bd.bytes
  have hr := Bd.returns
  have hts := atoms_spec (ws := wsX10_emptiestWithWay) Bd.pre
  have hown : s.vm.findClass RX10 = some m.cls := findClass_of_methodNamed Bd.named
  have hlocks := Bd.notSynchronized
  have hS : va_S (gA G) s.heap s.heap [] := va_S.rf
  have hl := lv_entry [.ref (ad 0 0)] (n := 6) (Nat.le_of_ble_eq_true rfl)
  rw [lg_entry_eq]
  generalize (lg_sl [.ref (ad 0 0)] ++ List.replicate (6 - (lg_sl [.ref (ad 0 0)]).length) Slot.unset).toArray = ls at hl ⊢
  have hl : lv_has ls 6 [(0, .ref (ad 0 0))] := hl
  show W p l e rm_X10_emptiestWithWay s m ([.ref (ad 0 0)] : List Value).toArray below meth c s.heap [] 0 0 (q_X10_emptiestWithWay G ad K below ([.ref (ad 0 0)] : List Value).toArray s) _
  have t_70 : ∀ (k6 : GF → Int32 → Int32 → Int32 → Prop), (∀ (F : GF) (x1 : Int32) (x2 : Int32) (x3 : Int32) (H : Heap) (locs : List Loc) (ls : Array Slot), gH G ad F H → va_S (gA G) s.heap H locs → lv_has ls 6 [(0, .ref (ad 0 0)), (1, .int x1), (2, .int x2), (3, .int x3)] → k6 F x1 x2 x3 → W p l e rm_X10_emptiestWithWay s m ([.ref (ad 0 0)] : List Value).toArray below meth c H locs 0 0 (q_X10_emptiestWithWay G ad K below ([.ref (ad 0 0)] : List Value).toArray s) (F0 m 6 ls [])) → ∀ (F : GF) (x1 : Int32) (x2 : Int32) (x3 : Int32) (H : Heap) (locs : List Loc) (ls : Array Slot), gH G ad F H → va_S (gA G) s.heap H locs → lv_has ls 6 [(0, .ref (ad 0 0)), (1, .int x1), (2, .int x2), (3, .int x3)] → (P_X10_emptiestWithWay_70 k6 K) F x1 x2 x3 → W p l e rm_X10_emptiestWithWay s m ([.ref (ad 0 0)] : List Value).toArray below meth c H locs 0 0 (q_X10_emptiestWithWay G ad K below ([.ref (ad 0 0)] : List Value).toArray s) (F0 m 70 ls []) := by
    intro k6 hk6 F x1 x2 x3 H locs ls hH hS hl q
    unfold P_X10_emptiestWithWay_70 at q
    refine lv_iinc (v := x3 + 1) (lv' := [(3, .int (x3 + 1)), (0, .ref (ad 0 0)), (1, .int x1), (2, .int x2)]) hx hb dX10_emptiestWithWay_70 hl (k := 3) rfl rfl (by decide) rfl (fun ls hl => ?_)
    refine lv_goto (tgt := 6) hx hb dX10_emptiestWithWay_73 (by decide) ?_
    exact hk6 F x1 x2 (x3 + 1) _ _ _ hH hS (lv_sub hl [1, 2, 3, 0] rfl) q
  have t_65 : ∀ (k6 : GF → Int32 → Int32 → Int32 → Prop), (∀ (F : GF) (x1 : Int32) (x2 : Int32) (x3 : Int32) (H : Heap) (locs : List Loc) (ls : Array Slot), gH G ad F H → va_S (gA G) s.heap H locs → lv_has ls 6 [(0, .ref (ad 0 0)), (1, .int x1), (2, .int x2), (3, .int x3)] → k6 F x1 x2 x3 → W p l e rm_X10_emptiestWithWay s m ([.ref (ad 0 0)] : List Value).toArray below meth c H locs 0 0 (q_X10_emptiestWithWay G ad K below ([.ref (ad 0 0)] : List Value).toArray s) (F0 m 6 ls [])) → ∀ (F : GF) (x3 : Int32) (x5 : Int32) (H : Heap) (locs : List Loc) (ls : Array Slot), gH G ad F H → va_S (gA G) s.heap H locs → lv_has ls 6 [(0, .ref (ad 0 0)), (3, .int x3), (5, .int x5)] → (P_X10_emptiestWithWay_65 k6 K) F x3 x5 → W p l e rm_X10_emptiestWithWay s m ([.ref (ad 0 0)] : List Value).toArray below meth c H locs 0 0 (q_X10_emptiestWithWay G ad K below ([.ref (ad 0 0)] : List Value).toArray s) (F0 m 65 ls []) := by
    intro k6 hk6 F x3 x5 H locs ls hH hS hl q
    unfold P_X10_emptiestWithWay_65 at q
    refine lv_iload_n hx hb dX10_emptiestWithWay_65 rfl (lv_at hl 1 rfl) ?_
    refine lv_istore_n (lv' := [(1, .int x3), (0, .ref (ad 0 0)), (3, .int x3), (5, .int x5)]) hx hb dX10_emptiestWithWay_66 rfl hl (by decide) rfl (fun ls hl => ?_)
    refine lv_iload hx hb dX10_emptiestWithWay_67 (lv_at hl 3 rfl) ?_
    refine lv_istore_n (lv' := [(2, .int x5), (1, .int x3), (0, .ref (ad 0 0)), (3, .int x3), (5, .int x5)]) hx hb dX10_emptiestWithWay_69 rfl hl (by decide) rfl (fun ls hl => ?_)
    exact t_70 k6 hk6 F x3 x5 x3 _ _ _ hH hS (lv_sub hl [2, 1, 0, 3] rfl) q
  have t_6 : ∀ n : Nat, ∀ (F : GF) (x1 : Int32) (x2 : Int32) (x3 : Int32) (H : Heap) (locs : List Loc) (ls : Array Slot), gH G ad F H → va_S (gA G) s.heap H locs → lv_has ls 6 [(0, .ref (ad 0 0)), (1, .int x1), (2, .int x2), (3, .int x3)] → (P_X10_emptiestWithWay_6 K n) F x1 x2 x3 → W p l e rm_X10_emptiestWithWay s m ([.ref (ad 0 0)] : List Value).toArray below meth c H locs 0 0 (q_X10_emptiestWithWay G ad K below ([.ref (ad 0 0)] : List Value).toArray s) (F0 m 6 ls []) := by
    intro n
    induction n with
    | zero =>
      intro F x1 x2 x3 H locs ls hH hS hl q
      exact False.elim q
    | succ n ih =>
      intro F x1 x2 x3 H locs ls hH hS hl q
      rw [P_X10_emptiestWithWay_6] at q
      refine lv_iload_n hx hb dX10_emptiestWithWay_6 rfl (lv_at hl 3 rfl) ?_
      refine lv_aload_n hx hb dX10_emptiestWithWay_7 rfl (lv_at hl 0 rfl) ?_
      refine g_get (ci := 14) (v := .ref (ad 6 0)) (C := RX10) (T := TX10) (N := 8) hx hb hts (fun _ h => (List.mem_cons_of_mem _ (List.mem_append_left _ (List.mem_append_left _ (List.mem_append_left _ (List.mem_append_left _ (List.mem_append_left _ (List.mem_append_right _ h)))))))) hown hK hH 0 0 (by decide) Nat.zero_lt_one rfl rfl 3 (by decide) (hts (.fieldLink RX10 29 "BallotFoundry" "stations" "LBallotFoundry$Stations;") (List.mem_of_getElem? (i := 1) rfl)) (fun _ h => h) rfl dX10_emptiestWithWay_8 ?_
      refine g_getN (ci := 11) (v := .int (F 6 0 2)) (C := RX7) (T := TX7) (N := 3) hx hb hts (fun _ h => (List.mem_cons_of_mem _ (List.mem_append_left _ (List.mem_append_left _ (List.mem_append_left _ (List.mem_append_left _ (List.mem_append_right _ h))))))) hown hK hH 6 0 (by decide) Nat.zero_lt_one rfl rfl 2 (by decide) (va_Nw.use rfl (hG.1 ("BallotFoundry", 85, "BallotFoundry$Stations", "size", "I", "BallotFoundry") (List.mem_of_getElem? (i := 2) rfl))) (fun _ h => h) rfl dX10_emptiestWithWay_11 ?_
      refine lv_icmp_ge (tgt := 76) hx hb dX10_emptiestWithWay_14 (by decide) (fun c1 => ?_) (fun c1 => ?_)
      · have q := (if_pos c1).mp q
        refine lv_iload_n hx hb dX10_emptiestWithWay_76 rfl (lv_at hl 1 rfl) ?_
        exact (W.iret (v := x1) hx hb hr (fun t ht hW => ⟨⟨x1, F, rfl, q, gH_at ht hH⟩, hS.F ht⟩) hS.2.2 dX10_emptiestWithWay_77)
      · have q := (if_neg c1).mp q
        refine lv_aload_n hx hb dX10_emptiestWithWay_17 rfl (lv_at hl 0 rfl) ?_
        refine g_get (ci := 14) (v := .ref (ad 1 0)) (C := RX10) (T := TX10) (N := 8) hx hb hts (fun _ h => (List.mem_cons_of_mem _ (List.mem_append_left _ (List.mem_append_left _ (List.mem_append_left _ (List.mem_append_left _ (List.mem_append_left _ (List.mem_append_right _ h)))))))) hown hK hH 0 0 (by decide) Nat.zero_lt_one rfl rfl 0 (by decide) (hts (.fieldLink RX10 12 "BallotFoundry" "town" "LBallotFoundry$Town;") (List.mem_of_getElem? (i := 2) rfl)) (fun _ h => h) rfl dX10_emptiestWithWay_18 ?_
        refine lv_aload_n hx hb dX10_emptiestWithWay_21 rfl (lv_at hl 0 rfl) ?_
        refine g_get (ci := 14) (v := .ref (ad 6 0)) (C := RX10) (T := TX10) (N := 8) hx hb hts (fun _ h => (List.mem_cons_of_mem _ (List.mem_append_left _ (List.mem_append_left _ (List.mem_append_left _ (List.mem_append_left _ (List.mem_append_left _ (List.mem_append_right _ h)))))))) hown hK hH 0 0 (by decide) Nat.zero_lt_one rfl rfl 3 (by decide) (hts (.fieldLink RX10 29 "BallotFoundry" "stations" "LBallotFoundry$Stations;") (List.mem_of_getElem? (i := 1) rfl)) (fun _ h => h) rfl dX10_emptiestWithWay_22 ?_
        refine g_getN (ci := 11) (v := .ref (ad 7 0)) (C := RX7) (T := TX7) (N := 3) hx hb hts (fun _ h => (List.mem_cons_of_mem _ (List.mem_append_left _ (List.mem_append_left _ (List.mem_append_left _ (List.mem_append_left _ (List.mem_append_right _ h))))))) hown hK hH 6 0 (by decide) Nat.zero_lt_one rfl rfl 0 (by decide) (va_Nw.use rfl (hG.1 ("BallotFoundry", 343, "BallotFoundry$Stations", "crossings", "[I", "BallotFoundry") (List.mem_of_getElem? (i := 0) rfl))) (fun _ h => h) rfl dX10_emptiestWithWay_25 ?_
        refine lv_iload_n hx hb dX10_emptiestWithWay_28 rfl (lv_at hl 3 rfl) ?_
        obtain ⟨h2, q⟩ := q
        refine g_iald hx hb hK hH 7 0 (by decide) Nat.zero_lt_one 5 rfl h2 dX10_emptiestWithWay_29 ?_
        refine va_calli (va_runV (As := [.int (F 7 0 x3.toNatClampNeg)]) (rest := []) ⟨hx, hb, hml, hown, hts⟩ (c_X9_measuredTo l G ad F (F 7 0 x3.toNatClampNeg) _) (cwV 1 hts gX10_emptiestWithWay_X9_measuredTo rfl rfl rfl (by decide +kernel) ⟨Nat.le_of_ble_eq_true rfl, Nat.le_of_ble_eq_true rfl⟩) ⟨fun a U g mk h => ⟨h.1, gD_blind h.2.1, h.2.2⟩, g_recv (C := RX9) (T := TX9) (N := 3) hK hH 1 0 (by decide) Nat.zero_lt_one rfl rfl, fun U hU hW => ⟨rfl, gD_at hK hG hB hH hS hU hW, q⟩⟩ rfl rfl hl.1 rfl (lv_room (Nat.le_of_ble_eq_true rfl)) dX10_emptiestWithWay_30 ⟨Nat.le_of_ble_eq_true rfl, Nat.le_of_ble_eq_true rfl⟩) hS (fun _ _ h => h) (fun _ h => h) (fun r3 F4 t H locs ht hvm q hB1 hz hk hS => ?_)
        have hH : gH G ad F4 H := gH_to ht hB1
        refine lv_istore (lv' := [(4, .int r3), (0, .ref (ad 0 0)), (1, .int x1), (2, .int x2), (3, .int x3)]) hx hb dX10_emptiestWithWay_33 hl (by decide) rfl (fun ls hl => ?_)
        refine lv_aload_n hx hb dX10_emptiestWithWay_35 rfl (lv_at hl 1 rfl) ?_
        refine g_get (ci := 14) (v := .ref (ad 10 0)) (C := RX10) (T := TX10) (N := 8) hx hb hts (fun _ h => (List.mem_cons_of_mem _ (List.mem_append_left _ (List.mem_append_left _ (List.mem_append_left _ (List.mem_append_left _ (List.mem_append_left _ (List.mem_append_right _ h)))))))) hown hK hH 0 0 (by decide) Nat.zero_lt_one rfl rfl 6 (by decide) (hts (.fieldLink RX10 43 "BallotFoundry" "election" "LBallotFoundry$Election;") (List.mem_of_getElem? (i := 3) rfl)) (fun _ h => h) rfl dX10_emptiestWithWay_36 ?_
        refine g_getN (ci := 6) (v := .ref (ad 12 0)) (C := RX2) (T := TX2) (N := 10) hx hb hts (fun _ h => (List.mem_cons_of_mem _ (List.mem_append_left _ (List.mem_append_left _ (List.mem_append_left _ (List.mem_append_right _ h)))))) hown hK hH 10 0 (by decide) Nat.zero_lt_one rfl rfl 6 (by decide) (va_Nw.use rfl (hG.1 ("BallotFoundry", 167, "BallotFoundry$Election", "roll", "LBallotFoundry$Roll;", "BallotFoundry") (List.mem_of_getElem? (i := 22) rfl))) (fun _ h => h) rfl dX10_emptiestWithWay_39 ?_
        refine lv_iload_n hx hb dX10_emptiestWithWay_42 rfl (lv_at hl 4 rfl) ?_
        refine va_calli (va_runV (As := [.int x3]) (rest := []) ⟨hx, hb, hml, hown, hts⟩ (c_X5_peopleAt l G ad F4 x3 _) (cwV 1 hts gX10_emptiestWithWay_X5_peopleAt rfl rfl rfl (by decide +kernel) ⟨Nat.le_of_ble_eq_true rfl, Nat.le_of_ble_eq_true rfl⟩) ⟨fun a U g mk h => ⟨h.1, gD_blind h.2.1, h.2.2⟩, g_recv (C := RX5) (T := TX5) (N := 3) hK hH 12 0 (by decide) Nat.zero_lt_one rfl rfl, fun U hU hW => ⟨rfl, gD_at hK hG hB hH hS hU hW, q⟩⟩ rfl rfl hl.1 rfl (lv_room (Nat.le_of_ble_eq_true rfl)) dX10_emptiestWithWay_43 ⟨Nat.le_of_ble_eq_true rfl, Nat.le_of_ble_eq_true rfl⟩) hS (fun _ _ h => h) (fun _ h => h) (fun r5 F6 t H locs ht hvm q hB1 hz hk hS => ?_)
        have hH : gH G ad F6 H := gH_to ht hB1
        refine lv_istore (lv' := [(5, .int r5), (4, .int r3), (0, .ref (ad 0 0)), (1, .int x1), (2, .int x2), (3, .int x3)]) hx hb dX10_emptiestWithWay_46 hl (by decide) rfl (fun ls hl => ?_)
        refine lv_iload hx hb dX10_emptiestWithWay_48 (lv_at hl 1 rfl) ?_
        refine lv_iconst (v := (-1)) hx hb dX10_emptiestWithWay_50 (by decide) ?_
        refine lv_icmp_eq (tgt := 70) hx hb dX10_emptiestWithWay_51 (by decide) (fun c7 => ?_) (fun c7 => ?_)
        · have q := (if_pos c7).mp q
          exact t_70 (fun F a0 a1 a2 => P_X10_emptiestWithWay_6 K n F a0 a1 a2) ih F6 x1 x2 x3 _ _ _ hH hS (lv_sub hl [2, 3, 4, 5] rfl) q
        · have q := (if_neg c7).mp q
          refine lv_iload_n hx hb dX10_emptiestWithWay_54 rfl (lv_at hl 3 rfl) ?_
          refine lv_iconst (v := (-1)) hx hb dX10_emptiestWithWay_55 (by decide) ?_
          refine lv_icmp_eq (tgt := 65) hx hb dX10_emptiestWithWay_56 (by decide) (fun c8 => ?_) (fun c8 => ?_)
          · have q := (if_pos c8).mp q
            exact t_65 (fun F a0 a1 a2 => P_X10_emptiestWithWay_6 K n F a0 a1 a2) ih F6 x3 r5 _ _ _ hH hS (lv_sub hl [2, 5, 0] rfl) q
          · have q := (if_neg c8).mp q
            refine lv_iload hx hb dX10_emptiestWithWay_59 (lv_at hl 0 rfl) ?_
            refine lv_iload_n hx hb dX10_emptiestWithWay_61 rfl (lv_at hl 4 rfl) ?_
            refine lv_icmp_ge (tgt := 70) hx hb dX10_emptiestWithWay_62 (by decide) (fun c9 => ?_) (fun c9 => ?_)
            · have q := (if_pos c9).mp q
              exact t_70 (fun F a0 a1 a2 => P_X10_emptiestWithWay_6 K n F a0 a1 a2) ih F6 x1 x2 x3 _ _ _ hH hS (lv_sub hl [2, 3, 4, 5] rfl) q
            · have q := (if_neg c9).mp q
              exact t_65 (fun F a0 a1 a2 => P_X10_emptiestWithWay_6 K n F a0 a1 a2) ih F6 x3 r5 _ _ _ hH hS (lv_sub hl [2, 5, 0] rfl) q
  unfold P_X10_emptiestWithWay at q
  refine lv_iconst (v := (-1)) hx hb dX10_emptiestWithWay_0 (by decide) ?_
  refine lv_istore_n (lv' := [(1, .int (-1)), (0, .ref (ad 0 0))]) hx hb dX10_emptiestWithWay_1 rfl hl (by decide) rfl (fun ls hl => ?_)
  refine lv_iconst (v := 0) hx hb dX10_emptiestWithWay_2 (by decide) ?_
  refine lv_istore_n (lv' := [(2, .int 0), (1, .int (-1)), (0, .ref (ad 0 0))]) hx hb dX10_emptiestWithWay_3 rfl hl (by decide) rfl (fun ls hl => ?_)
  refine lv_iconst (v := 0) hx hb dX10_emptiestWithWay_4 (by decide) ?_
  refine lv_istore_n (lv' := [(3, .int 0), (2, .int 0), (1, .int (-1)), (0, .ref (ad 0 0))]) hx hb dX10_emptiestWithWay_5 rfl hl (by decide) rfl (fun ls hl => ?_)
  obtain ⟨nn, q⟩ := q
  exact t_6 nn F (-1) 0 0 _ _ _ hH hS (lv_sub hl [3, 2, 1, 0] rfl) q
abbrev rm_X10_chooseStation : Room := { frames := 2, cells := 0, slots := 0, locals := 46 }
abbrev q_X10_chooseStation (G : GP) (ad : Nat → Nat → Nat) (K : Int32 → GF → Prop) (below : List Frame) (args : Array Value) (s : State) : State → Prop := MQ below (gQi G ad K) args s 0 0 (gA G)
set_option maxHeartbeats 4000000 in
set_option maxRecDepth 100000 in
theorem c_X10_chooseStation (l : Launch) (G : GP) (ad : Nat → Nat → Nat) (F : GF) (K : Int32 → GF → Prop) : Met l yX10_chooseStation wsX10_chooseStation rm_X10_chooseStation (va_Pc [.ref (ad 0 0)] (fun U => gD G ad F U ∧ P_X10_chooseStation F K)) (gQi G ad K) 0 0 (gA G) := by
  refine Met.ofW (cc := cX10_chooseStation) (maxL := 3) (ret := (some .int)) (by decide) rfl ?_
  intro p e s m args below meth c s₁ Bd hml hv
  obtain ⟨rfl, ⟨hK, hG, hB, hH⟩, q⟩ := hv
  have hx := Bd.exec
  have hb := Bd.bytes
  have hr := Bd.returns
  have hts := atoms_spec (ws := wsX10_chooseStation) Bd.pre
  have hown : s.vm.findClass RX10 = some m.cls := findClass_of_methodNamed Bd.named
  have hlocks := Bd.notSynchronized
  have hS : va_S (gA G) s.heap s.heap [] := va_S.rf
  have hl := lv_entry [.ref (ad 0 0)] (n := 3) (Nat.le_of_ble_eq_true rfl)
  rw [lg_entry_eq]
  generalize (lg_sl [.ref (ad 0 0)] ++ List.replicate (3 - (lg_sl [.ref (ad 0 0)]).length) Slot.unset).toArray = ls at hl ⊢
  have hl : lv_has ls 3 [(0, .ref (ad 0 0))] := hl
  unfold P_X10_chooseStation at q
  refine lv_aload_n hx hb dX10_chooseStation_0 rfl (lv_at hl 0 rfl) ?_
  refine va_calli (va_runV (As := []) (rest := []) ⟨hx, hb, hml, hown, hts⟩ (c_X10_nearestWithSeat l G ad F _) (cwV 0 hts gX10_chooseStation_X10_nearestWithSeat rfl rfl rfl (by decide +kernel) ⟨Nat.le_of_ble_eq_true rfl, Nat.le_of_ble_eq_true rfl⟩) ⟨fun a U g mk h => ⟨h.1, gD_blind h.2.1, h.2.2⟩, g_recv (C := RX10) (T := TX10) (N := 8) hK hH 0 0 (by decide) Nat.zero_lt_one rfl rfl, fun U hU hW => ⟨rfl, gD_at hK hG hB hH hS hU hW, q⟩⟩ rfl rfl hl.1 rfl (lv_room (Nat.le_of_ble_eq_true rfl)) dX10_chooseStation_1 ⟨Nat.le_of_ble_eq_true rfl, Nat.le_of_ble_eq_true rfl⟩) hS (fun _ _ h => h) (fun _ h => h) (fun r1 F2 t H locs ht hvm q hB1 hz hk hS => ?_)
  have hH : gH G ad F2 H := gH_to ht hB1
  refine lv_istore_n (lv' := [(1, .int r1), (0, .ref (ad 0 0))]) hx hb dX10_chooseStation_4 rfl hl (by decide) rfl (fun ls hl => ?_)
  refine lv_iload_n hx hb dX10_chooseStation_5 rfl (lv_at hl 0 rfl) ?_
  refine lv_iconst (v := (-1)) hx hb dX10_chooseStation_6 (by decide) ?_
  refine lv_icmp_eq (tgt := 12) hx hb dX10_chooseStation_7 (by decide) (fun c3 => ?_) (fun c3 => ?_)
  · have q := (if_pos c3).mp q
    refine lv_aload_n hx hb dX10_chooseStation_12 rfl (lv_at hl 1 rfl) ?_
    refine va_calli (va_runV (As := []) (rest := []) ⟨hx, hb, hml, hown, hts⟩ (c_X10_emptiestWithWay l G ad F2 _) (cwV 0 hts gX10_chooseStation_X10_emptiestWithWay rfl rfl rfl (by decide +kernel) ⟨Nat.le_of_ble_eq_true rfl, Nat.le_of_ble_eq_true rfl⟩) ⟨fun a U g mk h => ⟨h.1, gD_blind h.2.1, h.2.2⟩, g_recv (C := RX10) (T := TX10) (N := 8) hK hH 0 0 (by decide) Nat.zero_lt_one rfl rfl, fun U hU hW => ⟨rfl, gD_at hK hG hB hH hS hU hW, q⟩⟩ rfl rfl hl.1 rfl (lv_room (Nat.le_of_ble_eq_true rfl)) dX10_chooseStation_13 ⟨Nat.le_of_ble_eq_true rfl, Nat.le_of_ble_eq_true rfl⟩) hS (fun _ _ h => h) (fun _ h => h) (fun r4 F5 t H locs ht hvm q hB1 hz hk hS => ?_)
    have hH : gH G ad F5 H := gH_to ht hB1
    refine lv_istore_n (lv' := [(2, .int r4), (1, .int r1), (0, .ref (ad 0 0))]) hx hb dX10_chooseStation_16 rfl hl (by decide) rfl (fun ls hl => ?_)
    refine lv_iload_n hx hb dX10_chooseStation_17 rfl (lv_at hl 0 rfl) ?_
    refine lv_iconst (v := (-1)) hx hb dX10_chooseStation_18 (by decide) ?_
    refine lv_icmp_eq (tgt := 26) hx hb dX10_chooseStation_19 (by decide) (fun c6 => ?_) (fun c6 => ?_)
    · have q := (if_pos c6).mp q
      refine lv_iconst (v := 0) hx hb dX10_chooseStation_26 (by decide) ?_
      exact (W.iret (v := 0) hx hb hr (fun t ht hW => ⟨⟨0, F5, rfl, q, gH_at ht hH⟩, hS.F ht⟩) hS.2.2 dX10_chooseStation_27)
    · have q := (if_neg c6).mp q
      refine lv_iload_n hx hb dX10_chooseStation_22 rfl (lv_at hl 0 rfl) ?_
      refine lv_goto (tgt := 27) hx hb dX10_chooseStation_23 (by decide) ?_
      exact (W.iret (v := r4) hx hb hr (fun t ht hW => ⟨⟨r4, F5, rfl, q, gH_at ht hH⟩, hS.F ht⟩) hS.2.2 dX10_chooseStation_27)
  · have q := (if_neg c3).mp q
    refine lv_iload_n hx hb dX10_chooseStation_10 rfl (lv_at hl 0 rfl) ?_
    exact (W.iret (v := r1) hx hb hr (fun t ht hW => ⟨⟨r1, F2, rfl, q, gH_at ht hH⟩, hS.F ht⟩) hS.2.2 dX10_chooseStation_11)
abbrev rm_X5_enter : Room := { frames := 0, cells := 0, slots := 0, locals := 0 }
abbrev q_X5_enter (G : GP) (ad : Nat → Nat → Nat) (K : GF → Prop) (below : List Frame) (args : Array Value) (s : State) : State → Prop := MQ below (gQv G ad K) args s 0 0 (gA G)
set_option maxHeartbeats 4000000 in
set_option maxRecDepth 100000 in
theorem c_X5_enter (l : Launch) (G : GP) (ad : Nat → Nat → Nat) (F : GF) (p1 : Int32) (p2 : Int32) (K : GF → Prop) : Met l yX5_enter wsX5_enter rm_X5_enter (va_Pc [.ref (ad 12 0), .int p1, .int p2] (fun U => gD G ad F U ∧ P_X5_enter F p1 p2 K)) (gQv G ad K) 0 0 (gA G) := by
  refine Met.ofW (cc := cX5_enter) (maxL := 3) (ret := none) (by decide) rfl ?_
  intro p e s m args below meth c s₁ Bd hml hv
  obtain ⟨rfl, ⟨hK, hG, hB, hH⟩, q⟩ := hv
  have hx := Bd.exec
  have hb := Bd.bytes
  have hr := Bd.returns
  have hts := atoms_spec (ws := wsX5_enter) Bd.pre
  have hown : s.vm.findClass RX5 = some m.cls := findClass_of_methodNamed Bd.named
  have hlocks := Bd.notSynchronized
  have hS : va_S (gA G) s.heap s.heap [] := va_S.rf
  have hl := lv_entry [.ref (ad 12 0), .int p1, .int p2] (n := 3) (Nat.le_of_ble_eq_true rfl)
  rw [lg_entry_eq]
  generalize (lg_sl [.ref (ad 12 0), .int p1, .int p2] ++ List.replicate (3 - (lg_sl [.ref (ad 12 0), .int p1, .int p2]).length) Slot.unset).toArray = ls at hl ⊢
  have hl : lv_has ls 3 [(0, .ref (ad 12 0)), (1, .int p1), (2, .int p2)] := hl
  unfold P_X5_enter at q
  refine lv_iload_n hx hb dX5_enter_0 rfl (lv_at hl 1 rfl) ?_
  refine lv_if_lt (tgt := 19) hx hb dX5_enter_1 (by decide) (fun c1 => ?_) (fun c1 => ?_)
  · have q := (if_pos c1).mp q
    exact (W.vret hx hb hr (fun t ht hW => ⟨⟨F, rfl, q, gH_at ht hH⟩, hS.F ht⟩) hS.2.2 dX5_enter_19)
  · have q := (if_neg c1).mp q
    refine lv_iload_n hx hb dX5_enter_4 rfl (lv_at hl 1 rfl) ?_
    refine lv_bipush (v := 20) hx hb dX5_enter_5 (by decide) ?_
    refine lv_icmp_ge (tgt := 19) hx hb dX5_enter_7 (by decide) (fun c2 => ?_) (fun c2 => ?_)
    · have q := (if_pos c2).mp q
      exact (W.vret hx hb hr (fun t ht hW => ⟨⟨F, rfl, q, gH_at ht hH⟩, hS.F ht⟩) hS.2.2 dX5_enter_19)
    · have q := (if_neg c2).mp q
      refine lv_iload_n hx hb dX5_enter_10 rfl (lv_at hl 2 rfl) ?_
      refine lv_if_lt (tgt := 19) hx hb dX5_enter_11 (by decide) (fun c3 => ?_) (fun c3 => ?_)
      · have q := (if_pos c3).mp q
        exact (W.vret hx hb hr (fun t ht hW => ⟨⟨F, rfl, q, gH_at ht hH⟩, hS.F ht⟩) hS.2.2 dX5_enter_19)
      · have q := (if_neg c3).mp q
        refine lv_iload_n hx hb dX5_enter_14 rfl (lv_at hl 2 rfl) ?_
        refine lv_iconst (v := 5) hx hb dX5_enter_15 (by decide) ?_
        refine lv_icmp_lt (tgt := 20) hx hb dX5_enter_16 (by decide) (fun c4 => ?_) (fun c4 => ?_)
        · have q := (if_pos c4).mp q
          refine lv_aload_n hx hb dX5_enter_20 rfl (lv_at hl 0 rfl) ?_
          refine g_get (ci := 9) (v := .ref (ad 13 0)) (C := RX5) (T := TX5) (N := 3) hx hb hts (fun _ h => (List.mem_cons_of_mem _ (List.mem_append_left _ (List.mem_append_right _ h)))) hown hK hH 12 0 (by decide) Nat.zero_lt_one rfl rfl 0 (by decide) (hts (.fieldLink RX5 9 "BallotFoundry$Roll" "stationsOfPeople" "[I") (List.mem_of_getElem? (i := 1) rfl)) (fun _ h => h) rfl dX5_enter_21 ?_
          refine lv_iload_n hx hb dX5_enter_24 rfl (lv_at hl 1 rfl) ?_
          refine lv_iload_n hx hb dX5_enter_25 rfl (lv_at hl 2 rfl) ?_
          obtain ⟨h5, q⟩ := q
          refine g_iast hx hb hK hH hS 13 0 (by decide) Nat.zero_lt_one (by decide) 20 (fun _ => rfl) h5 dX5_enter_26 (fun H locs hH hS => ?_)
          obtain ⟨F6, eF6⟩ : ∃ z, z = fs F 13 0 p1.toNatClampNeg p2 := ⟨_, rfl⟩
          have q := q F6 eF6
          rw [← eF6] at hH
          refine lv_aload_n hx hb dX5_enter_27 rfl (lv_at hl 0 rfl) ?_
          refine g_get (ci := 9) (v := .ref (ad 14 0)) (C := RX5) (T := TX5) (N := 3) hx hb hts (fun _ h => (List.mem_cons_of_mem _ (List.mem_append_left _ (List.mem_append_right _ h)))) hown hK hH 12 0 (by decide) Nat.zero_lt_one rfl rfl 1 (by decide) (hts (.fieldLink RX5 15 "BallotFoundry$Roll" "peopleOfStations" "[I") (List.mem_of_getElem? (i := 2) rfl)) (fun _ h => h) rfl dX5_enter_28 ?_
          refine lv_iload_n hx hb dX5_enter_31 rfl (lv_at hl 2 rfl) ?_
          refine lv_dup2_11 hx hb dX5_enter_32 rfl rfl ?_
          obtain ⟨h7, q⟩ := q
          refine g_iald hx hb hK hH 14 0 (by decide) Nat.zero_lt_one 5 rfl h7 dX5_enter_33 ?_
          refine lv_iconst (v := 1) hx hb dX5_enter_34 (by decide) ?_
          refine lv_iadd hx hb dX5_enter_35 ?_
          obtain ⟨h8, q⟩ := q
          refine g_iast hx hb hK hH hS 14 0 (by decide) Nat.zero_lt_one (by decide) 5 (fun _ => rfl) h8 dX5_enter_36 (fun H locs hH hS => ?_)
          obtain ⟨F9, eF9⟩ : ∃ z, z = fs F6 14 0 p2.toNatClampNeg ((F6 14 0 p2.toNatClampNeg) + 1) := ⟨_, rfl⟩
          have q := q F9 eF9
          rw [← eF9] at hH
          exact (W.vret hx hb hr (fun t ht hW => ⟨⟨F9, rfl, q, gH_at ht hH⟩, hS.F ht⟩) hS.2.2 dX5_enter_37)
        · have q := (if_neg c4).mp q
          exact (W.vret hx hb hr (fun t ht hW => ⟨⟨F, rfl, q, gH_at ht hH⟩, hS.F ht⟩) hS.2.2 dX5_enter_19)
abbrev rm_X10_makeRoll : Room := { frames := 3, cells := 0, slots := 0, locals := 71 }
abbrev q_X10_makeRoll (G : GP) (ad : Nat → Nat → Nat) (K : GF → Prop) (below : List Frame) (args : Array Value) (s : State) : State → Prop := MQ below (gQv G ad K) args s 0 0 (gA G)
set_option maxHeartbeats 4000000 in
set_option maxRecDepth 100000 in
theorem c_X10_makeRoll (l : Launch) (G : GP) (ad : Nat → Nat → Nat) (F : GF) (K : GF → Prop) : Met l yX10_makeRoll wsX10_makeRoll rm_X10_makeRoll (va_Pc [.ref (ad 0 0)] (fun U => gD G ad F U ∧ P_X10_makeRoll F K)) (gQv G ad K) 0 0 (gA G) := by
  refine Met.ofW (cc := cX10_makeRoll) (maxL := 4) (ret := none) (by decide) rfl ?_
  intro p e s m args below meth c s₁ Bd hml hv
  obtain ⟨rfl, ⟨hK, hG, hB, hH⟩, q⟩ := hv
  have hx := Bd.exec
  have hb := Bd.bytes
  have hr := Bd.returns
  have hts := atoms_spec (ws := wsX10_makeRoll) Bd.pre
  have hown : s.vm.findClass RX10 = some m.cls := findClass_of_methodNamed Bd.named
  have hlocks := Bd.notSynchronized
  have hS : va_S (gA G) s.heap s.heap [] := va_S.rf
  have hl := lv_entry [.ref (ad 0 0)] (n := 4) (Nat.le_of_ble_eq_true rfl)
  rw [lg_entry_eq]
  generalize (lg_sl [.ref (ad 0 0)] ++ List.replicate (4 - (lg_sl [.ref (ad 0 0)]).length) Slot.unset).toArray = ls at hl ⊢
  have hl : lv_has ls 4 [(0, .ref (ad 0 0))] := hl
  show W p l e rm_X10_makeRoll s m ([.ref (ad 0 0)] : List Value).toArray below meth c s.heap [] 0 0 (q_X10_makeRoll G ad K below ([.ref (ad 0 0)] : List Value).toArray s) _
  have t_90 : ∀ (k27 : GF → Int32 → Int32 → Prop), (∀ (F : GF) (x1 : Int32) (x2 : Int32) (H : Heap) (locs : List Loc) (ls : Array Slot), gH G ad F H → va_S (gA G) s.heap H locs → lv_has ls 4 [(0, .ref (ad 0 0)), (1, .int x1), (2, .int x2)] → k27 F x1 x2 → W p l e rm_X10_makeRoll s m ([.ref (ad 0 0)] : List Value).toArray below meth c H locs 0 0 (q_X10_makeRoll G ad K below ([.ref (ad 0 0)] : List Value).toArray s) (F0 m 27 ls [])) → ∀ (F : GF) (x1 : Int32) (x2 : Int32) (H : Heap) (locs : List Loc) (ls : Array Slot), gH G ad F H → va_S (gA G) s.heap H locs → lv_has ls 4 [(0, .ref (ad 0 0)), (1, .int x1), (2, .int x2)] → (P_X10_makeRoll_90 k27 K) F x1 x2 → W p l e rm_X10_makeRoll s m ([.ref (ad 0 0)] : List Value).toArray below meth c H locs 0 0 (q_X10_makeRoll G ad K below ([.ref (ad 0 0)] : List Value).toArray s) (F0 m 90 ls []) := by
    intro k27 hk27 F x1 x2 H locs ls hH hS hl q
    unfold P_X10_makeRoll_90 at q
    refine lv_iinc (v := x2 + 1) (lv' := [(2, .int (x2 + 1)), (0, .ref (ad 0 0)), (1, .int x1)]) hx hb dX10_makeRoll_90 hl (k := 2) rfl rfl (by decide) rfl (fun ls hl => ?_)
    refine lv_goto (tgt := 27) hx hb dX10_makeRoll_93 (by decide) ?_
    exact hk27 F x1 (x2 + 1) _ _ _ hH hS (lv_sub hl [1, 2, 0] rfl) q
  have t_27 : ∀ n : Nat, ∀ (F : GF) (x1 : Int32) (x2 : Int32) (H : Heap) (locs : List Loc) (ls : Array Slot), gH G ad F H → va_S (gA G) s.heap H locs → lv_has ls 4 [(0, .ref (ad 0 0)), (1, .int x1), (2, .int x2)] → (P_X10_makeRoll_27 K n) F x1 x2 → W p l e rm_X10_makeRoll s m ([.ref (ad 0 0)] : List Value).toArray below meth c H locs 0 0 (q_X10_makeRoll G ad K below ([.ref (ad 0 0)] : List Value).toArray s) (F0 m 27 ls []) := by
    intro n
    induction n with
    | zero =>
      intro F x1 x2 H locs ls hH hS hl q
      exact False.elim q
    | succ n ih =>
      intro F x1 x2 H locs ls hH hS hl q
      rw [P_X10_makeRoll_27] at q
      refine lv_iload_n hx hb dX10_makeRoll_27 rfl (lv_at hl 2 rfl) ?_
      refine lv_aload_n hx hb dX10_makeRoll_28 rfl (lv_at hl 0 rfl) ?_
      refine g_get (ci := 14) (v := .int (F 0 0 2)) (C := RX10) (T := TX10) (N := 8) hx hb hts (fun _ h => (List.mem_cons_of_mem _ (List.mem_append_left _ (List.mem_append_left _ (List.mem_append_left _ (List.mem_append_left _ (List.mem_append_left _ (List.mem_append_left _ (List.mem_append_left _ (List.mem_append_right _ h)))))))))) hown hK hH 0 0 (by decide) Nat.zero_lt_one rfl rfl 2 (by decide) (hts (.fieldLink RX10 22 "BallotFoundry" "peopleHere" "I") (List.mem_of_getElem? (i := 3) rfl)) (fun _ h => h) rfl dX10_makeRoll_29 ?_
      refine lv_icmp_ge (tgt := 96) hx hb dX10_makeRoll_32 (by decide) (fun c2 => ?_) (fun c2 => ?_)
      · have q := (if_pos c2).mp q
        exact (W.vret hx hb hr (fun t ht hW => ⟨⟨F, rfl, q, gH_at ht hH⟩, hS.F ht⟩) hS.2.2 dX10_makeRoll_96)
      · have q := (if_neg c2).mp q
        refine lv_aload_n hx hb dX10_makeRoll_35 rfl (lv_at hl 0 rfl) ?_
        refine g_get (ci := 14) (v := .ref (ad 5 0)) (C := RX10) (T := TX10) (N := 8) hx hb hts (fun _ h => (List.mem_cons_of_mem _ (List.mem_append_left _ (List.mem_append_left _ (List.mem_append_left _ (List.mem_append_left _ (List.mem_append_left _ (List.mem_append_left _ (List.mem_append_left _ (List.mem_append_right _ h)))))))))) hown hK hH 0 0 (by decide) Nat.zero_lt_one rfl rfl 1 (by decide) (hts (.fieldLink RX10 18 "BallotFoundry" "people" "[LBallotFoundry$Person;") (List.mem_of_getElem? (i := 4) rfl)) (fun _ h => h) rfl dX10_makeRoll_36 ?_
        refine lv_iload_n hx hb dX10_makeRoll_39 rfl (lv_at hl 2 rfl) ?_
        obtain ⟨h3, q⟩ := q
        refine g_aald (a := ad 33 (x2.toNatClampNeg)) hx hb hK hH 5 0 (by decide) Nat.zero_lt_one 5 20 rfl rfl h3 rfl dX10_makeRoll_40 ?_
        refine lv_astore_n (lv' := [(3, .ref (ad 33 x2.toNatClampNeg)), (0, .ref (ad 0 0)), (1, .int x1), (2, .int x2)]) hx hb dX10_makeRoll_41 rfl hl (by decide) rfl (fun ls hl => ?_)
        refine lv_aload_n hx hb dX10_makeRoll_42 rfl (lv_at hl 0 rfl) ?_
        refine g_getN (ci := 8) (v := .int (F 33 x2.toNatClampNeg 2)) (C := RX4) (T := TX4) (N := 3) hx hb hts (fun _ h => (List.mem_cons_of_mem _ (List.mem_append_left _ (List.mem_append_left _ (List.mem_append_left _ (List.mem_append_left _ (List.mem_append_right _ h))))))) hown hK hH 33 x2.toNatClampNeg (by decide) (gin h3) rfl rfl 2 (by decide) (va_Nw.use rfl (hG.1 ("BallotFoundry", 127, "BallotFoundry$Person", "hasDied", "Z", "BallotFoundry") (List.mem_of_getElem? (i := 31) rfl))) (fun _ h => h) rfl dX10_makeRoll_43 ?_
        refine lv_if_ne (tgt := 90) hx hb dX10_makeRoll_46 (by decide) (fun c4 => ?_) (fun c4 => ?_)
        · have q := (if_neg c4).mp q
          exact t_90 (fun F a0 a1 => P_X10_makeRoll_27 K n F a0 a1) ih F x1 x2 _ _ _ hH hS (lv_sub hl [1, 2, 3] rfl) q
        · have q := (if_pos c4).mp q
          refine lv_aload_n hx hb dX10_makeRoll_49 rfl (lv_at hl 0 rfl) ?_
          refine g_getN (ci := 8) (v := .int (F 33 x2.toNatClampNeg 0)) (C := RX4) (T := TX4) (N := 3) hx hb hts (fun _ h => (List.mem_cons_of_mem _ (List.mem_append_left _ (List.mem_append_left _ (List.mem_append_left _ (List.mem_append_left _ (List.mem_append_right _ h))))))) hown hK hH 33 x2.toNatClampNeg (by decide) (gin h3) rfl rfl 0 (by decide) (va_Nw.use rfl (hG.1 ("BallotFoundry", 104, "BallotFoundry$Person", "age", "I", "BallotFoundry") (List.mem_of_getElem? (i := 29) rfl))) (fun _ h => h) rfl dX10_makeRoll_50 ?_
          refine lv_aload_n hx hb dX10_makeRoll_53 rfl (lv_at hl 1 rfl) ?_
          refine g_get (ci := 14) (v := .ref (ad 10 0)) (C := RX10) (T := TX10) (N := 8) hx hb hts (fun _ h => (List.mem_cons_of_mem _ (List.mem_append_left _ (List.mem_append_left _ (List.mem_append_left _ (List.mem_append_left _ (List.mem_append_left _ (List.mem_append_left _ (List.mem_append_left _ (List.mem_append_right _ h)))))))))) hown hK hH 0 0 (by decide) Nat.zero_lt_one rfl rfl 6 (by decide) (hts (.fieldLink RX10 43 "BallotFoundry" "election" "LBallotFoundry$Election;") (List.mem_of_getElem? (i := 1) rfl)) (fun _ h => h) rfl dX10_makeRoll_54 ?_
          refine g_getN (ci := 6) (v := .int (F 10 0 1)) (C := RX2) (T := TX2) (N := 10) hx hb hts (fun _ h => (List.mem_cons_of_mem _ (List.mem_append_left _ (List.mem_append_left _ (List.mem_append_left _ (List.mem_append_left _ (List.mem_append_left _ (List.mem_append_right _ h)))))))) hown hK hH 10 0 (by decide) Nat.zero_lt_one rfl rfl 1 (by decide) (va_Nw.use rfl (hG.1 ("BallotFoundry", 148, "BallotFoundry$Election", "day", "I", "BallotFoundry") (List.mem_of_getElem? (i := 17) rfl))) (fun _ h => h) rfl dX10_makeRoll_57 ?_
          refine lv_icmp_gt (tgt := 90) hx hb dX10_makeRoll_60 (by decide) (fun c5 => ?_) (fun c5 => ?_)
          · have q := (if_pos c5).mp q
            exact t_90 (fun F a0 a1 => P_X10_makeRoll_27 K n F a0 a1) ih F x1 x2 _ _ _ hH hS (lv_sub hl [1, 2, 3] rfl) q
          · have q := (if_neg c5).mp q
            refine lv_aload_n hx hb dX10_makeRoll_63 rfl (lv_at hl 1 rfl) ?_
            refine g_get (ci := 14) (v := .ref (ad 1 0)) (C := RX10) (T := TX10) (N := 8) hx hb hts (fun _ h => (List.mem_cons_of_mem _ (List.mem_append_left _ (List.mem_append_left _ (List.mem_append_left _ (List.mem_append_left _ (List.mem_append_left _ (List.mem_append_left _ (List.mem_append_left _ (List.mem_append_right _ h)))))))))) hown hK hH 0 0 (by decide) Nat.zero_lt_one rfl rfl 0 (by decide) (hts (.fieldLink RX10 12 "BallotFoundry" "town" "LBallotFoundry$Town;") (List.mem_of_getElem? (i := 5) rfl)) (fun _ h => h) rfl dX10_makeRoll_64 ?_
            refine lv_aload_n hx hb dX10_makeRoll_67 rfl (lv_at hl 0 rfl) ?_
            refine lv_iload_n hx hb dX10_makeRoll_68 rfl (lv_at hl 2 rfl) ?_
            refine va_calli (va_runV (As := [.int x1]) (rest := [.ref (ad 1 0)]) ⟨hx, hb, hml, hown, hts⟩ (c_X4_crossingOn l G ad F x2.toNatClampNeg x1 (gin h3) _) (cwV 1 hts gX10_makeRoll_X4_crossingOn rfl rfl rfl (by decide +kernel) ⟨Nat.le_of_ble_eq_true rfl, Nat.le_of_ble_eq_true rfl⟩) ⟨fun a U g mk h => ⟨h.1, gD_blind h.2.1, h.2.2⟩, g_recv (C := RX4) (T := TX4) (N := 3) hK hH 33 x2.toNatClampNeg (by decide) (gin h3) rfl rfl, fun U hU hW => ⟨rfl, gD_at hK hG hB hH hS hU hW, q⟩⟩ rfl rfl hl.1 rfl (lv_room (Nat.le_of_ble_eq_true rfl)) dX10_makeRoll_69 ⟨Nat.le_of_ble_eq_true rfl, Nat.le_of_ble_eq_true rfl⟩) hS (fun _ _ h => h) (fun _ h => h) (fun r6 F7 t H locs ht hvm q hB1 hz hk hS => ?_)
            have hH : gH G ad F7 H := gH_to ht hB1
            refine va_callv (va_runV (As := [.int r6]) (rest := []) ⟨hx, hb, hml, hown, hts⟩ (c_X9_measureFrom l G ad F7 r6 _) (cwV 1 hts gX10_makeRoll_X9_measureFrom rfl rfl rfl (by decide +kernel) ⟨Nat.le_of_ble_eq_true rfl, Nat.le_of_ble_eq_true rfl⟩) ⟨fun a U g mk h => ⟨h.1, gD_blind h.2.1, h.2.2⟩, g_recv (C := RX9) (T := TX9) (N := 3) hK hH 1 0 (by decide) Nat.zero_lt_one rfl rfl, fun U hU hW => ⟨rfl, gD_at hK hG hB hH hS hU hW, q⟩⟩ rfl rfl hl.1 rfl (lv_room (Nat.le_of_ble_eq_true rfl)) dX10_makeRoll_72 ⟨Nat.le_of_ble_eq_true rfl, Nat.le_of_ble_eq_true rfl⟩) hS (fun _ _ h => h) (fun _ h => h) (fun F9 t H locs ht hvm q hB1 hz hk hS => ?_)
            have hH : gH G ad F9 H := gH_to ht hB1
            refine lv_aload_n hx hb dX10_makeRoll_75 rfl (lv_at hl 1 rfl) ?_
            refine g_get (ci := 14) (v := .ref (ad 10 0)) (C := RX10) (T := TX10) (N := 8) hx hb hts (fun _ h => (List.mem_cons_of_mem _ (List.mem_append_left _ (List.mem_append_left _ (List.mem_append_left _ (List.mem_append_left _ (List.mem_append_left _ (List.mem_append_left _ (List.mem_append_left _ (List.mem_append_right _ h)))))))))) hown hK hH 0 0 (by decide) Nat.zero_lt_one rfl rfl 6 (by decide) (hts (.fieldLink RX10 43 "BallotFoundry" "election" "LBallotFoundry$Election;") (List.mem_of_getElem? (i := 1) rfl)) (fun _ h => h) rfl dX10_makeRoll_76 ?_
            refine g_getN (ci := 6) (v := .ref (ad 12 0)) (C := RX2) (T := TX2) (N := 10) hx hb hts (fun _ h => (List.mem_cons_of_mem _ (List.mem_append_left _ (List.mem_append_left _ (List.mem_append_left _ (List.mem_append_left _ (List.mem_append_left _ (List.mem_append_right _ h)))))))) hown hK hH 10 0 (by decide) Nat.zero_lt_one rfl rfl 6 (by decide) (va_Nw.use rfl (hG.1 ("BallotFoundry", 167, "BallotFoundry$Election", "roll", "LBallotFoundry$Roll;", "BallotFoundry") (List.mem_of_getElem? (i := 22) rfl))) (fun _ h => h) rfl dX10_makeRoll_79 ?_
            refine lv_iload_n hx hb dX10_makeRoll_82 rfl (lv_at hl 3 rfl) ?_
            refine lv_aload_n hx hb dX10_makeRoll_83 rfl (lv_at hl 1 rfl) ?_
            refine va_calli (va_runV (As := []) (rest := [.int x2, .ref (ad 12 0)]) ⟨hx, hb, hml, hown, hts⟩ (c_X10_chooseStation l G ad F9 _) (cwV 0 hts gX10_makeRoll_X10_chooseStation rfl rfl rfl (by decide +kernel) ⟨Nat.le_of_ble_eq_true rfl, Nat.le_of_ble_eq_true rfl⟩) ⟨fun a U g mk h => ⟨h.1, gD_blind h.2.1, h.2.2⟩, g_recv (C := RX10) (T := TX10) (N := 8) hK hH 0 0 (by decide) Nat.zero_lt_one rfl rfl, fun U hU hW => ⟨rfl, gD_at hK hG hB hH hS hU hW, q⟩⟩ rfl rfl hl.1 rfl (lv_room (Nat.le_of_ble_eq_true rfl)) dX10_makeRoll_84 ⟨Nat.le_of_ble_eq_true rfl, Nat.le_of_ble_eq_true rfl⟩) hS (fun _ _ h => h) (fun _ h => h) (fun r10 F11 t H locs ht hvm q hB1 hz hk hS => ?_)
            have hH : gH G ad F11 H := gH_to ht hB1
            refine va_callv (va_runV (As := [.int x2, .int r10]) (rest := []) ⟨hx, hb, hml, hown, hts⟩ (c_X5_enter l G ad F11 x2 r10 _) (cwV 2 hts gX10_makeRoll_X5_enter rfl rfl rfl (by decide +kernel) ⟨Nat.le_of_ble_eq_true rfl, Nat.le_of_ble_eq_true rfl⟩) ⟨fun a U g mk h => ⟨h.1, gD_blind h.2.1, h.2.2⟩, g_recv (C := RX5) (T := TX5) (N := 3) hK hH 12 0 (by decide) Nat.zero_lt_one rfl rfl, fun U hU hW => ⟨rfl, gD_at hK hG hB hH hS hU hW, q⟩⟩ rfl rfl hl.1 rfl (lv_room (Nat.le_of_ble_eq_true rfl)) dX10_makeRoll_87 ⟨Nat.le_of_ble_eq_true rfl, Nat.le_of_ble_eq_true rfl⟩) hS (fun _ _ h => h) (fun _ h => h) (fun F13 t H locs ht hvm q hB1 hz hk hS => ?_)
            have hH : gH G ad F13 H := gH_to ht hB1
            exact t_90 (fun F a0 a1 => P_X10_makeRoll_27 K n F a0 a1) ih F13 x1 x2 _ _ _ hH hS (lv_sub hl [1, 2, 3] rfl) q
  unfold P_X10_makeRoll at q
  refine lv_aload_n hx hb dX10_makeRoll_0 rfl (lv_at hl 0 rfl) ?_
  refine g_get (ci := 14) (v := .ref (ad 10 0)) (C := RX10) (T := TX10) (N := 8) hx hb hts (fun _ h => (List.mem_cons_of_mem _ (List.mem_append_left _ (List.mem_append_left _ (List.mem_append_left _ (List.mem_append_left _ (List.mem_append_left _ (List.mem_append_left _ (List.mem_append_left _ (List.mem_append_right _ h)))))))))) hown hK hH 0 0 (by decide) Nat.zero_lt_one rfl rfl 6 (by decide) (hts (.fieldLink RX10 43 "BallotFoundry" "election" "LBallotFoundry$Election;") (List.mem_of_getElem? (i := 1) rfl)) (fun _ h => h) rfl dX10_makeRoll_1 ?_
  refine lv_aload_n hx hb dX10_makeRoll_4 rfl (lv_at hl 0 rfl) ?_
  refine g_get (ci := 14) (v := .ref (ad 6 0)) (C := RX10) (T := TX10) (N := 8) hx hb hts (fun _ h => (List.mem_cons_of_mem _ (List.mem_append_left _ (List.mem_append_left _ (List.mem_append_left _ (List.mem_append_left _ (List.mem_append_left _ (List.mem_append_left _ (List.mem_append_left _ (List.mem_append_right _ h)))))))))) hown hK hH 0 0 (by decide) Nat.zero_lt_one rfl rfl 3 (by decide) (hts (.fieldLink RX10 29 "BallotFoundry" "stations" "LBallotFoundry$Stations;") (List.mem_of_getElem? (i := 2) rfl)) (fun _ h => h) rfl dX10_makeRoll_5 ?_
  refine g_getN (ci := 11) (v := .int (F 6 0 2)) (C := RX7) (T := TX7) (N := 3) hx hb hts (fun _ h => (List.mem_cons_of_mem _ (List.mem_append_left _ (List.mem_append_left _ (List.mem_append_left _ (List.mem_append_left _ (List.mem_append_left _ (List.mem_append_left _ (List.mem_append_right _ h))))))))) hown hK hH 6 0 (by decide) Nat.zero_lt_one rfl rfl 2 (by decide) (va_Nw.use rfl (hG.1 ("BallotFoundry", 85, "BallotFoundry$Stations", "size", "I", "BallotFoundry") (List.mem_of_getElem? (i := 2) rfl))) (fun _ h => h) rfl dX10_makeRoll_8 ?_
  refine g_putN (ci := 6) (v := .int (F 6 0 2)) (C := RX2) (T := TX2) (N := 10) hx hb hts (fun _ h => (List.mem_cons_of_mem _ (List.mem_append_left _ (List.mem_append_left _ (List.mem_append_left _ (List.mem_append_left _ (List.mem_append_left _ (List.mem_append_right _ h)))))))) tyX2 tyX2_ok nmX2 hown hK hH hS 10 0 (by decide) Nat.zero_lt_one (by decide) rfl rfl 4 (by decide) (va_Nw.use rfl (hG.1 ("BallotFoundry", 246, "BallotFoundry$Election", "stationsOfIt", "I", "BallotFoundry") (List.mem_of_getElem? (i := 20) rfl))) (fun _ h => h) rfl (ty := .int) (by decide +kernel) rfl rfl (Nat.le_of_ble_eq_true rfl) (F 6 0 2) rfl dX10_makeRoll_11 (fun H locs hH hS => ?_)
  obtain ⟨F1, eF1⟩ : ∃ z, z = fs F 10 0 4 (F 6 0 2) := ⟨_, rfl⟩
  have q := q F1 eF1
  rw [← eF1] at hH
  refine lv_aload_n hx hb dX10_makeRoll_14 rfl (lv_at hl 0 rfl) ?_
  refine g_get (ci := 14) (v := .ref (ad 10 0)) (C := RX10) (T := TX10) (N := 8) hx hb hts (fun _ h => (List.mem_cons_of_mem _ (List.mem_append_left _ (List.mem_append_left _ (List.mem_append_left _ (List.mem_append_left _ (List.mem_append_left _ (List.mem_append_left _ (List.mem_append_left _ (List.mem_append_right _ h)))))))))) hown hK hH 0 0 (by decide) Nat.zero_lt_one rfl rfl 6 (by decide) (hts (.fieldLink RX10 43 "BallotFoundry" "election" "LBallotFoundry$Election;") (List.mem_of_getElem? (i := 1) rfl)) (fun _ h => h) rfl dX10_makeRoll_15 ?_
  refine g_getN (ci := 6) (v := .int (F1 10 0 1)) (C := RX2) (T := TX2) (N := 10) hx hb hts (fun _ h => (List.mem_cons_of_mem _ (List.mem_append_left _ (List.mem_append_left _ (List.mem_append_left _ (List.mem_append_left _ (List.mem_append_left _ (List.mem_append_right _ h)))))))) hown hK hH 10 0 (by decide) Nat.zero_lt_one rfl rfl 1 (by decide) (va_Nw.use rfl (hG.1 ("BallotFoundry", 148, "BallotFoundry$Election", "day", "I", "BallotFoundry") (List.mem_of_getElem? (i := 17) rfl))) (fun _ h => h) rfl dX10_makeRoll_18 ?_
  refine lv_bipush (v := 7) hx hb dX10_makeRoll_21 (by decide) ?_
  refine lv_isub hx hb dX10_makeRoll_23 ?_
  refine lv_istore_n (lv' := [(1, .int ((F1 10 0 1) - 7)), (0, .ref (ad 0 0))]) hx hb dX10_makeRoll_24 rfl hl (by decide) rfl (fun ls hl => ?_)
  refine lv_iconst (v := 0) hx hb dX10_makeRoll_25 (by decide) ?_
  refine lv_istore_n (lv' := [(2, .int 0), (1, .int ((F1 10 0 1) - 7)), (0, .ref (ad 0 0))]) hx hb dX10_makeRoll_26 rfl hl (by decide) rfl (fun ls hl => ?_)
  obtain ⟨nn, q⟩ := q
  exact t_27 nn F1 ((F1 10 0 1) - 7) 0 _ _ _ hH hS (lv_sub hl [2, 1, 0] rfl) q
abbrev rm_X5_stationFor : Room := { frames := 0, cells := 0, slots := 0, locals := 0 }
abbrev q_X5_stationFor (G : GP) (ad : Nat → Nat → Nat) (K : Int32 → GF → Prop) (below : List Frame) (args : Array Value) (s : State) : State → Prop := MQ below (gQi G ad K) args s 0 0 (gA G)
set_option maxHeartbeats 4000000 in
set_option maxRecDepth 100000 in
theorem c_X5_stationFor (l : Launch) (G : GP) (ad : Nat → Nat → Nat) (F : GF) (p1 : Int32) (K : Int32 → GF → Prop) : Met l yX5_stationFor wsX5_stationFor rm_X5_stationFor (va_Pc [.ref (ad 12 0), .int p1] (fun U => gD G ad F U ∧ P_X5_stationFor F p1 K)) (gQi G ad K) 0 0 (gA G) := by
  refine Met.ofW (cc := cX5_stationFor) (maxL := 2) (ret := (some .int)) (by decide) rfl ?_
  intro p e s m args below meth c s₁ Bd hml hv
  obtain ⟨rfl, ⟨hK, hG, hB, hH⟩, q⟩ := hv
  have hx := Bd.exec
  have hb := Bd.bytes
  have hr := Bd.returns
  have hts := atoms_spec (ws := wsX5_stationFor) Bd.pre
  have hown : s.vm.findClass RX5 = some m.cls := findClass_of_methodNamed Bd.named
  have hlocks := Bd.notSynchronized
  have hS : va_S (gA G) s.heap s.heap [] := va_S.rf
  have hl := lv_entry [.ref (ad 12 0), .int p1] (n := 2) (Nat.le_of_ble_eq_true rfl)
  rw [lg_entry_eq]
  generalize (lg_sl [.ref (ad 12 0), .int p1] ++ List.replicate (2 - (lg_sl [.ref (ad 12 0), .int p1]).length) Slot.unset).toArray = ls at hl ⊢
  have hl : lv_has ls 2 [(0, .ref (ad 12 0)), (1, .int p1)] := hl
  unfold P_X5_stationFor at q
  refine lv_iload_n hx hb dX5_stationFor_0 rfl (lv_at hl 1 rfl) ?_
  refine lv_if_lt (tgt := 10) hx hb dX5_stationFor_1 (by decide) (fun c1 => ?_) (fun c1 => ?_)
  · have q := (if_pos c1).mp q
    refine lv_iconst (v := (-1)) hx hb dX5_stationFor_10 (by decide) ?_
    exact (W.iret (v := (-1)) hx hb hr (fun t ht hW => ⟨⟨(-1), F, rfl, q, gH_at ht hH⟩, hS.F ht⟩) hS.2.2 dX5_stationFor_11)
  · have q := (if_neg c1).mp q
    refine lv_iload_n hx hb dX5_stationFor_4 rfl (lv_at hl 1 rfl) ?_
    refine lv_bipush (v := 20) hx hb dX5_stationFor_5 (by decide) ?_
    refine lv_icmp_lt (tgt := 12) hx hb dX5_stationFor_7 (by decide) (fun c2 => ?_) (fun c2 => ?_)
    · have q := (if_pos c2).mp q
      refine lv_aload_n hx hb dX5_stationFor_12 rfl (lv_at hl 0 rfl) ?_
      refine g_get (ci := 9) (v := .ref (ad 13 0)) (C := RX5) (T := TX5) (N := 3) hx hb hts (fun _ h => (List.mem_cons_of_mem _ (List.mem_append_left _ (List.mem_append_right _ h)))) hown hK hH 12 0 (by decide) Nat.zero_lt_one rfl rfl 0 (by decide) (hts (.fieldLink RX5 9 "BallotFoundry$Roll" "stationsOfPeople" "[I") (List.mem_of_getElem? (i := 1) rfl)) (fun _ h => h) rfl dX5_stationFor_13 ?_
      refine lv_iload_n hx hb dX5_stationFor_16 rfl (lv_at hl 1 rfl) ?_
      obtain ⟨h3, q⟩ := q
      refine g_iald hx hb hK hH 13 0 (by decide) Nat.zero_lt_one 20 rfl h3 dX5_stationFor_17 ?_
      exact (W.iret (v := (F 13 0 p1.toNatClampNeg)) hx hb hr (fun t ht hW => ⟨⟨(F 13 0 p1.toNatClampNeg), F, rfl, q, gH_at ht hH⟩, hS.F ht⟩) hS.2.2 dX5_stationFor_18)
    · have q := (if_neg c2).mp q
      refine lv_iconst (v := (-1)) hx hb dX5_stationFor_10 (by decide) ?_
      exact (W.iret (v := (-1)) hx hb hr (fun t ht hW => ⟨⟨(-1), F, rfl, q, gH_at ht hH⟩, hS.F ht⟩) hS.2.2 dX5_stationFor_11)
abbrev rm_X1_put : Room := { frames := 0, cells := 0, slots := 0, locals := 0 }
abbrev q_X1_put (G : GP) (ad : Nat → Nat → Nat) (K : GF → Prop) (below : List Frame) (args : Array Value) (s : State) : State → Prop := MQ below (gQv G ad K) args s 0 0 (gA G)
set_option maxHeartbeats 4000000 in
set_option maxRecDepth 100000 in
theorem c_X1_put (l : Launch) (G : GP) (ad : Nat → Nat → Nat) (F : GF) (i0 : Nat) (p1 : Int32) (hi0 : i0 < 5) (K : GF → Prop) : Met l yX1_put wsX1_put rm_X1_put (va_Pc [.ref (ad 28 i0), .int p1] (fun U => gD G ad F U ∧ P_X1_put F i0 p1 K)) (gQv G ad K) 0 0 (gA G) := by
  refine Met.ofW (cc := cX1_put) (maxL := 2) (ret := none) (by decide) rfl ?_
  intro p e s m args below meth c s₁ Bd hml hv
  obtain ⟨rfl, ⟨hK, hG, hB, hH⟩, q⟩ := hv
  have hx := Bd.exec
  have hb := Bd.bytes
  have hr := Bd.returns
  have hts := atoms_spec (ws := wsX1_put) Bd.pre
  have hown : s.vm.findClass RX1 = some m.cls := findClass_of_methodNamed Bd.named
  have hlocks := Bd.notSynchronized
  have hS : va_S (gA G) s.heap s.heap [] := va_S.rf
  have hl := lv_entry [.ref (ad 28 i0), .int p1] (n := 2) (Nat.le_of_ble_eq_true rfl)
  rw [lg_entry_eq]
  generalize (lg_sl [.ref (ad 28 i0), .int p1] ++ List.replicate (2 - (lg_sl [.ref (ad 28 i0), .int p1]).length) Slot.unset).toArray = ls at hl ⊢
  have hl : lv_has ls 2 [(0, .ref (ad 28 i0)), (1, .int p1)] := hl
  unfold P_X1_put at q
  refine lv_aload_n hx hb dX1_put_0 rfl (lv_at hl 0 rfl) ?_
  refine g_get (ci := 5) (v := .int (F 28 i0 1)) (C := RX1) (T := TX1) (N := 6) hx hb hts (fun _ h => (List.mem_cons_of_mem _ (List.mem_append_left _ (List.mem_append_right _ h)))) hown hK hH 28 i0 (by decide) hi0 rfl rfl 1 (by decide) (hts (.fieldLink RX1 15 "BallotFoundry$Box" "size" "I") (List.mem_of_getElem? (i := 1) rfl)) (fun _ h => h) rfl dX1_put_1 ?_
  refine lv_bipush (v := 20) hx hb dX1_put_4 (by decide) ?_
  refine lv_icmp_ge (tgt := 29) hx hb dX1_put_6 (by decide) (fun c1 => ?_) (fun c1 => ?_)
  · have q := (if_pos c1).mp q
    exact (W.vret hx hb hr (fun t ht hW => ⟨⟨F, rfl, q, gH_at ht hH⟩, hS.F ht⟩) hS.2.2 dX1_put_29)
  · have q := (if_neg c1).mp q
    refine lv_aload_n hx hb dX1_put_9 rfl (lv_at hl 0 rfl) ?_
    refine g_get (ci := 5) (v := .ref (ad 29 i0)) (C := RX1) (T := TX1) (N := 6) hx hb hts (fun _ h => (List.mem_cons_of_mem _ (List.mem_append_left _ (List.mem_append_right _ h)))) hown hK hH 28 i0 (by decide) hi0 rfl rfl 0 (by decide) (hts (.fieldLink RX1 9 "BallotFoundry$Box" "ballots" "[I") (List.mem_of_getElem? (i := 2) rfl)) (fun _ h => h) rfl dX1_put_10 ?_
    refine lv_aload_n hx hb dX1_put_13 rfl (lv_at hl 0 rfl) ?_
    refine g_get (ci := 5) (v := .int (F 28 i0 1)) (C := RX1) (T := TX1) (N := 6) hx hb hts (fun _ h => (List.mem_cons_of_mem _ (List.mem_append_left _ (List.mem_append_right _ h)))) hown hK hH 28 i0 (by decide) hi0 rfl rfl 1 (by decide) (hts (.fieldLink RX1 15 "BallotFoundry$Box" "size" "I") (List.mem_of_getElem? (i := 1) rfl)) (fun _ h => h) rfl dX1_put_14 ?_
    refine lv_iload_n hx hb dX1_put_17 rfl (lv_at hl 1 rfl) ?_
    obtain ⟨h2, q⟩ := q
    refine g_iast hx hb hK hH hS 29 i0 (by decide) hi0 (by decide) 20 (fun _ => rfl) h2 dX1_put_18 (fun H locs hH hS => ?_)
    obtain ⟨F3, eF3⟩ : ∃ z, z = fs F 29 i0 (F 28 i0 1).toNatClampNeg p1 := ⟨_, rfl⟩
    have q := q F3 eF3
    rw [← eF3] at hH
    refine lv_aload_n hx hb dX1_put_19 rfl (lv_at hl 0 rfl) ?_
    refine lv_dup hx hb dX1_put_20 rfl ?_
    refine g_get (ci := 5) (v := .int (F3 28 i0 1)) (C := RX1) (T := TX1) (N := 6) hx hb hts (fun _ h => (List.mem_cons_of_mem _ (List.mem_append_left _ (List.mem_append_right _ h)))) hown hK hH 28 i0 (by decide) hi0 rfl rfl 1 (by decide) (hts (.fieldLink RX1 15 "BallotFoundry$Box" "size" "I") (List.mem_of_getElem? (i := 1) rfl)) (fun _ h => h) rfl dX1_put_21 ?_
    refine lv_iconst (v := 1) hx hb dX1_put_24 (by decide) ?_
    refine lv_iadd hx hb dX1_put_25 ?_
    refine g_put (ci := 5) (v := .int ((F3 28 i0 1) + 1)) (C := RX1) (T := TX1) (N := 6) hx hb hts (fun _ h => (List.mem_cons_of_mem _ (List.mem_append_left _ (List.mem_append_right _ h)))) tyX1 tyX1_ok nmX1 hown hK hH hS 28 i0 (by decide) hi0 (by decide) rfl rfl 1 (by decide) (hts (.fieldLink RX1 15 "BallotFoundry$Box" "size" "I") (List.mem_of_getElem? (i := 1) rfl)) (fun _ h => h) rfl (ty := .int) (by decide +kernel) rfl rfl (Nat.le_of_ble_eq_true rfl) ((F3 28 i0 1) + 1) rfl dX1_put_26 (fun H locs hH hS => ?_)
    obtain ⟨F4, eF4⟩ : ∃ z, z = fs F3 28 i0 1 ((F3 28 i0 1) + 1) := ⟨_, rfl⟩
    have q := q F4 eF4
    rw [← eF4] at hH
    exact (W.vret hx hb hr (fun t ht hW => ⟨⟨F4, rfl, q, gH_at ht hH⟩, hS.F ht⟩) hS.2.2 dX1_put_29)
abbrev rm_X2_castFor : Room := { frames := 1, cells := 0, slots := 0, locals := 21 }
abbrev q_X2_castFor (G : GP) (ad : Nat → Nat → Nat) (K : GF → Prop) (below : List Frame) (args : Array Value) (s : State) : State → Prop := MQ below (gQv G ad K) args s 0 0 (gA G)
set_option maxHeartbeats 4000000 in
set_option maxRecDepth 100000 in
theorem c_X2_castFor (l : Launch) (G : GP) (ad : Nat → Nat → Nat) (F : GF) (p1 : Int32) (p2 : Int32) (K : GF → Prop) : Met l yX2_castFor wsX2_castFor rm_X2_castFor (va_Pc [.ref (ad 10 0), .int p1, .int p2] (fun U => gD G ad F U ∧ P_X2_castFor F p1 p2 K)) (gQv G ad K) 0 0 (gA G) := by
  refine Met.ofW (cc := cX2_castFor) (maxL := 4) (ret := none) (by decide) rfl ?_
  intro p e s m args below meth c s₁ Bd hml hv
  obtain ⟨rfl, ⟨hK, hG, hB, hH⟩, q⟩ := hv
  have hx := Bd.exec
  have hb := Bd.bytes
  have hr := Bd.returns
  have hts := atoms_spec (ws := wsX2_castFor) Bd.pre
  have hown : s.vm.findClass RX2 = some m.cls := findClass_of_methodNamed Bd.named
  have hlocks := Bd.notSynchronized
  have hS : va_S (gA G) s.heap s.heap [] := va_S.rf
  have hl := lv_entry [.ref (ad 10 0), .int p1, .int p2] (n := 4) (Nat.le_of_ble_eq_true rfl)
  rw [lg_entry_eq]
  generalize (lg_sl [.ref (ad 10 0), .int p1, .int p2] ++ List.replicate (4 - (lg_sl [.ref (ad 10 0), .int p1, .int p2]).length) Slot.unset).toArray = ls at hl ⊢
  have hl : lv_has ls 4 [(0, .ref (ad 10 0)), (1, .int p1), (2, .int p2)] := hl
  unfold P_X2_castFor at q
  refine lv_aload_n hx hb dX2_castFor_0 rfl (lv_at hl 0 rfl) ?_
  refine g_get (ci := 6) (v := .ref (ad 12 0)) (C := RX2) (T := TX2) (N := 10) hx hb hts (fun _ h => (List.mem_cons_of_mem _ (List.mem_append_left _ (List.mem_append_left _ (List.mem_append_left _ (List.mem_append_right _ h)))))) hown hK hH 10 0 (by decide) Nat.zero_lt_one rfl rfl 6 (by decide) (hts (.fieldLink RX2 35 "BallotFoundry$Election" "roll" "LBallotFoundry$Roll;") (List.mem_of_getElem? (i := 1) rfl)) (fun _ h => h) rfl dX2_castFor_1 ?_
  refine lv_iload_n hx hb dX2_castFor_4 rfl (lv_at hl 1 rfl) ?_
  refine va_calli (va_runV (As := [.int p1]) (rest := []) ⟨hx, hb, hml, hown, hts⟩ (c_X5_stationFor l G ad F p1 _) (cwV 1 hts gX2_castFor_X5_stationFor rfl rfl rfl (by decide +kernel) ⟨Nat.le_of_ble_eq_true rfl, Nat.le_of_ble_eq_true rfl⟩) ⟨fun a U g mk h => ⟨h.1, gD_blind h.2.1, h.2.2⟩, g_recv (C := RX5) (T := TX5) (N := 3) hK hH 12 0 (by decide) Nat.zero_lt_one rfl rfl, fun U hU hW => ⟨rfl, gD_at hK hG hB hH hS hU hW, q⟩⟩ rfl rfl hl.1 rfl (lv_room (Nat.le_of_ble_eq_true rfl)) dX2_castFor_5 ⟨Nat.le_of_ble_eq_true rfl, Nat.le_of_ble_eq_true rfl⟩) hS (fun _ _ h => h) (fun _ h => h) (fun r1 F2 t H locs ht hvm q hB1 hz hk hS => ?_)
  have hH : gH G ad F2 H := gH_to ht hB1
  refine lv_istore_n (lv' := [(3, .int r1), (0, .ref (ad 10 0)), (1, .int p1), (2, .int p2)]) hx hb dX2_castFor_8 rfl hl (by decide) rfl (fun ls hl => ?_)
  refine lv_iload_n hx hb dX2_castFor_9 rfl (lv_at hl 0 rfl) ?_
  refine lv_if_lt (tgt := 18) hx hb dX2_castFor_10 (by decide) (fun c3 => ?_) (fun c3 => ?_)
  · have q := (if_pos c3).mp q
    exact (W.vret hx hb hr (fun t ht hW => ⟨⟨F2, rfl, q, gH_at ht hH⟩, hS.F ht⟩) hS.2.2 dX2_castFor_18)
  · have q := (if_neg c3).mp q
    refine lv_iload_n hx hb dX2_castFor_13 rfl (lv_at hl 0 rfl) ?_
    refine lv_iconst (v := 5) hx hb dX2_castFor_14 (by decide) ?_
    refine lv_icmp_lt (tgt := 19) hx hb dX2_castFor_15 (by decide) (fun c4 => ?_) (fun c4 => ?_)
    · have q := (if_pos c4).mp q
      refine lv_aload_n hx hb dX2_castFor_19 rfl (lv_at hl 1 rfl) ?_
      refine g_get (ci := 6) (v := .ref (ad 20 0)) (C := RX2) (T := TX2) (N := 10) hx hb hts (fun _ h => (List.mem_cons_of_mem _ (List.mem_append_left _ (List.mem_append_left _ (List.mem_append_left _ (List.mem_append_right _ h)))))) hown hK hH 10 0 (by decide) Nat.zero_lt_one rfl rfl 8 (by decide) (hts (.fieldLink RX2 48 "BallotFoundry$Election" "boxes" "[LBallotFoundry$Box;") (List.mem_of_getElem? (i := 2) rfl)) (fun _ h => h) rfl dX2_castFor_20 ?_
      refine lv_iload_n hx hb dX2_castFor_23 rfl (lv_at hl 0 rfl) ?_
      obtain ⟨h5, q⟩ := q
      refine g_aald (a := ad 28 (r1.toNatClampNeg)) hx hb hK hH 20 0 (by decide) Nat.zero_lt_one 4 5 rfl rfl h5 rfl dX2_castFor_24 ?_
      refine lv_iload_n hx hb dX2_castFor_25 rfl (lv_at hl 3 rfl) ?_
      refine va_callv (va_runV (As := [.int p2]) (rest := []) ⟨hx, hb, hml, hown, hts⟩ (c_X1_put l G ad F2 r1.toNatClampNeg p2 (gin h5) _) (cwV 1 hts gX2_castFor_X1_put rfl rfl rfl (by decide +kernel) ⟨Nat.le_of_ble_eq_true rfl, Nat.le_of_ble_eq_true rfl⟩) ⟨fun a U g mk h => ⟨h.1, gD_blind h.2.1, h.2.2⟩, g_recv (C := RX1) (T := TX1) (N := 6) hK hH 28 r1.toNatClampNeg (by decide) (gin h5) rfl rfl, fun U hU hW => ⟨rfl, gD_at hK hG hB hH hS hU hW, q⟩⟩ rfl rfl hl.1 rfl (lv_room (Nat.le_of_ble_eq_true rfl)) dX2_castFor_26 ⟨Nat.le_of_ble_eq_true rfl, Nat.le_of_ble_eq_true rfl⟩) hS (fun _ _ h => h) (fun _ h => h) (fun F7 t H locs ht hvm q hB1 hz hk hS => ?_)
      have hH : gH G ad F7 H := gH_to ht hB1
      refine lv_aload_n hx hb dX2_castFor_29 rfl (lv_at hl 1 rfl) ?_
      refine g_get (ci := 6) (v := .ref (ad 12 0)) (C := RX2) (T := TX2) (N := 10) hx hb hts (fun _ h => (List.mem_cons_of_mem _ (List.mem_append_left _ (List.mem_append_left _ (List.mem_append_left _ (List.mem_append_right _ h)))))) hown hK hH 10 0 (by decide) Nat.zero_lt_one rfl rfl 6 (by decide) (hts (.fieldLink RX2 35 "BallotFoundry$Election" "roll" "LBallotFoundry$Roll;") (List.mem_of_getElem? (i := 1) rfl)) (fun _ h => h) rfl dX2_castFor_30 ?_
      refine g_getN (ci := 9) (v := .ref (ad 15 0)) (C := RX5) (T := TX5) (N := 3) hx hb hts (fun _ h => (List.mem_cons_of_mem _ (List.mem_append_left _ (List.mem_append_left _ (List.mem_append_right _ h))))) hown hK hH 12 0 (by decide) Nat.zero_lt_one rfl rfl 2 (by decide) (va_Nw.use rfl (hG.1 ("BallotFoundry$Election", 82, "BallotFoundry$Roll", "hasVoted", "[Z", "BallotFoundry") (List.mem_of_getElem? (i := 3) rfl))) (fun _ h => h) rfl dX2_castFor_33 ?_
      refine lv_iload_n hx hb dX2_castFor_36 rfl (lv_at hl 2 rfl) ?_
      refine lv_iconst (v := 1) hx hb dX2_castFor_37 (by decide) ?_
      obtain ⟨h8, q⟩ := q
      refine g_zast hx hb hK hH hS 15 0 (by decide) Nat.zero_lt_one (by decide) 20 (fun _ => rfl) h8 dX2_castFor_38 (fun H locs hH hS => ?_)
      rw [gz_vp (by decide)] at hH
      obtain ⟨F9, eF9⟩ : ∃ z, z = fs F7 15 0 p1.toNatClampNeg 1 := ⟨_, rfl⟩
      have q := q F9 eF9
      rw [← eF9] at hH
      exact (W.vret hx hb hr (fun t ht hW => ⟨⟨F9, rfl, q, gH_at ht hH⟩, hS.F ht⟩) hS.2.2 dX2_castFor_39)
    · have q := (if_neg c4).mp q
      exact (W.vret hx hb hr (fun t ht hW => ⟨⟨F2, rfl, q, gH_at ht hH⟩, hS.F ht⟩) hS.2.2 dX2_castFor_18)
abbrev rm_X2_openEnvelope : Room := { frames := 2, cells := 0, slots := 0, locals := 44 }
abbrev q_X2_openEnvelope (G : GP) (ad : Nat → Nat → Nat) (K : GF → Prop) (below : List Frame) (args : Array Value) (s : State) : State → Prop := MQ below (gQv G ad K) args s 0 0 (gA G)
set_option maxHeartbeats 4000000 in
set_option maxRecDepth 100000 in
theorem c_X2_openEnvelope (l : Launch) (G : GP) (ad : Nat → Nat → Nat) (F : GF) (p1 : Int32) (p2 : Int32) (K : GF → Prop) : Met l yX2_openEnvelope wsX2_openEnvelope rm_X2_openEnvelope (va_Pc [.ref (ad 10 0), .int p1, .int p2] (fun U => gD G ad F U ∧ P_X2_openEnvelope F p1 p2 K)) (gQv G ad K) 0 0 (gA G) := by
  refine Met.ofW (cc := cX2_openEnvelope) (maxL := 4) (ret := none) (by decide) rfl ?_
  intro p e s m args below meth c s₁ Bd hml hv
  obtain ⟨rfl, ⟨hK, hG, hB, hH⟩, q⟩ := hv
  have hx := Bd.exec
  have hb := Bd.bytes
  have hr := Bd.returns
  have hts := atoms_spec (ws := wsX2_openEnvelope) Bd.pre
  have hown : s.vm.findClass RX2 = some m.cls := findClass_of_methodNamed Bd.named
  have hlocks := Bd.notSynchronized
  have hS : va_S (gA G) s.heap s.heap [] := va_S.rf
  have hl := lv_entry [.ref (ad 10 0), .int p1, .int p2] (n := 4) (Nat.le_of_ble_eq_true rfl)
  rw [lg_entry_eq]
  generalize (lg_sl [.ref (ad 10 0), .int p1, .int p2] ++ List.replicate (4 - (lg_sl [.ref (ad 10 0), .int p1, .int p2]).length) Slot.unset).toArray = ls at hl ⊢
  have hl : lv_has ls 4 [(0, .ref (ad 10 0)), (1, .int p1), (2, .int p2)] := hl
  unfold P_X2_openEnvelope at q
  refine lv_iload_n hx hb dX2_openEnvelope_0 rfl (lv_at hl 1 rfl) ?_
  refine lv_if_lt (tgt := 15) hx hb dX2_openEnvelope_1 (by decide) (fun c1 => ?_) (fun c1 => ?_)
  · have q := (if_pos c1).mp q
    exact (W.vret hx hb hr (fun t ht hW => ⟨⟨F, rfl, q, gH_at ht hH⟩, hS.F ht⟩) hS.2.2 dX2_openEnvelope_15)
  · have q := (if_neg c1).mp q
    refine lv_iload_n hx hb dX2_openEnvelope_4 rfl (lv_at hl 1 rfl) ?_
    refine lv_aload_n hx hb dX2_openEnvelope_5 rfl (lv_at hl 0 rfl) ?_
    refine g_get (ci := 6) (v := .ref (ad 16 0)) (C := RX2) (T := TX2) (N := 10) hx hb hts (fun _ h => (List.mem_cons_of_mem _ (List.mem_append_left _ (List.mem_append_left _ (List.mem_append_left _ (List.mem_append_left _ (List.mem_append_left _ (List.mem_append_right _ h)))))))) hown hK hH 10 0 (by decide) Nat.zero_lt_one rfl rfl 7 (by decide) (hts (.fieldLink RX2 42 "BallotFoundry$Election" "envelopes" "LBallotFoundry$Envelopes;") (List.mem_of_getElem? (i := 1) rfl)) (fun _ h => h) rfl dX2_openEnvelope_6 ?_
    refine g_getN (ci := 7) (v := .int (F 16 0 3)) (C := RX3) (T := TX3) (N := 4) hx hb hts (fun _ h => (List.mem_cons_of_mem _ (List.mem_append_left _ (List.mem_append_left _ (List.mem_append_left _ (List.mem_append_left _ (List.mem_append_right _ h))))))) hown hK hH 16 0 (by decide) Nat.zero_lt_one rfl rfl 3 (by decide) (va_Nw.use rfl (hG.1 ("BallotFoundry$Election", 69, "BallotFoundry$Envelopes", "size", "I", "BallotFoundry") (List.mem_of_getElem? (i := 10) rfl))) (fun _ h => h) rfl dX2_openEnvelope_9 ?_
    refine lv_icmp_lt (tgt := 16) hx hb dX2_openEnvelope_12 (by decide) (fun c2 => ?_) (fun c2 => ?_)
    · have q := (if_pos c2).mp q
      refine lv_aload_n hx hb dX2_openEnvelope_16 rfl (lv_at hl 0 rfl) ?_
      refine g_get (ci := 6) (v := .ref (ad 16 0)) (C := RX2) (T := TX2) (N := 10) hx hb hts (fun _ h => (List.mem_cons_of_mem _ (List.mem_append_left _ (List.mem_append_left _ (List.mem_append_left _ (List.mem_append_left _ (List.mem_append_left _ (List.mem_append_right _ h)))))))) hown hK hH 10 0 (by decide) Nat.zero_lt_one rfl rfl 7 (by decide) (hts (.fieldLink RX2 42 "BallotFoundry$Election" "envelopes" "LBallotFoundry$Envelopes;") (List.mem_of_getElem? (i := 1) rfl)) (fun _ h => h) rfl dX2_openEnvelope_17 ?_
      refine g_getN (ci := 7) (v := .ref (ad 17 0)) (C := RX3) (T := TX3) (N := 4) hx hb hts (fun _ h => (List.mem_cons_of_mem _ (List.mem_append_left _ (List.mem_append_left _ (List.mem_append_left _ (List.mem_append_left _ (List.mem_append_right _ h))))))) hown hK hH 16 0 (by decide) Nat.zero_lt_one rfl rfl 0 (by decide) (va_Nw.use rfl (hG.1 ("BallotFoundry$Election", 86, "BallotFoundry$Envelopes", "people", "[I", "BallotFoundry") (List.mem_of_getElem? (i := 5) rfl))) (fun _ h => h) rfl dX2_openEnvelope_20 ?_
      refine lv_iload_n hx hb dX2_openEnvelope_23 rfl (lv_at hl 1 rfl) ?_
      obtain ⟨h3, q⟩ := q
      refine g_iald hx hb hK hH 17 0 (by decide) Nat.zero_lt_one 60 rfl h3 dX2_openEnvelope_24 ?_
      refine lv_istore_n (lv' := [(3, .int (F 17 0 p1.toNatClampNeg)), (0, .ref (ad 10 0)), (1, .int p1), (2, .int p2)]) hx hb dX2_openEnvelope_25 rfl hl (by decide) rfl (fun ls hl => ?_)
      refine lv_aload_n hx hb dX2_openEnvelope_26 rfl (lv_at hl 1 rfl) ?_
      refine g_get (ci := 6) (v := .ref (ad 16 0)) (C := RX2) (T := TX2) (N := 10) hx hb hts (fun _ h => (List.mem_cons_of_mem _ (List.mem_append_left _ (List.mem_append_left _ (List.mem_append_left _ (List.mem_append_left _ (List.mem_append_left _ (List.mem_append_right _ h)))))))) hown hK hH 10 0 (by decide) Nat.zero_lt_one rfl rfl 7 (by decide) (hts (.fieldLink RX2 42 "BallotFoundry$Election" "envelopes" "LBallotFoundry$Envelopes;") (List.mem_of_getElem? (i := 1) rfl)) (fun _ h => h) rfl dX2_openEnvelope_27 ?_
      refine g_getN (ci := 7) (v := .ref (ad 19 0)) (C := RX3) (T := TX3) (N := 4) hx hb hts (fun _ h => (List.mem_cons_of_mem _ (List.mem_append_left _ (List.mem_append_left _ (List.mem_append_left _ (List.mem_append_left _ (List.mem_append_right _ h))))))) hown hK hH 16 0 (by decide) Nat.zero_lt_one rfl rfl 2 (by decide) (va_Nw.use rfl (hG.1 ("BallotFoundry$Election", 89, "BallotFoundry$Envelopes", "states", "[I", "BallotFoundry") (List.mem_of_getElem? (i := 8) rfl))) (fun _ h => h) rfl dX2_openEnvelope_30 ?_
      refine lv_iload_n hx hb dX2_openEnvelope_33 rfl (lv_at hl 2 rfl) ?_
      refine lv_iconst (v := 2) hx hb dX2_openEnvelope_34 (by decide) ?_
      obtain ⟨h4, q⟩ := q
      refine g_iast hx hb hK hH hS 19 0 (by decide) Nat.zero_lt_one (by decide) 60 (fun _ => rfl) h4 dX2_openEnvelope_35 (fun H locs hH hS => ?_)
      obtain ⟨F5, eF5⟩ : ∃ z, z = fs F 19 0 p1.toNatClampNeg 2 := ⟨_, rfl⟩
      have q := q F5 eF5
      rw [← eF5] at hH
      refine lv_aload_n hx hb dX2_openEnvelope_36 rfl (lv_at hl 1 rfl) ?_
      refine g_get (ci := 6) (v := .ref (ad 21 0)) (C := RX2) (T := TX2) (N := 10) hx hb hts (fun _ h => (List.mem_cons_of_mem _ (List.mem_append_left _ (List.mem_append_left _ (List.mem_append_left _ (List.mem_append_left _ (List.mem_append_left _ (List.mem_append_right _ h)))))))) hown hK hH 10 0 (by decide) Nat.zero_lt_one rfl rfl 9 (by decide) (hts (.fieldLink RX2 55 "BallotFoundry$Election" "book" "LBallotFoundry$Book;") (List.mem_of_getElem? (i := 2) rfl)) (fun _ h => h) rfl dX2_openEnvelope_37 ?_
      refine lv_aload_n hx hb dX2_openEnvelope_40 rfl (lv_at hl 1 rfl) ?_
      refine g_get (ci := 6) (v := .int (F5 10 0 1)) (C := RX2) (T := TX2) (N := 10) hx hb hts (fun _ h => (List.mem_cons_of_mem _ (List.mem_append_left _ (List.mem_append_left _ (List.mem_append_left _ (List.mem_append_left _ (List.mem_append_left _ (List.mem_append_right _ h)))))))) hown hK hH 10 0 (by decide) Nat.zero_lt_one rfl rfl 1 (by decide) (hts (.fieldLink RX2 15 "BallotFoundry$Election" "day" "I") (List.mem_of_getElem? (i := 3) rfl)) (fun _ h => h) rfl dX2_openEnvelope_41 ?_
      refine lv_iload_n hx hb dX2_openEnvelope_44 rfl (lv_at hl 3 rfl) ?_
      refine lv_iload_n hx hb dX2_openEnvelope_45 rfl (lv_at hl 0 rfl) ?_
      refine va_callv (va_runV (As := [.int (F5 10 0 1), .int p2, .int (F 17 0 p1.toNatClampNeg)]) (rest := []) ⟨hx, hb, hml, hown, hts⟩ (c_X0_write l G ad F5 (F5 10 0 1) p2 (F 17 0 p1.toNatClampNeg) _) (cwV 3 hts gX2_openEnvelope_X0_write rfl rfl rfl (by decide +kernel) ⟨Nat.le_of_ble_eq_true rfl, Nat.le_of_ble_eq_true rfl⟩) ⟨fun a U g mk h => ⟨h.1, gD_blind h.2.1, h.2.2⟩, g_recv (C := RX0) (T := TX0) (N := 5) hK hH 21 0 (by decide) Nat.zero_lt_one rfl rfl, fun U hU hW => ⟨rfl, gD_at hK hG hB hH hS hU hW, q⟩⟩ rfl rfl hl.1 rfl (lv_room (Nat.le_of_ble_eq_true rfl)) dX2_openEnvelope_46 ⟨Nat.le_of_ble_eq_true rfl, Nat.le_of_ble_eq_true rfl⟩) hS (fun _ _ h => h) (fun _ h => h) (fun F7 t H locs ht hvm q hB1 hz hk hS => ?_)
      have hH : gH G ad F7 H := gH_to ht hB1
      refine lv_aload_n hx hb dX2_openEnvelope_49 rfl (lv_at hl 1 rfl) ?_
      refine lv_iload_n hx hb dX2_openEnvelope_50 rfl (lv_at hl 0 rfl) ?_
      refine lv_aload_n hx hb dX2_openEnvelope_51 rfl (lv_at hl 1 rfl) ?_
      refine g_get (ci := 6) (v := .ref (ad 16 0)) (C := RX2) (T := TX2) (N := 10) hx hb hts (fun _ h => (List.mem_cons_of_mem _ (List.mem_append_left _ (List.mem_append_left _ (List.mem_append_left _ (List.mem_append_left _ (List.mem_append_left _ (List.mem_append_right _ h)))))))) hown hK hH 10 0 (by decide) Nat.zero_lt_one rfl rfl 7 (by decide) (hts (.fieldLink RX2 42 "BallotFoundry$Election" "envelopes" "LBallotFoundry$Envelopes;") (List.mem_of_getElem? (i := 1) rfl)) (fun _ h => h) rfl dX2_openEnvelope_52 ?_
      refine g_getN (ci := 7) (v := .ref (ad 18 0)) (C := RX3) (T := TX3) (N := 4) hx hb hts (fun _ h => (List.mem_cons_of_mem _ (List.mem_append_left _ (List.mem_append_left _ (List.mem_append_left _ (List.mem_append_left _ (List.mem_append_right _ h))))))) hown hK hH 16 0 (by decide) Nat.zero_lt_one rfl rfl 1 (by decide) (va_Nw.use rfl (hG.1 ("BallotFoundry$Election", 96, "BallotFoundry$Envelopes", "ballots", "[I", "BallotFoundry") (List.mem_of_getElem? (i := 7) rfl))) (fun _ h => h) rfl dX2_openEnvelope_55 ?_
      refine lv_iload_n hx hb dX2_openEnvelope_58 rfl (lv_at hl 2 rfl) ?_
      obtain ⟨h8, q⟩ := q
      refine g_iald hx hb hK hH 18 0 (by decide) Nat.zero_lt_one 60 rfl h8 dX2_openEnvelope_59 ?_
      refine va_callv (va_runV (As := [.int (F 17 0 p1.toNatClampNeg), .int (F7 18 0 p1.toNatClampNeg)]) (rest := []) ⟨hx, hb, hml, hown, hts⟩ (c_X2_castFor l G ad F7 (F 17 0 p1.toNatClampNeg) (F7 18 0 p1.toNatClampNeg) _) (cwV 2 hts gX2_openEnvelope_X2_castFor rfl rfl rfl (by decide +kernel) ⟨Nat.le_of_ble_eq_true rfl, Nat.le_of_ble_eq_true rfl⟩) ⟨fun a U g mk h => ⟨h.1, gD_blind h.2.1, h.2.2⟩, g_recv (C := RX2) (T := TX2) (N := 10) hK hH 10 0 (by decide) Nat.zero_lt_one rfl rfl, fun U hU hW => ⟨rfl, gD_at hK hG hB hH hS hU hW, q⟩⟩ rfl rfl hl.1 rfl (lv_room (Nat.le_of_ble_eq_true rfl)) dX2_openEnvelope_60 ⟨Nat.le_of_ble_eq_true rfl, Nat.le_of_ble_eq_true rfl⟩) hS (fun _ _ h => h) (fun _ h => h) (fun F10 t H locs ht hvm q hB1 hz hk hS => ?_)
      have hH : gH G ad F10 H := gH_to ht hB1
      exact (W.vret hx hb hr (fun t ht hW => ⟨⟨F10, rfl, q, gH_at ht hH⟩, hS.F ht⟩) hS.2.2 dX2_openEnvelope_63)
    · have q := (if_neg c2).mp q
      exact (W.vret hx hb hr (fun t ht hW => ⟨⟨F, rfl, q, gH_at ht hH⟩, hS.F ht⟩) hS.2.2 dX2_openEnvelope_15)
abbrev rm_X2_openAllSealed : Room := { frames := 3, cells := 0, slots := 0, locals := 67 }
abbrev q_X2_openAllSealed (G : GP) (ad : Nat → Nat → Nat) (K : GF → Prop) (below : List Frame) (args : Array Value) (s : State) : State → Prop := MQ below (gQv G ad K) args s 0 0 (gA G)
set_option maxHeartbeats 4000000 in
set_option maxRecDepth 100000 in
theorem c_X2_openAllSealed (l : Launch) (G : GP) (ad : Nat → Nat → Nat) (F : GF) (K : GF → Prop) : Met l yX2_openAllSealed wsX2_openAllSealed rm_X2_openAllSealed (va_Pc [.ref (ad 10 0)] (fun U => gD G ad F U ∧ P_X2_openAllSealed F K)) (gQv G ad K) 0 0 (gA G) := by
  refine Met.ofW (cc := cX2_openAllSealed) (maxL := 2) (ret := none) (by decide) rfl ?_
  intro p e s m args below meth c s₁ Bd hml hv
  obtain ⟨rfl, ⟨hK, hG, hB, hH⟩, q⟩ := hv
  have hx := Bd.exec
  have hb := Bd.bytes
  have hr := Bd.returns
  have hts := atoms_spec (ws := wsX2_openAllSealed) Bd.pre
  have hown : s.vm.findClass RX2 = some m.cls := findClass_of_methodNamed Bd.named
  have hlocks := Bd.notSynchronized
  have hS : va_S (gA G) s.heap s.heap [] := va_S.rf
  have hl := lv_entry [.ref (ad 10 0)] (n := 2) (Nat.le_of_ble_eq_true rfl)
  rw [lg_entry_eq]
  generalize (lg_sl [.ref (ad 10 0)] ++ List.replicate (2 - (lg_sl [.ref (ad 10 0)]).length) Slot.unset).toArray = ls at hl ⊢
  have hl : lv_has ls 2 [(0, .ref (ad 10 0))] := hl
  show W p l e rm_X2_openAllSealed s m ([.ref (ad 10 0)] : List Value).toArray below meth c s.heap [] 0 0 (q_X2_openAllSealed G ad K below ([.ref (ad 10 0)] : List Value).toArray s) _
  have t_32 : ∀ (k2 : GF → Int32 → Prop), (∀ (F : GF) (x1 : Int32) (H : Heap) (locs : List Loc) (ls : Array Slot), gH G ad F H → va_S (gA G) s.heap H locs → lv_has ls 2 [(0, .ref (ad 10 0)), (1, .int x1)] → k2 F x1 → W p l e rm_X2_openAllSealed s m ([.ref (ad 10 0)] : List Value).toArray below meth c H locs 0 0 (q_X2_openAllSealed G ad K below ([.ref (ad 10 0)] : List Value).toArray s) (F0 m 2 ls [])) → ∀ (F : GF) (x1 : Int32) (H : Heap) (locs : List Loc) (ls : Array Slot), gH G ad F H → va_S (gA G) s.heap H locs → lv_has ls 2 [(0, .ref (ad 10 0)), (1, .int x1)] → (P_X2_openAllSealed_32 k2 K) F x1 → W p l e rm_X2_openAllSealed s m ([.ref (ad 10 0)] : List Value).toArray below meth c H locs 0 0 (q_X2_openAllSealed G ad K below ([.ref (ad 10 0)] : List Value).toArray s) (F0 m 32 ls []) := by
    intro k2 hk2 F x1 H locs ls hH hS hl q
    unfold P_X2_openAllSealed_32 at q
    refine lv_iinc (v := x1 + 1) (lv' := [(1, .int (x1 + 1)), (0, .ref (ad 10 0))]) hx hb dX2_openAllSealed_32 hl (k := 1) rfl rfl (by decide) rfl (fun ls hl => ?_)
    refine lv_goto (tgt := 2) hx hb dX2_openAllSealed_35 (by decide) ?_
    exact hk2 F (x1 + 1) _ _ _ hH hS (lv_sub hl [1, 0] rfl) q
  have t_2 : ∀ n : Nat, ∀ (F : GF) (x1 : Int32) (H : Heap) (locs : List Loc) (ls : Array Slot), gH G ad F H → va_S (gA G) s.heap H locs → lv_has ls 2 [(0, .ref (ad 10 0)), (1, .int x1)] → (P_X2_openAllSealed_2 K n) F x1 → W p l e rm_X2_openAllSealed s m ([.ref (ad 10 0)] : List Value).toArray below meth c H locs 0 0 (q_X2_openAllSealed G ad K below ([.ref (ad 10 0)] : List Value).toArray s) (F0 m 2 ls []) := by
    intro n
    induction n with
    | zero =>
      intro F x1 H locs ls hH hS hl q
      exact False.elim q
    | succ n ih =>
      intro F x1 H locs ls hH hS hl q
      rw [P_X2_openAllSealed_2] at q
      refine lv_iload_n hx hb dX2_openAllSealed_2 rfl (lv_at hl 1 rfl) ?_
      refine lv_aload_n hx hb dX2_openAllSealed_3 rfl (lv_at hl 0 rfl) ?_
      refine g_get (ci := 6) (v := .ref (ad 16 0)) (C := RX2) (T := TX2) (N := 10) hx hb hts (fun _ h => (List.mem_cons_of_mem _ (List.mem_append_left _ (List.mem_append_left _ (List.mem_append_left _ (List.mem_append_left _ (List.mem_append_left _ (List.mem_append_right _ h)))))))) hown hK hH 10 0 (by decide) Nat.zero_lt_one rfl rfl 7 (by decide) (hts (.fieldLink RX2 42 "BallotFoundry$Election" "envelopes" "LBallotFoundry$Envelopes;") (List.mem_of_getElem? (i := 1) rfl)) (fun _ h => h) rfl dX2_openAllSealed_4 ?_
      refine g_getN (ci := 7) (v := .int (F 16 0 3)) (C := RX3) (T := TX3) (N := 4) hx hb hts (fun _ h => (List.mem_cons_of_mem _ (List.mem_append_left _ (List.mem_append_left _ (List.mem_append_left _ (List.mem_append_left _ (List.mem_append_right _ h))))))) hown hK hH 16 0 (by decide) Nat.zero_lt_one rfl rfl 3 (by decide) (va_Nw.use rfl (hG.1 ("BallotFoundry$Election", 69, "BallotFoundry$Envelopes", "size", "I", "BallotFoundry") (List.mem_of_getElem? (i := 10) rfl))) (fun _ h => h) rfl dX2_openAllSealed_7 ?_
      refine lv_icmp_ge (tgt := 38) hx hb dX2_openAllSealed_10 (by decide) (fun c1 => ?_) (fun c1 => ?_)
      · have q := (if_pos c1).mp q
        exact (W.vret hx hb hr (fun t ht hW => ⟨⟨F, rfl, q, gH_at ht hH⟩, hS.F ht⟩) hS.2.2 dX2_openAllSealed_38)
      · have q := (if_neg c1).mp q
        refine lv_aload_n hx hb dX2_openAllSealed_13 rfl (lv_at hl 0 rfl) ?_
        refine g_get (ci := 6) (v := .ref (ad 16 0)) (C := RX2) (T := TX2) (N := 10) hx hb hts (fun _ h => (List.mem_cons_of_mem _ (List.mem_append_left _ (List.mem_append_left _ (List.mem_append_left _ (List.mem_append_left _ (List.mem_append_left _ (List.mem_append_right _ h)))))))) hown hK hH 10 0 (by decide) Nat.zero_lt_one rfl rfl 7 (by decide) (hts (.fieldLink RX2 42 "BallotFoundry$Election" "envelopes" "LBallotFoundry$Envelopes;") (List.mem_of_getElem? (i := 1) rfl)) (fun _ h => h) rfl dX2_openAllSealed_14 ?_
        refine g_getN (ci := 7) (v := .ref (ad 19 0)) (C := RX3) (T := TX3) (N := 4) hx hb hts (fun _ h => (List.mem_cons_of_mem _ (List.mem_append_left _ (List.mem_append_left _ (List.mem_append_left _ (List.mem_append_left _ (List.mem_append_right _ h))))))) hown hK hH 16 0 (by decide) Nat.zero_lt_one rfl rfl 2 (by decide) (va_Nw.use rfl (hG.1 ("BallotFoundry$Election", 89, "BallotFoundry$Envelopes", "states", "[I", "BallotFoundry") (List.mem_of_getElem? (i := 8) rfl))) (fun _ h => h) rfl dX2_openAllSealed_17 ?_
        refine lv_iload_n hx hb dX2_openAllSealed_20 rfl (lv_at hl 1 rfl) ?_
        obtain ⟨h2, q⟩ := q
        refine g_iald hx hb hK hH 19 0 (by decide) Nat.zero_lt_one 60 rfl h2 dX2_openAllSealed_21 ?_
        refine lv_if_ne (tgt := 32) hx hb dX2_openAllSealed_22 (by decide) (fun c3 => ?_) (fun c3 => ?_)
        · have q := (if_neg c3).mp q
          exact t_32 (fun F a0 => P_X2_openAllSealed_2 K n F a0) ih F x1 _ _ _ hH hS (lv_sub hl [0, 1] rfl) q
        · have q := (if_pos c3).mp q
          refine lv_aload_n hx hb dX2_openAllSealed_25 rfl (lv_at hl 0 rfl) ?_
          refine lv_iload_n hx hb dX2_openAllSealed_26 rfl (lv_at hl 1 rfl) ?_
          refine lv_bipush (v := 115) hx hb dX2_openAllSealed_27 (by decide) ?_
          refine va_callv (va_runV (As := [.int x1, .int 115]) (rest := []) ⟨hx, hb, hml, hown, hts⟩ (c_X2_openEnvelope l G ad F x1 115 _) (cwV 2 hts gX2_openAllSealed_X2_openEnvelope rfl rfl rfl (by decide +kernel) ⟨Nat.le_of_ble_eq_true rfl, Nat.le_of_ble_eq_true rfl⟩) ⟨fun a U g mk h => ⟨h.1, gD_blind h.2.1, h.2.2⟩, g_recv (C := RX2) (T := TX2) (N := 10) hK hH 10 0 (by decide) Nat.zero_lt_one rfl rfl, fun U hU hW => ⟨rfl, gD_at hK hG hB hH hS hU hW, q⟩⟩ rfl rfl hl.1 rfl (lv_room (Nat.le_of_ble_eq_true rfl)) dX2_openAllSealed_29 ⟨Nat.le_of_ble_eq_true rfl, Nat.le_of_ble_eq_true rfl⟩) hS (fun _ _ h => h) (fun _ h => h) (fun F5 t H locs ht hvm q hB1 hz hk hS => ?_)
          have hH : gH G ad F5 H := gH_to ht hB1
          exact t_32 (fun F a0 => P_X2_openAllSealed_2 K n F a0) ih F5 x1 _ _ _ hH hS (lv_sub hl [0, 1] rfl) q
  unfold P_X2_openAllSealed at q
  refine lv_iconst (v := 0) hx hb dX2_openAllSealed_0 (by decide) ?_
  refine lv_istore_n (lv' := [(1, .int 0), (0, .ref (ad 10 0))]) hx hb dX2_openAllSealed_1 rfl hl (by decide) rfl (fun ls hl => ?_)
  obtain ⟨nn, q⟩ := q
  exact t_2 nn F 0 _ _ _ hH hS (lv_sub hl [1, 0] rfl) q
abbrev rm_X10_beginDay : Room := { frames := 4, cells := 0, slots := 0, locals := 94 }
abbrev q_X10_beginDay (G : GP) (ad : Nat → Nat → Nat) (K : GF → Prop) (below : List Frame) (args : Array Value) (s : State) : State → Prop := MQ below (gQv G ad K) args s 0 0 (gA G)
set_option maxHeartbeats 4000000 in
set_option maxRecDepth 100000 in
theorem c_X10_beginDay (l : Launch) (G : GP) (ad : Nat → Nat → Nat) (F : GF) (K : GF → Prop) : Met l yX10_beginDay wsX10_beginDay rm_X10_beginDay (va_Pc [.ref (ad 0 0)] (fun U => gD G ad F U ∧ P_X10_beginDay F K)) (gQv G ad K) 0 0 (gA G) := by
  refine Met.ofW (cc := cX10_beginDay) (maxL := 1) (ret := none) (by decide) rfl ?_
  intro p e s m args below meth c s₁ Bd hml hv
  obtain ⟨rfl, ⟨hK, hG, hB, hH⟩, q⟩ := hv
  have hx := Bd.exec
  have hb := Bd.bytes
  have hr := Bd.returns
  have hts := atoms_spec (ws := wsX10_beginDay) Bd.pre
  have hown : s.vm.findClass RX10 = some m.cls := findClass_of_methodNamed Bd.named
  have hlocks := Bd.notSynchronized
  have hS : va_S (gA G) s.heap s.heap [] := va_S.rf
  have hl := lv_entry [.ref (ad 0 0)] (n := 1) (Nat.le_of_ble_eq_true rfl)
  rw [lg_entry_eq]
  generalize (lg_sl [.ref (ad 0 0)] ++ List.replicate (1 - (lg_sl [.ref (ad 0 0)]).length) Slot.unset).toArray = ls at hl ⊢
  have hl : lv_has ls 1 [(0, .ref (ad 0 0))] := hl
  show W p l e rm_X10_beginDay s m ([.ref (ad 0 0)] : List Value).toArray below meth c s.heap [] 0 0 (q_X10_beginDay G ad K below ([.ref (ad 0 0)] : List Value).toArray s) _
  have t_81 : ∀ (F : GF) (H : Heap) (locs : List Loc) (ls : Array Slot), gH G ad F H → va_S (gA G) s.heap H locs → lv_has ls 1 [(0, .ref (ad 0 0))] → (P_X10_beginDay_81 K) F → W p l e rm_X10_beginDay s m ([.ref (ad 0 0)] : List Value).toArray below meth c H locs 0 0 (q_X10_beginDay G ad K below ([.ref (ad 0 0)] : List Value).toArray s) (F0 m 81 ls []) := by
    intro F H locs ls hH hS hl q
    unfold P_X10_beginDay_81 at q
    refine lv_aload_n hx hb dX10_beginDay_81 rfl (lv_at hl 0 rfl) ?_
    refine g_get (ci := 14) (v := .ref (ad 10 0)) (C := RX10) (T := TX10) (N := 8) hx hb hts (fun _ h => (List.mem_cons_of_mem _ (List.mem_append_left _ (List.mem_append_left _ (List.mem_append_left _ (List.mem_append_left _ (List.mem_append_left _ (List.mem_append_left _ (List.mem_append_left _ (List.mem_append_left _ (List.mem_append_left _ (List.mem_append_left _ (List.mem_append_right _ h))))))))))))) hown hK hH 0 0 (by decide) Nat.zero_lt_one rfl rfl 6 (by decide) (hts (.fieldLink RX10 43 "BallotFoundry" "election" "LBallotFoundry$Election;") (List.mem_of_getElem? (i := 1) rfl)) (fun _ h => h) rfl dX10_beginDay_82 ?_
    refine g_getN (ci := 6) (v := .int (F 10 0 0)) (C := RX2) (T := TX2) (N := 10) hx hb hts (fun _ h => (List.mem_cons_of_mem _ (List.mem_append_left _ (List.mem_append_left _ (List.mem_append_left _ (List.mem_append_left _ (List.mem_append_left _ (List.mem_append_left _ (List.mem_append_left _ (List.mem_append_left _ (List.mem_append_left _ (List.mem_append_right _ h)))))))))))) hown hK hH 10 0 (by decide) Nat.zero_lt_one rfl rfl 0 (by decide) (va_Nw.use rfl (hG.1 ("BallotFoundry", 135, "BallotFoundry$Election", "stage", "I", "BallotFoundry") (List.mem_of_getElem? (i := 16) rfl))) (fun _ h => h) rfl dX10_beginDay_85 ?_
    refine lv_iconst (v := 3) hx hb dX10_beginDay_88 (by decide) ?_
    refine lv_icmp_ne (tgt := 123) hx hb dX10_beginDay_89 (by decide) (fun c3 => ?_) (fun c3 => ?_)
    · have q := (if_neg c3).mp q
      exact (W.vret hx hb hr (fun t ht hW => ⟨⟨F, rfl, q, gH_at ht hH⟩, hS.F ht⟩) hS.2.2 dX10_beginDay_123)
    · have q := (if_pos c3).mp q
      refine lv_aload_n hx hb dX10_beginDay_92 rfl (lv_at hl 0 rfl) ?_
      refine g_get (ci := 14) (v := .int (F 0 0 5)) (C := RX10) (T := TX10) (N := 8) hx hb hts (fun _ h => (List.mem_cons_of_mem _ (List.mem_append_left _ (List.mem_append_left _ (List.mem_append_left _ (List.mem_append_left _ (List.mem_append_left _ (List.mem_append_left _ (List.mem_append_left _ (List.mem_append_left _ (List.mem_append_left _ (List.mem_append_left _ (List.mem_append_right _ h))))))))))))) hown hK hH 0 0 (by decide) Nat.zero_lt_one rfl rfl 5 (by decide) (hts (.fieldLink RX10 37 "BallotFoundry" "now" "I") (List.mem_of_getElem? (i := 2) rfl)) (fun _ h => h) rfl dX10_beginDay_93 ?_
      refine lv_aload_n hx hb dX10_beginDay_96 rfl (lv_at hl 0 rfl) ?_
      refine g_get (ci := 14) (v := .ref (ad 10 0)) (C := RX10) (T := TX10) (N := 8) hx hb hts (fun _ h => (List.mem_cons_of_mem _ (List.mem_append_left _ (List.mem_append_left _ (List.mem_append_left _ (List.mem_append_left _ (List.mem_append_left _ (List.mem_append_left _ (List.mem_append_left _ (List.mem_append_left _ (List.mem_append_left _ (List.mem_append_left _ (List.mem_append_right _ h))))))))))))) hown hK hH 0 0 (by decide) Nat.zero_lt_one rfl rfl 6 (by decide) (hts (.fieldLink RX10 43 "BallotFoundry" "election" "LBallotFoundry$Election;") (List.mem_of_getElem? (i := 1) rfl)) (fun _ h => h) rfl dX10_beginDay_97 ?_
      refine g_getN (ci := 6) (v := .int (F 10 0 1)) (C := RX2) (T := TX2) (N := 10) hx hb hts (fun _ h => (List.mem_cons_of_mem _ (List.mem_append_left _ (List.mem_append_left _ (List.mem_append_left _ (List.mem_append_left _ (List.mem_append_left _ (List.mem_append_left _ (List.mem_append_left _ (List.mem_append_left _ (List.mem_append_left _ (List.mem_append_right _ h)))))))))))) hown hK hH 10 0 (by decide) Nat.zero_lt_one rfl rfl 1 (by decide) (va_Nw.use rfl (hG.1 ("BallotFoundry", 148, "BallotFoundry$Election", "day", "I", "BallotFoundry") (List.mem_of_getElem? (i := 17) rfl))) (fun _ h => h) rfl dX10_beginDay_100 ?_
      refine lv_iconst (v := 1) hx hb dX10_beginDay_103 (by decide) ?_
      refine lv_iadd hx hb dX10_beginDay_104 ?_
      refine lv_icmp_ne (tgt := 123) hx hb dX10_beginDay_105 (by decide) (fun c4 => ?_) (fun c4 => ?_)
      · have q := (if_neg c4).mp q
        exact (W.vret hx hb hr (fun t ht hW => ⟨⟨F, rfl, q, gH_at ht hH⟩, hS.F ht⟩) hS.2.2 dX10_beginDay_123)
      · have q := (if_pos c4).mp q
        refine lv_aload_n hx hb dX10_beginDay_108 rfl (lv_at hl 0 rfl) ?_
        refine g_get (ci := 14) (v := .ref (ad 10 0)) (C := RX10) (T := TX10) (N := 8) hx hb hts (fun _ h => (List.mem_cons_of_mem _ (List.mem_append_left _ (List.mem_append_left _ (List.mem_append_left _ (List.mem_append_left _ (List.mem_append_left _ (List.mem_append_left _ (List.mem_append_left _ (List.mem_append_left _ (List.mem_append_left _ (List.mem_append_left _ (List.mem_append_right _ h))))))))))))) hown hK hH 0 0 (by decide) Nat.zero_lt_one rfl rfl 6 (by decide) (hts (.fieldLink RX10 43 "BallotFoundry" "election" "LBallotFoundry$Election;") (List.mem_of_getElem? (i := 1) rfl)) (fun _ h => h) rfl dX10_beginDay_109 ?_
        refine va_callv (va_runV (As := []) (rest := []) ⟨hx, hb, hml, hown, hts⟩ (c_X2_openAllSealed l G ad F _) (cwV 0 hts gX10_beginDay_X2_openAllSealed rfl rfl rfl (by decide +kernel) ⟨Nat.le_of_ble_eq_true rfl, Nat.le_of_ble_eq_true rfl⟩) ⟨fun a U g mk h => ⟨h.1, gD_blind h.2.1, h.2.2⟩, g_recv (C := RX2) (T := TX2) (N := 10) hK hH 10 0 (by decide) Nat.zero_lt_one rfl rfl, fun U hU hW => ⟨rfl, gD_at hK hG hB hH hS hU hW, q⟩⟩ rfl rfl hl.1 rfl (lv_room (Nat.le_of_ble_eq_true rfl)) dX10_beginDay_112 ⟨Nat.le_of_ble_eq_true rfl, Nat.le_of_ble_eq_true rfl⟩) hS (fun _ _ h => h) (fun _ h => h) (fun F6 t H locs ht hvm q hB1 hz hk hS => ?_)
        have hH : gH G ad F6 H := gH_to ht hB1
        refine lv_aload_n hx hb dX10_beginDay_115 rfl (lv_at hl 0 rfl) ?_
        refine g_get (ci := 14) (v := .ref (ad 10 0)) (C := RX10) (T := TX10) (N := 8) hx hb hts (fun _ h => (List.mem_cons_of_mem _ (List.mem_append_left _ (List.mem_append_left _ (List.mem_append_left _ (List.mem_append_left _ (List.mem_append_left _ (List.mem_append_left _ (List.mem_append_left _ (List.mem_append_left _ (List.mem_append_left _ (List.mem_append_left _ (List.mem_append_right _ h))))))))))))) hown hK hH 0 0 (by decide) Nat.zero_lt_one rfl rfl 6 (by decide) (hts (.fieldLink RX10 43 "BallotFoundry" "election" "LBallotFoundry$Election;") (List.mem_of_getElem? (i := 1) rfl)) (fun _ h => h) rfl dX10_beginDay_116 ?_
        refine lv_iconst (v := 4) hx hb dX10_beginDay_119 (by decide) ?_
        refine g_putN (ci := 6) (v := .int 4) (C := RX2) (T := TX2) (N := 10) hx hb hts (fun _ h => (List.mem_cons_of_mem _ (List.mem_append_left _ (List.mem_append_left _ (List.mem_append_left _ (List.mem_append_left _ (List.mem_append_left _ (List.mem_append_left _ (List.mem_append_left _ (List.mem_append_left _ (List.mem_append_left _ (List.mem_append_right _ h)))))))))))) tyX2 tyX2_ok nmX2 hown hK hH hS 10 0 (by decide) Nat.zero_lt_one (by decide) rfl rfl 0 (by decide) (va_Nw.use rfl (hG.1 ("BallotFoundry", 135, "BallotFoundry$Election", "stage", "I", "BallotFoundry") (List.mem_of_getElem? (i := 16) rfl))) (fun _ h => h) rfl (ty := .int) (by decide +kernel) rfl rfl (Nat.le_of_ble_eq_true rfl) 4 rfl dX10_beginDay_120 (fun H locs hH hS => ?_)
        obtain ⟨F7, eF7⟩ : ∃ z, z = fs F6 10 0 0 4 := ⟨_, rfl⟩
        have q := q F7 eF7
        rw [← eF7] at hH
        exact (W.vret hx hb hr (fun t ht hW => ⟨⟨F7, rfl, q, gH_at ht hH⟩, hS.F ht⟩) hS.2.2 dX10_beginDay_123)
  have t_45 : ∀ (F : GF) (H : Heap) (locs : List Loc) (ls : Array Slot), gH G ad F H → va_S (gA G) s.heap H locs → lv_has ls 1 [(0, .ref (ad 0 0))] → (P_X10_beginDay_45 K) F → W p l e rm_X10_beginDay s m ([.ref (ad 0 0)] : List Value).toArray below meth c H locs 0 0 (q_X10_beginDay G ad K below ([.ref (ad 0 0)] : List Value).toArray s) (F0 m 45 ls []) := by
    intro F H locs ls hH hS hl q
    unfold P_X10_beginDay_45 at q
    refine lv_aload_n hx hb dX10_beginDay_45 rfl (lv_at hl 0 rfl) ?_
    refine g_get (ci := 14) (v := .ref (ad 10 0)) (C := RX10) (T := TX10) (N := 8) hx hb hts (fun _ h => (List.mem_cons_of_mem _ (List.mem_append_left _ (List.mem_append_left _ (List.mem_append_left _ (List.mem_append_left _ (List.mem_append_left _ (List.mem_append_left _ (List.mem_append_left _ (List.mem_append_left _ (List.mem_append_left _ (List.mem_append_left _ (List.mem_append_right _ h))))))))))))) hown hK hH 0 0 (by decide) Nat.zero_lt_one rfl rfl 6 (by decide) (hts (.fieldLink RX10 43 "BallotFoundry" "election" "LBallotFoundry$Election;") (List.mem_of_getElem? (i := 1) rfl)) (fun _ h => h) rfl dX10_beginDay_46 ?_
    refine g_getN (ci := 6) (v := .int (F 10 0 0)) (C := RX2) (T := TX2) (N := 10) hx hb hts (fun _ h => (List.mem_cons_of_mem _ (List.mem_append_left _ (List.mem_append_left _ (List.mem_append_left _ (List.mem_append_left _ (List.mem_append_left _ (List.mem_append_left _ (List.mem_append_left _ (List.mem_append_left _ (List.mem_append_left _ (List.mem_append_right _ h)))))))))))) hown hK hH 10 0 (by decide) Nat.zero_lt_one rfl rfl 0 (by decide) (va_Nw.use rfl (hG.1 ("BallotFoundry", 135, "BallotFoundry$Election", "stage", "I", "BallotFoundry") (List.mem_of_getElem? (i := 16) rfl))) (fun _ h => h) rfl dX10_beginDay_49 ?_
    refine lv_iconst (v := 2) hx hb dX10_beginDay_52 (by decide) ?_
    refine lv_icmp_ne (tgt := 81) hx hb dX10_beginDay_53 (by decide) (fun c2 => ?_) (fun c2 => ?_)
    · have q := (if_neg c2).mp q
      exact t_81 F  _ _ _ hH hS (lv_sub hl [0] rfl) q
    · have q := (if_pos c2).mp q
      refine lv_aload_n hx hb dX10_beginDay_56 rfl (lv_at hl 0 rfl) ?_
      refine g_get (ci := 14) (v := .int (F 0 0 5)) (C := RX10) (T := TX10) (N := 8) hx hb hts (fun _ h => (List.mem_cons_of_mem _ (List.mem_append_left _ (List.mem_append_left _ (List.mem_append_left _ (List.mem_append_left _ (List.mem_append_left _ (List.mem_append_left _ (List.mem_append_left _ (List.mem_append_left _ (List.mem_append_left _ (List.mem_append_left _ (List.mem_append_right _ h))))))))))))) hown hK hH 0 0 (by decide) Nat.zero_lt_one rfl rfl 5 (by decide) (hts (.fieldLink RX10 37 "BallotFoundry" "now" "I") (List.mem_of_getElem? (i := 2) rfl)) (fun _ h => h) rfl dX10_beginDay_57 ?_
      refine lv_aload_n hx hb dX10_beginDay_60 rfl (lv_at hl 0 rfl) ?_
      refine g_get (ci := 14) (v := .ref (ad 10 0)) (C := RX10) (T := TX10) (N := 8) hx hb hts (fun _ h => (List.mem_cons_of_mem _ (List.mem_append_left _ (List.mem_append_left _ (List.mem_append_left _ (List.mem_append_left _ (List.mem_append_left _ (List.mem_append_left _ (List.mem_append_left _ (List.mem_append_left _ (List.mem_append_left _ (List.mem_append_left _ (List.mem_append_right _ h))))))))))))) hown hK hH 0 0 (by decide) Nat.zero_lt_one rfl rfl 6 (by decide) (hts (.fieldLink RX10 43 "BallotFoundry" "election" "LBallotFoundry$Election;") (List.mem_of_getElem? (i := 1) rfl)) (fun _ h => h) rfl dX10_beginDay_61 ?_
      refine g_getN (ci := 6) (v := .int (F 10 0 1)) (C := RX2) (T := TX2) (N := 10) hx hb hts (fun _ h => (List.mem_cons_of_mem _ (List.mem_append_left _ (List.mem_append_left _ (List.mem_append_left _ (List.mem_append_left _ (List.mem_append_left _ (List.mem_append_left _ (List.mem_append_left _ (List.mem_append_left _ (List.mem_append_left _ (List.mem_append_right _ h)))))))))))) hown hK hH 10 0 (by decide) Nat.zero_lt_one rfl rfl 1 (by decide) (va_Nw.use rfl (hG.1 ("BallotFoundry", 148, "BallotFoundry$Election", "day", "I", "BallotFoundry") (List.mem_of_getElem? (i := 17) rfl))) (fun _ h => h) rfl dX10_beginDay_64 ?_
      refine lv_icmp_ne (tgt := 81) hx hb dX10_beginDay_67 (by decide) (fun c8 => ?_) (fun c8 => ?_)
      · have q := (if_neg c8).mp q
        exact t_81 F  _ _ _ hH hS (lv_sub hl [0] rfl) q
      · have q := (if_pos c8).mp q
        refine lv_aload_n hx hb dX10_beginDay_70 rfl (lv_at hl 0 rfl) ?_
        refine g_get (ci := 14) (v := .ref (ad 10 0)) (C := RX10) (T := TX10) (N := 8) hx hb hts (fun _ h => (List.mem_cons_of_mem _ (List.mem_append_left _ (List.mem_append_left _ (List.mem_append_left _ (List.mem_append_left _ (List.mem_append_left _ (List.mem_append_left _ (List.mem_append_left _ (List.mem_append_left _ (List.mem_append_left _ (List.mem_append_left _ (List.mem_append_right _ h))))))))))))) hown hK hH 0 0 (by decide) Nat.zero_lt_one rfl rfl 6 (by decide) (hts (.fieldLink RX10 43 "BallotFoundry" "election" "LBallotFoundry$Election;") (List.mem_of_getElem? (i := 1) rfl)) (fun _ h => h) rfl dX10_beginDay_71 ?_
        refine lv_iconst (v := 3) hx hb dX10_beginDay_74 (by decide) ?_
        refine g_putN (ci := 6) (v := .int 3) (C := RX2) (T := TX2) (N := 10) hx hb hts (fun _ h => (List.mem_cons_of_mem _ (List.mem_append_left _ (List.mem_append_left _ (List.mem_append_left _ (List.mem_append_left _ (List.mem_append_left _ (List.mem_append_left _ (List.mem_append_left _ (List.mem_append_left _ (List.mem_append_left _ (List.mem_append_right _ h)))))))))))) tyX2 tyX2_ok nmX2 hown hK hH hS 10 0 (by decide) Nat.zero_lt_one (by decide) rfl rfl 0 (by decide) (va_Nw.use rfl (hG.1 ("BallotFoundry", 135, "BallotFoundry$Election", "stage", "I", "BallotFoundry") (List.mem_of_getElem? (i := 16) rfl))) (fun _ h => h) rfl (ty := .int) (by decide +kernel) rfl rfl (Nat.le_of_ble_eq_true rfl) 3 rfl dX10_beginDay_75 (fun H locs hH hS => ?_)
        obtain ⟨F9, eF9⟩ : ∃ z, z = fs F 10 0 0 3 := ⟨_, rfl⟩
        have q := q F9 eF9
        rw [← eF9] at hH
        refine lv_goto (tgt := 123) hx hb dX10_beginDay_78 (by decide) ?_
        exact (W.vret hx hb hr (fun t ht hW => ⟨⟨F9, rfl, q, gH_at ht hH⟩, hS.F ht⟩) hS.2.2 dX10_beginDay_123)
  unfold P_X10_beginDay at q
  refine lv_aload_n hx hb dX10_beginDay_0 rfl (lv_at hl 0 rfl) ?_
  refine g_get (ci := 14) (v := .ref (ad 10 0)) (C := RX10) (T := TX10) (N := 8) hx hb hts (fun _ h => (List.mem_cons_of_mem _ (List.mem_append_left _ (List.mem_append_left _ (List.mem_append_left _ (List.mem_append_left _ (List.mem_append_left _ (List.mem_append_left _ (List.mem_append_left _ (List.mem_append_left _ (List.mem_append_left _ (List.mem_append_left _ (List.mem_append_right _ h))))))))))))) hown hK hH 0 0 (by decide) Nat.zero_lt_one rfl rfl 6 (by decide) (hts (.fieldLink RX10 43 "BallotFoundry" "election" "LBallotFoundry$Election;") (List.mem_of_getElem? (i := 1) rfl)) (fun _ h => h) rfl dX10_beginDay_1 ?_
  refine g_getN (ci := 6) (v := .int (F 10 0 0)) (C := RX2) (T := TX2) (N := 10) hx hb hts (fun _ h => (List.mem_cons_of_mem _ (List.mem_append_left _ (List.mem_append_left _ (List.mem_append_left _ (List.mem_append_left _ (List.mem_append_left _ (List.mem_append_left _ (List.mem_append_left _ (List.mem_append_left _ (List.mem_append_left _ (List.mem_append_right _ h)))))))))))) hown hK hH 10 0 (by decide) Nat.zero_lt_one rfl rfl 0 (by decide) (va_Nw.use rfl (hG.1 ("BallotFoundry", 135, "BallotFoundry$Election", "stage", "I", "BallotFoundry") (List.mem_of_getElem? (i := 16) rfl))) (fun _ h => h) rfl dX10_beginDay_4 ?_
  refine lv_iconst (v := 1) hx hb dX10_beginDay_7 (by decide) ?_
  refine lv_icmp_ne (tgt := 45) hx hb dX10_beginDay_8 (by decide) (fun c1 => ?_) (fun c1 => ?_)
  · have q := (if_neg c1).mp q
    exact t_45 F  _ _ _ hH hS (lv_sub hl [0] rfl) q
  · have q := (if_pos c1).mp q
    refine lv_aload_n hx hb dX10_beginDay_11 rfl (lv_at hl 0 rfl) ?_
    refine g_get (ci := 14) (v := .int (F 0 0 5)) (C := RX10) (T := TX10) (N := 8) hx hb hts (fun _ h => (List.mem_cons_of_mem _ (List.mem_append_left _ (List.mem_append_left _ (List.mem_append_left _ (List.mem_append_left _ (List.mem_append_left _ (List.mem_append_left _ (List.mem_append_left _ (List.mem_append_left _ (List.mem_append_left _ (List.mem_append_left _ (List.mem_append_right _ h))))))))))))) hown hK hH 0 0 (by decide) Nat.zero_lt_one rfl rfl 5 (by decide) (hts (.fieldLink RX10 37 "BallotFoundry" "now" "I") (List.mem_of_getElem? (i := 2) rfl)) (fun _ h => h) rfl dX10_beginDay_12 ?_
    refine lv_aload_n hx hb dX10_beginDay_15 rfl (lv_at hl 0 rfl) ?_
    refine g_get (ci := 14) (v := .ref (ad 10 0)) (C := RX10) (T := TX10) (N := 8) hx hb hts (fun _ h => (List.mem_cons_of_mem _ (List.mem_append_left _ (List.mem_append_left _ (List.mem_append_left _ (List.mem_append_left _ (List.mem_append_left _ (List.mem_append_left _ (List.mem_append_left _ (List.mem_append_left _ (List.mem_append_left _ (List.mem_append_left _ (List.mem_append_right _ h))))))))))))) hown hK hH 0 0 (by decide) Nat.zero_lt_one rfl rfl 6 (by decide) (hts (.fieldLink RX10 43 "BallotFoundry" "election" "LBallotFoundry$Election;") (List.mem_of_getElem? (i := 1) rfl)) (fun _ h => h) rfl dX10_beginDay_16 ?_
    refine g_getN (ci := 6) (v := .int (F 10 0 1)) (C := RX2) (T := TX2) (N := 10) hx hb hts (fun _ h => (List.mem_cons_of_mem _ (List.mem_append_left _ (List.mem_append_left _ (List.mem_append_left _ (List.mem_append_left _ (List.mem_append_left _ (List.mem_append_left _ (List.mem_append_left _ (List.mem_append_left _ (List.mem_append_left _ (List.mem_append_right _ h)))))))))))) hown hK hH 10 0 (by decide) Nat.zero_lt_one rfl rfl 1 (by decide) (va_Nw.use rfl (hG.1 ("BallotFoundry", 148, "BallotFoundry$Election", "day", "I", "BallotFoundry") (List.mem_of_getElem? (i := 17) rfl))) (fun _ h => h) rfl dX10_beginDay_19 ?_
    refine lv_bipush (v := 7) hx hb dX10_beginDay_22 (by decide) ?_
    refine lv_isub hx hb dX10_beginDay_24 ?_
    refine lv_iconst (v := 1) hx hb dX10_beginDay_25 (by decide) ?_
    refine lv_iadd hx hb dX10_beginDay_26 ?_
    refine lv_icmp_ne (tgt := 45) hx hb dX10_beginDay_27 (by decide) (fun c10 => ?_) (fun c10 => ?_)
    · have q := (if_neg c10).mp q
      exact t_45 F  _ _ _ hH hS (lv_sub hl [0] rfl) q
    · have q := (if_pos c10).mp q
      refine lv_aload_n hx hb dX10_beginDay_30 rfl (lv_at hl 0 rfl) ?_
      refine va_callv (va_runV (As := []) (rest := []) ⟨hx, hb, hml, hown, hts⟩ (c_X10_makeRoll l G ad F _) (cwV 0 hts gX10_beginDay_X10_makeRoll rfl rfl rfl (by decide +kernel) ⟨Nat.le_of_ble_eq_true rfl, Nat.le_of_ble_eq_true rfl⟩) ⟨fun a U g mk h => ⟨h.1, gD_blind h.2.1, h.2.2⟩, g_recv (C := RX10) (T := TX10) (N := 8) hK hH 0 0 (by decide) Nat.zero_lt_one rfl rfl, fun U hU hW => ⟨rfl, gD_at hK hG hB hH hS hU hW, q⟩⟩ rfl rfl hl.1 rfl (lv_room (Nat.le_of_ble_eq_true rfl)) dX10_beginDay_31 ⟨Nat.le_of_ble_eq_true rfl, Nat.le_of_ble_eq_true rfl⟩) hS (fun _ _ h => h) (fun _ h => h) (fun F12 t H locs ht hvm q hB1 hz hk hS => ?_)
      have hH : gH G ad F12 H := gH_to ht hB1
      refine lv_aload_n hx hb dX10_beginDay_34 rfl (lv_at hl 0 rfl) ?_
      refine g_get (ci := 14) (v := .ref (ad 10 0)) (C := RX10) (T := TX10) (N := 8) hx hb hts (fun _ h => (List.mem_cons_of_mem _ (List.mem_append_left _ (List.mem_append_left _ (List.mem_append_left _ (List.mem_append_left _ (List.mem_append_left _ (List.mem_append_left _ (List.mem_append_left _ (List.mem_append_left _ (List.mem_append_left _ (List.mem_append_left _ (List.mem_append_right _ h))))))))))))) hown hK hH 0 0 (by decide) Nat.zero_lt_one rfl rfl 6 (by decide) (hts (.fieldLink RX10 43 "BallotFoundry" "election" "LBallotFoundry$Election;") (List.mem_of_getElem? (i := 1) rfl)) (fun _ h => h) rfl dX10_beginDay_35 ?_
      refine lv_iconst (v := 2) hx hb dX10_beginDay_38 (by decide) ?_
      refine g_putN (ci := 6) (v := .int 2) (C := RX2) (T := TX2) (N := 10) hx hb hts (fun _ h => (List.mem_cons_of_mem _ (List.mem_append_left _ (List.mem_append_left _ (List.mem_append_left _ (List.mem_append_left _ (List.mem_append_left _ (List.mem_append_left _ (List.mem_append_left _ (List.mem_append_left _ (List.mem_append_left _ (List.mem_append_right _ h)))))))))))) tyX2 tyX2_ok nmX2 hown hK hH hS 10 0 (by decide) Nat.zero_lt_one (by decide) rfl rfl 0 (by decide) (va_Nw.use rfl (hG.1 ("BallotFoundry", 135, "BallotFoundry$Election", "stage", "I", "BallotFoundry") (List.mem_of_getElem? (i := 16) rfl))) (fun _ h => h) rfl (ty := .int) (by decide +kernel) rfl rfl (Nat.le_of_ble_eq_true rfl) 2 rfl dX10_beginDay_39 (fun H locs hH hS => ?_)
      obtain ⟨F13, eF13⟩ : ∃ z, z = fs F12 10 0 0 2 := ⟨_, rfl⟩
      have q := q F13 eF13
      rw [← eF13] at hH
      refine lv_goto (tgt := 123) hx hb dX10_beginDay_42 (by decide) ?_
      exact (W.vret hx hb hr (fun t ht hW => ⟨⟨F13, rfl, q, gH_at ht hH⟩, hS.F ht⟩) hS.2.2 dX10_beginDay_123)
abbrev rm_X10_advance : Room := { frames := 7, cells := 2, slots := 12, locals := 114 }
abbrev q_X10_advance (G : GP) (ad : Nat → Nat → Nat) (K : Int32 → GF → Prop) (X : String → GF → Prop) (below : List Frame) (args : Array Value) (s : State) : State → Prop := vx_MQ below (gQi G ad K) (gX G ad X) args s 2 12 (gA G)
set_option maxHeartbeats 4000000 in
set_option maxRecDepth 100000 in
theorem c_X10_advance (l : Launch) (hfl : l.stackTraces = false) (G : GP) (ad : Nat → Nat → Nat) (F : GF) (p1 : Int32) (K : Int32 → GF → Prop) (X : String → GF → Prop) : vx_Met l yX10_advance wsX10_advance rm_X10_advance (va_Pc [.ref (ad 0 0), .int p1] (fun U => gD G ad F U ∧ P_X10_advance F p1 K X)) (gQi G ad K) (gX G ad X) 2 12 (gA G) := by
  refine vx_ofW (cc := cX10_advance) (maxL := 3) (ret := (some .int)) (by decide) rfl ?_
  intro p e s m args below meth c s₁ Bd hml hno hv
  obtain ⟨rfl, ⟨hK, hG, hB, hH⟩, q⟩ := hv
  have hx := Bd.exec
  have hb := Bd.bytes
  have hr := Bd.returns
  have hts := atoms_spec (ws := wsX10_advance) Bd.pre
  have hown : s.vm.findClass RX10 = some m.cls := findClass_of_methodNamed Bd.named
  have hlocks := Bd.notSynchronized
  have hS : va_S (gA G) s.heap s.heap [] := va_S.rf
  have hl := lv_entry [.ref (ad 0 0), .int p1] (n := 3) (Nat.le_of_ble_eq_true rfl)
  rw [lg_entry_eq]
  generalize (lg_sl [.ref (ad 0 0), .int p1] ++ List.replicate (3 - (lg_sl [.ref (ad 0 0), .int p1]).length) Slot.unset).toArray = ls at hl ⊢
  have hl : lv_has ls 3 [(0, .ref (ad 0 0)), (1, .int p1)] := hl
  show W p l e rm_X10_advance s m ([.ref (ad 0 0), .int p1] : List Value).toArray below meth c s.heap [] 0 0 (q_X10_advance G ad K X below ([.ref (ad 0 0), .int p1] : List Value).toArray s) _
  have t_31 : ∀ n : Nat, ∀ (F : GF) (x1 : Int32) (x2 : Int32) (H : Heap) (locs : List Loc) (ls : Array Slot), gH G ad F H → va_S (gA G) s.heap H locs → lv_has ls 3 [(0, .ref (ad 0 0)), (1, .int x1), (2, .int x2)] → (P_X10_advance_31 K X n) F x1 x2 → W p l e rm_X10_advance s m ([.ref (ad 0 0), .int p1] : List Value).toArray below meth c H locs 1 6 (q_X10_advance G ad K X below ([.ref (ad 0 0), .int p1] : List Value).toArray s) (F0 m 31 ls []) := by
    intro n
    induction n with
    | zero =>
      intro F x1 x2 H locs ls hH hS hl q
      exact False.elim q
    | succ n ih =>
      intro F x1 x2 H locs ls hH hS hl q
      rw [P_X10_advance_31] at q
      refine lv_iload_n hx hb dX10_advance_31 rfl (lv_at hl 2 rfl) ?_
      refine lv_iload_n hx hb dX10_advance_32 rfl (lv_at hl 1 rfl) ?_
      refine lv_icmp_ge (tgt := 56) hx hb dX10_advance_33 (by decide) (fun c4 => ?_) (fun c4 => ?_)
      · have q := (if_pos c4).mp q
        refine lv_aload_n hx hb dX10_advance_56 rfl (lv_at hl 0 rfl) ?_
        refine g_get (ci := 14) (v := .int (F 0 0 5)) (C := RX10) (T := TX10) (N := 8) hx hb hts (fun _ h => (List.mem_cons_of_mem _ (List.mem_append_left _ (List.mem_append_left _ (List.mem_append_left _ (List.mem_append_left _ (List.mem_append_left _ (List.mem_append_left _ (List.mem_append_left _ (List.mem_append_left _ (List.mem_append_left _ (List.mem_append_left _ (List.mem_append_left _ (List.mem_append_left _ (List.mem_append_right _ h))))))))))))))) hown hK hH 0 0 (by decide) Nat.zero_lt_one rfl rfl 5 (by decide) (hts (.fieldLink RX10 37 "BallotFoundry" "now" "I") (List.mem_of_getElem? (i := 3) rfl)) (fun _ h => h) rfl dX10_advance_57 ?_
        refine W.widen (k := 2) (n := 12) (Nat.le_of_ble_eq_true rfl) (Nat.le_of_ble_eq_true rfl) ?_
        exact vx_ret (W.iret (v := (F 0 0 5)) hx hb hr (fun t ht hW => ⟨⟨(F 0 0 5), F, rfl, q, gH_at ht hH⟩, hS.F ht⟩) hS.2.2 dX10_advance_60)
      · have q := (if_neg c4).mp q
        refine lv_aload_n hx hb dX10_advance_36 rfl (lv_at hl 0 rfl) ?_
        refine lv_dup hx hb dX10_advance_37 rfl ?_
        refine g_get (ci := 14) (v := .int (F 0 0 5)) (C := RX10) (T := TX10) (N := 8) hx hb hts (fun _ h => (List.mem_cons_of_mem _ (List.mem_append_left _ (List.mem_append_left _ (List.mem_append_left _ (List.mem_append_left _ (List.mem_append_left _ (List.mem_append_left _ (List.mem_append_left _ (List.mem_append_left _ (List.mem_append_left _ (List.mem_append_left _ (List.mem_append_left _ (List.mem_append_left _ (List.mem_append_right _ h))))))))))))))) hown hK hH 0 0 (by decide) Nat.zero_lt_one rfl rfl 5 (by decide) (hts (.fieldLink RX10 37 "BallotFoundry" "now" "I") (List.mem_of_getElem? (i := 3) rfl)) (fun _ h => h) rfl dX10_advance_38 ?_
        refine lv_iconst (v := 1) hx hb dX10_advance_41 (by decide) ?_
        refine lv_iadd hx hb dX10_advance_42 ?_
        refine g_put (ci := 14) (v := .int ((F 0 0 5) + 1)) (C := RX10) (T := TX10) (N := 8) hx hb hts (fun _ h => (List.mem_cons_of_mem _ (List.mem_append_left _ (List.mem_append_left _ (List.mem_append_left _ (List.mem_append_left _ (List.mem_append_left _ (List.mem_append_left _ (List.mem_append_left _ (List.mem_append_left _ (List.mem_append_left _ (List.mem_append_left _ (List.mem_append_left _ (List.mem_append_left _ (List.mem_append_right _ h))))))))))))))) tyX10 tyX10_ok nmX10 hown hK hH hS 0 0 (by decide) Nat.zero_lt_one (by decide) rfl rfl 5 (by decide) (hts (.fieldLink RX10 37 "BallotFoundry" "now" "I") (List.mem_of_getElem? (i := 3) rfl)) (fun _ h => h) rfl (ty := .int) (by decide +kernel) rfl rfl (Nat.le_of_ble_eq_true rfl) ((F 0 0 5) + 1) rfl dX10_advance_43 (fun H locs hH hS => ?_)
        obtain ⟨F5, eF5⟩ : ∃ z, z = fs F 0 0 5 ((F 0 0 5) + 1) := ⟨_, rfl⟩
        have q := q F5 eF5
        rw [← eF5] at hH
        refine lv_aload_n hx hb dX10_advance_46 rfl (lv_at hl 0 rfl) ?_
        refine va_callv (va_runV (As := []) (rest := []) ⟨hx, hb, hml, hown, hts⟩ (c_X10_beginDay l G ad F5 _) (cwV 0 hts gX10_advance_X10_beginDay rfl rfl rfl (by decide +kernel) ⟨Nat.le_of_ble_eq_true rfl, Nat.le_of_ble_eq_true rfl⟩) ⟨fun a U g mk h => ⟨h.1, gD_blind h.2.1, h.2.2⟩, g_recv (C := RX10) (T := TX10) (N := 8) hK hH 0 0 (by decide) Nat.zero_lt_one rfl rfl, fun U hU hW => ⟨rfl, gD_at hK hG hB hH hS hU hW, q⟩⟩ rfl rfl hl.1 rfl (lv_room (Nat.le_of_ble_eq_true rfl)) dX10_advance_47 ⟨Nat.le_of_ble_eq_true rfl, Nat.le_of_ble_eq_true rfl⟩) hS (fun _ _ h => h) (fun _ h => h) (fun F7 t H locs ht hvm q hB1 hz hk hS => ?_)
        have hH : gH G ad F7 H := gH_to ht hB1
        refine lv_iinc (v := x2 + 1) (lv' := [(2, .int (x2 + 1)), (0, .ref (ad 0 0)), (1, .int x1)]) hx hb dX10_advance_50 hl (k := 2) rfl rfl (by decide) rfl (fun ls hl => ?_)
        refine lv_goto (tgt := 31) hx hb dX10_advance_53 (by decide) ?_
        exact ih F7 x1 (x2 + 1) _ _ _ hH hS (lv_sub hl [1, 2, 0] rfl) q
  unfold P_X10_advance at q
  refine lv_iload_n hx hb dX10_advance_0 rfl (lv_at hl 1 rfl) ?_
  refine lv_iconst (v := 1) hx hb dX10_advance_1 (by decide) ?_
  refine lv_bipush (v := 100) hx hb dX10_advance_2 (by decide) ?_
  refine vx_callv (vx_runS (As := [.int p1, .int 1, .int 100]) (rest := []) ⟨hx, hb, hml, hown, hts⟩ (c_X10_needRange l hfl G ad F p1 1 100 _ _) (va_cwS 3 hts gX10_advance_X10_needRange rfl rfl rfl (by decide +kernel) ⟨Nat.le_of_ble_eq_true rfl, Nat.le_of_ble_eq_true rfl⟩) ⟨fun a U g mk h => ⟨h.1, gD_blind h.2.1, h.2.2⟩, fun U hU hW => ⟨rfl, gD_at hK hG hB hH hS hU hW, q⟩⟩ rfl rfl hl.1 rfl (lv_room (Nat.le_of_ble_eq_true rfl)) dX10_advance_4 ⟨Nat.le_of_ble_eq_true rfl, Nat.le_of_ble_eq_true rfl⟩) hS (fun _ _ h => h) (fun _ h => h) (fun _ _ h => h) (fun E ce q9 u t H locs ht hvm _ hq hz hk hS hc9 hv9 hcl9 => vx_widen (Nat.le_of_ble_eq_true rfl) (Nat.le_of_ble_eq_true rfl) (vx_out (fun x hx => (hno x hx).elim) hlocks hc9 hv9 hcl9 (fun t1 ht1 hvm1 => ⟨u, trivial, ⟨hq.1, gH_at ht1 (gH_to ht hq.2)⟩, hS.F ht1⟩) hS.2.2 (Nat.le_refl _) (Nat.le_refl _))) (fun F2 t H locs ht hvm q hB1 hz hk hS => ?_)
  have hH : gH G ad F2 H := gH_to ht hB1
  refine lv_aload_n hx hb dX10_advance_7 rfl (lv_at hl 0 rfl) ?_
  refine g_get (ci := 14) (v := .int (F2 0 0 5)) (C := RX10) (T := TX10) (N := 8) hx hb hts (fun _ h => (List.mem_cons_of_mem _ (List.mem_append_left _ (List.mem_append_left _ (List.mem_append_left _ (List.mem_append_left _ (List.mem_append_left _ (List.mem_append_left _ (List.mem_append_left _ (List.mem_append_left _ (List.mem_append_left _ (List.mem_append_left _ (List.mem_append_left _ (List.mem_append_left _ (List.mem_append_right _ h))))))))))))))) hown hK hH 0 0 (by decide) Nat.zero_lt_one rfl rfl 5 (by decide) (hts (.fieldLink RX10 37 "BallotFoundry" "now" "I") (List.mem_of_getElem? (i := 3) rfl)) (fun _ h => h) rfl dX10_advance_8 ?_
  refine lv_iload_n hx hb dX10_advance_11 rfl (lv_at hl 1 rfl) ?_
  refine lv_iadd hx hb dX10_advance_12 ?_
  refine lv_sipush (v := 2100) hx hb dX10_advance_13 (by decide) ?_
  refine lv_icmp_le (tgt := 29) hx hb dX10_advance_16 (by decide) (fun c3 => ?_) (fun c3 => ?_)
  · have q := (if_pos c3).mp q
    refine lv_iconst (v := 0) hx hb dX10_advance_29 (by decide) ?_
    refine lv_istore_n (lv' := [(2, .int 0), (0, .ref (ad 0 0)), (1, .int p1)]) hx hb dX10_advance_30 rfl hl (by decide) rfl (fun ls hl => ?_)
    obtain ⟨nn, q⟩ := q
    exact t_31 nn F2 p1 0 _ _ _ hH hS (lv_sub hl [1, 2, 0] rfl) q
  · have q := (if_neg c3).mp q
    exact g_throw (text := "too late a day") hx hb hfl hno hown hts hG hS (List.mem_of_getElem? (i := 2) rfl) (List.mem_of_getElem? (i := 13) rfl) (List.mem_of_getElem? (i := 1) rfl) (List.mem_of_getElem? (i := 2) rfl) (fun _ h => (List.mem_cons_of_mem _ (List.mem_append_left _ (List.mem_append_left _ (List.mem_append_right _ h))))) (hl.1.trans hml.symm) hlocks dX10_advance_19 dX10_advance_22 dX10_advance_23 dX10_advance_25 dX10_advance_28 (Nat.le_of_ble_eq_true rfl) (Nat.le_of_ble_eq_true rfl) (Nat.le_of_ble_eq_true rfl) (Nat.le_of_ble_eq_true rfl) (fun t hvm hz hk => ⟨F2, trivial, ⟨q, gH_grow hH hz hk⟩, gF_grow hS hz hk⟩) hS.2.2 (Nat.le_of_ble_eq_true rfl) (Nat.le_of_ble_eq_true rfl)
abbrev rm_X10_today : Room := { frames := 0, cells := 0, slots := 0, locals := 0 }
abbrev q_X10_today (G : GP) (ad : Nat → Nat → Nat) (K : Int32 → GF → Prop) (below : List Frame) (args : Array Value) (s : State) : State → Prop := MQ below (gQi G ad K) args s 0 0 (gA G)
set_option maxHeartbeats 4000000 in
set_option maxRecDepth 100000 in
theorem c_X10_today (l : Launch) (G : GP) (ad : Nat → Nat → Nat) (F : GF) (K : Int32 → GF → Prop) : Met l yX10_today wsX10_today rm_X10_today (va_Pc [.ref (ad 0 0)] (fun U => gD G ad F U ∧ P_X10_today F K)) (gQi G ad K) 0 0 (gA G) := by
  refine Met.ofW (cc := cX10_today) (maxL := 1) (ret := (some .int)) (by decide) rfl ?_
  intro p e s m args below meth c s₁ Bd hml hv
  obtain ⟨rfl, ⟨hK, hG, hB, hH⟩, q⟩ := hv
  have hx := Bd.exec
  have hb := Bd.bytes
  have hr := Bd.returns
  have hts := atoms_spec (ws := wsX10_today) Bd.pre
  have hown : s.vm.findClass RX10 = some m.cls := findClass_of_methodNamed Bd.named
  have hlocks := Bd.notSynchronized
  have hS : va_S (gA G) s.heap s.heap [] := va_S.rf
  have hl := lv_entry [.ref (ad 0 0)] (n := 1) (Nat.le_of_ble_eq_true rfl)
  rw [lg_entry_eq]
  generalize (lg_sl [.ref (ad 0 0)] ++ List.replicate (1 - (lg_sl [.ref (ad 0 0)]).length) Slot.unset).toArray = ls at hl ⊢
  have hl : lv_has ls 1 [(0, .ref (ad 0 0))] := hl
  unfold P_X10_today at q
  refine lv_aload_n hx hb dX10_today_0 rfl (lv_at hl 0 rfl) ?_
  refine g_get (ci := 14) (v := .int (F 0 0 5)) (C := RX10) (T := TX10) (N := 8) hx hb hts (fun _ h => (List.mem_cons_of_mem _ (List.mem_append_right _ h))) hown hK hH 0 0 (by decide) Nat.zero_lt_one rfl rfl 5 (by decide) (hts (.fieldLink RX10 37 "BallotFoundry" "now" "I") (List.mem_of_getElem? (i := 1) rfl)) (fun _ h => h) rfl dX10_today_1 ?_
  exact (W.iret (v := (F 0 0 5)) hx hb hr (fun t ht hW => ⟨⟨(F 0 0 5), F, rfl, q, gH_at ht hH⟩, hS.F ht⟩) hS.2.2 dX10_today_4)
abbrev rm_X10_stage : Room := { frames := 0, cells := 0, slots := 0, locals := 0 }
abbrev q_X10_stage (G : GP) (ad : Nat → Nat → Nat) (K : Int32 → GF → Prop) (below : List Frame) (args : Array Value) (s : State) : State → Prop := MQ below (gQi G ad K) args s 0 0 (gA G)
set_option maxHeartbeats 4000000 in
set_option maxRecDepth 100000 in
theorem c_X10_stage (l : Launch) (G : GP) (ad : Nat → Nat → Nat) (F : GF) (K : Int32 → GF → Prop) : Met l yX10_stage wsX10_stage rm_X10_stage (va_Pc [.ref (ad 0 0)] (fun U => gD G ad F U ∧ P_X10_stage F K)) (gQi G ad K) 0 0 (gA G) := by
  refine Met.ofW (cc := cX10_stage) (maxL := 1) (ret := (some .int)) (by decide) rfl ?_
  intro p e s m args below meth c s₁ Bd hml hv
  obtain ⟨rfl, ⟨hK, hG, hB, hH⟩, q⟩ := hv
  have hx := Bd.exec
  have hb := Bd.bytes
  have hr := Bd.returns
  have hts := atoms_spec (ws := wsX10_stage) Bd.pre
  have hown : s.vm.findClass RX10 = some m.cls := findClass_of_methodNamed Bd.named
  have hlocks := Bd.notSynchronized
  have hS : va_S (gA G) s.heap s.heap [] := va_S.rf
  have hl := lv_entry [.ref (ad 0 0)] (n := 1) (Nat.le_of_ble_eq_true rfl)
  rw [lg_entry_eq]
  generalize (lg_sl [.ref (ad 0 0)] ++ List.replicate (1 - (lg_sl [.ref (ad 0 0)]).length) Slot.unset).toArray = ls at hl ⊢
  have hl : lv_has ls 1 [(0, .ref (ad 0 0))] := hl
  unfold P_X10_stage at q
  refine lv_aload_n hx hb dX10_stage_0 rfl (lv_at hl 0 rfl) ?_
  refine g_get (ci := 14) (v := .ref (ad 10 0)) (C := RX10) (T := TX10) (N := 8) hx hb hts (fun _ h => (List.mem_cons_of_mem _ (List.mem_append_left _ (List.mem_append_right _ h)))) hown hK hH 0 0 (by decide) Nat.zero_lt_one rfl rfl 6 (by decide) (hts (.fieldLink RX10 43 "BallotFoundry" "election" "LBallotFoundry$Election;") (List.mem_of_getElem? (i := 1) rfl)) (fun _ h => h) rfl dX10_stage_1 ?_
  refine g_getN (ci := 6) (v := .int (F 10 0 0)) (C := RX2) (T := TX2) (N := 10) hx hb hts (fun _ h => (List.mem_cons_of_mem _ (List.mem_append_right _ h))) hown hK hH 10 0 (by decide) Nat.zero_lt_one rfl rfl 0 (by decide) (va_Nw.use rfl (hG.1 ("BallotFoundry", 135, "BallotFoundry$Election", "stage", "I", "BallotFoundry") (List.mem_of_getElem? (i := 16) rfl))) (fun _ h => h) rfl dX10_stage_4 ?_
  exact (W.iret (v := (F 10 0 0)) hx hb hr (fun t ht hW => ⟨⟨(F 10 0 0), F, rfl, q, gH_at ht hH⟩, hS.F ht⟩) hS.2.2 dX10_stage_7)
abbrev rm_X10_isOnRoll : Room := { frames := 7, cells := 1, slots := 6, locals := 111 }
abbrev q_X10_isOnRoll (G : GP) (ad : Nat → Nat → Nat) (K : Int32 → GF → Prop) (X : String → GF → Prop) (below : List Frame) (args : Array Value) (s : State) : State → Prop := vx_MQ below (gQi G ad K) (gX G ad X) args s 1 6 (gA G)
set_option maxHeartbeats 4000000 in
set_option maxRecDepth 100000 in
theorem c_X10_isOnRoll (l : Launch) (hfl : l.stackTraces = false) (G : GP) (ad : Nat → Nat → Nat) (F : GF) (p1 : Int32) (K : Int32 → GF → Prop) (X : String → GF → Prop) : vx_Met l yX10_isOnRoll wsX10_isOnRoll rm_X10_isOnRoll (va_Pc [.ref (ad 0 0), .int p1] (fun U => gD G ad F U ∧ P_X10_isOnRoll F p1 K X)) (gQi G ad K) (gX G ad X) 1 6 (gA G) := by
  refine vx_ofW (cc := cX10_isOnRoll) (maxL := 2) (ret := (some .boolean)) (by decide) rfl ?_
  intro p e s m args below meth c s₁ Bd hml hno hv
  obtain ⟨rfl, ⟨hK, hG, hB, hH⟩, q⟩ := hv
  have hx := Bd.exec
  have hb := Bd.bytes
  have hr := Bd.returns
  have hts := atoms_spec (ws := wsX10_isOnRoll) Bd.pre
  have hown : s.vm.findClass RX10 = some m.cls := findClass_of_methodNamed Bd.named
  have hlocks := Bd.notSynchronized
  have hS : va_S (gA G) s.heap s.heap [] := va_S.rf
  have hl := lv_entry [.ref (ad 0 0), .int p1] (n := 2) (Nat.le_of_ble_eq_true rfl)
  rw [lg_entry_eq]
  generalize (lg_sl [.ref (ad 0 0), .int p1] ++ List.replicate (2 - (lg_sl [.ref (ad 0 0), .int p1]).length) Slot.unset).toArray = ls at hl ⊢
  have hl : lv_has ls 2 [(0, .ref (ad 0 0)), (1, .int p1)] := hl
  unfold P_X10_isOnRoll at q
  refine lv_aload_n hx hb dX10_isOnRoll_0 rfl (lv_at hl 0 rfl) ?_
  refine lv_iload_n hx hb dX10_isOnRoll_1 rfl (lv_at hl 1 rfl) ?_
  refine vx_callv (vx_runV (As := [.int p1]) (rest := []) ⟨hx, hb, hml, hown, hts⟩ (c_X10_needPerson l hfl G ad F p1 _ _) (cwV 1 hts gX10_isOnRoll_X10_needPerson rfl rfl rfl (by decide +kernel) ⟨Nat.le_of_ble_eq_true rfl, Nat.le_of_ble_eq_true rfl⟩) ⟨fun a U g mk h => ⟨h.1, gD_blind h.2.1, h.2.2⟩, g_recv (C := RX10) (T := TX10) (N := 8) hK hH 0 0 (by decide) Nat.zero_lt_one rfl rfl, fun U hU hW => ⟨rfl, gD_at hK hG hB hH hS hU hW, q⟩⟩ rfl rfl hl.1 rfl (lv_room (Nat.le_of_ble_eq_true rfl)) dX10_isOnRoll_2 ⟨Nat.le_of_ble_eq_true rfl, Nat.le_of_ble_eq_true rfl⟩) hS (fun _ _ h => h) (fun _ h => h) (fun _ _ h => h) (fun E ce q9 u t H locs ht hvm _ hq hz hk hS hc9 hv9 hcl9 => vx_widen (Nat.le_of_ble_eq_true rfl) (Nat.le_of_ble_eq_true rfl) (vx_out (fun x hx => (hno x hx).elim) hlocks hc9 hv9 hcl9 (fun t1 ht1 hvm1 => ⟨u, trivial, ⟨hq.1, gH_at ht1 (gH_to ht hq.2)⟩, hS.F ht1⟩) hS.2.2 (Nat.le_refl _) (Nat.le_refl _))) (fun F2 t H locs ht hvm q hB1 hz hk hS => ?_)
  have hH : gH G ad F2 H := gH_to ht hB1
  refine lv_aload_n hx hb dX10_isOnRoll_5 rfl (lv_at hl 0 rfl) ?_
  refine g_get (ci := 14) (v := .ref (ad 10 0)) (C := RX10) (T := TX10) (N := 8) hx hb hts (fun _ h => (List.mem_cons_of_mem _ (List.mem_append_left _ (List.mem_append_left _ (List.mem_append_left _ (List.mem_append_left _ (List.mem_append_right _ h))))))) hown hK hH 0 0 (by decide) Nat.zero_lt_one rfl rfl 6 (by decide) (hts (.fieldLink RX10 43 "BallotFoundry" "election" "LBallotFoundry$Election;") (List.mem_of_getElem? (i := 1) rfl)) (fun _ h => h) rfl dX10_isOnRoll_6 ?_
  refine g_getN (ci := 6) (v := .ref (ad 12 0)) (C := RX2) (T := TX2) (N := 10) hx hb hts (fun _ h => (List.mem_cons_of_mem _ (List.mem_append_left _ (List.mem_append_left _ (List.mem_append_left _ (List.mem_append_right _ h)))))) hown hK hH 10 0 (by decide) Nat.zero_lt_one rfl rfl 6 (by decide) (va_Nw.use rfl (hG.1 ("BallotFoundry", 167, "BallotFoundry$Election", "roll", "LBallotFoundry$Roll;", "BallotFoundry") (List.mem_of_getElem? (i := 22) rfl))) (fun _ h => h) rfl dX10_isOnRoll_9 ?_
  refine lv_iload_n hx hb dX10_isOnRoll_12 rfl (lv_at hl 1 rfl) ?_
  refine va_calli (va_runV (As := [.int p1]) (rest := []) ⟨hx, hb, hml, hown, hts⟩ (c_X5_stationFor l G ad F2 p1 _) (cwV 1 hts gX10_isOnRoll_X5_stationFor rfl rfl rfl (by decide +kernel) ⟨Nat.le_of_ble_eq_true rfl, Nat.le_of_ble_eq_true rfl⟩) ⟨fun a U g mk h => ⟨h.1, gD_blind h.2.1, h.2.2⟩, g_recv (C := RX5) (T := TX5) (N := 3) hK hH 12 0 (by decide) Nat.zero_lt_one rfl rfl, fun U hU hW => ⟨rfl, gD_at hK hG hB hH hS hU hW, q⟩⟩ rfl rfl hl.1 rfl (lv_room (Nat.le_of_ble_eq_true rfl)) dX10_isOnRoll_13 ⟨Nat.le_of_ble_eq_true rfl, Nat.le_of_ble_eq_true rfl⟩) hS (fun _ _ h => h) (fun _ h => h) (fun r3 F4 t H locs ht hvm q hB1 hz hk hS => ?_)
  have hH : gH G ad F4 H := gH_to ht hB1
  refine lv_iconst (v := (-1)) hx hb dX10_isOnRoll_16 (by decide) ?_
  refine lv_icmp_eq (tgt := 24) hx hb dX10_isOnRoll_17 (by decide) (fun c5 => ?_) (fun c5 => ?_)
  · have q := (if_pos c5).mp q
    refine lv_iconst (v := 0) hx hb dX10_isOnRoll_24 (by decide) ?_
    exact vx_ret (W.zret (v := 0) hx hb hr rfl (fun t ht hW => ⟨⟨0, F4, rfl, q, gH_at ht hH⟩, hS.F ht⟩) hS.2.2 dX10_isOnRoll_25)
  · have q := (if_neg c5).mp q
    refine lv_iconst (v := 1) hx hb dX10_isOnRoll_20 (by decide) ?_
    refine lv_goto (tgt := 25) hx hb dX10_isOnRoll_21 (by decide) ?_
    exact vx_ret (W.zret (v := 1) hx hb hr rfl (fun t ht hW => ⟨⟨1, F4, rfl, q, gH_at ht hH⟩, hS.F ht⟩) hS.2.2 dX10_isOnRoll_25)
abbrev rm_X10_stationOf : Room := { frames := 7, cells := 1, slots := 6, locals := 111 }
abbrev q_X10_stationOf (G : GP) (ad : Nat → Nat → Nat) (K : Int32 → GF → Prop) (X : String → GF → Prop) (below : List Frame) (args : Array Value) (s : State) : State → Prop := vx_MQ below (gQi G ad K) (gX G ad X) args s 1 6 (gA G)
set_option maxHeartbeats 4000000 in
set_option maxRecDepth 100000 in
theorem c_X10_stationOf (l : Launch) (hfl : l.stackTraces = false) (G : GP) (ad : Nat → Nat → Nat) (F : GF) (p1 : Int32) (K : Int32 → GF → Prop) (X : String → GF → Prop) : vx_Met l yX10_stationOf wsX10_stationOf rm_X10_stationOf (va_Pc [.ref (ad 0 0), .int p1] (fun U => gD G ad F U ∧ P_X10_stationOf F p1 K X)) (gQi G ad K) (gX G ad X) 1 6 (gA G) := by
  refine vx_ofW (cc := cX10_stationOf) (maxL := 2) (ret := (some .int)) (by decide) rfl ?_
  intro p e s m args below meth c s₁ Bd hml hno hv
  obtain ⟨rfl, ⟨hK, hG, hB, hH⟩, q⟩ := hv
  have hx := Bd.exec
  have hb := Bd.bytes
  have hr := Bd.returns
  have hts := atoms_spec (ws := wsX10_stationOf) Bd.pre
  have hown : s.vm.findClass RX10 = some m.cls := findClass_of_methodNamed Bd.named
  have hlocks := Bd.notSynchronized
  have hS : va_S (gA G) s.heap s.heap [] := va_S.rf
  have hl := lv_entry [.ref (ad 0 0), .int p1] (n := 2) (Nat.le_of_ble_eq_true rfl)
  rw [lg_entry_eq]
  generalize (lg_sl [.ref (ad 0 0), .int p1] ++ List.replicate (2 - (lg_sl [.ref (ad 0 0), .int p1]).length) Slot.unset).toArray = ls at hl ⊢
  have hl : lv_has ls 2 [(0, .ref (ad 0 0)), (1, .int p1)] := hl
  unfold P_X10_stationOf at q
  refine lv_aload_n hx hb dX10_stationOf_0 rfl (lv_at hl 0 rfl) ?_
  refine lv_iload_n hx hb dX10_stationOf_1 rfl (lv_at hl 1 rfl) ?_
  refine vx_callv (vx_runV (As := [.int p1]) (rest := []) ⟨hx, hb, hml, hown, hts⟩ (c_X10_needPerson l hfl G ad F p1 _ _) (cwV 1 hts gX10_stationOf_X10_needPerson rfl rfl rfl (by decide +kernel) ⟨Nat.le_of_ble_eq_true rfl, Nat.le_of_ble_eq_true rfl⟩) ⟨fun a U g mk h => ⟨h.1, gD_blind h.2.1, h.2.2⟩, g_recv (C := RX10) (T := TX10) (N := 8) hK hH 0 0 (by decide) Nat.zero_lt_one rfl rfl, fun U hU hW => ⟨rfl, gD_at hK hG hB hH hS hU hW, q⟩⟩ rfl rfl hl.1 rfl (lv_room (Nat.le_of_ble_eq_true rfl)) dX10_stationOf_2 ⟨Nat.le_of_ble_eq_true rfl, Nat.le_of_ble_eq_true rfl⟩) hS (fun _ _ h => h) (fun _ h => h) (fun _ _ h => h) (fun E ce q9 u t H locs ht hvm _ hq hz hk hS hc9 hv9 hcl9 => vx_widen (Nat.le_of_ble_eq_true rfl) (Nat.le_of_ble_eq_true rfl) (vx_out (fun x hx => (hno x hx).elim) hlocks hc9 hv9 hcl9 (fun t1 ht1 hvm1 => ⟨u, trivial, ⟨hq.1, gH_at ht1 (gH_to ht hq.2)⟩, hS.F ht1⟩) hS.2.2 (Nat.le_refl _) (Nat.le_refl _))) (fun F2 t H locs ht hvm q hB1 hz hk hS => ?_)
  have hH : gH G ad F2 H := gH_to ht hB1
  refine lv_aload_n hx hb dX10_stationOf_5 rfl (lv_at hl 0 rfl) ?_
  refine g_get (ci := 14) (v := .ref (ad 10 0)) (C := RX10) (T := TX10) (N := 8) hx hb hts (fun _ h => (List.mem_cons_of_mem _ (List.mem_append_left _ (List.mem_append_left _ (List.mem_append_left _ (List.mem_append_left _ (List.mem_append_right _ h))))))) hown hK hH 0 0 (by decide) Nat.zero_lt_one rfl rfl 6 (by decide) (hts (.fieldLink RX10 43 "BallotFoundry" "election" "LBallotFoundry$Election;") (List.mem_of_getElem? (i := 1) rfl)) (fun _ h => h) rfl dX10_stationOf_6 ?_
  refine g_getN (ci := 6) (v := .ref (ad 12 0)) (C := RX2) (T := TX2) (N := 10) hx hb hts (fun _ h => (List.mem_cons_of_mem _ (List.mem_append_left _ (List.mem_append_left _ (List.mem_append_left _ (List.mem_append_right _ h)))))) hown hK hH 10 0 (by decide) Nat.zero_lt_one rfl rfl 6 (by decide) (va_Nw.use rfl (hG.1 ("BallotFoundry", 167, "BallotFoundry$Election", "roll", "LBallotFoundry$Roll;", "BallotFoundry") (List.mem_of_getElem? (i := 22) rfl))) (fun _ h => h) rfl dX10_stationOf_9 ?_
  refine lv_iload_n hx hb dX10_stationOf_12 rfl (lv_at hl 1 rfl) ?_
  refine va_calli (va_runV (As := [.int p1]) (rest := []) ⟨hx, hb, hml, hown, hts⟩ (c_X5_stationFor l G ad F2 p1 _) (cwV 1 hts gX10_stationOf_X5_stationFor rfl rfl rfl (by decide +kernel) ⟨Nat.le_of_ble_eq_true rfl, Nat.le_of_ble_eq_true rfl⟩) ⟨fun a U g mk h => ⟨h.1, gD_blind h.2.1, h.2.2⟩, g_recv (C := RX5) (T := TX5) (N := 3) hK hH 12 0 (by decide) Nat.zero_lt_one rfl rfl, fun U hU hW => ⟨rfl, gD_at hK hG hB hH hS hU hW, q⟩⟩ rfl rfl hl.1 rfl (lv_room (Nat.le_of_ble_eq_true rfl)) dX10_stationOf_13 ⟨Nat.le_of_ble_eq_true rfl, Nat.le_of_ble_eq_true rfl⟩) hS (fun _ _ h => h) (fun _ h => h) (fun r3 F4 t H locs ht hvm q hB1 hz hk hS => ?_)
  have hH : gH G ad F4 H := gH_to ht hB1
  exact vx_ret (W.iret (v := r3) hx hb hr (fun t ht hW => ⟨⟨r3, F4, rfl, q, gH_at ht hH⟩, hS.F ht⟩) hS.2.2 dX10_stationOf_16)
abbrev rm_X10_peopleOf : Room := { frames := 7, cells := 1, slots := 6, locals := 111 }
abbrev q_X10_peopleOf (G : GP) (ad : Nat → Nat → Nat) (K : Int32 → GF → Prop) (X : String → GF → Prop) (below : List Frame) (args : Array Value) (s : State) : State → Prop := vx_MQ below (gQi G ad K) (gX G ad X) args s 1 6 (gA G)
set_option maxHeartbeats 4000000 in
set_option maxRecDepth 100000 in
theorem c_X10_peopleOf (l : Launch) (hfl : l.stackTraces = false) (G : GP) (ad : Nat → Nat → Nat) (F : GF) (p1 : Int32) (K : Int32 → GF → Prop) (X : String → GF → Prop) : vx_Met l yX10_peopleOf wsX10_peopleOf rm_X10_peopleOf (va_Pc [.ref (ad 0 0), .int p1] (fun U => gD G ad F U ∧ P_X10_peopleOf F p1 K X)) (gQi G ad K) (gX G ad X) 1 6 (gA G) := by
  refine vx_ofW (cc := cX10_peopleOf) (maxL := 2) (ret := (some .int)) (by decide) rfl ?_
  intro p e s m args below meth c s₁ Bd hml hno hv
  obtain ⟨rfl, ⟨hK, hG, hB, hH⟩, q⟩ := hv
  have hx := Bd.exec
  have hb := Bd.bytes
  have hr := Bd.returns
  have hts := atoms_spec (ws := wsX10_peopleOf) Bd.pre
  have hown : s.vm.findClass RX10 = some m.cls := findClass_of_methodNamed Bd.named
  have hlocks := Bd.notSynchronized
  have hS : va_S (gA G) s.heap s.heap [] := va_S.rf
  have hl := lv_entry [.ref (ad 0 0), .int p1] (n := 2) (Nat.le_of_ble_eq_true rfl)
  rw [lg_entry_eq]
  generalize (lg_sl [.ref (ad 0 0), .int p1] ++ List.replicate (2 - (lg_sl [.ref (ad 0 0), .int p1]).length) Slot.unset).toArray = ls at hl ⊢
  have hl : lv_has ls 2 [(0, .ref (ad 0 0)), (1, .int p1)] := hl
  unfold P_X10_peopleOf at q
  refine lv_aload_n hx hb dX10_peopleOf_0 rfl (lv_at hl 0 rfl) ?_
  refine lv_iload_n hx hb dX10_peopleOf_1 rfl (lv_at hl 1 rfl) ?_
  refine vx_callv (vx_runV (As := [.int p1]) (rest := []) ⟨hx, hb, hml, hown, hts⟩ (c_X10_needStation l hfl G ad F p1 _ _) (cwV 1 hts gX10_peopleOf_X10_needStation rfl rfl rfl (by decide +kernel) ⟨Nat.le_of_ble_eq_true rfl, Nat.le_of_ble_eq_true rfl⟩) ⟨fun a U g mk h => ⟨h.1, gD_blind h.2.1, h.2.2⟩, g_recv (C := RX10) (T := TX10) (N := 8) hK hH 0 0 (by decide) Nat.zero_lt_one rfl rfl, fun U hU hW => ⟨rfl, gD_at hK hG hB hH hS hU hW, q⟩⟩ rfl rfl hl.1 rfl (lv_room (Nat.le_of_ble_eq_true rfl)) dX10_peopleOf_2 ⟨Nat.le_of_ble_eq_true rfl, Nat.le_of_ble_eq_true rfl⟩) hS (fun _ _ h => h) (fun _ h => h) (fun _ _ h => h) (fun E ce q9 u t H locs ht hvm _ hq hz hk hS hc9 hv9 hcl9 => vx_widen (Nat.le_of_ble_eq_true rfl) (Nat.le_of_ble_eq_true rfl) (vx_out (fun x hx => (hno x hx).elim) hlocks hc9 hv9 hcl9 (fun t1 ht1 hvm1 => ⟨u, trivial, ⟨hq.1, gH_at ht1 (gH_to ht hq.2)⟩, hS.F ht1⟩) hS.2.2 (Nat.le_refl _) (Nat.le_refl _))) (fun F2 t H locs ht hvm q hB1 hz hk hS => ?_)
  have hH : gH G ad F2 H := gH_to ht hB1
  refine lv_aload_n hx hb dX10_peopleOf_5 rfl (lv_at hl 0 rfl) ?_
  refine g_get (ci := 14) (v := .ref (ad 10 0)) (C := RX10) (T := TX10) (N := 8) hx hb hts (fun _ h => (List.mem_cons_of_mem _ (List.mem_append_left _ (List.mem_append_left _ (List.mem_append_left _ (List.mem_append_left _ (List.mem_append_left _ (List.mem_append_right _ h)))))))) hown hK hH 0 0 (by decide) Nat.zero_lt_one rfl rfl 6 (by decide) (hts (.fieldLink RX10 43 "BallotFoundry" "election" "LBallotFoundry$Election;") (List.mem_of_getElem? (i := 1) rfl)) (fun _ h => h) rfl dX10_peopleOf_6 ?_
  refine g_getN (ci := 6) (v := .ref (ad 12 0)) (C := RX2) (T := TX2) (N := 10) hx hb hts (fun _ h => (List.mem_cons_of_mem _ (List.mem_append_left _ (List.mem_append_left _ (List.mem_append_left _ (List.mem_append_left _ (List.mem_append_right _ h))))))) hown hK hH 10 0 (by decide) Nat.zero_lt_one rfl rfl 6 (by decide) (va_Nw.use rfl (hG.1 ("BallotFoundry", 167, "BallotFoundry$Election", "roll", "LBallotFoundry$Roll;", "BallotFoundry") (List.mem_of_getElem? (i := 22) rfl))) (fun _ h => h) rfl dX10_peopleOf_9 ?_
  refine lv_iload_n hx hb dX10_peopleOf_12 rfl (lv_at hl 1 rfl) ?_
  refine va_calli (va_runV (As := [.int p1]) (rest := []) ⟨hx, hb, hml, hown, hts⟩ (c_X5_peopleAt l G ad F2 p1 _) (cwV 1 hts gX10_peopleOf_X5_peopleAt rfl rfl rfl (by decide +kernel) ⟨Nat.le_of_ble_eq_true rfl, Nat.le_of_ble_eq_true rfl⟩) ⟨fun a U g mk h => ⟨h.1, gD_blind h.2.1, h.2.2⟩, g_recv (C := RX5) (T := TX5) (N := 3) hK hH 12 0 (by decide) Nat.zero_lt_one rfl rfl, fun U hU hW => ⟨rfl, gD_at hK hG hB hH hS hU hW, q⟩⟩ rfl rfl hl.1 rfl (lv_room (Nat.le_of_ble_eq_true rfl)) dX10_peopleOf_13 ⟨Nat.le_of_ble_eq_true rfl, Nat.le_of_ble_eq_true rfl⟩) hS (fun _ _ h => h) (fun _ h => h) (fun r3 F4 t H locs ht hvm q hB1 hz hk hS => ?_)
  have hH : gH G ad F4 H := gH_to ht hB1
  exact vx_ret (W.iret (v := r3) hx hb hr (fun t ht hW => ⟨⟨r3, F4, rfl, q, gH_at ht hH⟩, hS.F ht⟩) hS.2.2 dX10_peopleOf_16)
abbrev rm_X10_needStage : Room := { frames := 6, cells := 1, slots := 6, locals := 90 }
abbrev q_X10_needStage (G : GP) (ad : Nat → Nat → Nat) (K : GF → Prop) (X : String → GF → Prop) (below : List Frame) (args : Array Value) (s : State) : State → Prop := vx_MQ below (gQv G ad K) (gX G ad X) args s 1 6 (gA G)
set_option maxHeartbeats 4000000 in
set_option maxRecDepth 100000 in
theorem c_X10_needStage (l : Launch) (hfl : l.stackTraces = false) (G : GP) (ad : Nat → Nat → Nat) (F : GF) (p1 : Int32) (K : GF → Prop) (X : String → GF → Prop) : vx_Met l yX10_needStage wsX10_needStage rm_X10_needStage (va_Pc [.ref (ad 0 0), .int p1] (fun U => gD G ad F U ∧ P_X10_needStage F p1 K X)) (gQv G ad K) (gX G ad X) 1 6 (gA G) := by
  refine vx_ofW (cc := cX10_needStage) (maxL := 2) (ret := none) (by decide) rfl ?_
  intro p e s m args below meth c s₁ Bd hml hno hv
  obtain ⟨rfl, ⟨hK, hG, hB, hH⟩, q⟩ := hv
  have hx := Bd.exec
  have hb := Bd.bytes
  have hr := Bd.returns
  have hts := atoms_spec (ws := wsX10_needStage) Bd.pre
  have hown : s.vm.findClass RX10 = some m.cls := findClass_of_methodNamed Bd.named
  have hlocks := Bd.notSynchronized
  have hS : va_S (gA G) s.heap s.heap [] := va_S.rf
  have hl := lv_entry [.ref (ad 0 0), .int p1] (n := 2) (Nat.le_of_ble_eq_true rfl)
  rw [lg_entry_eq]
  generalize (lg_sl [.ref (ad 0 0), .int p1] ++ List.replicate (2 - (lg_sl [.ref (ad 0 0), .int p1]).length) Slot.unset).toArray = ls at hl ⊢
  have hl : lv_has ls 2 [(0, .ref (ad 0 0)), (1, .int p1)] := hl
  unfold P_X10_needStage at q
  refine lv_aload_n hx hb dX10_needStage_0 rfl (lv_at hl 0 rfl) ?_
  refine g_get (ci := 14) (v := .ref (ad 10 0)) (C := RX10) (T := TX10) (N := 8) hx hb hts (fun _ h => (List.mem_cons_of_mem _ (List.mem_append_left _ (List.mem_append_left _ (List.mem_append_right _ h))))) hown hK hH 0 0 (by decide) Nat.zero_lt_one rfl rfl 6 (by decide) (hts (.fieldLink RX10 43 "BallotFoundry" "election" "LBallotFoundry$Election;") (List.mem_of_getElem? (i := 3) rfl)) (fun _ h => h) rfl dX10_needStage_1 ?_
  refine g_getN (ci := 6) (v := .int (F 10 0 0)) (C := RX2) (T := TX2) (N := 10) hx hb hts (fun _ h => (List.mem_cons_of_mem _ (List.mem_append_left _ (List.mem_append_right _ h)))) hown hK hH 10 0 (by decide) Nat.zero_lt_one rfl rfl 0 (by decide) (va_Nw.use rfl (hG.1 ("BallotFoundry", 135, "BallotFoundry$Election", "stage", "I", "BallotFoundry") (List.mem_of_getElem? (i := 16) rfl))) (fun _ h => h) rfl dX10_needStage_4 ?_
  refine lv_iload_n hx hb dX10_needStage_7 rfl (lv_at hl 1 rfl) ?_
  refine lv_icmp_eq (tgt := 22) hx hb dX10_needStage_8 (by decide) (fun c1 => ?_) (fun c1 => ?_)
  · have q := (if_pos c1).mp q
    refine W.widen (k := 1) (n := 6) (Nat.le_of_ble_eq_true rfl) (Nat.le_of_ble_eq_true rfl) ?_
    exact vx_ret (W.vret hx hb hr (fun t ht hW => ⟨⟨F, rfl, q, gH_at ht hH⟩, hS.F ht⟩) hS.2.2 dX10_needStage_22)
  · have q := (if_neg c1).mp q
    exact g_throwW (text := "another stage") hx hb hfl hno hown hts hG hS (List.mem_of_getElem? (i := 2) rfl) (List.mem_of_getElem? (i := 14) rfl) (List.mem_of_getElem? (i := 1) rfl) (List.mem_of_getElem? (i := 2) rfl) (fun _ h => (List.mem_cons_of_mem _ (List.mem_append_right _ h))) (hl.1.trans hml.symm) hlocks dX10_needStage_11 dX10_needStage_14 dX10_needStage_15 dX10_needStage_18 dX10_needStage_21 (Nat.le_of_ble_eq_true rfl) (Nat.le_of_ble_eq_true rfl) (Nat.le_of_ble_eq_true rfl) (Nat.le_of_ble_eq_true rfl) (fun t hvm hz hk => ⟨F, trivial, ⟨q, gH_grow hH hz hk⟩, gF_grow hS hz hk⟩) hS.2.2 (Nat.le_of_ble_eq_true rfl) (Nat.le_of_ble_eq_true rfl)
