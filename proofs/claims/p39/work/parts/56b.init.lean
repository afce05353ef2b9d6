abbrev rz_X1_init_4 : Room := { frames := 1, cells := 11, slots := 84, locals := 20 }
set_option maxHeartbeats 4000000 in
set_option maxRecDepth 100000 in
theorem cz_X1_init_4 (l : Launch) (G : GPz) (F : GF) (K : GF → Prop) : Met l yX1_init wsX1_init rz_X1_init_4 (va_Pc [.ref (zad G.2.2.2 28 4)] (fun U => zD G 76 F U ∧ PZ_X1_init_4 F K)) (zQv G 87 K) 11 84 (gA (zg G)) := by
  refine Met.ofW (cc := cX1_init) (maxL := 1) (ret := none) (by decide) rfl ?_
  intro p e s m args below meth c s₁ Bd hml hv
  obtain ⟨rfl, ⟨⟨hK, hG, hZ⟩, hH, hz⟩, q⟩ := hv
  have hx := Bd.exec
  have hb := Bd.bytes
  have hr := Bd.returns
  have hts := atoms_spec (ws := wsX1_init) Bd.pre
  have hown : s.vm.findClass RX1 = some m.cls := findClass_of_methodNamed Bd.named
  have hlocks := Bd.notSynchronized
  have hin : meth.name = "<init>" := (name_of_methodNamed Bd.named Bd.method).1
  have hS : va_S (gA (zg G)) s.heap s.heap [] := va_S.rf
  have hl := lv_entry [.ref (zad G.2.2.2 28 4)] (n := 1) (Nat.le_of_ble_eq_true rfl)
  rw [lg_entry_eq]
  generalize (lg_sl [.ref (zad G.2.2.2 28 4)] ++ List.replicate (1 - (lg_sl [.ref (zad G.2.2.2 28 4)]).length) Slot.unset).toArray = ls at hl ⊢
  have hl : lv_has ls 1 [(0, .ref (zad G.2.2.2 28 4))] := hl
  unfold PZ_X1_init_4 at q
  refine lv_aload_n hx hb dX1_init_0 rfl (lv_at hl 0 rfl) ?_
  refine W.objInit hx hb hown (hts (.methodLink RX1 3 objectInit) (List.mem_of_getElem? (i := 1) rfl)) (hts (.instanceMethod objectInit) (List.mem_of_getElem? (i := 2) rfl)) (hts (.code objectInit ⟨#[0xb1]⟩ 1 none) (List.mem_of_getElem? (i := 3) rfl)) rfl (by rw [hml]; exact hl.1) rfl dX1_init_1 (Nat.le_of_ble_eq_true rfl) (Nat.le_of_ble_eq_true rfl) ?_
  refine W.eq (g2 := F0 m 4 ls []) rfl ?_
  refine lv_aload_n hx hb dX1_init_4 rfl (lv_at hl 0 rfl) ?_
  refine lv_bipush (v := 20) hx hb dX1_init_5 (by decide) ?_
  obtain ⟨h1, q⟩ := q
  refine z_newa (atype := .int) (ty := .int) (N' := 20) (a0 := (20, .inl (zdef 29))) hx hb (hts (.arrayClass .int) (List.mem_of_getElem? (i := 4) rfl)) rfl hK hH hS (n0 := 76) hz rfl (by decide) 29 4 2 (by rfl) (by rw [h1]; rfl) rfl (fun _ h => by cases h) (fun _ => rfl) (by decide) (by decide) (Nat.le_of_ble_eq_true rfl) (Nat.le_of_ble_eq_true rfl) (Nat.le_of_ble_eq_true rfl) dX1_init_7 (fun H hH hS => ?_)
  refine z_putF (ci := 5) (v := .ref (zad G.2.2.2 29 4)) (C := RX1) (T := TX1) (N := 6) hx hb hts (fun _ h => (List.mem_cons_of_mem _ (List.mem_append_right _ h))) tyX1 tyX1_ok nmX1 hown hK hH hS 28 4 75 (by rfl) rfl rfl 0 (by decide) (hts (.fieldLink RX1 9 "BallotFoundry$Box" "ballots" "[I") (List.mem_of_getElem? (i := 5) rfl)) (fun _ h => h) rfl hin rfl (ty := tyX1 0) (by decide +kernel) rfl rfl (Nat.le_of_ble_eq_true rfl) 1 rfl dX1_init_9 (fun H locs hH hS => ?_)
  obtain ⟨F2, eF2⟩ : ∃ z, z = fs F 28 4 0 1 := ⟨_, rfl⟩
  have q := q F2 eF2
  rw [← eF2] at hH
  refine lv_aload_n hx hb dX1_init_12 rfl (lv_at hl 0 rfl) ?_
  refine lv_iconst (v := 0) hx hb dX1_init_13 (by decide) ?_
  refine z_put (ci := 5) (v := .int 0) (C := RX1) (T := TX1) (N := 6) hx hb hts (fun _ h => (List.mem_cons_of_mem _ (List.mem_append_right _ h))) tyX1 tyX1_ok nmX1 hown hK hH hS 28 4 75 (by rfl) rfl rfl 1 (by decide) (hts (.fieldLink RX1 15 "BallotFoundry$Box" "size" "I") (List.mem_of_getElem? (i := 6) rfl)) (fun _ h => h) rfl (ty := .int) (by decide +kernel) rfl rfl (Nat.le_of_ble_eq_true rfl) 0 rfl dX1_init_14 (fun H locs hH hS => ?_)
  obtain ⟨F3, eF3⟩ : ∃ z, z = fs F2 28 4 1 0 := ⟨_, rfl⟩
  have q := q F3 eF3
  rw [← eF3] at hH
  refine lv_aload_n hx hb dX1_init_17 rfl (lv_at hl 0 rfl) ?_
  refine lv_bipush (v := 8) hx hb dX1_init_18 (by decide) ?_
  obtain ⟨h4, q⟩ := q
  refine z_newa (atype := .int) (ty := .int) (N' := 8) (a0 := (8, .inl (zdef 30))) hx hb (hts (.arrayClass .int) (List.mem_of_getElem? (i := 4) rfl)) rfl hK hH hS (n0 := 76) hz rfl (by decide) 30 4 2 (by rfl) (by rw [h4]; rfl) rfl (fun _ h => by cases h) (fun _ => rfl) (by decide) (by decide) (Nat.le_of_ble_eq_true rfl) (Nat.le_of_ble_eq_true rfl) (Nat.le_of_ble_eq_true rfl) dX1_init_20 (fun H hH hS => ?_)
  refine z_putF (ci := 5) (v := .ref (zad G.2.2.2 30 4)) (C := RX1) (T := TX1) (N := 6) hx hb hts (fun _ h => (List.mem_cons_of_mem _ (List.mem_append_right _ h))) tyX1 tyX1_ok nmX1 hown hK hH hS 28 4 75 (by rfl) rfl rfl 2 (by decide) (hts (.fieldLink RX1 19 "BallotFoundry$Box" "clerks" "[I") (List.mem_of_getElem? (i := 7) rfl)) (fun _ h => h) rfl hin rfl (ty := tyX1 2) (by decide +kernel) rfl rfl (Nat.le_of_ble_eq_true rfl) 1 rfl dX1_init_22 (fun H locs hH hS => ?_)
  obtain ⟨F5, eF5⟩ : ∃ z, z = fs F3 28 4 2 1 := ⟨_, rfl⟩
  have q := q F5 eF5
  rw [← eF5] at hH
  refine lv_aload_n hx hb dX1_init_25 rfl (lv_at hl 0 rfl) ?_
  refine lv_bipush (v := 8) hx hb dX1_init_26 (by decide) ?_
  refine lv_bipush (v := 6) hx hb dX1_init_28 (by decide) ?_
  obtain ⟨h6, q⟩ := q
  refine z_mna hx hb hown (hts (.classLink RX1 22 "[[I") (List.mem_of_getElem? (i := 8) rfl)) hZ.2.2 (hts (.arrayClass .int) (List.mem_of_getElem? (i := 4) rfl)) hK hH hS (n0 := 76) hz rfl 4 (by decide) rfl h6.1 h6.2 (by decide +kernel) (Nat.le_of_ble_eq_true rfl) (Nat.le_of_ble_eq_true rfl) dX1_init_30 (fun H hH hS => ?_)
  obtain ⟨F7, eF7⟩ : ∃ z, z = ffill F5 31 4 8 1 := ⟨_, rfl⟩
  have q := q F7 eF7
  rw [← eF7] at hH
  refine z_putF (ci := 5) (v := .ref (zad G.2.2.2 31 4)) (C := RX1) (T := TX1) (N := 6) hx hb hts (fun _ h => (List.mem_cons_of_mem _ (List.mem_append_right _ h))) tyX1 tyX1_ok nmX1 hown hK hH hS 28 4 75 (by rfl) rfl rfl 3 (by decide) (hts (.fieldLink RX1 24 "BallotFoundry$Box" "numbers" "[[I") (List.mem_of_getElem? (i := 9) rfl)) (fun _ h => h) rfl hin rfl (ty := tyX1 3) (by decide +kernel) rfl rfl (Nat.le_of_ble_eq_true rfl) 1 rfl dX1_init_34 (fun H locs hH hS => ?_)
  obtain ⟨F8, eF8⟩ : ∃ z, z = fs F7 28 4 3 1 := ⟨_, rfl⟩
  have q := q F8 eF8
  rw [← eF8] at hH
  refine lv_aload_n hx hb dX1_init_37 rfl (lv_at hl 0 rfl) ?_
  refine lv_iconst (v := 0) hx hb dX1_init_38 (by decide) ?_
  refine z_put (ci := 5) (v := .int 0) (C := RX1) (T := TX1) (N := 6) hx hb hts (fun _ h => (List.mem_cons_of_mem _ (List.mem_append_right _ h))) tyX1 tyX1_ok nmX1 hown hK hH hS 28 4 75 (by rfl) rfl rfl 4 (by decide) (hts (.fieldLink RX1 27 "BallotFoundry$Box" "counts" "I") (List.mem_of_getElem? (i := 10) rfl)) (fun _ h => h) rfl (ty := .int) (by decide +kernel) rfl rfl (Nat.le_of_ble_eq_true rfl) 0 rfl dX1_init_39 (fun H locs hH hS => ?_)
  obtain ⟨F9, eF9⟩ : ∃ z, z = fs F8 28 4 4 0 := ⟨_, rfl⟩
  have q := q F9 eF9
  rw [← eF9] at hH
  refine lv_aload_n hx hb dX1_init_42 rfl (lv_at hl 0 rfl) ?_
  refine lv_iconst (v := (-1)) hx hb dX1_init_43 (by decide) ?_
  refine z_put (ci := 5) (v := .int (-1)) (C := RX1) (T := TX1) (N := 6) hx hb hts (fun _ h => (List.mem_cons_of_mem _ (List.mem_append_right _ h))) tyX1 tyX1_ok nmX1 hown hK hH hS 28 4 75 (by rfl) rfl rfl 5 (by decide) (hts (.fieldLink RX1 30 "BallotFoundry$Box" "settledBy" "I") (List.mem_of_getElem? (i := 11) rfl)) (fun _ h => h) rfl (ty := .int) (by decide +kernel) rfl rfl (Nat.le_of_ble_eq_true rfl) (-1) rfl dX1_init_44 (fun H locs hH hS => ?_)
  obtain ⟨F10, eF10⟩ : ∃ z, z = fs F9 28 4 5 (-1) := ⟨_, rfl⟩
  have q := q F10 eF10
  rw [← eF10] at hH
  refine W.cs (cells' := 11) (slots' := 84) rfl rfl ?_
  exact W.vret hx hb hr (fun t ht hW => ⟨⟨F10, rfl, q, zH_at ht hH⟩, hS.F ht⟩) hS.2.2 dX1_init_47
abbrev rz_X2_init : Room := { frames := 4, cells := 76, slots := 2433, locals := 81 }
set_option maxHeartbeats 4000000 in
set_option maxRecDepth 100000 in
theorem cz_X2_init (l : Launch) (G : GPz) (F : GF) (K : GF → Prop) : Met l yX2_init wsX2_init rz_X2_init (va_Pc [.ref (zad G.2.2.2 10 0)] (fun U => zD G 11 F U ∧ PZ_X2_init F K)) (zQv G 87 K) 76 2433 (gA (zg G)) := by
  refine Met.ofW (cc := cX2_init) (maxL := 2) (ret := none) (by decide) rfl ?_
  intro p e s m args below meth c s₁ Bd hml hv
  obtain ⟨rfl, ⟨⟨hK, hG, hZ⟩, hH, hz⟩, q⟩ := hv
  have hx := Bd.exec
  have hb := Bd.bytes
  have hr := Bd.returns
  have hts := atoms_spec (ws := wsX2_init) Bd.pre
  have hown : s.vm.findClass RX2 = some m.cls := findClass_of_methodNamed Bd.named
  have hlocks := Bd.notSynchronized
  have hin : meth.name = "<init>" := (name_of_methodNamed Bd.named Bd.method).1
  have hS : va_S (gA (zg G)) s.heap s.heap [] := va_S.rf
  have hl := lv_entry [.ref (zad G.2.2.2 10 0)] (n := 2) (Nat.le_of_ble_eq_true rfl)
  rw [lg_entry_eq]
  generalize (lg_sl [.ref (zad G.2.2.2 10 0)] ++ List.replicate (2 - (lg_sl [.ref (zad G.2.2.2 10 0)]).length) Slot.unset).toArray = ls at hl ⊢
  have hl : lv_has ls 2 [(0, .ref (zad G.2.2.2 10 0))] := hl
  unfold PZ_X2_init at q
  refine lv_aload_n hx hb dX2_init_0 rfl (lv_at hl 0 rfl) ?_
  refine W.objInit hx hb hown (hts (.methodLink RX2 3 objectInit) (List.mem_of_getElem? (i := 1) rfl)) (hts (.instanceMethod objectInit) (List.mem_of_getElem? (i := 2) rfl)) (hts (.code objectInit ⟨#[0xb1]⟩ 1 none) (List.mem_of_getElem? (i := 3) rfl)) rfl (by rw [hml]; exact hl.1) rfl dX2_init_1 (Nat.le_of_ble_eq_true rfl) (Nat.le_of_ble_eq_true rfl) ?_
  refine W.eq (g2 := F0 m 4 ls []) rfl ?_
  refine lv_aload_n hx hb dX2_init_4 rfl (lv_at hl 0 rfl) ?_
  refine lv_iconst (v := 0) hx hb dX2_init_5 (by decide) ?_
  refine z_put (ci := 6) (v := .int 0) (C := RX2) (T := TX2) (N := 10) hx hb hts (fun _ h => (List.mem_cons_of_mem _ (List.mem_append_left _ (List.mem_append_left _ (List.mem_append_left _ (List.mem_append_left _ (List.mem_append_left _ (List.mem_append_right _ h)))))))) tyX2 tyX2_ok nmX2 hown hK hH hS 10 0 10 (by rfl) rfl rfl 0 (by decide) (hts (.fieldLink RX2 9 "BallotFoundry$Election" "stage" "I") (List.mem_of_getElem? (i := 4) rfl)) (fun _ h => h) rfl (ty := .int) (by decide +kernel) rfl rfl (Nat.le_of_ble_eq_true rfl) 0 rfl dX2_init_6 (fun H locs hH hS => ?_)
  obtain ⟨F1, eF1⟩ : ∃ z, z = fs F 10 0 0 0 := ⟨_, rfl⟩
  have q := q F1 eF1
  rw [← eF1] at hH
  refine lv_aload_n hx hb dX2_init_9 rfl (lv_at hl 0 rfl) ?_
  refine lv_iconst (v := 0) hx hb dX2_init_10 (by decide) ?_
  refine z_put (ci := 6) (v := .int 0) (C := RX2) (T := TX2) (N := 10) hx hb hts (fun _ h => (List.mem_cons_of_mem _ (List.mem_append_left _ (List.mem_append_left _ (List.mem_append_left _ (List.mem_append_left _ (List.mem_append_left _ (List.mem_append_right _ h)))))))) tyX2 tyX2_ok nmX2 hown hK hH hS 10 0 10 (by rfl) rfl rfl 1 (by decide) (hts (.fieldLink RX2 15 "BallotFoundry$Election" "day" "I") (List.mem_of_getElem? (i := 5) rfl)) (fun _ h => h) rfl (ty := .int) (by decide +kernel) rfl rfl (Nat.le_of_ble_eq_true rfl) 0 rfl dX2_init_11 (fun H locs hH hS => ?_)
  obtain ⟨F2, eF2⟩ : ∃ z, z = fs F1 10 0 1 0 := ⟨_, rfl⟩
  have q := q F2 eF2
  rw [← eF2] at hH
  refine lv_aload_n hx hb dX2_init_14 rfl (lv_at hl 0 rfl) ?_
  refine lv_iconst (v := 0) hx hb dX2_init_15 (by decide) ?_
  refine z_put (ci := 6) (v := .int 0) (C := RX2) (T := TX2) (N := 10) hx hb hts (fun _ h => (List.mem_cons_of_mem _ (List.mem_append_left _ (List.mem_append_left _ (List.mem_append_left _ (List.mem_append_left _ (List.mem_append_left _ (List.mem_append_right _ h)))))))) tyX2 tyX2_ok nmX2 hown hK hH hS 10 0 10 (by rfl) rfl rfl 2 (by decide) (hts (.fieldLink RX2 18 "BallotFoundry$Election" "partySeats" "I") (List.mem_of_getElem? (i := 6) rfl)) (fun _ h => h) rfl (ty := .int) (by decide +kernel) rfl rfl (Nat.le_of_ble_eq_true rfl) 0 rfl dX2_init_16 (fun H locs hH hS => ?_)
  obtain ⟨F3, eF3⟩ : ∃ z, z = fs F2 10 0 2 0 := ⟨_, rfl⟩
  have q := q F3 eF3
  rw [← eF3] at hH
  refine lv_aload_n hx hb dX2_init_19 rfl (lv_at hl 0 rfl) ?_
  refine lv_iconst (v := 0) hx hb dX2_init_20 (by decide) ?_
  refine z_put (ci := 6) (v := .int 0) (C := RX2) (T := TX2) (N := 10) hx hb hts (fun _ h => (List.mem_cons_of_mem _ (List.mem_append_left _ (List.mem_append_left _ (List.mem_append_left _ (List.mem_append_left _ (List.mem_append_left _ (List.mem_append_right _ h)))))))) tyX2 tyX2_ok nmX2 hown hK hH hS 10 0 10 (by rfl) rfl rfl 3 (by decide) (hts (.fieldLink RX2 21 "BallotFoundry$Election" "isOdd" "Z") (List.mem_of_getElem? (i := 7) rfl)) (fun _ h => h) rfl (ty := .boolean) (by decide +kernel) rfl rfl (Nat.le_of_ble_eq_true rfl) 0 rfl dX2_init_21 (fun H locs hH hS => ?_)
  obtain ⟨F4, eF4⟩ : ∃ z, z = fs F3 10 0 3 0 := ⟨_, rfl⟩
  have q := q F4 eF4
  rw [← eF4] at hH
  refine lv_aload_n hx hb dX2_init_24 rfl (lv_at hl 0 rfl) ?_
  refine lv_iconst (v := 0) hx hb dX2_init_25 (by decide) ?_
  refine z_put (ci := 6) (v := .int 0) (C := RX2) (T := TX2) (N := 10) hx hb hts (fun _ h => (List.mem_cons_of_mem _ (List.mem_append_left _ (List.mem_append_left _ (List.mem_append_left _ (List.mem_append_left _ (List.mem_append_left _ (List.mem_append_right _ h)))))))) tyX2 tyX2_ok nmX2 hown hK hH hS 10 0 10 (by rfl) rfl rfl 4 (by decide) (hts (.fieldLink RX2 25 "BallotFoundry$Election" "stationsOfIt" "I") (List.mem_of_getElem? (i := 8) rfl)) (fun _ h => h) rfl (ty := .int) (by decide +kernel) rfl rfl (Nat.le_of_ble_eq_true rfl) 0 rfl dX2_init_26 (fun H locs hH hS => ?_)
  obtain ⟨F5, eF5⟩ : ∃ z, z = fs F4 10 0 4 0 := ⟨_, rfl⟩
  have q := q F5 eF5
  rw [← eF5] at hH
  refine lv_aload_n hx hb dX2_init_29 rfl (lv_at hl 0 rfl) ?_
  refine lv_iconst (v := 5) hx hb dX2_init_30 (by decide) ?_
  obtain ⟨h6, q⟩ := q
  refine z_newa (atype := .int) (ty := .int) (N' := 5) (a0 := (5, .inl (zdef 11))) hx hb (hts (.arrayClass .int) (List.mem_of_getElem? (i := 9) rfl)) rfl hK hH hS (n0 := 11) hz rfl (by decide) 11 0 2 (by rfl) (by rw [h6]; rfl) rfl (fun _ h => by cases h) (fun _ => rfl) (by decide) (by decide) (Nat.le_of_ble_eq_true rfl) (Nat.le_of_ble_eq_true rfl) (Nat.le_of_ble_eq_true rfl) dX2_init_31 (fun H hH hS => ?_)
  refine z_putF (ci := 6) (v := .ref (zad G.2.2.2 11 0)) (C := RX2) (T := TX2) (N := 10) hx hb hts (fun _ h => (List.mem_cons_of_mem _ (List.mem_append_left _ (List.mem_append_left _ (List.mem_append_left _ (List.mem_append_left _ (List.mem_append_left _ (List.mem_append_right _ h)))))))) tyX2 tyX2_ok nmX2 hown hK hH hS 10 0 10 (by rfl) rfl rfl 5 (by decide) (hts (.fieldLink RX2 28 "BallotFoundry$Election" "seeds" "[I") (List.mem_of_getElem? (i := 10) rfl)) (fun _ h => h) rfl hin rfl (ty := tyX2 5) (by decide +kernel) rfl rfl (Nat.le_of_ble_eq_true rfl) 1 rfl dX2_init_33 (fun H locs hH hS => ?_)
  obtain ⟨F7, eF7⟩ : ∃ z, z = fs F5 10 0 5 1 := ⟨_, rfl⟩
  have q := q F7 eF7
  rw [← eF7] at hH
  refine lv_aload_n hx hb dX2_init_36 rfl (lv_at hl 0 rfl) ?_
  obtain ⟨h8, q⟩ := q
  refine z_new (ci := 9) (C := RX5) (T := TX5) (N := 3) (fs0 := [.null, .null, .null]) hx hb hts (fun _ h => (List.mem_cons_of_mem _ (List.mem_append_left _ (List.mem_append_left _ (List.mem_append_left _ (List.mem_append_left _ (List.mem_append_right _ h))))))) tyX5 tyX5_ok hown (hts (.classLink RX2 32 RX5) (List.mem_of_getElem? (i := 11) rfl)) (hts (.instantiable RX5 3) (List.mem_of_getElem? (i := 12) rfl)) (hts (.initialized RX5) (List.mem_of_getElem? (i := 13) rfl)) hK hH hS (n0 := 11) hz rfl (by decide) 12 0 (by rfl) (by rw [h8]; rfl) rfl (by decide +kernel) (Nat.le_of_ble_eq_true rfl) (Nat.le_of_ble_eq_true rfl) dX2_init_37 (fun H hH hS => ?_)
  refine lv_dup hx hb dX2_init_40 rfl ?_
  refine W.sz (fun hle => ?_)
  have hzn : H.size = G.2.2.2 + 13 := zsize (n0 := 11) hH (by decide) hz rfl hle
  refine va_callv (va_runI (As := []) (rest := [.ref (zad G.2.2.2 12 0), .ref (zad G.2.2.2 10 0)]) ⟨hx, hb, hml, hown, hts⟩ (cz_X5_init l G F7 _) (cwI 0 hts gX2_init_X5_init rfl rfl rfl (hts (.initialized RX5) (List.mem_of_getElem? (i := 13) rfl)) (hts (.methodLink RX2 34 yX5_init) (List.mem_of_getElem? (i := 27) rfl)) (hts (.instanceMethod yX5_init) (List.mem_of_getElem? (i := 28) rfl)) rfl (by decide +kernel) ⟨Nat.le_of_ble_eq_true rfl, Nat.le_of_ble_eq_true rfl⟩) ⟨fun a U g mk h => ⟨h.1, zD_blind h.2.1, h.2.2⟩, fun U hU hW => ⟨rfl, zD_at hK hG hZ hH hzn hS hU hW, q⟩⟩ rfl rfl hl.1 rfl (lv_room (Nat.le_of_ble_eq_true rfl)) dX2_init_41 ⟨Nat.le_of_ble_eq_true rfl, Nat.le_of_ble_eq_true rfl⟩) hS (fun _ _ h => h) (fun _ h => h) (fun F9 t H locs ht hvm q hB1 hzz hk hS => ?_)
  have hH : zH G 16 F9 H := zH_to ht hB1
  refine z_putF (ci := 6) (v := .ref (zad G.2.2.2 12 0)) (C := RX2) (T := TX2) (N := 10) hx hb hts (fun _ h => (List.mem_cons_of_mem _ (List.mem_append_left _ (List.mem_append_left _ (List.mem_append_left _ (List.mem_append_left _ (List.mem_append_left _ (List.mem_append_right _ h)))))))) tyX2 tyX2_ok nmX2 hown hK hH hS 10 0 10 (by rfl) rfl rfl 6 (by decide) (hts (.fieldLink RX2 35 "BallotFoundry$Election" "roll" "LBallotFoundry$Roll;") (List.mem_of_getElem? (i := 14) rfl)) (fun _ h => h) rfl hin rfl (ty := tyX2 6) (by decide +kernel) rfl rfl (Nat.le_of_ble_eq_true rfl) 1 rfl dX2_init_44 (fun H locs hH hS => ?_)
  obtain ⟨F10, eF10⟩ : ∃ z, z = fs F9 10 0 6 1 := ⟨_, rfl⟩
  have q := q F10 eF10
  rw [← eF10] at hH
  refine lv_aload_n hx hb dX2_init_47 rfl (lv_at hl 0 rfl) ?_
  obtain ⟨h11, q⟩ := q
  refine z_new (ci := 7) (C := RX3) (T := TX3) (N := 4) (fs0 := [.null, .null, .null, .int 0]) hx hb hts (fun _ h => (List.mem_cons_of_mem _ (List.mem_append_left _ (List.mem_append_left _ (List.mem_append_left _ (List.mem_append_right _ h)))))) tyX3 tyX3_ok hown (hts (.classLink RX2 39 RX3) (List.mem_of_getElem? (i := 15) rfl)) (hts (.instantiable RX3 4) (List.mem_of_getElem? (i := 16) rfl)) (hts (.initialized RX3) (List.mem_of_getElem? (i := 17) rfl)) hK hH hS (n0 := 11) hz rfl (by decide) 16 0 (by rfl) (by rw [h11]; rfl) rfl (by decide +kernel) (Nat.le_of_ble_eq_true rfl) (Nat.le_of_ble_eq_true rfl) dX2_init_48 (fun H hH hS => ?_)
  refine lv_dup hx hb dX2_init_51 rfl ?_
  refine W.sz (fun hle => ?_)
  have hzn : H.size = G.2.2.2 + 17 := zsize (n0 := 11) hH (by decide) hz rfl hle
  refine va_callv (va_runIN (As := []) (rest := [.ref (zad G.2.2.2 16 0), .ref (zad G.2.2.2 10 0)]) ⟨hx, hb, hml, hown, hts⟩ (cz_X3_init l G F10 _) ⟨va_cnB (host := "BallotFoundry") 0 hts ggX2_init_X3_init rfl rfl rfl (hG.2.1 ("BallotFoundry$Election", 41, ⟨"BallotFoundry$Envelopes", "<init>", "()V"⟩, "BallotFoundry") (List.mem_of_getElem? (i := 2) rfl)) (hts (.initialized RX3) (List.mem_of_getElem? (i := 17) rfl)) (by decide +kernel) ⟨Nat.le_of_ble_eq_true rfl, Nat.le_of_ble_eq_true rfl⟩, rfl, hts (.instanceMethod yX3_init) (List.mem_of_getElem? (i := 39) rfl)⟩ ⟨fun a U g mk h => ⟨h.1, zD_blind h.2.1, h.2.2⟩, fun U hU hW => ⟨rfl, zD_at hK hG hZ hH hzn hS hU hW, q⟩⟩ rfl rfl hl.1 rfl (lv_room (Nat.le_of_ble_eq_true rfl)) dX2_init_52 ⟨Nat.le_of_ble_eq_true rfl, Nat.le_of_ble_eq_true rfl⟩) hS (fun _ _ h => h) (fun _ h => h) (fun F12 t H locs ht hvm q hB1 hzz hk hS => ?_)
  have hH : zH G 20 F12 H := zH_to ht hB1
  refine z_putF (ci := 6) (v := .ref (zad G.2.2.2 16 0)) (C := RX2) (T := TX2) (N := 10) hx hb hts (fun _ h => (List.mem_cons_of_mem _ (List.mem_append_left _ (List.mem_append_left _ (List.mem_append_left _ (List.mem_append_left _ (List.mem_append_left _ (List.mem_append_right _ h)))))))) tyX2 tyX2_ok nmX2 hown hK hH hS 10 0 10 (by rfl) rfl rfl 7 (by decide) (hts (.fieldLink RX2 42 "BallotFoundry$Election" "envelopes" "LBallotFoundry$Envelopes;") (List.mem_of_getElem? (i := 18) rfl)) (fun _ h => h) rfl hin rfl (ty := tyX2 7) (by decide +kernel) rfl rfl (Nat.le_of_ble_eq_true rfl) 1 rfl dX2_init_55 (fun H locs hH hS => ?_)
  obtain ⟨F13, eF13⟩ : ∃ z, z = fs F12 10 0 7 1 := ⟨_, rfl⟩
  have q := q F13 eF13
  rw [← eF13] at hH
  refine lv_aload_n hx hb dX2_init_58 rfl (lv_at hl 0 rfl) ?_
  refine lv_iconst (v := 5) hx hb dX2_init_59 (by decide) ?_
  obtain ⟨h14, q⟩ := q
  refine z_anew (N' := 5) (C := RX1) hx hb hown (hts (.classLink RX2 46 RX1) (List.mem_of_getElem? (i := 19) rfl)) hZ.1 hK hH hS (n0 := 11) hz rfl (by decide) 20 0 4 (by rfl) (by rw [h14]; rfl) rfl (by decide) (by decide) (Nat.le_of_ble_eq_true rfl) (Nat.le_of_ble_eq_true rfl) (Nat.le_of_ble_eq_true rfl) dX2_init_60 (fun H hH hS => ?_)
  refine z_putF (ci := 6) (v := .ref (zad G.2.2.2 20 0)) (C := RX2) (T := TX2) (N := 10) hx hb hts (fun _ h => (List.mem_cons_of_mem _ (List.mem_append_left _ (List.mem_append_left _ (List.mem_append_left _ (List.mem_append_left _ (List.mem_append_left _ (List.mem_append_right _ h)))))))) tyX2 tyX2_ok nmX2 hown hK hH hS 10 0 10 (by rfl) rfl rfl 8 (by decide) (hts (.fieldLink RX2 48 "BallotFoundry$Election" "boxes" "[LBallotFoundry$Box;") (List.mem_of_getElem? (i := 20) rfl)) (fun _ h => h) rfl hin rfl (ty := tyX2 8) (by decide +kernel) rfl rfl (Nat.le_of_ble_eq_true rfl) 1 rfl dX2_init_63 (fun H locs hH hS => ?_)
  obtain ⟨F15, eF15⟩ : ∃ z, z = fs F13 10 0 8 1 := ⟨_, rfl⟩
  have q := q F15 eF15
  rw [← eF15] at hH
  refine lv_aload_n hx hb dX2_init_66 rfl (lv_at hl 0 rfl) ?_
  obtain ⟨h16, q⟩ := q
  refine z_new (ci := 4) (C := RX0) (T := TX0) (N := 5) (fs0 := [.null, .null, .null, .null, .int 0]) hx hb hts (fun _ h => (List.mem_cons_of_mem _ (List.mem_append_left _ (List.mem_append_left _ (List.mem_append_right _ h))))) tyX0 tyX0_ok hown (hts (.classLink RX2 52 RX0) (List.mem_of_getElem? (i := 21) rfl)) (hts (.instantiable RX0 5) (List.mem_of_getElem? (i := 22) rfl)) (hts (.initialized RX0) (List.mem_of_getElem? (i := 23) rfl)) hK hH hS (n0 := 11) hz rfl (by decide) 21 0 (by rfl) (by rw [h16]; rfl) rfl (by decide +kernel) (Nat.le_of_ble_eq_true rfl) (Nat.le_of_ble_eq_true rfl) dX2_init_67 (fun H hH hS => ?_)
  refine lv_dup hx hb dX2_init_70 rfl ?_
  refine W.sz (fun hle => ?_)
  have hzn : H.size = G.2.2.2 + 22 := zsize (n0 := 11) hH (by decide) hz rfl hle
  refine va_callv (va_runIN (As := []) (rest := [.ref (zad G.2.2.2 21 0), .ref (zad G.2.2.2 10 0)]) ⟨hx, hb, hml, hown, hts⟩ (cz_X0_init l G F15 _) ⟨va_cnB (host := "BallotFoundry") 0 hts ggX2_init_X0_init rfl rfl rfl (hG.2.1 ("BallotFoundry$Election", 54, ⟨"BallotFoundry$Book", "<init>", "()V"⟩, "BallotFoundry") (List.mem_of_getElem? (i := 3) rfl)) (hts (.initialized RX0) (List.mem_of_getElem? (i := 23) rfl)) (by decide +kernel) ⟨Nat.le_of_ble_eq_true rfl, Nat.le_of_ble_eq_true rfl⟩, rfl, hts (.instanceMethod yX0_init) (List.mem_of_getElem? (i := 46) rfl)⟩ ⟨fun a U g mk h => ⟨h.1, zD_blind h.2.1, h.2.2⟩, fun U hU hW => ⟨rfl, zD_at hK hG hZ hH hzn hS hU hW, q⟩⟩ rfl rfl hl.1 rfl (lv_room (Nat.le_of_ble_eq_true rfl)) dX2_init_71 ⟨Nat.le_of_ble_eq_true rfl, Nat.le_of_ble_eq_true rfl⟩) hS (fun _ _ h => h) (fun _ h => h) (fun F17 t H locs ht hvm q hB1 hzz hk hS => ?_)
  have hH : zH G 27 F17 H := zH_to ht hB1
  refine z_putF (ci := 6) (v := .ref (zad G.2.2.2 21 0)) (C := RX2) (T := TX2) (N := 10) hx hb hts (fun _ h => (List.mem_cons_of_mem _ (List.mem_append_left _ (List.mem_append_left _ (List.mem_append_left _ (List.mem_append_left _ (List.mem_append_left _ (List.mem_append_right _ h)))))))) tyX2 tyX2_ok nmX2 hown hK hH hS 10 0 10 (by rfl) rfl rfl 9 (by decide) (hts (.fieldLink RX2 55 "BallotFoundry$Election" "book" "LBallotFoundry$Book;") (List.mem_of_getElem? (i := 24) rfl)) (fun _ h => h) rfl hin rfl (ty := tyX2 9) (by decide +kernel) rfl rfl (Nat.le_of_ble_eq_true rfl) 1 rfl dX2_init_74 (fun H locs hH hS => ?_)
  obtain ⟨F18, eF18⟩ : ∃ z, z = fs F17 10 0 9 1 := ⟨_, rfl⟩
  have q := q F18 eF18
  rw [← eF18] at hH
  refine lv_iconst (v := 0) hx hb dX2_init_77 (by decide) ?_
  refine lv_istore_n (lv' := [(1, .int 0), (0, .ref (zad G.2.2.2 10 0))]) hx hb dX2_init_78 rfl hl (by decide) rfl (fun ls hl => ?_)
  refine lv_iload_n hx hb dX2_init_79 rfl (lv_at hl 0 rfl) ?_
  refine lv_iconst (v := 5) hx hb dX2_init_80 (by decide) ?_
  refine lv_icmp_ge (tgt := 103) hx hb dX2_init_81 (by decide) (fun c1 => absurd c1 (by decide)) (fun _ => ?_)
  refine lv_aload_n hx hb dX2_init_84 rfl (lv_at hl 1 rfl) ?_
  obtain ⟨h19, q⟩ := q
  refine z_get (ci := 6) (v := .ref (zad G.2.2.2 20 0)) (C := RX2) (T := TX2) (N := 10) (fs0 := [.int (F18 10 0 0), .int (F18 10 0 1), .int (F18 10 0 2), .int (F18 10 0 3), .int (F18 10 0 4), zv (F18 10 0 5) (zad G.2.2.2 11 0), zv (F18 10 0 6) (zad G.2.2.2 12 0), zv (F18 10 0 7) (zad G.2.2.2 16 0), .ref (zad G.2.2.2 20 0), zv (F18 10 0 9) (zad G.2.2.2 21 0)]) hx hb hts (fun _ h => (List.mem_cons_of_mem _ (List.mem_append_left _ (List.mem_append_left _ (List.mem_append_left _ (List.mem_append_left _ (List.mem_append_left _ (List.mem_append_right _ h)))))))) hown hK hH 10 0 10 (by rfl) (by show Sum.inr (6, [Value.int (F18 10 0 0), Value.int (F18 10 0 1), Value.int (F18 10 0 2), Value.int (F18 10 0 3), Value.int (F18 10 0 4), zv (F18 10 0 5) (zad G.2.2.2 11 0), zv (F18 10 0 6) (zad G.2.2.2 12 0), zv (F18 10 0 7) (zad G.2.2.2 16 0), zv (F18 10 0 8) (zad G.2.2.2 20 0), zv (F18 10 0 9) (zad G.2.2.2 21 0)]) = _; rw [h19]; rfl) rfl 8 (by decide) (hts (.fieldLink RX2 48 "BallotFoundry$Election" "boxes" "[LBallotFoundry$Box;") (List.mem_of_getElem? (i := 20) rfl)) (fun _ h => h) rfl dX2_init_85 ?_
  refine lv_iload_n hx hb dX2_init_88 rfl (lv_at hl 0 rfl) ?_
  obtain ⟨h20, q⟩ := q
  refine z_new (ci := 5) (C := RX1) (T := TX1) (N := 6) (fs0 := [.null, .int 0, .null, .null, .int 0, .int 0]) hx hb hts (fun _ h => (List.mem_cons_of_mem _ (List.mem_append_left _ (List.mem_append_right _ h)))) tyX1 tyX1_ok hown (hts (.classLink RX2 46 RX1) (List.mem_of_getElem? (i := 19) rfl)) (hts (.instantiable RX1 6) (List.mem_of_getElem? (i := 25) rfl)) (hts (.initialized RX1) (List.mem_of_getElem? (i := 26) rfl)) hK hH hS (n0 := 11) hz rfl (by decide) 28 0 (by rfl) (by rw [h20]; rfl) rfl (by decide +kernel) (Nat.le_of_ble_eq_true rfl) (Nat.le_of_ble_eq_true rfl) dX2_init_89 (fun H hH hS => ?_)
  refine lv_dup hx hb dX2_init_92 rfl ?_
  refine W.sz (fun hle => ?_)
  have hzn : H.size = G.2.2.2 + 28 := zsize (n0 := 11) hH (by decide) hz rfl hle
  refine va_callv (va_runIN (As := []) (rest := [.ref (zad G.2.2.2 28 0), .int 0, .ref (zad G.2.2.2 20 0)]) ⟨hx, hb, hml, hown, hts⟩ (cz_X1_init_0 l G F18 _) ⟨va_cnB (host := "BallotFoundry") 0 hts ggX2_init_X1_init rfl rfl rfl (hG.2.1 ("BallotFoundry$Election", 59, ⟨"BallotFoundry$Box", "<init>", "()V"⟩, "BallotFoundry") (List.mem_of_getElem? (i := 4) rfl)) (hts (.initialized RX1) (List.mem_of_getElem? (i := 26) rfl)) (by decide +kernel) ⟨Nat.le_of_ble_eq_true rfl, Nat.le_of_ble_eq_true rfl⟩, rfl, hts (.instanceMethod yX1_init) (List.mem_of_getElem? (i := 78) rfl)⟩ ⟨fun a U g mk h => ⟨h.1, zD_blind h.2.1, h.2.2⟩, fun U hU hW => ⟨rfl, zD_at hK hG hZ hH hzn hS hU hW, q⟩⟩ rfl rfl hl.1 rfl (lv_room (Nat.le_of_ble_eq_true rfl)) dX2_init_93 ⟨Nat.le_of_ble_eq_true rfl, Nat.le_of_ble_eq_true rfl⟩) hS (fun _ _ h => h) (fun _ h => h) (fun F21 t H locs ht hvm q hB1 hzz hk hS => ?_)
  have hH : zH G 39 F21 H := zH_to ht hB1
  refine z_aast hx hb hK hH hS 20 0 20 (by rfl) 4 28 0 27 5 5 (by rfl) (r := (RX1, TX1, 6)) rfl rfl rfl rfl (by unfold vp_in; decide) (zaast_20 0 (by decide) rfl) dX2_init_96 (fun H locs hH hS => ?_)
  obtain ⟨F22, eF22⟩ : ∃ z, z = fs F21 20 0 (0 : Int32).toNatClampNeg 1 := ⟨_, rfl⟩
  have q := q F22 eF22
  rw [← eF22] at hH
  refine lv_iinc (v := 1) (lv' := [(1, .int 1), (0, .ref (zad G.2.2.2 10 0))]) hx hb dX2_init_97 hl (k := 0) rfl (by decide) (by decide) rfl (fun ls hl => ?_)
  refine lv_goto (tgt := 79) hx hb dX2_init_100 (by decide) ?_
  refine lv_iload_n hx hb dX2_init_79 rfl (lv_at hl 0 rfl) ?_
  refine lv_iconst (v := 5) hx hb dX2_init_80 (by decide) ?_
  refine lv_icmp_ge (tgt := 103) hx hb dX2_init_81 (by decide) (fun c1 => absurd c1 (by decide)) (fun _ => ?_)
  refine lv_aload_n hx hb dX2_init_84 rfl (lv_at hl 1 rfl) ?_
  obtain ⟨h23, q⟩ := q
  refine z_get (ci := 6) (v := .ref (zad G.2.2.2 20 0)) (C := RX2) (T := TX2) (N := 10) (fs0 := [.int (F22 10 0 0), .int (F22 10 0 1), .int (F22 10 0 2), .int (F22 10 0 3), .int (F22 10 0 4), zv (F22 10 0 5) (zad G.2.2.2 11 0), zv (F22 10 0 6) (zad G.2.2.2 12 0), zv (F22 10 0 7) (zad G.2.2.2 16 0), .ref (zad G.2.2.2 20 0), zv (F22 10 0 9) (zad G.2.2.2 21 0)]) hx hb hts (fun _ h => (List.mem_cons_of_mem _ (List.mem_append_left _ (List.mem_append_left _ (List.mem_append_left _ (List.mem_append_left _ (List.mem_append_left _ (List.mem_append_right _ h)))))))) hown hK hH 10 0 10 (by rfl) (by show Sum.inr (6, [Value.int (F22 10 0 0), Value.int (F22 10 0 1), Value.int (F22 10 0 2), Value.int (F22 10 0 3), Value.int (F22 10 0 4), zv (F22 10 0 5) (zad G.2.2.2 11 0), zv (F22 10 0 6) (zad G.2.2.2 12 0), zv (F22 10 0 7) (zad G.2.2.2 16 0), zv (F22 10 0 8) (zad G.2.2.2 20 0), zv (F22 10 0 9) (zad G.2.2.2 21 0)]) = _; rw [h23]; rfl) rfl 8 (by decide) (hts (.fieldLink RX2 48 "BallotFoundry$Election" "boxes" "[LBallotFoundry$Box;") (List.mem_of_getElem? (i := 20) rfl)) (fun _ h => h) rfl dX2_init_85 ?_
  refine lv_iload_n hx hb dX2_init_88 rfl (lv_at hl 0 rfl) ?_
  obtain ⟨h24, q⟩ := q
  refine z_new (ci := 5) (C := RX1) (T := TX1) (N := 6) (fs0 := [.null, .int 0, .null, .null, .int 0, .int 0]) hx hb hts (fun _ h => (List.mem_cons_of_mem _ (List.mem_append_left _ (List.mem_append_right _ h)))) tyX1 tyX1_ok hown (hts (.classLink RX2 46 RX1) (List.mem_of_getElem? (i := 19) rfl)) (hts (.instantiable RX1 6) (List.mem_of_getElem? (i := 25) rfl)) (hts (.initialized RX1) (List.mem_of_getElem? (i := 26) rfl)) hK hH hS (n0 := 11) hz rfl (by decide) 28 1 (by rfl) (by rw [h24]; rfl) rfl (by decide +kernel) (Nat.le_of_ble_eq_true rfl) (Nat.le_of_ble_eq_true rfl) dX2_init_89 (fun H hH hS => ?_)
  refine lv_dup hx hb dX2_init_92 rfl ?_
  refine W.sz (fun hle => ?_)
  have hzn : H.size = G.2.2.2 + 40 := zsize (n0 := 11) hH (by decide) hz rfl hle
  refine va_callv (va_runIN (As := []) (rest := [.ref (zad G.2.2.2 28 1), .int 1, .ref (zad G.2.2.2 20 0)]) ⟨hx, hb, hml, hown, hts⟩ (cz_X1_init_1 l G F22 _) ⟨va_cnB (host := "BallotFoundry") 0 hts ggX2_init_X1_init rfl rfl rfl (hG.2.1 ("BallotFoundry$Election", 59, ⟨"BallotFoundry$Box", "<init>", "()V"⟩, "BallotFoundry") (List.mem_of_getElem? (i := 4) rfl)) (hts (.initialized RX1) (List.mem_of_getElem? (i := 26) rfl)) (by decide +kernel) ⟨Nat.le_of_ble_eq_true rfl, Nat.le_of_ble_eq_true rfl⟩, rfl, hts (.instanceMethod yX1_init) (List.mem_of_getElem? (i := 78) rfl)⟩ ⟨fun a U g mk h => ⟨h.1, zD_blind h.2.1, h.2.2⟩, fun U hU hW => ⟨rfl, zD_at hK hG hZ hH hzn hS hU hW, q⟩⟩ rfl rfl hl.1 rfl (lv_room (Nat.le_of_ble_eq_true rfl)) dX2_init_93 ⟨Nat.le_of_ble_eq_true rfl, Nat.le_of_ble_eq_true rfl⟩) hS (fun _ _ h => h) (fun _ h => h) (fun F25 t H locs ht hvm q hB1 hzz hk hS => ?_)
  have hH : zH G 51 F25 H := zH_to ht hB1
  refine z_aast hx hb hK hH hS 20 0 20 (by rfl) 4 28 1 39 5 5 (by rfl) (r := (RX1, TX1, 6)) rfl rfl rfl rfl (by unfold vp_in; decide) (zaast_20 1 (by decide) rfl) dX2_init_96 (fun H locs hH hS => ?_)
  obtain ⟨F26, eF26⟩ : ∃ z, z = fs F25 20 0 (1 : Int32).toNatClampNeg 1 := ⟨_, rfl⟩
  have q := q F26 eF26
  rw [← eF26] at hH
  refine lv_iinc (v := 2) (lv' := [(1, .int 2), (0, .ref (zad G.2.2.2 10 0))]) hx hb dX2_init_97 hl (k := 0) rfl (by decide) (by decide) rfl (fun ls hl => ?_)
  refine lv_goto (tgt := 79) hx hb dX2_init_100 (by decide) ?_
  refine lv_iload_n hx hb dX2_init_79 rfl (lv_at hl 0 rfl) ?_
  refine lv_iconst (v := 5) hx hb dX2_init_80 (by decide) ?_
  refine lv_icmp_ge (tgt := 103) hx hb dX2_init_81 (by decide) (fun c1 => absurd c1 (by decide)) (fun _ => ?_)
  refine lv_aload_n hx hb dX2_init_84 rfl (lv_at hl 1 rfl) ?_
  obtain ⟨h27, q⟩ := q
  refine z_get (ci := 6) (v := .ref (zad G.2.2.2 20 0)) (C := RX2) (T := TX2) (N := 10) (fs0 := [.int (F26 10 0 0), .int (F26 10 0 1), .int (F26 10 0 2), .int (F26 10 0 3), .int (F26 10 0 4), zv (F26 10 0 5) (zad G.2.2.2 11 0), zv (F26 10 0 6) (zad G.2.2.2 12 0), zv (F26 10 0 7) (zad G.2.2.2 16 0), .ref (zad G.2.2.2 20 0), zv (F26 10 0 9) (zad G.2.2.2 21 0)]) hx hb hts (fun _ h => (List.mem_cons_of_mem _ (List.mem_append_left _ (List.mem_append_left _ (List.mem_append_left _ (List.mem_append_left _ (List.mem_append_left _ (List.mem_append_right _ h)))))))) hown hK hH 10 0 10 (by rfl) (by show Sum.inr (6, [Value.int (F26 10 0 0), Value.int (F26 10 0 1), Value.int (F26 10 0 2), Value.int (F26 10 0 3), Value.int (F26 10 0 4), zv (F26 10 0 5) (zad G.2.2.2 11 0), zv (F26 10 0 6) (zad G.2.2.2 12 0), zv (F26 10 0 7) (zad G.2.2.2 16 0), zv (F26 10 0 8) (zad G.2.2.2 20 0), zv (F26 10 0 9) (zad G.2.2.2 21 0)]) = _; rw [h27]; rfl) rfl 8 (by decide) (hts (.fieldLink RX2 48 "BallotFoundry$Election" "boxes" "[LBallotFoundry$Box;") (List.mem_of_getElem? (i := 20) rfl)) (fun _ h => h) rfl dX2_init_85 ?_
  refine lv_iload_n hx hb dX2_init_88 rfl (lv_at hl 0 rfl) ?_
  obtain ⟨h28, q⟩ := q
  refine z_new (ci := 5) (C := RX1) (T := TX1) (N := 6) (fs0 := [.null, .int 0, .null, .null, .int 0, .int 0]) hx hb hts (fun _ h => (List.mem_cons_of_mem _ (List.mem_append_left _ (List.mem_append_right _ h)))) tyX1 tyX1_ok hown (hts (.classLink RX2 46 RX1) (List.mem_of_getElem? (i := 19) rfl)) (hts (.instantiable RX1 6) (List.mem_of_getElem? (i := 25) rfl)) (hts (.initialized RX1) (List.mem_of_getElem? (i := 26) rfl)) hK hH hS (n0 := 11) hz rfl (by decide) 28 2 (by rfl) (by rw [h28]; rfl) rfl (by decide +kernel) (Nat.le_of_ble_eq_true rfl) (Nat.le_of_ble_eq_true rfl) dX2_init_89 (fun H hH hS => ?_)
  refine lv_dup hx hb dX2_init_92 rfl ?_
  refine W.sz (fun hle => ?_)
  have hzn : H.size = G.2.2.2 + 52 := zsize (n0 := 11) hH (by decide) hz rfl hle
  refine va_callv (va_runIN (As := []) (rest := [.ref (zad G.2.2.2 28 2), .int 2, .ref (zad G.2.2.2 20 0)]) ⟨hx, hb, hml, hown, hts⟩ (cz_X1_init_2 l G F26 _) ⟨va_cnB (host := "BallotFoundry") 0 hts ggX2_init_X1_init rfl rfl rfl (hG.2.1 ("BallotFoundry$Election", 59, ⟨"BallotFoundry$Box", "<init>", "()V"⟩, "BallotFoundry") (List.mem_of_getElem? (i := 4) rfl)) (hts (.initialized RX1) (List.mem_of_getElem? (i := 26) rfl)) (by decide +kernel) ⟨Nat.le_of_ble_eq_true rfl, Nat.le_of_ble_eq_true rfl⟩, rfl, hts (.instanceMethod yX1_init) (List.mem_of_getElem? (i := 78) rfl)⟩ ⟨fun a U g mk h => ⟨h.1, zD_blind h.2.1, h.2.2⟩, fun U hU hW => ⟨rfl, zD_at hK hG hZ hH hzn hS hU hW, q⟩⟩ rfl rfl hl.1 rfl (lv_room (Nat.le_of_ble_eq_true rfl)) dX2_init_93 ⟨Nat.le_of_ble_eq_true rfl, Nat.le_of_ble_eq_true rfl⟩) hS (fun _ _ h => h) (fun _ h => h) (fun F29 t H locs ht hvm q hB1 hzz hk hS => ?_)
  have hH : zH G 63 F29 H := zH_to ht hB1
  refine z_aast hx hb hK hH hS 20 0 20 (by rfl) 4 28 2 51 5 5 (by rfl) (r := (RX1, TX1, 6)) rfl rfl rfl rfl (by unfold vp_in; decide) (zaast_20 2 (by decide) rfl) dX2_init_96 (fun H locs hH hS => ?_)
  obtain ⟨F30, eF30⟩ : ∃ z, z = fs F29 20 0 (2 : Int32).toNatClampNeg 1 := ⟨_, rfl⟩
  have q := q F30 eF30
  rw [← eF30] at hH
  refine lv_iinc (v := 3) (lv' := [(1, .int 3), (0, .ref (zad G.2.2.2 10 0))]) hx hb dX2_init_97 hl (k := 0) rfl (by decide) (by decide) rfl (fun ls hl => ?_)
  refine lv_goto (tgt := 79) hx hb dX2_init_100 (by decide) ?_
  refine lv_iload_n hx hb dX2_init_79 rfl (lv_at hl 0 rfl) ?_
  refine lv_iconst (v := 5) hx hb dX2_init_80 (by decide) ?_
  refine lv_icmp_ge (tgt := 103) hx hb dX2_init_81 (by decide) (fun c1 => absurd c1 (by decide)) (fun _ => ?_)
  refine lv_aload_n hx hb dX2_init_84 rfl (lv_at hl 1 rfl) ?_
  obtain ⟨h31, q⟩ := q
  refine z_get (ci := 6) (v := .ref (zad G.2.2.2 20 0)) (C := RX2) (T := TX2) (N := 10) (fs0 := [.int (F30 10 0 0), .int (F30 10 0 1), .int (F30 10 0 2), .int (F30 10 0 3), .int (F30 10 0 4), zv (F30 10 0 5) (zad G.2.2.2 11 0), zv (F30 10 0 6) (zad G.2.2.2 12 0), zv (F30 10 0 7) (zad G.2.2.2 16 0), .ref (zad G.2.2.2 20 0), zv (F30 10 0 9) (zad G.2.2.2 21 0)]) hx hb hts (fun _ h => (List.mem_cons_of_mem _ (List.mem_append_left _ (List.mem_append_left _ (List.mem_append_left _ (List.mem_append_left _ (List.mem_append_left _ (List.mem_append_right _ h)))))))) hown hK hH 10 0 10 (by rfl) (by show Sum.inr (6, [Value.int (F30 10 0 0), Value.int (F30 10 0 1), Value.int (F30 10 0 2), Value.int (F30 10 0 3), Value.int (F30 10 0 4), zv (F30 10 0 5) (zad G.2.2.2 11 0), zv (F30 10 0 6) (zad G.2.2.2 12 0), zv (F30 10 0 7) (zad G.2.2.2 16 0), zv (F30 10 0 8) (zad G.2.2.2 20 0), zv (F30 10 0 9) (zad G.2.2.2 21 0)]) = _; rw [h31]; rfl) rfl 8 (by decide) (hts (.fieldLink RX2 48 "BallotFoundry$Election" "boxes" "[LBallotFoundry$Box;") (List.mem_of_getElem? (i := 20) rfl)) (fun _ h => h) rfl dX2_init_85 ?_
  refine lv_iload_n hx hb dX2_init_88 rfl (lv_at hl 0 rfl) ?_
  obtain ⟨h32, q⟩ := q
  refine z_new (ci := 5) (C := RX1) (T := TX1) (N := 6) (fs0 := [.null, .int 0, .null, .null, .int 0, .int 0]) hx hb hts (fun _ h => (List.mem_cons_of_mem _ (List.mem_append_left _ (List.mem_append_right _ h)))) tyX1 tyX1_ok hown (hts (.classLink RX2 46 RX1) (List.mem_of_getElem? (i := 19) rfl)) (hts (.instantiable RX1 6) (List.mem_of_getElem? (i := 25) rfl)) (hts (.initialized RX1) (List.mem_of_getElem? (i := 26) rfl)) hK hH hS (n0 := 11) hz rfl (by decide) 28 3 (by rfl) (by rw [h32]; rfl) rfl (by decide +kernel) (Nat.le_of_ble_eq_true rfl) (Nat.le_of_ble_eq_true rfl) dX2_init_89 (fun H hH hS => ?_)
  refine lv_dup hx hb dX2_init_92 rfl ?_
  refine W.sz (fun hle => ?_)
  have hzn : H.size = G.2.2.2 + 64 := zsize (n0 := 11) hH (by decide) hz rfl hle
  refine va_callv (va_runIN (As := []) (rest := [.ref (zad G.2.2.2 28 3), .int 3, .ref (zad G.2.2.2 20 0)]) ⟨hx, hb, hml, hown, hts⟩ (cz_X1_init_3 l G F30 _) ⟨va_cnB (host := "BallotFoundry") 0 hts ggX2_init_X1_init rfl rfl rfl (hG.2.1 ("BallotFoundry$Election", 59, ⟨"BallotFoundry$Box", "<init>", "()V"⟩, "BallotFoundry") (List.mem_of_getElem? (i := 4) rfl)) (hts (.initialized RX1) (List.mem_of_getElem? (i := 26) rfl)) (by decide +kernel) ⟨Nat.le_of_ble_eq_true rfl, Nat.le_of_ble_eq_true rfl⟩, rfl, hts (.instanceMethod yX1_init) (List.mem_of_getElem? (i := 78) rfl)⟩ ⟨fun a U g mk h => ⟨h.1, zD_blind h.2.1, h.2.2⟩, fun U hU hW => ⟨rfl, zD_at hK hG hZ hH hzn hS hU hW, q⟩⟩ rfl rfl hl.1 rfl (lv_room (Nat.le_of_ble_eq_true rfl)) dX2_init_93 ⟨Nat.le_of_ble_eq_true rfl, Nat.le_of_ble_eq_true rfl⟩) hS (fun _ _ h => h) (fun _ h => h) (fun F33 t H locs ht hvm q hB1 hzz hk hS => ?_)
  have hH : zH G 75 F33 H := zH_to ht hB1
  refine z_aast hx hb hK hH hS 20 0 20 (by rfl) 4 28 3 63 5 5 (by rfl) (r := (RX1, TX1, 6)) rfl rfl rfl rfl (by unfold vp_in; decide) (zaast_20 3 (by decide) rfl) dX2_init_96 (fun H locs hH hS => ?_)
  obtain ⟨F34, eF34⟩ : ∃ z, z = fs F33 20 0 (3 : Int32).toNatClampNeg 1 := ⟨_, rfl⟩
  have q := q F34 eF34
  rw [← eF34] at hH
  refine lv_iinc (v := 4) (lv' := [(1, .int 4), (0, .ref (zad G.2.2.2 10 0))]) hx hb dX2_init_97 hl (k := 0) rfl (by decide) (by decide) rfl (fun ls hl => ?_)
  refine lv_goto (tgt := 79) hx hb dX2_init_100 (by decide) ?_
  refine lv_iload_n hx hb dX2_init_79 rfl (lv_at hl 0 rfl) ?_
  refine lv_iconst (v := 5) hx hb dX2_init_80 (by decide) ?_
  refine lv_icmp_ge (tgt := 103) hx hb dX2_init_81 (by decide) (fun c1 => absurd c1 (by decide)) (fun _ => ?_)
  refine lv_aload_n hx hb dX2_init_84 rfl (lv_at hl 1 rfl) ?_
  obtain ⟨h35, q⟩ := q
  refine z_get (ci := 6) (v := .ref (zad G.2.2.2 20 0)) (C := RX2) (T := TX2) (N := 10) (fs0 := [.int (F34 10 0 0), .int (F34 10 0 1), .int (F34 10 0 2), .int (F34 10 0 3), .int (F34 10 0 4), zv (F34 10 0 5) (zad G.2.2.2 11 0), zv (F34 10 0 6) (zad G.2.2.2 12 0), zv (F34 10 0 7) (zad G.2.2.2 16 0), .ref (zad G.2.2.2 20 0), zv (F34 10 0 9) (zad G.2.2.2 21 0)]) hx hb hts (fun _ h => (List.mem_cons_of_mem _ (List.mem_append_left _ (List.mem_append_left _ (List.mem_append_left _ (List.mem_append_left _ (List.mem_append_left _ (List.mem_append_right _ h)))))))) hown hK hH 10 0 10 (by rfl) (by show Sum.inr (6, [Value.int (F34 10 0 0), Value.int (F34 10 0 1), Value.int (F34 10 0 2), Value.int (F34 10 0 3), Value.int (F34 10 0 4), zv (F34 10 0 5) (zad G.2.2.2 11 0), zv (F34 10 0 6) (zad G.2.2.2 12 0), zv (F34 10 0 7) (zad G.2.2.2 16 0), zv (F34 10 0 8) (zad G.2.2.2 20 0), zv (F34 10 0 9) (zad G.2.2.2 21 0)]) = _; rw [h35]; rfl) rfl 8 (by decide) (hts (.fieldLink RX2 48 "BallotFoundry$Election" "boxes" "[LBallotFoundry$Box;") (List.mem_of_getElem? (i := 20) rfl)) (fun _ h => h) rfl dX2_init_85 ?_
  refine lv_iload_n hx hb dX2_init_88 rfl (lv_at hl 0 rfl) ?_
  obtain ⟨h36, q⟩ := q
  refine z_new (ci := 5) (C := RX1) (T := TX1) (N := 6) (fs0 := [.null, .int 0, .null, .null, .int 0, .int 0]) hx hb hts (fun _ h => (List.mem_cons_of_mem _ (List.mem_append_left _ (List.mem_append_right _ h)))) tyX1 tyX1_ok hown (hts (.classLink RX2 46 RX1) (List.mem_of_getElem? (i := 19) rfl)) (hts (.instantiable RX1 6) (List.mem_of_getElem? (i := 25) rfl)) (hts (.initialized RX1) (List.mem_of_getElem? (i := 26) rfl)) hK hH hS (n0 := 11) hz rfl (by decide) 28 4 (by rfl) (by rw [h36]; rfl) rfl (by decide +kernel) (Nat.le_of_ble_eq_true rfl) (Nat.le_of_ble_eq_true rfl) dX2_init_89 (fun H hH hS => ?_)
  refine lv_dup hx hb dX2_init_92 rfl ?_
  refine W.sz (fun hle => ?_)
  have hzn : H.size = G.2.2.2 + 76 := zsize (n0 := 11) hH (by decide) hz rfl hle
  refine va_callv (va_runIN (As := []) (rest := [.ref (zad G.2.2.2 28 4), .int 4, .ref (zad G.2.2.2 20 0)]) ⟨hx, hb, hml, hown, hts⟩ (cz_X1_init_4 l G F34 _) ⟨va_cnB (host := "BallotFoundry") 0 hts ggX2_init_X1_init rfl rfl rfl (hG.2.1 ("BallotFoundry$Election", 59, ⟨"BallotFoundry$Box", "<init>", "()V"⟩, "BallotFoundry") (List.mem_of_getElem? (i := 4) rfl)) (hts (.initialized RX1) (List.mem_of_getElem? (i := 26) rfl)) (by decide +kernel) ⟨Nat.le_of_ble_eq_true rfl, Nat.le_of_ble_eq_true rfl⟩, rfl, hts (.instanceMethod yX1_init) (List.mem_of_getElem? (i := 78) rfl)⟩ ⟨fun a U g mk h => ⟨h.1, zD_blind h.2.1, h.2.2⟩, fun U hU hW => ⟨rfl, zD_at hK hG hZ hH hzn hS hU hW, q⟩⟩ rfl rfl hl.1 rfl (lv_room (Nat.le_of_ble_eq_true rfl)) dX2_init_93 ⟨Nat.le_of_ble_eq_true rfl, Nat.le_of_ble_eq_true rfl⟩) hS (fun _ _ h => h) (fun _ h => h) (fun F37 t H locs ht hvm q hB1 hzz hk hS => ?_)
  have hH : zH G 87 F37 H := zH_to ht hB1
  refine z_aast hx hb hK hH hS 20 0 20 (by rfl) 4 28 4 75 5 5 (by rfl) (r := (RX1, TX1, 6)) rfl rfl rfl rfl (by unfold vp_in; decide) (zaast_20 4 (by decide) rfl) dX2_init_96 (fun H locs hH hS => ?_)
  obtain ⟨F38, eF38⟩ : ∃ z, z = fs F37 20 0 (4 : Int32).toNatClampNeg 1 := ⟨_, rfl⟩
  have q := q F38 eF38
  rw [← eF38] at hH
  refine lv_iinc (v := 5) (lv' := [(1, .int 5), (0, .ref (zad G.2.2.2 10 0))]) hx hb dX2_init_97 hl (k := 0) rfl (by decide) (by decide) rfl (fun ls hl => ?_)
  refine lv_goto (tgt := 79) hx hb dX2_init_100 (by decide) ?_
  refine lv_iload_n hx hb dX2_init_79 rfl (lv_at hl 0 rfl) ?_
  refine lv_iconst (v := 5) hx hb dX2_init_80 (by decide) ?_
  refine lv_icmp_ge (tgt := 103) hx hb dX2_init_81 (by decide) (fun _ => ?_) (fun c1 => absurd (by decide) c1)
  refine W.cs (cells' := 76) (slots' := 2433) rfl rfl ?_
  exact W.vret hx hb hr (fun t ht hW => ⟨⟨F38, rfl, q, zH_at ht hH⟩, hS.F ht⟩) hS.2.2 dX2_init_103
abbrev rz_X6_init : Room := { frames := 1, cells := 4, slots := 45, locals := 20 }
set_option maxHeartbeats 4000000 in
set_option maxRecDepth 100000 in
theorem cz_X6_init (l : Launch) (G : GPz) (F : GF) (K : GF → Prop) : Met l yX6_init wsX6_init rz_X6_init (va_Pc [.ref (zad G.2.2.2 27 0)] (fun U => zD G 88 F U ∧ PZ_X6_init F K)) (zQv G 92 K) 4 45 (gA (zg G)) := by
  refine Met.ofW (cc := cX6_init) (maxL := 1) (ret := none) (by decide) rfl ?_
  intro p e s m args below meth c s₁ Bd hml hv
  obtain ⟨rfl, ⟨⟨hK, hG, hZ⟩, hH, hz⟩, q⟩ := hv
  have hx := Bd.exec
  have hb := Bd.bytes
  have hr := Bd.returns
  have hts := atoms_spec (ws := wsX6_init) Bd.pre
  have hown : s.vm.findClass RX6 = some m.cls := findClass_of_methodNamed Bd.named
  have hlocks := Bd.notSynchronized
  have hin : meth.name = "<init>" := (name_of_methodNamed Bd.named Bd.method).1
  have hS : va_S (gA (zg G)) s.heap s.heap [] := va_S.rf
  have hl := lv_entry [.ref (zad G.2.2.2 27 0)] (n := 1) (Nat.le_of_ble_eq_true rfl)
  rw [lg_entry_eq]
  generalize (lg_sl [.ref (zad G.2.2.2 27 0)] ++ List.replicate (1 - (lg_sl [.ref (zad G.2.2.2 27 0)]).length) Slot.unset).toArray = ls at hl ⊢
  have hl : lv_has ls 1 [(0, .ref (zad G.2.2.2 27 0))] := hl
  unfold PZ_X6_init at q
  refine lv_aload_n hx hb dX6_init_0 rfl (lv_at hl 0 rfl) ?_
  refine W.objInit hx hb hown (hts (.methodLink RX6 3 objectInit) (List.mem_of_getElem? (i := 1) rfl)) (hts (.instanceMethod objectInit) (List.mem_of_getElem? (i := 2) rfl)) (hts (.code objectInit ⟨#[0xb1]⟩ 1 none) (List.mem_of_getElem? (i := 3) rfl)) rfl (by rw [hml]; exact hl.1) rfl dX6_init_1 (Nat.le_of_ble_eq_true rfl) (Nat.le_of_ble_eq_true rfl) ?_
  refine W.eq (g2 := F0 m 4 ls []) rfl ?_
  refine lv_aload_n hx hb dX6_init_4 rfl (lv_at hl 0 rfl) ?_
  refine lv_iconst (v := 5) hx hb dX6_init_5 (by decide) ?_
  obtain ⟨h1, q⟩ := q
  refine z_newa (atype := .int) (ty := .int) (N' := 5) (a0 := (5, .inl (zdef 34))) hx hb (hts (.arrayClass .int) (List.mem_of_getElem? (i := 4) rfl)) rfl hK hH hS (n0 := 88) hz rfl (by decide) 34 0 2 (by rfl) (by rw [h1]; rfl) rfl (fun _ h => by cases h) (fun _ => rfl) (by decide) (by decide) (Nat.le_of_ble_eq_true rfl) (Nat.le_of_ble_eq_true rfl) (Nat.le_of_ble_eq_true rfl) dX6_init_6 (fun H hH hS => ?_)
  refine z_putF (ci := 10) (v := .ref (zad G.2.2.2 34 0)) (C := RX6) (T := TX6) (N := 7) hx hb hts (fun _ h => (List.mem_cons_of_mem _ (List.mem_append_right _ h))) tyX6 tyX6_ok nmX6 hown hK hH hS 27 0 87 (by rfl) rfl rfl 0 (by decide) (hts (.fieldLink RX6 9 "BallotFoundry$SeatGiving" "votes" "[I") (List.mem_of_getElem? (i := 5) rfl)) (fun _ h => h) rfl hin rfl (ty := tyX6 0) (by decide +kernel) rfl rfl (Nat.le_of_ble_eq_true rfl) 1 rfl dX6_init_8 (fun H locs hH hS => ?_)
  obtain ⟨F2, eF2⟩ : ∃ z, z = fs F 27 0 0 1 := ⟨_, rfl⟩
  have q := q F2 eF2
  rw [← eF2] at hH
  refine lv_aload_n hx hb dX6_init_11 rfl (lv_at hl 0 rfl) ?_
  refine lv_iconst (v := 5) hx hb dX6_init_12 (by decide) ?_
  obtain ⟨h3, q⟩ := q
  refine z_newa (atype := .int) (ty := .int) (N' := 5) (a0 := (5, .inl (zdef 35))) hx hb (hts (.arrayClass .int) (List.mem_of_getElem? (i := 4) rfl)) rfl hK hH hS (n0 := 88) hz rfl (by decide) 35 0 2 (by rfl) (by rw [h3]; rfl) rfl (fun _ h => by cases h) (fun _ => rfl) (by decide) (by decide) (Nat.le_of_ble_eq_true rfl) (Nat.le_of_ble_eq_true rfl) (Nat.le_of_ble_eq_true rfl) dX6_init_13 (fun H hH hS => ?_)
  refine z_putF (ci := 10) (v := .ref (zad G.2.2.2 35 0)) (C := RX6) (T := TX6) (N := 7) hx hb hts (fun _ h => (List.mem_cons_of_mem _ (List.mem_append_right _ h))) tyX6 tyX6_ok nmX6 hown hK hH hS 27 0 87 (by rfl) rfl rfl 1 (by decide) (hts (.fieldLink RX6 15 "BallotFoundry$SeatGiving" "seats" "[I") (List.mem_of_getElem? (i := 6) rfl)) (fun _ h => h) rfl hin rfl (ty := tyX6 1) (by decide +kernel) rfl rfl (Nat.le_of_ble_eq_true rfl) 1 rfl dX6_init_15 (fun H locs hH hS => ?_)
  obtain ⟨F4, eF4⟩ : ∃ z, z = fs F2 27 0 1 1 := ⟨_, rfl⟩
  have q := q F4 eF4
  rw [← eF4] at hH
  refine lv_aload_n hx hb dX6_init_18 rfl (lv_at hl 0 rfl) ?_
  refine lv_bipush (v := 30) hx hb dX6_init_19 (by decide) ?_
  obtain ⟨h5, q⟩ := q
  refine z_newa (atype := .int) (ty := .int) (N' := 30) (a0 := (30, .inl (zdef 36))) hx hb (hts (.arrayClass .int) (List.mem_of_getElem? (i := 4) rfl)) rfl hK hH hS (n0 := 88) hz rfl (by decide) 36 0 2 (by rfl) (by rw [h5]; rfl) rfl (fun _ h => by cases h) (fun _ => rfl) (by decide) (by decide) (Nat.le_of_ble_eq_true rfl) (Nat.le_of_ble_eq_true rfl) (Nat.le_of_ble_eq_true rfl) dX6_init_21 (fun H hH hS => ?_)
  refine z_putF (ci := 10) (v := .ref (zad G.2.2.2 36 0)) (C := RX6) (T := TX6) (N := 7) hx hb hts (fun _ h => (List.mem_cons_of_mem _ (List.mem_append_right _ h))) tyX6 tyX6_ok nmX6 hown hK hH hS 27 0 87 (by rfl) rfl rfl 2 (by decide) (hts (.fieldLink RX6 18 "BallotFoundry$SeatGiving" "parties" "[I") (List.mem_of_getElem? (i := 7) rfl)) (fun _ h => h) rfl hin rfl (ty := tyX6 2) (by decide +kernel) rfl rfl (Nat.le_of_ble_eq_true rfl) 1 rfl dX6_init_23 (fun H locs hH hS => ?_)
  obtain ⟨F6, eF6⟩ : ∃ z, z = fs F4 27 0 2 1 := ⟨_, rfl⟩
  have q := q F6 eF6
  rw [← eF6] at hH
  refine lv_aload_n hx hb dX6_init_26 rfl (lv_at hl 0 rfl) ?_
  refine lv_iconst (v := 5) hx hb dX6_init_27 (by decide) ?_
  obtain ⟨h7, q⟩ := q
  refine z_newa (atype := .int) (ty := .int) (N' := 5) (a0 := (5, .inl (zdef 37))) hx hb (hts (.arrayClass .int) (List.mem_of_getElem? (i := 4) rfl)) rfl hK hH hS (n0 := 88) hz rfl (by decide) 37 0 2 (by rfl) (by rw [h7]; rfl) rfl (fun _ h => by cases h) (fun _ => rfl) (by decide) (by decide) (Nat.le_of_ble_eq_true rfl) (Nat.le_of_ble_eq_true rfl) (Nat.le_of_ble_eq_true rfl) dX6_init_28 (fun H hH hS => ?_)
  refine z_putF (ci := 10) (v := .ref (zad G.2.2.2 37 0)) (C := RX6) (T := TX6) (N := 7) hx hb hts (fun _ h => (List.mem_cons_of_mem _ (List.mem_append_right _ h))) tyX6 tyX6_ok nmX6 hown hK hH hS 27 0 87 (by rfl) rfl rfl 3 (by decide) (hts (.fieldLink RX6 21 "BallotFoundry$SeatGiving" "tied" "[I") (List.mem_of_getElem? (i := 8) rfl)) (fun _ h => h) rfl hin rfl (ty := tyX6 3) (by decide +kernel) rfl rfl (Nat.le_of_ble_eq_true rfl) 1 rfl dX6_init_30 (fun H locs hH hS => ?_)
  obtain ⟨F8, eF8⟩ : ∃ z, z = fs F6 27 0 3 1 := ⟨_, rfl⟩
  have q := q F8 eF8
  rw [← eF8] at hH
  refine lv_aload_n hx hb dX6_init_33 rfl (lv_at hl 0 rfl) ?_
  refine lv_iconst (v := 0) hx hb dX6_init_34 (by decide) ?_
  refine z_put (ci := 10) (v := .int 0) (C := RX6) (T := TX6) (N := 7) hx hb hts (fun _ h => (List.mem_cons_of_mem _ (List.mem_append_right _ h))) tyX6 tyX6_ok nmX6 hown hK hH hS 27 0 87 (by rfl) rfl rfl 4 (by decide) (hts (.fieldLink RX6 24 "BallotFoundry$SeatGiving" "given" "I") (List.mem_of_getElem? (i := 9) rfl)) (fun _ h => h) rfl (ty := .int) (by decide +kernel) rfl rfl (Nat.le_of_ble_eq_true rfl) 0 rfl dX6_init_35 (fun H locs hH hS => ?_)
  obtain ⟨F9, eF9⟩ : ∃ z, z = fs F8 27 0 4 0 := ⟨_, rfl⟩
  have q := q F9 eF9
  rw [← eF9] at hH
  refine lv_aload_n hx hb dX6_init_38 rfl (lv_at hl 0 rfl) ?_
  refine lv_iconst (v := 0) hx hb dX6_init_39 (by decide) ?_
  refine z_put (ci := 10) (v := .int 0) (C := RX6) (T := TX6) (N := 7) hx hb hts (fun _ h => (List.mem_cons_of_mem _ (List.mem_append_right _ h))) tyX6 tyX6_ok nmX6 hown hK hH hS 27 0 87 (by rfl) rfl rfl 5 (by decide) (hts (.fieldLink RX6 28 "BallotFoundry$SeatGiving" "lotsDrawn" "I") (List.mem_of_getElem? (i := 10) rfl)) (fun _ h => h) rfl (ty := .int) (by decide +kernel) rfl rfl (Nat.le_of_ble_eq_true rfl) 0 rfl dX6_init_40 (fun H locs hH hS => ?_)
  obtain ⟨F10, eF10⟩ : ∃ z, z = fs F9 27 0 5 0 := ⟨_, rfl⟩
  have q := q F10 eF10
  rw [← eF10] at hH
  refine lv_aload_n hx hb dX6_init_43 rfl (lv_at hl 0 rfl) ?_
  refine lv_iconst (v := 0) hx hb dX6_init_44 (by decide) ?_
  refine z_put (ci := 10) (v := .int 0) (C := RX6) (T := TX6) (N := 7) hx hb hts (fun _ h => (List.mem_cons_of_mem _ (List.mem_append_right _ h))) tyX6 tyX6_ok nmX6 hown hK hH hS 27 0 87 (by rfl) rfl rfl 6 (by decide) (hts (.fieldLink RX6 31 "BallotFoundry$SeatGiving" "number" "I") (List.mem_of_getElem? (i := 11) rfl)) (fun _ h => h) rfl (ty := .int) (by decide +kernel) rfl rfl (Nat.le_of_ble_eq_true rfl) 0 rfl dX6_init_45 (fun H locs hH hS => ?_)
  obtain ⟨F11, eF11⟩ : ∃ z, z = fs F10 27 0 6 0 := ⟨_, rfl⟩
  have q := q F11 eF11
  rw [← eF11] at hH
  refine W.cs (cells' := 4) (slots' := 45) rfl rfl ?_
  exact W.vret hx hb hr (fun t ht hW => ⟨⟨F11, rfl, q, zH_at ht hH⟩, hS.F ht⟩) hS.2.2 dX6_init_48
abbrev rz_X4_init_0 : Room := { frames := 1, cells := 0, slots := 0, locals := 20 }
set_option maxHeartbeats 4000000 in
set_option maxRecDepth 100000 in
theorem cz_X4_init_0 (l : Launch) (G : GPz) (F : GF) (K : GF → Prop) : Met l yX4_init wsX4_init rz_X4_init_0 (va_Pc [.ref (zad G.2.2.2 33 0)] (fun U => zD G 93 F U ∧ PZ_X4_init_0 F K)) (zQv G 93 K) 0 0 (gA (zg G)) := by
  refine Met.ofW (cc := cX4_init) (maxL := 1) (ret := none) (by decide) rfl ?_
  intro p e s m args below meth c s₁ Bd hml hv
  obtain ⟨rfl, ⟨⟨hK, hG, hZ⟩, hH, hz⟩, q⟩ := hv
  have hx := Bd.exec
  have hb := Bd.bytes
  have hr := Bd.returns
  have hts := atoms_spec (ws := wsX4_init) Bd.pre
  have hown : s.vm.findClass RX4 = some m.cls := findClass_of_methodNamed Bd.named
  have hlocks := Bd.notSynchronized
  have hin : meth.name = "<init>" := (name_of_methodNamed Bd.named Bd.method).1
  have hS : va_S (gA (zg G)) s.heap s.heap [] := va_S.rf
  have hl := lv_entry [.ref (zad G.2.2.2 33 0)] (n := 1) (Nat.le_of_ble_eq_true rfl)
  rw [lg_entry_eq]
  generalize (lg_sl [.ref (zad G.2.2.2 33 0)] ++ List.replicate (1 - (lg_sl [.ref (zad G.2.2.2 33 0)]).length) Slot.unset).toArray = ls at hl ⊢
  have hl : lv_has ls 1 [(0, .ref (zad G.2.2.2 33 0))] := hl
  unfold PZ_X4_init_0 at q
  refine lv_aload_n hx hb dX4_init_0 rfl (lv_at hl 0 rfl) ?_
  refine W.objInit hx hb hown (hts (.methodLink RX4 3 objectInit) (List.mem_of_getElem? (i := 1) rfl)) (hts (.instanceMethod objectInit) (List.mem_of_getElem? (i := 2) rfl)) (hts (.code objectInit ⟨#[0xb1]⟩ 1 none) (List.mem_of_getElem? (i := 3) rfl)) rfl (by rw [hml]; exact hl.1) rfl dX4_init_1 (Nat.le_of_ble_eq_true rfl) (Nat.le_of_ble_eq_true rfl) ?_
  refine W.eq (g2 := F0 m 4 ls []) rfl ?_
  refine lv_aload_n hx hb dX4_init_4 rfl (lv_at hl 0 rfl) ?_
  refine lv_iconst (v := 0) hx hb dX4_init_5 (by decide) ?_
  refine z_put (ci := 8) (v := .int 0) (C := RX4) (T := TX4) (N := 3) hx hb hts (fun _ h => (List.mem_cons_of_mem _ (List.mem_append_right _ h))) tyX4 tyX4_ok nmX4 hown hK hH hS 33 0 92 (by rfl) rfl rfl 0 (by decide) (hts (.fieldLink RX4 9 "BallotFoundry$Person" "age" "I") (List.mem_of_getElem? (i := 4) rfl)) (fun _ h => h) rfl (ty := .int) (by decide +kernel) rfl rfl (Nat.le_of_ble_eq_true rfl) 0 rfl dX4_init_6 (fun H locs hH hS => ?_)
  obtain ⟨F1, eF1⟩ : ∃ z, z = fs F 33 0 0 0 := ⟨_, rfl⟩
  have q := q F1 eF1
  rw [← eF1] at hH
  refine lv_aload_n hx hb dX4_init_9 rfl (lv_at hl 0 rfl) ?_
  refine lv_null hx hb dX4_init_10 ?_
  refine z_put (ci := 8) (v := .null) (C := RX4) (T := TX4) (N := 3) hx hb hts (fun _ h => (List.mem_cons_of_mem _ (List.mem_append_right _ h))) tyX4 tyX4_ok nmX4 hown hK hH hS 33 0 92 (by rfl) rfl rfl 1 (by decide) (hts (.fieldLink RX4 15 "BallotFoundry$Person" "latest" "LBallotFoundry$Stay;") (List.mem_of_getElem? (i := 5) rfl)) (fun _ h => h) rfl (ty := tyX4 1) (by decide +kernel) rfl rfl (Nat.le_of_ble_eq_true rfl) (-1) rfl dX4_init_11 (fun H locs hH hS => ?_)
  obtain ⟨F2, eF2⟩ : ∃ z, z = fs F1 33 0 1 (-1) := ⟨_, rfl⟩
  have q := q F2 eF2
  rw [← eF2] at hH
  refine lv_aload_n hx hb dX4_init_14 rfl (lv_at hl 0 rfl) ?_
  refine lv_iconst (v := 0) hx hb dX4_init_15 (by decide) ?_
  refine z_put (ci := 8) (v := .int 0) (C := RX4) (T := TX4) (N := 3) hx hb hts (fun _ h => (List.mem_cons_of_mem _ (List.mem_append_right _ h))) tyX4 tyX4_ok nmX4 hown hK hH hS 33 0 92 (by rfl) rfl rfl 2 (by decide) (hts (.fieldLink RX4 19 "BallotFoundry$Person" "hasDied" "Z") (List.mem_of_getElem? (i := 6) rfl)) (fun _ h => h) rfl (ty := .boolean) (by decide +kernel) rfl rfl (Nat.le_of_ble_eq_true rfl) 0 rfl dX4_init_16 (fun H locs hH hS => ?_)
  obtain ⟨F3, eF3⟩ : ∃ z, z = fs F2 33 0 2 0 := ⟨_, rfl⟩
  have q := q F3 eF3
  rw [← eF3] at hH
  refine W.cs (cells' := 0) (slots' := 0) rfl rfl ?_
  exact W.vret hx hb hr (fun t ht hW => ⟨⟨F3, rfl, q, zH_at ht hH⟩, hS.F ht⟩) hS.2.2 dX4_init_19
abbrev rz_X4_init_1 : Room := { frames := 1, cells := 0, slots := 0, locals := 20 }
set_option maxHeartbeats 4000000 in
set_option maxRecDepth 100000 in
theorem cz_X4_init_1 (l : Launch) (G : GPz) (F : GF) (K : GF → Prop) : Met l yX4_init wsX4_init rz_X4_init_1 (va_Pc [.ref (zad G.2.2.2 33 1)] (fun U => zD G 94 F U ∧ PZ_X4_init_1 F K)) (zQv G 94 K) 0 0 (gA (zg G)) := by
  refine Met.ofW (cc := cX4_init) (maxL := 1) (ret := none) (by decide) rfl ?_
  intro p e s m args below meth c s₁ Bd hml hv
  obtain ⟨rfl, ⟨⟨hK, hG, hZ⟩, hH, hz⟩, q⟩ := hv
  have hx := Bd.exec
  have hb := Bd.bytes
  have hr := Bd.returns
  have hts := atoms_spec (ws := wsX4_init) Bd.pre
  have hown : s.vm.findClass RX4 = some m.cls := findClass_of_methodNamed Bd.named
  have hlocks := Bd.notSynchronized
  have hin : meth.name = "<init>" := (name_of_methodNamed Bd.named Bd.method).1
  have hS : va_S (gA (zg G)) s.heap s.heap [] := va_S.rf
  have hl := lv_entry [.ref (zad G.2.2.2 33 1)] (n := 1) (Nat.le_of_ble_eq_true rfl)
  rw [lg_entry_eq]
  generalize (lg_sl [.ref (zad G.2.2.2 33 1)] ++ List.replicate (1 - (lg_sl [.ref (zad G.2.2.2 33 1)]).length) Slot.unset).toArray = ls at hl ⊢
  have hl : lv_has ls 1 [(0, .ref (zad G.2.2.2 33 1))] := hl
  unfold PZ_X4_init_1 at q
  refine lv_aload_n hx hb dX4_init_0 rfl (lv_at hl 0 rfl) ?_
  refine W.objInit hx hb hown (hts (.methodLink RX4 3 objectInit) (List.mem_of_getElem? (i := 1) rfl)) (hts (.instanceMethod objectInit) (List.mem_of_getElem? (i := 2) rfl)) (hts (.code objectInit ⟨#[0xb1]⟩ 1 none) (List.mem_of_getElem? (i := 3) rfl)) rfl (by rw [hml]; exact hl.1) rfl dX4_init_1 (Nat.le_of_ble_eq_true rfl) (Nat.le_of_ble_eq_true rfl) ?_
  refine W.eq (g2 := F0 m 4 ls []) rfl ?_
  refine lv_aload_n hx hb dX4_init_4 rfl (lv_at hl 0 rfl) ?_
  refine lv_iconst (v := 0) hx hb dX4_init_5 (by decide) ?_
  refine z_put (ci := 8) (v := .int 0) (C := RX4) (T := TX4) (N := 3) hx hb hts (fun _ h => (List.mem_cons_of_mem _ (List.mem_append_right _ h))) tyX4 tyX4_ok nmX4 hown hK hH hS 33 1 93 (by rfl) rfl rfl 0 (by decide) (hts (.fieldLink RX4 9 "BallotFoundry$Person" "age" "I") (List.mem_of_getElem? (i := 4) rfl)) (fun _ h => h) rfl (ty := .int) (by decide +kernel) rfl rfl (Nat.le_of_ble_eq_true rfl) 0 rfl dX4_init_6 (fun H locs hH hS => ?_)
  obtain ⟨F1, eF1⟩ : ∃ z, z = fs F 33 1 0 0 := ⟨_, rfl⟩
  have q := q F1 eF1
  rw [← eF1] at hH
  refine lv_aload_n hx hb dX4_init_9 rfl (lv_at hl 0 rfl) ?_
  refine lv_null hx hb dX4_init_10 ?_
  refine z_put (ci := 8) (v := .null) (C := RX4) (T := TX4) (N := 3) hx hb hts (fun _ h => (List.mem_cons_of_mem _ (List.mem_append_right _ h))) tyX4 tyX4_ok nmX4 hown hK hH hS 33 1 93 (by rfl) rfl rfl 1 (by decide) (hts (.fieldLink RX4 15 "BallotFoundry$Person" "latest" "LBallotFoundry$Stay;") (List.mem_of_getElem? (i := 5) rfl)) (fun _ h => h) rfl (ty := tyX4 1) (by decide +kernel) rfl rfl (Nat.le_of_ble_eq_true rfl) (-1) rfl dX4_init_11 (fun H locs hH hS => ?_)
  obtain ⟨F2, eF2⟩ : ∃ z, z = fs F1 33 1 1 (-1) := ⟨_, rfl⟩
  have q := q F2 eF2
  rw [← eF2] at hH
  refine lv_aload_n hx hb dX4_init_14 rfl (lv_at hl 0 rfl) ?_
  refine lv_iconst (v := 0) hx hb dX4_init_15 (by decide) ?_
  refine z_put (ci := 8) (v := .int 0) (C := RX4) (T := TX4) (N := 3) hx hb hts (fun _ h => (List.mem_cons_of_mem _ (List.mem_append_right _ h))) tyX4 tyX4_ok nmX4 hown hK hH hS 33 1 93 (by rfl) rfl rfl 2 (by decide) (hts (.fieldLink RX4 19 "BallotFoundry$Person" "hasDied" "Z") (List.mem_of_getElem? (i := 6) rfl)) (fun _ h => h) rfl (ty := .boolean) (by decide +kernel) rfl rfl (Nat.le_of_ble_eq_true rfl) 0 rfl dX4_init_16 (fun H locs hH hS => ?_)
  obtain ⟨F3, eF3⟩ : ∃ z, z = fs F2 33 1 2 0 := ⟨_, rfl⟩
  have q := q F3 eF3
  rw [← eF3] at hH
  refine W.cs (cells' := 0) (slots' := 0) rfl rfl ?_
  exact W.vret hx hb hr (fun t ht hW => ⟨⟨F3, rfl, q, zH_at ht hH⟩, hS.F ht⟩) hS.2.2 dX4_init_19
abbrev rz_X4_init_2 : Room := { frames := 1, cells := 0, slots := 0, locals := 20 }
set_option maxHeartbeats 4000000 in
set_option maxRecDepth 100000 in
theorem cz_X4_init_2 (l : Launch) (G : GPz) (F : GF) (K : GF → Prop) : Met l yX4_init wsX4_init rz_X4_init_2 (va_Pc [.ref (zad G.2.2.2 33 2)] (fun U => zD G 95 F U ∧ PZ_X4_init_2 F K)) (zQv G 95 K) 0 0 (gA (zg G)) := by
  refine Met.ofW (cc := cX4_init) (maxL := 1) (ret := none) (by decide) rfl ?_
  intro p e s m args below meth c s₁ Bd hml hv
  obtain ⟨rfl, ⟨⟨hK, hG, hZ⟩, hH, hz⟩, q⟩ := hv
  have hx := Bd.exec
  have hb := Bd.bytes
  have hr := Bd.returns
  have hts := atoms_spec (ws := wsX4_init) Bd.pre
  have hown : s.vm.findClass RX4 = some m.cls := findClass_of_methodNamed Bd.named
  have hlocks := Bd.notSynchronized
  have hin : meth.name = "<init>" := (name_of_methodNamed Bd.named Bd.method).1
  have hS : va_S (gA (zg G)) s.heap s.heap [] := va_S.rf
  have hl := lv_entry [.ref (zad G.2.2.2 33 2)] (n := 1) (Nat.le_of_ble_eq_true rfl)
  rw [lg_entry_eq]
  generalize (lg_sl [.ref (zad G.2.2.2 33 2)] ++ List.replicate (1 - (lg_sl [.ref (zad G.2.2.2 33 2)]).length) Slot.unset).toArray = ls at hl ⊢
  have hl : lv_has ls 1 [(0, .ref (zad G.2.2.2 33 2))] := hl
  unfold PZ_X4_init_2 at q
  refine lv_aload_n hx hb dX4_init_0 rfl (lv_at hl 0 rfl) ?_
  refine W.objInit hx hb hown (hts (.methodLink RX4 3 objectInit) (List.mem_of_getElem? (i := 1) rfl)) (hts (.instanceMethod objectInit) (List.mem_of_getElem? (i := 2) rfl)) (hts (.code objectInit ⟨#[0xb1]⟩ 1 none) (List.mem_of_getElem? (i := 3) rfl)) rfl (by rw [hml]; exact hl.1) rfl dX4_init_1 (Nat.le_of_ble_eq_true rfl) (Nat.le_of_ble_eq_true rfl) ?_
  refine W.eq (g2 := F0 m 4 ls []) rfl ?_
  refine lv_aload_n hx hb dX4_init_4 rfl (lv_at hl 0 rfl) ?_
  refine lv_iconst (v := 0) hx hb dX4_init_5 (by decide) ?_
  refine z_put (ci := 8) (v := .int 0) (C := RX4) (T := TX4) (N := 3) hx hb hts (fun _ h => (List.mem_cons_of_mem _ (List.mem_append_right _ h))) tyX4 tyX4_ok nmX4 hown hK hH hS 33 2 94 (by rfl) rfl rfl 0 (by decide) (hts (.fieldLink RX4 9 "BallotFoundry$Person" "age" "I") (List.mem_of_getElem? (i := 4) rfl)) (fun _ h => h) rfl (ty := .int) (by decide +kernel) rfl rfl (Nat.le_of_ble_eq_true rfl) 0 rfl dX4_init_6 (fun H locs hH hS => ?_)
  obtain ⟨F1, eF1⟩ : ∃ z, z = fs F 33 2 0 0 := ⟨_, rfl⟩
  have q := q F1 eF1
  rw [← eF1] at hH
  refine lv_aload_n hx hb dX4_init_9 rfl (lv_at hl 0 rfl) ?_
  refine lv_null hx hb dX4_init_10 ?_
  refine z_put (ci := 8) (v := .null) (C := RX4) (T := TX4) (N := 3) hx hb hts (fun _ h => (List.mem_cons_of_mem _ (List.mem_append_right _ h))) tyX4 tyX4_ok nmX4 hown hK hH hS 33 2 94 (by rfl) rfl rfl 1 (by decide) (hts (.fieldLink RX4 15 "BallotFoundry$Person" "latest" "LBallotFoundry$Stay;") (List.mem_of_getElem? (i := 5) rfl)) (fun _ h => h) rfl (ty := tyX4 1) (by decide +kernel) rfl rfl (Nat.le_of_ble_eq_true rfl) (-1) rfl dX4_init_11 (fun H locs hH hS => ?_)
  obtain ⟨F2, eF2⟩ : ∃ z, z = fs F1 33 2 1 (-1) := ⟨_, rfl⟩
  have q := q F2 eF2
  rw [← eF2] at hH
  refine lv_aload_n hx hb dX4_init_14 rfl (lv_at hl 0 rfl) ?_
  refine lv_iconst (v := 0) hx hb dX4_init_15 (by decide) ?_
  refine z_put (ci := 8) (v := .int 0) (C := RX4) (T := TX4) (N := 3) hx hb hts (fun _ h => (List.mem_cons_of_mem _ (List.mem_append_right _ h))) tyX4 tyX4_ok nmX4 hown hK hH hS 33 2 94 (by rfl) rfl rfl 2 (by decide) (hts (.fieldLink RX4 19 "BallotFoundry$Person" "hasDied" "Z") (List.mem_of_getElem? (i := 6) rfl)) (fun _ h => h) rfl (ty := .boolean) (by decide +kernel) rfl rfl (Nat.le_of_ble_eq_true rfl) 0 rfl dX4_init_16 (fun H locs hH hS => ?_)
  obtain ⟨F3, eF3⟩ : ∃ z, z = fs F2 33 2 2 0 := ⟨_, rfl⟩
  have q := q F3 eF3
  rw [← eF3] at hH
  refine W.cs (cells' := 0) (slots' := 0) rfl rfl ?_
  exact W.vret hx hb hr (fun t ht hW => ⟨⟨F3, rfl, q, zH_at ht hH⟩, hS.F ht⟩) hS.2.2 dX4_init_19
abbrev rz_X4_init_3 : Room := { frames := 1, cells := 0, slots := 0, locals := 20 }
set_option maxHeartbeats 4000000 in
set_option maxRecDepth 100000 in
theorem cz_X4_init_3 (l : Launch) (G : GPz) (F : GF) (K : GF → Prop) : Met l yX4_init wsX4_init rz_X4_init_3 (va_Pc [.ref (zad G.2.2.2 33 3)] (fun U => zD G 96 F U ∧ PZ_X4_init_3 F K)) (zQv G 96 K) 0 0 (gA (zg G)) := by
  refine Met.ofW (cc := cX4_init) (maxL := 1) (ret := none) (by decide) rfl ?_
  intro p e s m args below meth c s₁ Bd hml hv
  obtain ⟨rfl, ⟨⟨hK, hG, hZ⟩, hH, hz⟩, q⟩ := hv
  have hx := Bd.exec
  have hb := Bd.bytes
  have hr := Bd.returns
  have hts := atoms_spec (ws := wsX4_init) Bd.pre
  have hown : s.vm.findClass RX4 = some m.cls := findClass_of_methodNamed Bd.named
  have hlocks := Bd.notSynchronized
  have hin : meth.name = "<init>" := (name_of_methodNamed Bd.named Bd.method).1
  have hS : va_S (gA (zg G)) s.heap s.heap [] := va_S.rf
  have hl := lv_entry [.ref (zad G.2.2.2 33 3)] (n := 1) (Nat.le_of_ble_eq_true rfl)
  rw [lg_entry_eq]
  generalize (lg_sl [.ref (zad G.2.2.2 33 3)] ++ List.replicate (1 - (lg_sl [.ref (zad G.2.2.2 33 3)]).length) Slot.unset).toArray = ls at hl ⊢
  have hl : lv_has ls 1 [(0, .ref (zad G.2.2.2 33 3))] := hl
  unfold PZ_X4_init_3 at q
  refine lv_aload_n hx hb dX4_init_0 rfl (lv_at hl 0 rfl) ?_
  refine W.objInit hx hb hown (hts (.methodLink RX4 3 objectInit) (List.mem_of_getElem? (i := 1) rfl)) (hts (.instanceMethod objectInit) (List.mem_of_getElem? (i := 2) rfl)) (hts (.code objectInit ⟨#[0xb1]⟩ 1 none) (List.mem_of_getElem? (i := 3) rfl)) rfl (by rw [hml]; exact hl.1) rfl dX4_init_1 (Nat.le_of_ble_eq_true rfl) (Nat.le_of_ble_eq_true rfl) ?_
  refine W.eq (g2 := F0 m 4 ls []) rfl ?_
  refine lv_aload_n hx hb dX4_init_4 rfl (lv_at hl 0 rfl) ?_
  refine lv_iconst (v := 0) hx hb dX4_init_5 (by decide) ?_
  refine z_put (ci := 8) (v := .int 0) (C := RX4) (T := TX4) (N := 3) hx hb hts (fun _ h => (List.mem_cons_of_mem _ (List.mem_append_right _ h))) tyX4 tyX4_ok nmX4 hown hK hH hS 33 3 95 (by rfl) rfl rfl 0 (by decide) (hts (.fieldLink RX4 9 "BallotFoundry$Person" "age" "I") (List.mem_of_getElem? (i := 4) rfl)) (fun _ h => h) rfl (ty := .int) (by decide +kernel) rfl rfl (Nat.le_of_ble_eq_true rfl) 0 rfl dX4_init_6 (fun H locs hH hS => ?_)
  obtain ⟨F1, eF1⟩ : ∃ z, z = fs F 33 3 0 0 := ⟨_, rfl⟩
  have q := q F1 eF1
  rw [← eF1] at hH
  refine lv_aload_n hx hb dX4_init_9 rfl (lv_at hl 0 rfl) ?_
  refine lv_null hx hb dX4_init_10 ?_
  refine z_put (ci := 8) (v := .null) (C := RX4) (T := TX4) (N := 3) hx hb hts (fun _ h => (List.mem_cons_of_mem _ (List.mem_append_right _ h))) tyX4 tyX4_ok nmX4 hown hK hH hS 33 3 95 (by rfl) rfl rfl 1 (by decide) (hts (.fieldLink RX4 15 "BallotFoundry$Person" "latest" "LBallotFoundry$Stay;") (List.mem_of_getElem? (i := 5) rfl)) (fun _ h => h) rfl (ty := tyX4 1) (by decide +kernel) rfl rfl (Nat.le_of_ble_eq_true rfl) (-1) rfl dX4_init_11 (fun H locs hH hS => ?_)
  obtain ⟨F2, eF2⟩ : ∃ z, z = fs F1 33 3 1 (-1) := ⟨_, rfl⟩
  have q := q F2 eF2
  rw [← eF2] at hH
  refine lv_aload_n hx hb dX4_init_14 rfl (lv_at hl 0 rfl) ?_
  refine lv_iconst (v := 0) hx hb dX4_init_15 (by decide) ?_
  refine z_put (ci := 8) (v := .int 0) (C := RX4) (T := TX4) (N := 3) hx hb hts (fun _ h => (List.mem_cons_of_mem _ (List.mem_append_right _ h))) tyX4 tyX4_ok nmX4 hown hK hH hS 33 3 95 (by rfl) rfl rfl 2 (by decide) (hts (.fieldLink RX4 19 "BallotFoundry$Person" "hasDied" "Z") (List.mem_of_getElem? (i := 6) rfl)) (fun _ h => h) rfl (ty := .boolean) (by decide +kernel) rfl rfl (Nat.le_of_ble_eq_true rfl) 0 rfl dX4_init_16 (fun H locs hH hS => ?_)
  obtain ⟨F3, eF3⟩ : ∃ z, z = fs F2 33 3 2 0 := ⟨_, rfl⟩
  have q := q F3 eF3
  rw [← eF3] at hH
  refine W.cs (cells' := 0) (slots' := 0) rfl rfl ?_
  exact W.vret hx hb hr (fun t ht hW => ⟨⟨F3, rfl, q, zH_at ht hH⟩, hS.F ht⟩) hS.2.2 dX4_init_19
abbrev rz_X4_init_4 : Room := { frames := 1, cells := 0, slots := 0, locals := 20 }
set_option maxHeartbeats 4000000 in
set_option maxRecDepth 100000 in
theorem cz_X4_init_4 (l : Launch) (G : GPz) (F : GF) (K : GF → Prop) : Met l yX4_init wsX4_init rz_X4_init_4 (va_Pc [.ref (zad G.2.2.2 33 4)] (fun U => zD G 97 F U ∧ PZ_X4_init_4 F K)) (zQv G 97 K) 0 0 (gA (zg G)) := by
  refine Met.ofW (cc := cX4_init) (maxL := 1) (ret := none) (by decide) rfl ?_
  intro p e s m args below meth c s₁ Bd hml hv
  obtain ⟨rfl, ⟨⟨hK, hG, hZ⟩, hH, hz⟩, q⟩ := hv
  have hx := Bd.exec
  have hb := Bd.bytes
  have hr := Bd.returns
  have hts := atoms_spec (ws := wsX4_init) Bd.pre
  have hown : s.vm.findClass RX4 = some m.cls := findClass_of_methodNamed Bd.named
  have hlocks := Bd.notSynchronized
  have hin : meth.name = "<init>" := (name_of_methodNamed Bd.named Bd.method).1
  have hS : va_S (gA (zg G)) s.heap s.heap [] := va_S.rf
  have hl := lv_entry [.ref (zad G.2.2.2 33 4)] (n := 1) (Nat.le_of_ble_eq_true rfl)
  rw [lg_entry_eq]
  generalize (lg_sl [.ref (zad G.2.2.2 33 4)] ++ List.replicate (1 - (lg_sl [.ref (zad G.2.2.2 33 4)]).length) Slot.unset).toArray = ls at hl ⊢
  have hl : lv_has ls 1 [(0, .ref (zad G.2.2.2 33 4))] := hl
  unfold PZ_X4_init_4 at q
  refine lv_aload_n hx hb dX4_init_0 rfl (lv_at hl 0 rfl) ?_
  refine W.objInit hx hb hown (hts (.methodLink RX4 3 objectInit) (List.mem_of_getElem? (i := 1) rfl)) (hts (.instanceMethod objectInit) (List.mem_of_getElem? (i := 2) rfl)) (hts (.code objectInit ⟨#[0xb1]⟩ 1 none) (List.mem_of_getElem? (i := 3) rfl)) rfl (by rw [hml]; exact hl.1) rfl dX4_init_1 (Nat.le_of_ble_eq_true rfl) (Nat.le_of_ble_eq_true rfl) ?_
  refine W.eq (g2 := F0 m 4 ls []) rfl ?_
  refine lv_aload_n hx hb dX4_init_4 rfl (lv_at hl 0 rfl) ?_
  refine lv_iconst (v := 0) hx hb dX4_init_5 (by decide) ?_
  refine z_put (ci := 8) (v := .int 0) (C := RX4) (T := TX4) (N := 3) hx hb hts (fun _ h => (List.mem_cons_of_mem _ (List.mem_append_right _ h))) tyX4 tyX4_ok nmX4 hown hK hH hS 33 4 96 (by rfl) rfl rfl 0 (by decide) (hts (.fieldLink RX4 9 "BallotFoundry$Person" "age" "I") (List.mem_of_getElem? (i := 4) rfl)) (fun _ h => h) rfl (ty := .int) (by decide +kernel) rfl rfl (Nat.le_of_ble_eq_true rfl) 0 rfl dX4_init_6 (fun H locs hH hS => ?_)
  obtain ⟨F1, eF1⟩ : ∃ z, z = fs F 33 4 0 0 := ⟨_, rfl⟩
  have q := q F1 eF1
  rw [← eF1] at hH
  refine lv_aload_n hx hb dX4_init_9 rfl (lv_at hl 0 rfl) ?_
  refine lv_null hx hb dX4_init_10 ?_
  refine z_put (ci := 8) (v := .null) (C := RX4) (T := TX4) (N := 3) hx hb hts (fun _ h => (List.mem_cons_of_mem _ (List.mem_append_right _ h))) tyX4 tyX4_ok nmX4 hown hK hH hS 33 4 96 (by rfl) rfl rfl 1 (by decide) (hts (.fieldLink RX4 15 "BallotFoundry$Person" "latest" "LBallotFoundry$Stay;") (List.mem_of_getElem? (i := 5) rfl)) (fun _ h => h) rfl (ty := tyX4 1) (by decide +kernel) rfl rfl (Nat.le_of_ble_eq_true rfl) (-1) rfl dX4_init_11 (fun H locs hH hS => ?_)
  obtain ⟨F2, eF2⟩ : ∃ z, z = fs F1 33 4 1 (-1) := ⟨_, rfl⟩
  have q := q F2 eF2
  rw [← eF2] at hH
  refine lv_aload_n hx hb dX4_init_14 rfl (lv_at hl 0 rfl) ?_
  refine lv_iconst (v := 0) hx hb dX4_init_15 (by decide) ?_
  refine z_put (ci := 8) (v := .int 0) (C := RX4) (T := TX4) (N := 3) hx hb hts (fun _ h => (List.mem_cons_of_mem _ (List.mem_append_right _ h))) tyX4 tyX4_ok nmX4 hown hK hH hS 33 4 96 (by rfl) rfl rfl 2 (by decide) (hts (.fieldLink RX4 19 "BallotFoundry$Person" "hasDied" "Z") (List.mem_of_getElem? (i := 6) rfl)) (fun _ h => h) rfl (ty := .boolean) (by decide +kernel) rfl rfl (Nat.le_of_ble_eq_true rfl) 0 rfl dX4_init_16 (fun H locs hH hS => ?_)
  obtain ⟨F3, eF3⟩ : ∃ z, z = fs F2 33 4 2 0 := ⟨_, rfl⟩
  have q := q F3 eF3
  rw [← eF3] at hH
  refine W.cs (cells' := 0) (slots' := 0) rfl rfl ?_
  exact W.vret hx hb hr (fun t ht hW => ⟨⟨F3, rfl, q, zH_at ht hH⟩, hS.F ht⟩) hS.2.2 dX4_init_19
abbrev rz_X4_init_5 : Room := { frames := 1, cells := 0, slots := 0, locals := 20 }
set_option maxHeartbeats 4000000 in
set_option maxRecDepth 100000 in
theorem cz_X4_init_5 (l : Launch) (G : GPz) (F : GF) (K : GF → Prop) : Met l yX4_init wsX4_init rz_X4_init_5 (va_Pc [.ref (zad G.2.2.2 33 5)] (fun U => zD G 98 F U ∧ PZ_X4_init_5 F K)) (zQv G 98 K) 0 0 (gA (zg G)) := by
  refine Met.ofW (cc := cX4_init) (maxL := 1) (ret := none) (by decide) rfl ?_
  intro p e s m args below meth c s₁ Bd hml hv
  obtain ⟨rfl, ⟨⟨hK, hG, hZ⟩, hH, hz⟩, q⟩ := hv
  have hx := Bd.exec
  have hb := Bd.bytes
  have hr := Bd.returns
  have hts := atoms_spec (ws := wsX4_init) Bd.pre
  have hown : s.vm.findClass RX4 = some m.cls := findClass_of_methodNamed Bd.named
  have hlocks := Bd.notSynchronized
  have hin : meth.name = "<init>" := (name_of_methodNamed Bd.named Bd.method).1
  have hS : va_S (gA (zg G)) s.heap s.heap [] := va_S.rf
  have hl := lv_entry [.ref (zad G.2.2.2 33 5)] (n := 1) (Nat.le_of_ble_eq_true rfl)
  rw [lg_entry_eq]
  generalize (lg_sl [.ref (zad G.2.2.2 33 5)] ++ List.replicate (1 - (lg_sl [.ref (zad G.2.2.2 33 5)]).length) Slot.unset).toArray = ls at hl ⊢
  have hl : lv_has ls 1 [(0, .ref (zad G.2.2.2 33 5))] := hl
  unfold PZ_X4_init_5 at q
  refine lv_aload_n hx hb dX4_init_0 rfl (lv_at hl 0 rfl) ?_
  refine W.objInit hx hb hown (hts (.methodLink RX4 3 objectInit) (List.mem_of_getElem? (i := 1) rfl)) (hts (.instanceMethod objectInit) (List.mem_of_getElem? (i := 2) rfl)) (hts (.code objectInit ⟨#[0xb1]⟩ 1 none) (List.mem_of_getElem? (i := 3) rfl)) rfl (by rw [hml]; exact hl.1) rfl dX4_init_1 (Nat.le_of_ble_eq_true rfl) (Nat.le_of_ble_eq_true rfl) ?_
  refine W.eq (g2 := F0 m 4 ls []) rfl ?_
  refine lv_aload_n hx hb dX4_init_4 rfl (lv_at hl 0 rfl) ?_
  refine lv_iconst (v := 0) hx hb dX4_init_5 (by decide) ?_
  refine z_put (ci := 8) (v := .int 0) (C := RX4) (T := TX4) (N := 3) hx hb hts (fun _ h => (List.mem_cons_of_mem _ (List.mem_append_right _ h))) tyX4 tyX4_ok nmX4 hown hK hH hS 33 5 97 (by rfl) rfl rfl 0 (by decide) (hts (.fieldLink RX4 9 "BallotFoundry$Person" "age" "I") (List.mem_of_getElem? (i := 4) rfl)) (fun _ h => h) rfl (ty := .int) (by decide +kernel) rfl rfl (Nat.le_of_ble_eq_true rfl) 0 rfl dX4_init_6 (fun H locs hH hS => ?_)
  obtain ⟨F1, eF1⟩ : ∃ z, z = fs F 33 5 0 0 := ⟨_, rfl⟩
  have q := q F1 eF1
  rw [← eF1] at hH
  refine lv_aload_n hx hb dX4_init_9 rfl (lv_at hl 0 rfl) ?_
  refine lv_null hx hb dX4_init_10 ?_
  refine z_put (ci := 8) (v := .null) (C := RX4) (T := TX4) (N := 3) hx hb hts (fun _ h => (List.mem_cons_of_mem _ (List.mem_append_right _ h))) tyX4 tyX4_ok nmX4 hown hK hH hS 33 5 97 (by rfl) rfl rfl 1 (by decide) (hts (.fieldLink RX4 15 "BallotFoundry$Person" "latest" "LBallotFoundry$Stay;") (List.mem_of_getElem? (i := 5) rfl)) (fun _ h => h) rfl (ty := tyX4 1) (by decide +kernel) rfl rfl (Nat.le_of_ble_eq_true rfl) (-1) rfl dX4_init_11 (fun H locs hH hS => ?_)
  obtain ⟨F2, eF2⟩ : ∃ z, z = fs F1 33 5 1 (-1) := ⟨_, rfl⟩
  have q := q F2 eF2
  rw [← eF2] at hH
  refine lv_aload_n hx hb dX4_init_14 rfl (lv_at hl 0 rfl) ?_
  refine lv_iconst (v := 0) hx hb dX4_init_15 (by decide) ?_
  refine z_put (ci := 8) (v := .int 0) (C := RX4) (T := TX4) (N := 3) hx hb hts (fun _ h => (List.mem_cons_of_mem _ (List.mem_append_right _ h))) tyX4 tyX4_ok nmX4 hown hK hH hS 33 5 97 (by rfl) rfl rfl 2 (by decide) (hts (.fieldLink RX4 19 "BallotFoundry$Person" "hasDied" "Z") (List.mem_of_getElem? (i := 6) rfl)) (fun _ h => h) rfl (ty := .boolean) (by decide +kernel) rfl rfl (Nat.le_of_ble_eq_true rfl) 0 rfl dX4_init_16 (fun H locs hH hS => ?_)
  obtain ⟨F3, eF3⟩ : ∃ z, z = fs F2 33 5 2 0 := ⟨_, rfl⟩
  have q := q F3 eF3
  rw [← eF3] at hH
  refine W.cs (cells' := 0) (slots' := 0) rfl rfl ?_
  exact W.vret hx hb hr (fun t ht hW => ⟨⟨F3, rfl, q, zH_at ht hH⟩, hS.F ht⟩) hS.2.2 dX4_init_19
abbrev rz_X4_init_6 : Room := { frames := 1, cells := 0, slots := 0, locals := 20 }
set_option maxHeartbeats 4000000 in
set_option maxRecDepth 100000 in
theorem cz_X4_init_6 (l : Launch) (G : GPz) (F : GF) (K : GF → Prop) : Met l yX4_init wsX4_init rz_X4_init_6 (va_Pc [.ref (zad G.2.2.2 33 6)] (fun U => zD G 99 F U ∧ PZ_X4_init_6 F K)) (zQv G 99 K) 0 0 (gA (zg G)) := by
  refine Met.ofW (cc := cX4_init) (maxL := 1) (ret := none) (by decide) rfl ?_
  intro p e s m args below meth c s₁ Bd hml hv
  obtain ⟨rfl, ⟨⟨hK, hG, hZ⟩, hH, hz⟩, q⟩ := hv
  have hx := Bd.exec
  have hb := Bd.bytes
  have hr := Bd.returns
  have hts := atoms_spec (ws := wsX4_init) Bd.pre
  have hown : s.vm.findClass RX4 = some m.cls := findClass_of_methodNamed Bd.named
  have hlocks := Bd.notSynchronized
  have hin : meth.name = "<init>" := (name_of_methodNamed Bd.named Bd.method).1
  have hS : va_S (gA (zg G)) s.heap s.heap [] := va_S.rf
  have hl := lv_entry [.ref (zad G.2.2.2 33 6)] (n := 1) (Nat.le_of_ble_eq_true rfl)
  rw [lg_entry_eq]
  generalize (lg_sl [.ref (zad G.2.2.2 33 6)] ++ List.replicate (1 - (lg_sl [.ref (zad G.2.2.2 33 6)]).length) Slot.unset).toArray = ls at hl ⊢
  have hl : lv_has ls 1 [(0, .ref (zad G.2.2.2 33 6))] := hl
  unfold PZ_X4_init_6 at q
  refine lv_aload_n hx hb dX4_init_0 rfl (lv_at hl 0 rfl) ?_
  refine W.objInit hx hb hown (hts (.methodLink RX4 3 objectInit) (List.mem_of_getElem? (i := 1) rfl)) (hts (.instanceMethod objectInit) (List.mem_of_getElem? (i := 2) rfl)) (hts (.code objectInit ⟨#[0xb1]⟩ 1 none) (List.mem_of_getElem? (i := 3) rfl)) rfl (by rw [hml]; exact hl.1) rfl dX4_init_1 (Nat.le_of_ble_eq_true rfl) (Nat.le_of_ble_eq_true rfl) ?_
  refine W.eq (g2 := F0 m 4 ls []) rfl ?_
  refine lv_aload_n hx hb dX4_init_4 rfl (lv_at hl 0 rfl) ?_
  refine lv_iconst (v := 0) hx hb dX4_init_5 (by decide) ?_
  refine z_put (ci := 8) (v := .int 0) (C := RX4) (T := TX4) (N := 3) hx hb hts (fun _ h => (List.mem_cons_of_mem _ (List.mem_append_right _ h))) tyX4 tyX4_ok nmX4 hown hK hH hS 33 6 98 (by rfl) rfl rfl 0 (by decide) (hts (.fieldLink RX4 9 "BallotFoundry$Person" "age" "I") (List.mem_of_getElem? (i := 4) rfl)) (fun _ h => h) rfl (ty := .int) (by decide +kernel) rfl rfl (Nat.le_of_ble_eq_true rfl) 0 rfl dX4_init_6 (fun H locs hH hS => ?_)
  obtain ⟨F1, eF1⟩ : ∃ z, z = fs F 33 6 0 0 := ⟨_, rfl⟩
  have q := q F1 eF1
  rw [← eF1] at hH
  refine lv_aload_n hx hb dX4_init_9 rfl (lv_at hl 0 rfl) ?_
  refine lv_null hx hb dX4_init_10 ?_
  refine z_put (ci := 8) (v := .null) (C := RX4) (T := TX4) (N := 3) hx hb hts (fun _ h => (List.mem_cons_of_mem _ (List.mem_append_right _ h))) tyX4 tyX4_ok nmX4 hown hK hH hS 33 6 98 (by rfl) rfl rfl 1 (by decide) (hts (.fieldLink RX4 15 "BallotFoundry$Person" "latest" "LBallotFoundry$Stay;") (List.mem_of_getElem? (i := 5) rfl)) (fun _ h => h) rfl (ty := tyX4 1) (by decide +kernel) rfl rfl (Nat.le_of_ble_eq_true rfl) (-1) rfl dX4_init_11 (fun H locs hH hS => ?_)
  obtain ⟨F2, eF2⟩ : ∃ z, z = fs F1 33 6 1 (-1) := ⟨_, rfl⟩
  have q := q F2 eF2
  rw [← eF2] at hH
  refine lv_aload_n hx hb dX4_init_14 rfl (lv_at hl 0 rfl) ?_
  refine lv_iconst (v := 0) hx hb dX4_init_15 (by decide) ?_
  refine z_put (ci := 8) (v := .int 0) (C := RX4) (T := TX4) (N := 3) hx hb hts (fun _ h => (List.mem_cons_of_mem _ (List.mem_append_right _ h))) tyX4 tyX4_ok nmX4 hown hK hH hS 33 6 98 (by rfl) rfl rfl 2 (by decide) (hts (.fieldLink RX4 19 "BallotFoundry$Person" "hasDied" "Z") (List.mem_of_getElem? (i := 6) rfl)) (fun _ h => h) rfl (ty := .boolean) (by decide +kernel) rfl rfl (Nat.le_of_ble_eq_true rfl) 0 rfl dX4_init_16 (fun H locs hH hS => ?_)
  obtain ⟨F3, eF3⟩ : ∃ z, z = fs F2 33 6 2 0 := ⟨_, rfl⟩
  have q := q F3 eF3
  rw [← eF3] at hH
  refine W.cs (cells' := 0) (slots' := 0) rfl rfl ?_
  exact W.vret hx hb hr (fun t ht hW => ⟨⟨F3, rfl, q, zH_at ht hH⟩, hS.F ht⟩) hS.2.2 dX4_init_19
abbrev rz_X4_init_7 : Room := { frames := 1, cells := 0, slots := 0, locals := 20 }
set_option maxHeartbeats 4000000 in
set_option maxRecDepth 100000 in
theorem cz_X4_init_7 (l : Launch) (G : GPz) (F : GF) (K : GF → Prop) : Met l yX4_init wsX4_init rz_X4_init_7 (va_Pc [.ref (zad G.2.2.2 33 7)] (fun U => zD G 100 F U ∧ PZ_X4_init_7 F K)) (zQv G 100 K) 0 0 (gA (zg G)) := by
  refine Met.ofW (cc := cX4_init) (maxL := 1) (ret := none) (by decide) rfl ?_
  intro p e s m args below meth c s₁ Bd hml hv
  obtain ⟨rfl, ⟨⟨hK, hG, hZ⟩, hH, hz⟩, q⟩ := hv
  have hx := Bd.exec
  have hb := Bd.bytes
  have hr := Bd.returns
  have hts := atoms_spec (ws := wsX4_init) Bd.pre
  have hown : s.vm.findClass RX4 = some m.cls := findClass_of_methodNamed Bd.named
  have hlocks := Bd.notSynchronized
  have hin : meth.name = "<init>" := (name_of_methodNamed Bd.named Bd.method).1
  have hS : va_S (gA (zg G)) s.heap s.heap [] := va_S.rf
  have hl := lv_entry [.ref (zad G.2.2.2 33 7)] (n := 1) (Nat.le_of_ble_eq_true rfl)
  rw [lg_entry_eq]
  generalize (lg_sl [.ref (zad G.2.2.2 33 7)] ++ List.replicate (1 - (lg_sl [.ref (zad G.2.2.2 33 7)]).length) Slot.unset).toArray = ls at hl ⊢
  have hl : lv_has ls 1 [(0, .ref (zad G.2.2.2 33 7))] := hl
  unfold PZ_X4_init_7 at q
  refine lv_aload_n hx hb dX4_init_0 rfl (lv_at hl 0 rfl) ?_
  refine W.objInit hx hb hown (hts (.methodLink RX4 3 objectInit) (List.mem_of_getElem? (i := 1) rfl)) (hts (.instanceMethod objectInit) (List.mem_of_getElem? (i := 2) rfl)) (hts (.code objectInit ⟨#[0xb1]⟩ 1 none) (List.mem_of_getElem? (i := 3) rfl)) rfl (by rw [hml]; exact hl.1) rfl dX4_init_1 (Nat.le_of_ble_eq_true rfl) (Nat.le_of_ble_eq_true rfl) ?_
  refine W.eq (g2 := F0 m 4 ls []) rfl ?_
  refine lv_aload_n hx hb dX4_init_4 rfl (lv_at hl 0 rfl) ?_
  refine lv_iconst (v := 0) hx hb dX4_init_5 (by decide) ?_
  refine z_put (ci := 8) (v := .int 0) (C := RX4) (T := TX4) (N := 3) hx hb hts (fun _ h => (List.mem_cons_of_mem _ (List.mem_append_right _ h))) tyX4 tyX4_ok nmX4 hown hK hH hS 33 7 99 (by rfl) rfl rfl 0 (by decide) (hts (.fieldLink RX4 9 "BallotFoundry$Person" "age" "I") (List.mem_of_getElem? (i := 4) rfl)) (fun _ h => h) rfl (ty := .int) (by decide +kernel) rfl rfl (Nat.le_of_ble_eq_true rfl) 0 rfl dX4_init_6 (fun H locs hH hS => ?_)
  obtain ⟨F1, eF1⟩ : ∃ z, z = fs F 33 7 0 0 := ⟨_, rfl⟩
  have q := q F1 eF1
  rw [← eF1] at hH
  refine lv_aload_n hx hb dX4_init_9 rfl (lv_at hl 0 rfl) ?_
  refine lv_null hx hb dX4_init_10 ?_
  refine z_put (ci := 8) (v := .null) (C := RX4) (T := TX4) (N := 3) hx hb hts (fun _ h => (List.mem_cons_of_mem _ (List.mem_append_right _ h))) tyX4 tyX4_ok nmX4 hown hK hH hS 33 7 99 (by rfl) rfl rfl 1 (by decide) (hts (.fieldLink RX4 15 "BallotFoundry$Person" "latest" "LBallotFoundry$Stay;") (List.mem_of_getElem? (i := 5) rfl)) (fun _ h => h) rfl (ty := tyX4 1) (by decide +kernel) rfl rfl (Nat.le_of_ble_eq_true rfl) (-1) rfl dX4_init_11 (fun H locs hH hS => ?_)
  obtain ⟨F2, eF2⟩ : ∃ z, z = fs F1 33 7 1 (-1) := ⟨_, rfl⟩
  have q := q F2 eF2
  rw [← eF2] at hH
  refine lv_aload_n hx hb dX4_init_14 rfl (lv_at hl 0 rfl) ?_
  refine lv_iconst (v := 0) hx hb dX4_init_15 (by decide) ?_
  refine z_put (ci := 8) (v := .int 0) (C := RX4) (T := TX4) (N := 3) hx hb hts (fun _ h => (List.mem_cons_of_mem _ (List.mem_append_right _ h))) tyX4 tyX4_ok nmX4 hown hK hH hS 33 7 99 (by rfl) rfl rfl 2 (by decide) (hts (.fieldLink RX4 19 "BallotFoundry$Person" "hasDied" "Z") (List.mem_of_getElem? (i := 6) rfl)) (fun _ h => h) rfl (ty := .boolean) (by decide +kernel) rfl rfl (Nat.le_of_ble_eq_true rfl) 0 rfl dX4_init_16 (fun H locs hH hS => ?_)
  obtain ⟨F3, eF3⟩ : ∃ z, z = fs F2 33 7 2 0 := ⟨_, rfl⟩
  have q := q F3 eF3
  rw [← eF3] at hH
  refine W.cs (cells' := 0) (slots' := 0) rfl rfl ?_
  exact W.vret hx hb hr (fun t ht hW => ⟨⟨F3, rfl, q, zH_at ht hH⟩, hS.F ht⟩) hS.2.2 dX4_init_19
abbrev rz_X4_init_8 : Room := { frames := 1, cells := 0, slots := 0, locals := 20 }
set_option maxHeartbeats 4000000 in
set_option maxRecDepth 100000 in
theorem cz_X4_init_8 (l : Launch) (G : GPz) (F : GF) (K : GF → Prop) : Met l yX4_init wsX4_init rz_X4_init_8 (va_Pc [.ref (zad G.2.2.2 33 8)] (fun U => zD G 101 F U ∧ PZ_X4_init_8 F K)) (zQv G 101 K) 0 0 (gA (zg G)) := by
  refine Met.ofW (cc := cX4_init) (maxL := 1) (ret := none) (by decide) rfl ?_
  intro p e s m args below meth c s₁ Bd hml hv
  obtain ⟨rfl, ⟨⟨hK, hG, hZ⟩, hH, hz⟩, q⟩ := hv
  have hx := Bd.exec
  have hb := Bd.bytes
  have hr := Bd.returns
  have hts := atoms_spec (ws := wsX4_init) Bd.pre
  have hown : s.vm.findClass RX4 = some m.cls := findClass_of_methodNamed Bd.named
  have hlocks := Bd.notSynchronized
  have hin : meth.name = "<init>" := (name_of_methodNamed Bd.named Bd.method).1
  have hS : va_S (gA (zg G)) s.heap s.heap [] := va_S.rf
  have hl := lv_entry [.ref (zad G.2.2.2 33 8)] (n := 1) (Nat.le_of_ble_eq_true rfl)
  rw [lg_entry_eq]
  generalize (lg_sl [.ref (zad G.2.2.2 33 8)] ++ List.replicate (1 - (lg_sl [.ref (zad G.2.2.2 33 8)]).length) Slot.unset).toArray = ls at hl ⊢
  have hl : lv_has ls 1 [(0, .ref (zad G.2.2.2 33 8))] := hl
  unfold PZ_X4_init_8 at q
  refine lv_aload_n hx hb dX4_init_0 rfl (lv_at hl 0 rfl) ?_
  refine W.objInit hx hb hown (hts (.methodLink RX4 3 objectInit) (List.mem_of_getElem? (i := 1) rfl)) (hts (.instanceMethod objectInit) (List.mem_of_getElem? (i := 2) rfl)) (hts (.code objectInit ⟨#[0xb1]⟩ 1 none) (List.mem_of_getElem? (i := 3) rfl)) rfl (by rw [hml]; exact hl.1) rfl dX4_init_1 (Nat.le_of_ble_eq_true rfl) (Nat.le_of_ble_eq_true rfl) ?_
  refine W.eq (g2 := F0 m 4 ls []) rfl ?_
  refine lv_aload_n hx hb dX4_init_4 rfl (lv_at hl 0 rfl) ?_
  refine lv_iconst (v := 0) hx hb dX4_init_5 (by decide) ?_
  refine z_put (ci := 8) (v := .int 0) (C := RX4) (T := TX4) (N := 3) hx hb hts (fun _ h => (List.mem_cons_of_mem _ (List.mem_append_right _ h))) tyX4 tyX4_ok nmX4 hown hK hH hS 33 8 100 (by rfl) rfl rfl 0 (by decide) (hts (.fieldLink RX4 9 "BallotFoundry$Person" "age" "I") (List.mem_of_getElem? (i := 4) rfl)) (fun _ h => h) rfl (ty := .int) (by decide +kernel) rfl rfl (Nat.le_of_ble_eq_true rfl) 0 rfl dX4_init_6 (fun H locs hH hS => ?_)
  obtain ⟨F1, eF1⟩ : ∃ z, z = fs F 33 8 0 0 := ⟨_, rfl⟩
  have q := q F1 eF1
  rw [← eF1] at hH
  refine lv_aload_n hx hb dX4_init_9 rfl (lv_at hl 0 rfl) ?_
  refine lv_null hx hb dX4_init_10 ?_
  refine z_put (ci := 8) (v := .null) (C := RX4) (T := TX4) (N := 3) hx hb hts (fun _ h => (List.mem_cons_of_mem _ (List.mem_append_right _ h))) tyX4 tyX4_ok nmX4 hown hK hH hS 33 8 100 (by rfl) rfl rfl 1 (by decide) (hts (.fieldLink RX4 15 "BallotFoundry$Person" "latest" "LBallotFoundry$Stay;") (List.mem_of_getElem? (i := 5) rfl)) (fun _ h => h) rfl (ty := tyX4 1) (by decide +kernel) rfl rfl (Nat.le_of_ble_eq_true rfl) (-1) rfl dX4_init_11 (fun H locs hH hS => ?_)
  obtain ⟨F2, eF2⟩ : ∃ z, z = fs F1 33 8 1 (-1) := ⟨_, rfl⟩
  have q := q F2 eF2
  rw [← eF2] at hH
  refine lv_aload_n hx hb dX4_init_14 rfl (lv_at hl 0 rfl) ?_
  refine lv_iconst (v := 0) hx hb dX4_init_15 (by decide) ?_
  refine z_put (ci := 8) (v := .int 0) (C := RX4) (T := TX4) (N := 3) hx hb hts (fun _ h => (List.mem_cons_of_mem _ (List.mem_append_right _ h))) tyX4 tyX4_ok nmX4 hown hK hH hS 33 8 100 (by rfl) rfl rfl 2 (by decide) (hts (.fieldLink RX4 19 "BallotFoundry$Person" "hasDied" "Z") (List.mem_of_getElem? (i := 6) rfl)) (fun _ h => h) rfl (ty := .boolean) (by decide +kernel) rfl rfl (Nat.le_of_ble_eq_true rfl) 0 rfl dX4_init_16 (fun H locs hH hS => ?_)
  obtain ⟨F3, eF3⟩ : ∃ z, z = fs F2 33 8 2 0 := ⟨_, rfl⟩
  have q := q F3 eF3
  rw [← eF3] at hH
  refine W.cs (cells' := 0) (slots' := 0) rfl rfl ?_
  exact W.vret hx hb hr (fun t ht hW => ⟨⟨F3, rfl, q, zH_at ht hH⟩, hS.F ht⟩) hS.2.2 dX4_init_19
