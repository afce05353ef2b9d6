abbrev rz_X4_init_9 : Room := { frames := 1, cells := 0, slots := 0, locals := 20 }
set_option maxHeartbeats 4000000 in
set_option maxRecDepth 100000 in
theorem cz_X4_init_9 (l : Launch) (G : GPz) (F : GF) (K : GF → Prop) : Met l yX4_init wsX4_init rz_X4_init_9 (va_Pc [.ref (zad G.2.2.2 33 9)] (fun U => zD G 102 F U ∧ PZ_X4_init_9 F K)) (zQv G 102 K) 0 0 (gA (zg G)) := by
  refine Met.ofW (cc := cX4_init) (maxL := 1) (ret := none) (by decide) rfl ?_
  intro p e s m args below meth c s₁ Bd hml hv
  obtain ⟨rfl, ⟨⟨hK, hG, hZ⟩, hH, hz⟩, q⟩ := hv
  have hx := Bd.exec
  have hb := Bd.bytes
  have hr := Bd.returns
  have hts := atoms_spec (ws := wsX4_init) Bd.pre
  have hown : s.vm.findClass RX4 = some m.cls := findClass_of_methodNamed Bd.named
  have hlocks := Bd.notSynchronized
  have hin : meth.name = "<init>" := (name_of_methodNamed Bd.named Bd.method).1
  have hS : va_S (gA (zg G)) s.heap s.heap [] := va_S.rf
  have hl := lv_entry [.ref (zad G.2.2.2 33 9)] (n := 1) (Nat.le_of_ble_eq_true rfl)
  rw [lg_entry_eq]
  generalize (lg_sl [.ref (zad G.2.2.2 33 9)] ++ List.replicate (1 - (lg_sl [.ref (zad G.2.2.2 33 9)]).length) Slot.unset).toArray = ls at hl ⊢
  have hl : lv_has ls 1 [(0, .ref (zad G.2.2.2 33 9))] := hl
  unfold PZ_X4_init_9 at q
  refine lv_aload_n hx hb dX4_init_0 rfl (lv_at hl 0 rfl) ?_
  refine W.objInit hx hb hown (hts (.methodLink RX4 3 objectInit) (List.mem_of_getElem? (i := 1) rfl)) (hts (.instanceMethod objectInit) (List.mem_of_getElem? (i := 2) rfl)) (hts (.code objectInit ⟨#[0xb1]⟩ 1 none) (List.mem_of_getElem? (i := 3) rfl)) rfl (by rw [hml]; exact hl.1) rfl dX4_init_1 (Nat.le_of_ble_eq_true rfl) (Nat.le_of_ble_eq_true rfl) ?_
  refine W.eq (g2 := F0 m 4 ls []) rfl ?_
  refine lv_aload_n hx hb dX4_init_4 rfl (lv_at hl 0 rfl) ?_
  refine lv_iconst (v := 0) hx hb dX4_init_5 (by decide) ?_
  refine z_put (ci := 8) (v := .int 0) (C := RX4) (T := TX4) (N := 3) hx hb hts (fun _ h => (List.mem_cons_of_mem _ (List.mem_append_right _ h))) tyX4 tyX4_ok nmX4 hown hK hH hS 33 9 101 (by rfl) rfl rfl 0 (by decide) (hts (.fieldLink RX4 9 "BallotFoundry$Person" "age" "I") (List.mem_of_getElem? (i := 4) rfl)) (fun _ h => h) rfl (ty := .int) (by decide +kernel) rfl rfl (Nat.le_of_ble_eq_true rfl) 0 rfl dX4_init_6 (fun H locs hH hS => ?_)
  obtain ⟨F1, eF1⟩ : ∃ z, z = fs F 33 9 0 0 := ⟨_, rfl⟩
  have q := q F1 eF1
  rw [← eF1] at hH
  refine lv_aload_n hx hb dX4_init_9 rfl (lv_at hl 0 rfl) ?_
  refine lv_null hx hb dX4_init_10 ?_
  refine z_put (ci := 8) (v := .null) (C := RX4) (T := TX4) (N := 3) hx hb hts (fun _ h => (List.mem_cons_of_mem _ (List.mem_append_right _ h))) tyX4 tyX4_ok nmX4 hown hK hH hS 33 9 101 (by rfl) rfl rfl 1 (by decide) (hts (.fieldLink RX4 15 "BallotFoundry$Person" "latest" "LBallotFoundry$Stay;") (List.mem_of_getElem? (i := 5) rfl)) (fun _ h => h) rfl (ty := tyX4 1) (by decide +kernel) rfl rfl (Nat.le_of_ble_eq_true rfl) (-1) rfl dX4_init_11 (fun H locs hH hS => ?_)
  obtain ⟨F2, eF2⟩ : ∃ z, z = fs F1 33 9 1 (-1) := ⟨_, rfl⟩
  have q := q F2 eF2
  rw [← eF2] at hH
  refine lv_aload_n hx hb dX4_init_14 rfl (lv_at hl 0 rfl) ?_
  refine lv_iconst (v := 0) hx hb dX4_init_15 (by decide) ?_
  refine z_put (ci := 8) (v := .int 0) (C := RX4) (T := TX4) (N := 3) hx hb hts (fun _ h => (List.mem_cons_of_mem _ (List.mem_append_right _ h))) tyX4 tyX4_ok nmX4 hown hK hH hS 33 9 101 (by rfl) rfl rfl 2 (by decide) (hts (.fieldLink RX4 19 "BallotFoundry$Person" "hasDied" "Z") (List.mem_of_getElem? (i := 6) rfl)) (fun _ h => h) rfl (ty := .boolean) (by decide +kernel) rfl rfl (Nat.le_of_ble_eq_true rfl) 0 rfl dX4_init_16 (fun H locs hH hS => ?_)
  obtain ⟨F3, eF3⟩ : ∃ z, z = fs F2 33 9 2 0 := ⟨_, rfl⟩
  have q := q F3 eF3
  rw [← eF3] at hH
  refine W.cs (cells' := 0) (slots' := 0) rfl rfl ?_
  exact W.vret hx hb hr (fun t ht hW => ⟨⟨F3, rfl, q, zH_at ht hH⟩, hS.F ht⟩) hS.2.2 dX4_init_19
abbrev rz_X4_init_10 : Room := { frames := 1, cells := 0, slots := 0, locals := 20 }
set_option maxHeartbeats 4000000 in
set_option maxRecDepth 100000 in
theorem cz_X4_init_10 (l : Launch) (G : GPz) (F : GF) (K : GF → Prop) : Met l yX4_init wsX4_init rz_X4_init_10 (va_Pc [.ref (zad G.2.2.2 33 10)] (fun U => zD G 103 F U ∧ PZ_X4_init_10 F K)) (zQv G 103 K) 0 0 (gA (zg G)) := by
  refine Met.ofW (cc := cX4_init) (maxL := 1) (ret := none) (by decide) rfl ?_
  intro p e s m args below meth c s₁ Bd hml hv
  obtain ⟨rfl, ⟨⟨hK, hG, hZ⟩, hH, hz⟩, q⟩ := hv
  have hx := Bd.exec
  have hb := Bd.bytes
  have hr := Bd.returns
  have hts := atoms_spec (ws := wsX4_init) Bd.pre
  have hown : s.vm.findClass RX4 = some m.cls := findClass_of_methodNamed Bd.named
  have hlocks := Bd.notSynchronized
  have hin : meth.name = "<init>" := (name_of_methodNamed Bd.named Bd.method).1
  have hS : va_S (gA (zg G)) s.heap s.heap [] := va_S.rf
  have hl := lv_entry [.ref (zad G.2.2.2 33 10)] (n := 1) (Nat.le_of_ble_eq_true rfl)
  rw [lg_entry_eq]
  generalize (lg_sl [.ref (zad G.2.2.2 33 10)] ++ List.replicate (1 - (lg_sl [.ref (zad G.2.2.2 33 10)]).length) Slot.unset).toArray = ls at hl ⊢
  have hl : lv_has ls 1 [(0, .ref (zad G.2.2.2 33 10))] := hl
  unfold PZ_X4_init_10 at q
  refine lv_aload_n hx hb dX4_init_0 rfl (lv_at hl 0 rfl) ?_
  refine W.objInit hx hb hown (hts (.methodLink RX4 3 objectInit) (List.mem_of_getElem? (i := 1) rfl)) (hts (.instanceMethod objectInit) (List.mem_of_getElem? (i := 2) rfl)) (hts (.code objectInit ⟨#[0xb1]⟩ 1 none) (List.mem_of_getElem? (i := 3) rfl)) rfl (by rw [hml]; exact hl.1) rfl dX4_init_1 (Nat.le_of_ble_eq_true rfl) (Nat.le_of_ble_eq_true rfl) ?_
  refine W.eq (g2 := F0 m 4 ls []) rfl ?_
  refine lv_aload_n hx hb dX4_init_4 rfl (lv_at hl 0 rfl) ?_
  refine lv_iconst (v := 0) hx hb dX4_init_5 (by decide) ?_
  refine z_put (ci := 8) (v := .int 0) (C := RX4) (T := TX4) (N := 3) hx hb hts (fun _ h => (List.mem_cons_of_mem _ (List.mem_append_right _ h))) tyX4 tyX4_ok nmX4 hown hK hH hS 33 10 102 (by rfl) rfl rfl 0 (by decide) (hts (.fieldLink RX4 9 "BallotFoundry$Person" "age" "I") (List.mem_of_getElem? (i := 4) rfl)) (fun _ h => h) rfl (ty := .int) (by decide +kernel) rfl rfl (Nat.le_of_ble_eq_true rfl) 0 rfl dX4_init_6 (fun H locs hH hS => ?_)
  obtain ⟨F1, eF1⟩ : ∃ z, z = fs F 33 10 0 0 := ⟨_, rfl⟩
  have q := q F1 eF1
  rw [← eF1] at hH
  refine lv_aload_n hx hb dX4_init_9 rfl (lv_at hl 0 rfl) ?_
  refine lv_null hx hb dX4_init_10 ?_
  refine z_put (ci := 8) (v := .null) (C := RX4) (T := TX4) (N := 3) hx hb hts (fun _ h => (List.mem_cons_of_mem _ (List.mem_append_right _ h))) tyX4 tyX4_ok nmX4 hown hK hH hS 33 10 102 (by rfl) rfl rfl 1 (by decide) (hts (.fieldLink RX4 15 "BallotFoundry$Person" "latest" "LBallotFoundry$Stay;") (List.mem_of_getElem? (i := 5) rfl)) (fun _ h => h) rfl (ty := tyX4 1) (by decide +kernel) rfl rfl (Nat.le_of_ble_eq_true rfl) (-1) rfl dX4_init_11 (fun H locs hH hS => ?_)
  obtain ⟨F2, eF2⟩ : ∃ z, z = fs F1 33 10 1 (-1) := ⟨_, rfl⟩
  have q := q F2 eF2
  rw [← eF2] at hH
  refine lv_aload_n hx hb dX4_init_14 rfl (lv_at hl 0 rfl) ?_
  refine lv_iconst (v := 0) hx hb dX4_init_15 (by decide) ?_
  refine z_put (ci := 8) (v := .int 0) (C := RX4) (T := TX4) (N := 3) hx hb hts (fun _ h => (List.mem_cons_of_mem _ (List.mem_append_right _ h))) tyX4 tyX4_ok nmX4 hown hK hH hS 33 10 102 (by rfl) rfl rfl 2 (by decide) (hts (.fieldLink RX4 19 "BallotFoundry$Person" "hasDied" "Z") (List.mem_of_getElem? (i := 6) rfl)) (fun _ h => h) rfl (ty := .boolean) (by decide +kernel) rfl rfl (Nat.le_of_ble_eq_true rfl) 0 rfl dX4_init_16 (fun H locs hH hS => ?_)
  obtain ⟨F3, eF3⟩ : ∃ z, z = fs F2 33 10 2 0 := ⟨_, rfl⟩
  have q := q F3 eF3
  rw [← eF3] at hH
  refine W.cs (cells' := 0) (slots' := 0) rfl rfl ?_
  exact W.vret hx hb hr (fun t ht hW => ⟨⟨F3, rfl, q, zH_at ht hH⟩, hS.F ht⟩) hS.2.2 dX4_init_19
abbrev rz_X4_init_11 : Room := { frames := 1, cells := 0, slots := 0, locals := 20 }
set_option maxHeartbeats 4000000 in
set_option maxRecDepth 100000 in
theorem cz_X4_init_11 (l : Launch) (G : GPz) (F : GF) (K : GF → Prop) : Met l yX4_init wsX4_init rz_X4_init_11 (va_Pc [.ref (zad G.2.2.2 33 11)] (fun U => zD G 104 F U ∧ PZ_X4_init_11 F K)) (zQv G 104 K) 0 0 (gA (zg G)) := by
  refine Met.ofW (cc := cX4_init) (maxL := 1) (ret := none) (by decide) rfl ?_
  intro p e s m args below meth c s₁ Bd hml hv
  obtain ⟨rfl, ⟨⟨hK, hG, hZ⟩, hH, hz⟩, q⟩ := hv
  have hx := Bd.exec
  have hb := Bd.bytes
  have hr := Bd.returns
  have hts := atoms_spec (ws := wsX4_init) Bd.pre
  have hown : s.vm.findClass RX4 = some m.cls := findClass_of_methodNamed Bd.named
  have hlocks := Bd.notSynchronized
  have hin : meth.name = "<init>" := (name_of_methodNamed Bd.named Bd.method).1
  have hS : va_S (gA (zg G)) s.heap s.heap [] := va_S.rf
  have hl := lv_entry [.ref (zad G.2.2.2 33 11)] (n := 1) (Nat.le_of_ble_eq_true rfl)
  rw [lg_entry_eq]
  generalize (lg_sl [.ref (zad G.2.2.2 33 11)] ++ List.replicate (1 - (lg_sl [.ref (zad G.2.2.2 33 11)]).length) Slot.unset).toArray = ls at hl ⊢
  have hl : lv_has ls 1 [(0, .ref (zad G.2.2.2 33 11))] := hl
  unfold PZ_X4_init_11 at q
  refine lv_aload_n hx hb dX4_init_0 rfl (lv_at hl 0 rfl) ?_
  refine W.objInit hx hb hown (hts (.methodLink RX4 3 objectInit) (List.mem_of_getElem? (i := 1) rfl)) (hts (.instanceMethod objectInit) (List.mem_of_getElem? (i := 2) rfl)) (hts (.code objectInit ⟨#[0xb1]⟩ 1 none) (List.mem_of_getElem? (i := 3) rfl)) rfl (by rw [hml]; exact hl.1) rfl dX4_init_1 (Nat.le_of_ble_eq_true rfl) (Nat.le_of_ble_eq_true rfl) ?_
  refine W.eq (g2 := F0 m 4 ls []) rfl ?_
  refine lv_aload_n hx hb dX4_init_4 rfl (lv_at hl 0 rfl) ?_
  refine lv_iconst (v := 0) hx hb dX4_init_5 (by decide) ?_
  refine z_put (ci := 8) (v := .int 0) (C := RX4) (T := TX4) (N := 3) hx hb hts (fun _ h => (List.mem_cons_of_mem _ (List.mem_append_right _ h))) tyX4 tyX4_ok nmX4 hown hK hH hS 33 11 103 (by rfl) rfl rfl 0 (by decide) (hts (.fieldLink RX4 9 "BallotFoundry$Person" "age" "I") (List.mem_of_getElem? (i := 4) rfl)) (fun _ h => h) rfl (ty := .int) (by decide +kernel) rfl rfl (Nat.le_of_ble_eq_true rfl) 0 rfl dX4_init_6 (fun H locs hH hS => ?_)
  obtain ⟨F1, eF1⟩ : ∃ z, z = fs F 33 11 0 0 := ⟨_, rfl⟩
  have q := q F1 eF1
  rw [← eF1] at hH
  refine lv_aload_n hx hb dX4_init_9 rfl (lv_at hl 0 rfl) ?_
  refine lv_null hx hb dX4_init_10 ?_
  refine z_put (ci := 8) (v := .null) (C := RX4) (T := TX4) (N := 3) hx hb hts (fun _ h => (List.mem_cons_of_mem _ (List.mem_append_right _ h))) tyX4 tyX4_ok nmX4 hown hK hH hS 33 11 103 (by rfl) rfl rfl 1 (by decide) (hts (.fieldLink RX4 15 "BallotFoundry$Person" "latest" "LBallotFoundry$Stay;") (List.mem_of_getElem? (i := 5) rfl)) (fun _ h => h) rfl (ty := tyX4 1) (by decide +kernel) rfl rfl (Nat.le_of_ble_eq_true rfl) (-1) rfl dX4_init_11 (fun H locs hH hS => ?_)
  obtain ⟨F2, eF2⟩ : ∃ z, z = fs F1 33 11 1 (-1) := ⟨_, rfl⟩
  have q := q F2 eF2
  rw [← eF2] at hH
  refine lv_aload_n hx hb dX4_init_14 rfl (lv_at hl 0 rfl) ?_
  refine lv_iconst (v := 0) hx hb dX4_init_15 (by decide) ?_
  refine z_put (ci := 8) (v := .int 0) (C := RX4) (T := TX4) (N := 3) hx hb hts (fun _ h => (List.mem_cons_of_mem _ (List.mem_append_right _ h))) tyX4 tyX4_ok nmX4 hown hK hH hS 33 11 103 (by rfl) rfl rfl 2 (by decide) (hts (.fieldLink RX4 19 "BallotFoundry$Person" "hasDied" "Z") (List.mem_of_getElem? (i := 6) rfl)) (fun _ h => h) rfl (ty := .boolean) (by decide +kernel) rfl rfl (Nat.le_of_ble_eq_true rfl) 0 rfl dX4_init_16 (fun H locs hH hS => ?_)
  obtain ⟨F3, eF3⟩ : ∃ z, z = fs F2 33 11 2 0 := ⟨_, rfl⟩
  have q := q F3 eF3
  rw [← eF3] at hH
  refine W.cs (cells' := 0) (slots' := 0) rfl rfl ?_
  exact W.vret hx hb hr (fun t ht hW => ⟨⟨F3, rfl, q, zH_at ht hH⟩, hS.F ht⟩) hS.2.2 dX4_init_19
abbrev rz_X4_init_12 : Room := { frames := 1, cells := 0, slots := 0, locals := 20 }
set_option maxHeartbeats 4000000 in
set_option maxRecDepth 100000 in
theorem cz_X4_init_12 (l : Launch) (G : GPz) (F : GF) (K : GF → Prop) : Met l yX4_init wsX4_init rz_X4_init_12 (va_Pc [.ref (zad G.2.2.2 33 12)] (fun U => zD G 105 F U ∧ PZ_X4_init_12 F K)) (zQv G 105 K) 0 0 (gA (zg G)) := by
  refine Met.ofW (cc := cX4_init) (maxL := 1) (ret := none) (by decide) rfl ?_
  intro p e s m args below meth c s₁ Bd hml hv
  obtain ⟨rfl, ⟨⟨hK, hG, hZ⟩, hH, hz⟩, q⟩ := hv
  have hx := Bd.exec
  have hb := Bd.bytes
  have hr := Bd.returns
  have hts := atoms_spec (ws := wsX4_init) Bd.pre
  have hown : s.vm.findClass RX4 = some m.cls := findClass_of_methodNamed Bd.named
  have hlocks := Bd.notSynchronized
  have hin : meth.name = "<init>" := (name_of_methodNamed Bd.named Bd.method).1
  have hS : va_S (gA (zg G)) s.heap s.heap [] := va_S.rf
  have hl := lv_entry [.ref (zad G.2.2.2 33 12)] (n := 1) (Nat.le_of_ble_eq_true rfl)
  rw [lg_entry_eq]
  generalize (lg_sl [.ref (zad G.2.2.2 33 12)] ++ List.replicate (1 - (lg_sl [.ref (zad G.2.2.2 33 12)]).length) Slot.unset).toArray = ls at hl ⊢
  have hl : lv_has ls 1 [(0, .ref (zad G.2.2.2 33 12))] := hl
  unfold PZ_X4_init_12 at q
  refine lv_aload_n hx hb dX4_init_0 rfl (lv_at hl 0 rfl) ?_
  refine W.objInit hx hb hown (hts (.methodLink RX4 3 objectInit) (List.mem_of_getElem? (i := 1) rfl)) (hts (.instanceMethod objectInit) (List.mem_of_getElem? (i := 2) rfl)) (hts (.code objectInit ⟨#[0xb1]⟩ 1 none) (List.mem_of_getElem? (i := 3) rfl)) rfl (by rw [hml]; exact hl.1) rfl dX4_init_1 (Nat.le_of_ble_eq_true rfl) (Nat.le_of_ble_eq_true rfl) ?_
  refine W.eq (g2 := F0 m 4 ls []) rfl ?_
  refine lv_aload_n hx hb dX4_init_4 rfl (lv_at hl 0 rfl) ?_
  refine lv_iconst (v := 0) hx hb dX4_init_5 (by decide) ?_
  refine z_put (ci := 8) (v := .int 0) (C := RX4) (T := TX4) (N := 3) hx hb hts (fun _ h => (List.mem_cons_of_mem _ (List.mem_append_right _ h))) tyX4 tyX4_ok nmX4 hown hK hH hS 33 12 104 (by rfl) rfl rfl 0 (by decide) (hts (.fieldLink RX4 9 "BallotFoundry$Person" "age" "I") (List.mem_of_getElem? (i := 4) rfl)) (fun _ h => h) rfl (ty := .int) (by decide +kernel) rfl rfl (Nat.le_of_ble_eq_true rfl) 0 rfl dX4_init_6 (fun H locs hH hS => ?_)
  obtain ⟨F1, eF1⟩ : ∃ z, z = fs F 33 12 0 0 := ⟨_, rfl⟩
  have q := q F1 eF1
  rw [← eF1] at hH
  refine lv_aload_n hx hb dX4_init_9 rfl (lv_at hl 0 rfl) ?_
  refine lv_null hx hb dX4_init_10 ?_
  refine z_put (ci := 8) (v := .null) (C := RX4) (T := TX4) (N := 3) hx hb hts (fun _ h => (List.mem_cons_of_mem _ (List.mem_append_right _ h))) tyX4 tyX4_ok nmX4 hown hK hH hS 33 12 104 (by rfl) rfl rfl 1 (by decide) (hts (.fieldLink RX4 15 "BallotFoundry$Person" "latest" "LBallotFoundry$Stay;") (List.mem_of_getElem? (i := 5) rfl)) (fun _ h => h) rfl (ty := tyX4 1) (by decide +kernel) rfl rfl (Nat.le_of_ble_eq_true rfl) (-1) rfl dX4_init_11 (fun H locs hH hS => ?_)
  obtain ⟨F2, eF2⟩ : ∃ z, z = fs F1 33 12 1 (-1) := ⟨_, rfl⟩
  have q := q F2 eF2
  rw [← eF2] at hH
  refine lv_aload_n hx hb dX4_init_14 rfl (lv_at hl 0 rfl) ?_
  refine lv_iconst (v := 0) hx hb dX4_init_15 (by decide) ?_
  refine z_put (ci := 8) (v := .int 0) (C := RX4) (T := TX4) (N := 3) hx hb hts (fun _ h => (List.mem_cons_of_mem _ (List.mem_append_right _ h))) tyX4 tyX4_ok nmX4 hown hK hH hS 33 12 104 (by rfl) rfl rfl 2 (by decide) (hts (.fieldLink RX4 19 "BallotFoundry$Person" "hasDied" "Z") (List.mem_of_getElem? (i := 6) rfl)) (fun _ h => h) rfl (ty := .boolean) (by decide +kernel) rfl rfl (Nat.le_of_ble_eq_true rfl) 0 rfl dX4_init_16 (fun H locs hH hS => ?_)
  obtain ⟨F3, eF3⟩ : ∃ z, z = fs F2 33 12 2 0 := ⟨_, rfl⟩
  have q := q F3 eF3
  rw [← eF3] at hH
  refine W.cs (cells' := 0) (slots' := 0) rfl rfl ?_
  exact W.vret hx hb hr (fun t ht hW => ⟨⟨F3, rfl, q, zH_at ht hH⟩, hS.F ht⟩) hS.2.2 dX4_init_19
abbrev rz_X4_init_13 : Room := { frames := 1, cells := 0, slots := 0, locals := 20 }
set_option maxHeartbeats 4000000 in
set_option maxRecDepth 100000 in
theorem cz_X4_init_13 (l : Launch) (G : GPz) (F : GF) (K : GF → Prop) : Met l yX4_init wsX4_init rz_X4_init_13 (va_Pc [.ref (zad G.2.2.2 33 13)] (fun U => zD G 106 F U ∧ PZ_X4_init_13 F K)) (zQv G 106 K) 0 0 (gA (zg G)) := by
  refine Met.ofW (cc := cX4_init) (maxL := 1) (ret := none) (by decide) rfl ?_
  intro p e s m args below meth c s₁ Bd hml hv
  obtain ⟨rfl, ⟨⟨hK, hG, hZ⟩, hH, hz⟩, q⟩ := hv
  have hx := Bd.exec
  have hb := Bd.bytes
  have hr := Bd.returns
  have hts := atoms_spec (ws := wsX4_init) Bd.pre
  have hown : s.vm.findClass RX4 = some m.cls := findClass_of_methodNamed Bd.named
  have hlocks := Bd.notSynchronized
  have hin : meth.name = "<init>" := (name_of_methodNamed Bd.named Bd.method).1
  have hS : va_S (gA (zg G)) s.heap s.heap [] := va_S.rf
  have hl := lv_entry [.ref (zad G.2.2.2 33 13)] (n := 1) (Nat.le_of_ble_eq_true rfl)
  rw [lg_entry_eq]
  generalize (lg_sl [.ref (zad G.2.2.2 33 13)] ++ List.replicate (1 - (lg_sl [.ref (zad G.2.2.2 33 13)]).length) Slot.unset).toArray = ls at hl ⊢
  have hl : lv_has ls 1 [(0, .ref (zad G.2.2.2 33 13))] := hl
  unfold PZ_X4_init_13 at q
  refine lv_aload_n hx hb dX4_init_0 rfl (lv_at hl 0 rfl) ?_
  refine W.objInit hx hb hown (hts (.methodLink RX4 3 objectInit) (List.mem_of_getElem? (i := 1) rfl)) (hts (.instanceMethod objectInit) (List.mem_of_getElem? (i := 2) rfl)) (hts (.code objectInit ⟨#[0xb1]⟩ 1 none) (List.mem_of_getElem? (i := 3) rfl)) rfl (by rw [hml]; exact hl.1) rfl dX4_init_1 (Nat.le_of_ble_eq_true rfl) (Nat.le_of_ble_eq_true rfl) ?_
  refine W.eq (g2 := F0 m 4 ls []) rfl ?_
  refine lv_aload_n hx hb dX4_init_4 rfl (lv_at hl 0 rfl) ?_
  refine lv_iconst (v := 0) hx hb dX4_init_5 (by decide) ?_
  refine z_put (ci := 8) (v := .int 0) (C := RX4) (T := TX4) (N := 3) hx hb hts (fun _ h => (List.mem_cons_of_mem _ (List.mem_append_right _ h))) tyX4 tyX4_ok nmX4 hown hK hH hS 33 13 105 (by rfl) rfl rfl 0 (by decide) (hts (.fieldLink RX4 9 "BallotFoundry$Person" "age" "I") (List.mem_of_getElem? (i := 4) rfl)) (fun _ h => h) rfl (ty := .int) (by decide +kernel) rfl rfl (Nat.le_of_ble_eq_true rfl) 0 rfl dX4_init_6 (fun H locs hH hS => ?_)
  obtain ⟨F1, eF1⟩ : ∃ z, z = fs F 33 13 0 0 := ⟨_, rfl⟩
  have q := q F1 eF1
  rw [← eF1] at hH
  refine lv_aload_n hx hb dX4_init_9 rfl (lv_at hl 0 rfl) ?_
  refine lv_null hx hb dX4_init_10 ?_
  refine z_put (ci := 8) (v := .null) (C := RX4) (T := TX4) (N := 3) hx hb hts (fun _ h => (List.mem_cons_of_mem _ (List.mem_append_right _ h))) tyX4 tyX4_ok nmX4 hown hK hH hS 33 13 105 (by rfl) rfl rfl 1 (by decide) (hts (.fieldLink RX4 15 "BallotFoundry$Person" "latest" "LBallotFoundry$Stay;") (List.mem_of_getElem? (i := 5) rfl)) (fun _ h => h) rfl (ty := tyX4 1) (by decide +kernel) rfl rfl (Nat.le_of_ble_eq_true rfl) (-1) rfl dX4_init_11 (fun H locs hH hS => ?_)
  obtain ⟨F2, eF2⟩ : ∃ z, z = fs F1 33 13 1 (-1) := ⟨_, rfl⟩
  have q := q F2 eF2
  rw [← eF2] at hH
  refine lv_aload_n hx hb dX4_init_14 rfl (lv_at hl 0 rfl) ?_
  refine lv_iconst (v := 0) hx hb dX4_init_15 (by decide) ?_
  refine z_put (ci := 8) (v := .int 0) (C := RX4) (T := TX4) (N := 3) hx hb hts (fun _ h => (List.mem_cons_of_mem _ (List.mem_append_right _ h))) tyX4 tyX4_ok nmX4 hown hK hH hS 33 13 105 (by rfl) rfl rfl 2 (by decide) (hts (.fieldLink RX4 19 "BallotFoundry$Person" "hasDied" "Z") (List.mem_of_getElem? (i := 6) rfl)) (fun _ h => h) rfl (ty := .boolean) (by decide +kernel) rfl rfl (Nat.le_of_ble_eq_true rfl) 0 rfl dX4_init_16 (fun H locs hH hS => ?_)
  obtain ⟨F3, eF3⟩ : ∃ z, z = fs F2 33 13 2 0 := ⟨_, rfl⟩
  have q := q F3 eF3
  rw [← eF3] at hH
  refine W.cs (cells' := 0) (slots' := 0) rfl rfl ?_
  exact W.vret hx hb hr (fun t ht hW => ⟨⟨F3, rfl, q, zH_at ht hH⟩, hS.F ht⟩) hS.2.2 dX4_init_19
abbrev rz_X4_init_14 : Room := { frames := 1, cells := 0, slots := 0, locals := 20 }
set_option maxHeartbeats 4000000 in
set_option maxRecDepth 100000 in
theorem cz_X4_init_14 (l : Launch) (G : GPz) (F : GF) (K : GF → Prop) : Met l yX4_init wsX4_init rz_X4_init_14 (va_Pc [.ref (zad G.2.2.2 33 14)] (fun U => zD G 107 F U ∧ PZ_X4_init_14 F K)) (zQv G 107 K) 0 0 (gA (zg G)) := by
  refine Met.ofW (cc := cX4_init) (maxL := 1) (ret := none) (by decide) rfl ?_
  intro p e s m args below meth c s₁ Bd hml hv
  obtain ⟨rfl, ⟨⟨hK, hG, hZ⟩, hH, hz⟩, q⟩ := hv
  have hx := Bd.exec
  have hb := Bd.bytes
  have hr := Bd.returns
  have hts := atoms_spec (ws := wsX4_init) Bd.pre
  have hown : s.vm.findClass RX4 = some m.cls := findClass_of_methodNamed Bd.named
  have hlocks := Bd.notSynchronized
  have hin : meth.name = "<init>" := (name_of_methodNamed Bd.named Bd.method).1
  have hS : va_S (gA (zg G)) s.heap s.heap [] := va_S.rf
  have hl := lv_entry [.ref (zad G.2.2.2 33 14)] (n := 1) (Nat.le_of_ble_eq_true rfl)
  rw [lg_entry_eq]
  generalize (lg_sl [.ref (zad G.2.2.2 33 14)] ++ List.replicate (1 - (lg_sl [.ref (zad G.2.2.2 33 14)]).length) Slot.unset).toArray = ls at hl ⊢
  have hl : lv_has ls 1 [(0, .ref (zad G.2.2.2 33 14))] := hl
  unfold PZ_X4_init_14 at q
  refine lv_aload_n hx hb dX4_init_0 rfl (lv_at hl 0 rfl) ?_
  refine W.objInit hx hb hown (hts (.methodLink RX4 3 objectInit) (List.mem_of_getElem? (i := 1) rfl)) (hts (.instanceMethod objectInit) (List.mem_of_getElem? (i := 2) rfl)) (hts (.code objectInit ⟨#[0xb1]⟩ 1 none) (List.mem_of_getElem? (i := 3) rfl)) rfl (by rw [hml]; exact hl.1) rfl dX4_init_1 (Nat.le_of_ble_eq_true rfl) (Nat.le_of_ble_eq_true rfl) ?_
  refine W.eq (g2 := F0 m 4 ls []) rfl ?_
  refine lv_aload_n hx hb dX4_init_4 rfl (lv_at hl 0 rfl) ?_
  refine lv_iconst (v := 0) hx hb dX4_init_5 (by decide) ?_
  refine z_put (ci := 8) (v := .int 0) (C := RX4) (T := TX4) (N := 3) hx hb hts (fun _ h => (List.mem_cons_of_mem _ (List.mem_append_right _ h))) tyX4 tyX4_ok nmX4 hown hK hH hS 33 14 106 (by rfl) rfl rfl 0 (by decide) (hts (.fieldLink RX4 9 "BallotFoundry$Person" "age" "I") (List.mem_of_getElem? (i := 4) rfl)) (fun _ h => h) rfl (ty := .int) (by decide +kernel) rfl rfl (Nat.le_of_ble_eq_true rfl) 0 rfl dX4_init_6 (fun H locs hH hS => ?_)
  obtain ⟨F1, eF1⟩ : ∃ z, z = fs F 33 14 0 0 := ⟨_, rfl⟩
  have q := q F1 eF1
  rw [← eF1] at hH
  refine lv_aload_n hx hb dX4_init_9 rfl (lv_at hl 0 rfl) ?_
  refine lv_null hx hb dX4_init_10 ?_
  refine z_put (ci := 8) (v := .null) (C := RX4) (T := TX4) (N := 3) hx hb hts (fun _ h => (List.mem_cons_of_mem _ (List.mem_append_right _ h))) tyX4 tyX4_ok nmX4 hown hK hH hS 33 14 106 (by rfl) rfl rfl 1 (by decide) (hts (.fieldLink RX4 15 "BallotFoundry$Person" "latest" "LBallotFoundry$Stay;") (List.mem_of_getElem? (i := 5) rfl)) (fun _ h => h) rfl (ty := tyX4 1) (by decide +kernel) rfl rfl (Nat.le_of_ble_eq_true rfl) (-1) rfl dX4_init_11 (fun H locs hH hS => ?_)
  obtain ⟨F2, eF2⟩ : ∃ z, z = fs F1 33 14 1 (-1) := ⟨_, rfl⟩
  have q := q F2 eF2
  rw [← eF2] at hH
  refine lv_aload_n hx hb dX4_init_14 rfl (lv_at hl 0 rfl) ?_
  refine lv_iconst (v := 0) hx hb dX4_init_15 (by decide) ?_
  refine z_put (ci := 8) (v := .int 0) (C := RX4) (T := TX4) (N := 3) hx hb hts (fun _ h => (List.mem_cons_of_mem _ (List.mem_append_right _ h))) tyX4 tyX4_ok nmX4 hown hK hH hS 33 14 106 (by rfl) rfl rfl 2 (by decide) (hts (.fieldLink RX4 19 "BallotFoundry$Person" "hasDied" "Z") (List.mem_of_getElem? (i := 6) rfl)) (fun _ h => h) rfl (ty := .boolean) (by decide +kernel) rfl rfl (Nat.le_of_ble_eq_true rfl) 0 rfl dX4_init_16 (fun H locs hH hS => ?_)
  obtain ⟨F3, eF3⟩ : ∃ z, z = fs F2 33 14 2 0 := ⟨_, rfl⟩
  have q := q F3 eF3
  rw [← eF3] at hH
  refine W.cs (cells' := 0) (slots' := 0) rfl rfl ?_
  exact W.vret hx hb hr (fun t ht hW => ⟨⟨F3, rfl, q, zH_at ht hH⟩, hS.F ht⟩) hS.2.2 dX4_init_19
abbrev rz_X4_init_15 : Room := { frames := 1, cells := 0, slots := 0, locals := 20 }
set_option maxHeartbeats 4000000 in
set_option maxRecDepth 100000 in
theorem cz_X4_init_15 (l : Launch) (G : GPz) (F : GF) (K : GF → Prop) : Met l yX4_init wsX4_init rz_X4_init_15 (va_Pc [.ref (zad G.2.2.2 33 15)] (fun U => zD G 108 F U ∧ PZ_X4_init_15 F K)) (zQv G 108 K) 0 0 (gA (zg G)) := by
  refine Met.ofW (cc := cX4_init) (maxL := 1) (ret := none) (by decide) rfl ?_
  intro p e s m args below meth c s₁ Bd hml hv
  obtain ⟨rfl, ⟨⟨hK, hG, hZ⟩, hH, hz⟩, q⟩ := hv
  have hx := Bd.exec
  have hb := Bd.bytes
  have hr := Bd.returns
  have hts := atoms_spec (ws := wsX4_init) Bd.pre
  have hown : s.vm.findClass RX4 = some m.cls := findClass_of_methodNamed Bd.named
  have hlocks := Bd.notSynchronized
  have hin : meth.name = "<init>" := (name_of_methodNamed Bd.named Bd.method).1
  have hS : va_S (gA (zg G)) s.heap s.heap [] := va_S.rf
  have hl := lv_entry [.ref (zad G.2.2.2 33 15)] (n := 1) (Nat.le_of_ble_eq_true rfl)
  rw [lg_entry_eq]
  generalize (lg_sl [.ref (zad G.2.2.2 33 15)] ++ List.replicate (1 - (lg_sl [.ref (zad G.2.2.2 33 15)]).length) Slot.unset).toArray = ls at hl ⊢
  have hl : lv_has ls 1 [(0, .ref (zad G.2.2.2 33 15))] := hl
  unfold PZ_X4_init_15 at q
  refine lv_aload_n hx hb dX4_init_0 rfl (lv_at hl 0 rfl) ?_
  refine W.objInit hx hb hown (hts (.methodLink RX4 3 objectInit) (List.mem_of_getElem? (i := 1) rfl)) (hts (.instanceMethod objectInit) (List.mem_of_getElem? (i := 2) rfl)) (hts (.code objectInit ⟨#[0xb1]⟩ 1 none) (List.mem_of_getElem? (i := 3) rfl)) rfl (by rw [hml]; exact hl.1) rfl dX4_init_1 (Nat.le_of_ble_eq_true rfl) (Nat.le_of_ble_eq_true rfl) ?_
  refine W.eq (g2 := F0 m 4 ls []) rfl ?_
  refine lv_aload_n hx hb dX4_init_4 rfl (lv_at hl 0 rfl) ?_
  refine lv_iconst (v := 0) hx hb dX4_init_5 (by decide) ?_
  refine z_put (ci := 8) (v := .int 0) (C := RX4) (T := TX4) (N := 3) hx hb hts (fun _ h => (List.mem_cons_of_mem _ (List.mem_append_right _ h))) tyX4 tyX4_ok nmX4 hown hK hH hS 33 15 107 (by rfl) rfl rfl 0 (by decide) (hts (.fieldLink RX4 9 "BallotFoundry$Person" "age" "I") (List.mem_of_getElem? (i := 4) rfl)) (fun _ h => h) rfl (ty := .int) (by decide +kernel) rfl rfl (Nat.le_of_ble_eq_true rfl) 0 rfl dX4_init_6 (fun H locs hH hS => ?_)
  obtain ⟨F1, eF1⟩ : ∃ z, z = fs F 33 15 0 0 := ⟨_, rfl⟩
  have q := q F1 eF1
  rw [← eF1] at hH
  refine lv_aload_n hx hb dX4_init_9 rfl (lv_at hl 0 rfl) ?_
  refine lv_null hx hb dX4_init_10 ?_
  refine z_put (ci := 8) (v := .null) (C := RX4) (T := TX4) (N := 3) hx hb hts (fun _ h => (List.mem_cons_of_mem _ (List.mem_append_right _ h))) tyX4 tyX4_ok nmX4 hown hK hH hS 33 15 107 (by rfl) rfl rfl 1 (by decide) (hts (.fieldLink RX4 15 "BallotFoundry$Person" "latest" "LBallotFoundry$Stay;") (List.mem_of_getElem? (i := 5) rfl)) (fun _ h => h) rfl (ty := tyX4 1) (by decide +kernel) rfl rfl (Nat.le_of_ble_eq_true rfl) (-1) rfl dX4_init_11 (fun H locs hH hS => ?_)
  obtain ⟨F2, eF2⟩ : ∃ z, z = fs F1 33 15 1 (-1) := ⟨_, rfl⟩
  have q := q F2 eF2
  rw [← eF2] at hH
  refine lv_aload_n hx hb dX4_init_14 rfl (lv_at hl 0 rfl) ?_
  refine lv_iconst (v := 0) hx hb dX4_init_15 (by decide) ?_
  refine z_put (ci := 8) (v := .int 0) (C := RX4) (T := TX4) (N := 3) hx hb hts (fun _ h => (List.mem_cons_of_mem _ (List.mem_append_right _ h))) tyX4 tyX4_ok nmX4 hown hK hH hS 33 15 107 (by rfl) rfl rfl 2 (by decide) (hts (.fieldLink RX4 19 "BallotFoundry$Person" "hasDied" "Z") (List.mem_of_getElem? (i := 6) rfl)) (fun _ h => h) rfl (ty := .boolean) (by decide +kernel) rfl rfl (Nat.le_of_ble_eq_true rfl) 0 rfl dX4_init_16 (fun H locs hH hS => ?_)
  obtain ⟨F3, eF3⟩ : ∃ z, z = fs F2 33 15 2 0 := ⟨_, rfl⟩
  have q := q F3 eF3
  rw [← eF3] at hH
  refine W.cs (cells' := 0) (slots' := 0) rfl rfl ?_
  exact W.vret hx hb hr (fun t ht hW => ⟨⟨F3, rfl, q, zH_at ht hH⟩, hS.F ht⟩) hS.2.2 dX4_init_19
abbrev rz_X4_init_16 : Room := { frames := 1, cells := 0, slots := 0, locals := 20 }
set_option maxHeartbeats 4000000 in
set_option maxRecDepth 100000 in
theorem cz_X4_init_16 (l : Launch) (G : GPz) (F : GF) (K : GF → Prop) : Met l yX4_init wsX4_init rz_X4_init_16 (va_Pc [.ref (zad G.2.2.2 33 16)] (fun U => zD G 109 F U ∧ PZ_X4_init_16 F K)) (zQv G 109 K) 0 0 (gA (zg G)) := by
  refine Met.ofW (cc := cX4_init) (maxL := 1) (ret := none) (by decide) rfl ?_
  intro p e s m args below meth c s₁ Bd hml hv
  obtain ⟨rfl, ⟨⟨hK, hG, hZ⟩, hH, hz⟩, q⟩ := hv
  have hx := Bd.exec
  have hb := Bd.bytes
  have hr := Bd.returns
  have hts := atoms_spec (ws := wsX4_init) Bd.pre
  have hown : s.vm.findClass RX4 = some m.cls := findClass_of_methodNamed Bd.named
  have hlocks := Bd.notSynchronized
  have hin : meth.name = "<init>" := (name_of_methodNamed Bd.named Bd.method).1
  have hS : va_S (gA (zg G)) s.heap s.heap [] := va_S.rf
  have hl := lv_entry [.ref (zad G.2.2.2 33 16)] (n := 1) (Nat.le_of_ble_eq_true rfl)
  rw [lg_entry_eq]
  generalize (lg_sl [.ref (zad G.2.2.2 33 16)] ++ List.replicate (1 - (lg_sl [.ref (zad G.2.2.2 33 16)]).length) Slot.unset).toArray = ls at hl ⊢
  have hl : lv_has ls 1 [(0, .ref (zad G.2.2.2 33 16))] := hl
  unfold PZ_X4_init_16 at q
  refine lv_aload_n hx hb dX4_init_0 rfl (lv_at hl 0 rfl) ?_
  refine W.objInit hx hb hown (hts (.methodLink RX4 3 objectInit) (List.mem_of_getElem? (i := 1) rfl)) (hts (.instanceMethod objectInit) (List.mem_of_getElem? (i := 2) rfl)) (hts (.code objectInit ⟨#[0xb1]⟩ 1 none) (List.mem_of_getElem? (i := 3) rfl)) rfl (by rw [hml]; exact hl.1) rfl dX4_init_1 (Nat.le_of_ble_eq_true rfl) (Nat.le_of_ble_eq_true rfl) ?_
  refine W.eq (g2 := F0 m 4 ls []) rfl ?_
  refine lv_aload_n hx hb dX4_init_4 rfl (lv_at hl 0 rfl) ?_
  refine lv_iconst (v := 0) hx hb dX4_init_5 (by decide) ?_
  refine z_put (ci := 8) (v := .int 0) (C := RX4) (T := TX4) (N := 3) hx hb hts (fun _ h => (List.mem_cons_of_mem _ (List.mem_append_right _ h))) tyX4 tyX4_ok nmX4 hown hK hH hS 33 16 108 (by rfl) rfl rfl 0 (by decide) (hts (.fieldLink RX4 9 "BallotFoundry$Person" "age" "I") (List.mem_of_getElem? (i := 4) rfl)) (fun _ h => h) rfl (ty := .int) (by decide +kernel) rfl rfl (Nat.le_of_ble_eq_true rfl) 0 rfl dX4_init_6 (fun H locs hH hS => ?_)
  obtain ⟨F1, eF1⟩ : ∃ z, z = fs F 33 16 0 0 := ⟨_, rfl⟩
  have q := q F1 eF1
  rw [← eF1] at hH
  refine lv_aload_n hx hb dX4_init_9 rfl (lv_at hl 0 rfl) ?_
  refine lv_null hx hb dX4_init_10 ?_
  refine z_put (ci := 8) (v := .null) (C := RX4) (T := TX4) (N := 3) hx hb hts (fun _ h => (List.mem_cons_of_mem _ (List.mem_append_right _ h))) tyX4 tyX4_ok nmX4 hown hK hH hS 33 16 108 (by rfl) rfl rfl 1 (by decide) (hts (.fieldLink RX4 15 "BallotFoundry$Person" "latest" "LBallotFoundry$Stay;") (List.mem_of_getElem? (i := 5) rfl)) (fun _ h => h) rfl (ty := tyX4 1) (by decide +kernel) rfl rfl (Nat.le_of_ble_eq_true rfl) (-1) rfl dX4_init_11 (fun H locs hH hS => ?_)
  obtain ⟨F2, eF2⟩ : ∃ z, z = fs F1 33 16 1 (-1) := ⟨_, rfl⟩
  have q := q F2 eF2
  rw [← eF2] at hH
  refine lv_aload_n hx hb dX4_init_14 rfl (lv_at hl 0 rfl) ?_
  refine lv_iconst (v := 0) hx hb dX4_init_15 (by decide) ?_
  refine z_put (ci := 8) (v := .int 0) (C := RX4) (T := TX4) (N := 3) hx hb hts (fun _ h => (List.mem_cons_of_mem _ (List.mem_append_right _ h))) tyX4 tyX4_ok nmX4 hown hK hH hS 33 16 108 (by rfl) rfl rfl 2 (by decide) (hts (.fieldLink RX4 19 "BallotFoundry$Person" "hasDied" "Z") (List.mem_of_getElem? (i := 6) rfl)) (fun _ h => h) rfl (ty := .boolean) (by decide +kernel) rfl rfl (Nat.le_of_ble_eq_true rfl) 0 rfl dX4_init_16 (fun H locs hH hS => ?_)
  obtain ⟨F3, eF3⟩ : ∃ z, z = fs F2 33 16 2 0 := ⟨_, rfl⟩
  have q := q F3 eF3
  rw [← eF3] at hH
  refine W.cs (cells' := 0) (slots' := 0) rfl rfl ?_
  exact W.vret hx hb hr (fun t ht hW => ⟨⟨F3, rfl, q, zH_at ht hH⟩, hS.F ht⟩) hS.2.2 dX4_init_19
abbrev rz_X4_init_17 : Room := { frames := 1, cells := 0, slots := 0, locals := 20 }
set_option maxHeartbeats 4000000 in
set_option maxRecDepth 100000 in
theorem cz_X4_init_17 (l : Launch) (G : GPz) (F : GF) (K : GF → Prop) : Met l yX4_init wsX4_init rz_X4_init_17 (va_Pc [.ref (zad G.2.2.2 33 17)] (fun U => zD G 110 F U ∧ PZ_X4_init_17 F K)) (zQv G 110 K) 0 0 (gA (zg G)) := by
  refine Met.ofW (cc := cX4_init) (maxL := 1) (ret := none) (by decide) rfl ?_
  intro p e s m args below meth c s₁ Bd hml hv
  obtain ⟨rfl, ⟨⟨hK, hG, hZ⟩, hH, hz⟩, q⟩ := hv
  have hx := Bd.exec
  have hb := Bd.bytes
  have hr := Bd.returns
  have hts := atoms_spec (ws := wsX4_init) Bd.pre
  have hown : s.vm.findClass RX4 = some m.cls := findClass_of_methodNamed Bd.named
  have hlocks := Bd.notSynchronized
  have hin : meth.name = "<init>" := (name_of_methodNamed Bd.named Bd.method).1
  have hS : va_S (gA (zg G)) s.heap s.heap [] := va_S.rf
  have hl := lv_entry [.ref (zad G.2.2.2 33 17)] (n := 1) (Nat.le_of_ble_eq_true rfl)
  rw [lg_entry_eq]
  generalize (lg_sl [.ref (zad G.2.2.2 33 17)] ++ List.replicate (1 - (lg_sl [.ref (zad G.2.2.2 33 17)]).length) Slot.unset).toArray = ls at hl ⊢
  have hl : lv_has ls 1 [(0, .ref (zad G.2.2.2 33 17))] := hl
  unfold PZ_X4_init_17 at q
  refine lv_aload_n hx hb dX4_init_0 rfl (lv_at hl 0 rfl) ?_
  refine W.objInit hx hb hown (hts (.methodLink RX4 3 objectInit) (List.mem_of_getElem? (i := 1) rfl)) (hts (.instanceMethod objectInit) (List.mem_of_getElem? (i := 2) rfl)) (hts (.code objectInit ⟨#[0xb1]⟩ 1 none) (List.mem_of_getElem? (i := 3) rfl)) rfl (by rw [hml]; exact hl.1) rfl dX4_init_1 (Nat.le_of_ble_eq_true rfl) (Nat.le_of_ble_eq_true rfl) ?_
  refine W.eq (g2 := F0 m 4 ls []) rfl ?_
  refine lv_aload_n hx hb dX4_init_4 rfl (lv_at hl 0 rfl) ?_
  refine lv_iconst (v := 0) hx hb dX4_init_5 (by decide) ?_
  refine z_put (ci := 8) (v := .int 0) (C := RX4) (T := TX4) (N := 3) hx hb hts (fun _ h => (List.mem_cons_of_mem _ (List.mem_append_right _ h))) tyX4 tyX4_ok nmX4 hown hK hH hS 33 17 109 (by rfl) rfl rfl 0 (by decide) (hts (.fieldLink RX4 9 "BallotFoundry$Person" "age" "I") (List.mem_of_getElem? (i := 4) rfl)) (fun _ h => h) rfl (ty := .int) (by decide +kernel) rfl rfl (Nat.le_of_ble_eq_true rfl) 0 rfl dX4_init_6 (fun H locs hH hS => ?_)
  obtain ⟨F1, eF1⟩ : ∃ z, z = fs F 33 17 0 0 := ⟨_, rfl⟩
  have q := q F1 eF1
  rw [← eF1] at hH
  refine lv_aload_n hx hb dX4_init_9 rfl (lv_at hl 0 rfl) ?_
  refine lv_null hx hb dX4_init_10 ?_
  refine z_put (ci := 8) (v := .null) (C := RX4) (T := TX4) (N := 3) hx hb hts (fun _ h => (List.mem_cons_of_mem _ (List.mem_append_right _ h))) tyX4 tyX4_ok nmX4 hown hK hH hS 33 17 109 (by rfl) rfl rfl 1 (by decide) (hts (.fieldLink RX4 15 "BallotFoundry$Person" "latest" "LBallotFoundry$Stay;") (List.mem_of_getElem? (i := 5) rfl)) (fun _ h => h) rfl (ty := tyX4 1) (by decide +kernel) rfl rfl (Nat.le_of_ble_eq_true rfl) (-1) rfl dX4_init_11 (fun H locs hH hS => ?_)
  obtain ⟨F2, eF2⟩ : ∃ z, z = fs F1 33 17 1 (-1) := ⟨_, rfl⟩
  have q := q F2 eF2
  rw [← eF2] at hH
  refine lv_aload_n hx hb dX4_init_14 rfl (lv_at hl 0 rfl) ?_
  refine lv_iconst (v := 0) hx hb dX4_init_15 (by decide) ?_
  refine z_put (ci := 8) (v := .int 0) (C := RX4) (T := TX4) (N := 3) hx hb hts (fun _ h => (List.mem_cons_of_mem _ (List.mem_append_right _ h))) tyX4 tyX4_ok nmX4 hown hK hH hS 33 17 109 (by rfl) rfl rfl 2 (by decide) (hts (.fieldLink RX4 19 "BallotFoundry$Person" "hasDied" "Z") (List.mem_of_getElem? (i := 6) rfl)) (fun _ h => h) rfl (ty := .boolean) (by decide +kernel) rfl rfl (Nat.le_of_ble_eq_true rfl) 0 rfl dX4_init_16 (fun H locs hH hS => ?_)
  obtain ⟨F3, eF3⟩ : ∃ z, z = fs F2 33 17 2 0 := ⟨_, rfl⟩
  have q := q F3 eF3
  rw [← eF3] at hH
  refine W.cs (cells' := 0) (slots' := 0) rfl rfl ?_
  exact W.vret hx hb hr (fun t ht hW => ⟨⟨F3, rfl, q, zH_at ht hH⟩, hS.F ht⟩) hS.2.2 dX4_init_19
abbrev rz_X4_init_18 : Room := { frames := 1, cells := 0, slots := 0, locals := 20 }
set_option maxHeartbeats 4000000 in
set_option maxRecDepth 100000 in
theorem cz_X4_init_18 (l : Launch) (G : GPz) (F : GF) (K : GF → Prop) : Met l yX4_init wsX4_init rz_X4_init_18 (va_Pc [.ref (zad G.2.2.2 33 18)] (fun U => zD G 111 F U ∧ PZ_X4_init_18 F K)) (zQv G 111 K) 0 0 (gA (zg G)) := by
  refine Met.ofW (cc := cX4_init) (maxL := 1) (ret := none) (by decide) rfl ?_
  intro p e s m args below meth c s₁ Bd hml hv
  obtain ⟨rfl, ⟨⟨hK, hG, hZ⟩, hH, hz⟩, q⟩ := hv
  have hx := Bd.exec
  have hb := Bd.bytes
  have hr := Bd.returns
  have hts := atoms_spec (ws := wsX4_init) Bd.pre
  have hown : s.vm.findClass RX4 = some m.cls := findClass_of_methodNamed Bd.named
  have hlocks := Bd.notSynchronized
  have hin : meth.name = "<init>" := (name_of_methodNamed Bd.named Bd.method).1
  have hS : va_S (gA (zg G)) s.heap s.heap [] := va_S.rf
  have hl := lv_entry [.ref (zad G.2.2.2 33 18)] (n := 1) (Nat.le_of_ble_eq_true rfl)
  rw [lg_entry_eq]
  generalize (lg_sl [.ref (zad G.2.2.2 33 18)] ++ List.replicate (1 - (lg_sl [.ref (zad G.2.2.2 33 18)]).length) Slot.unset).toArray = ls at hl ⊢
  have hl : lv_has ls 1 [(0, .ref (zad G.2.2.2 33 18))] := hl
  unfold PZ_X4_init_18 at q
  refine lv_aload_n hx hb dX4_init_0 rfl (lv_at hl 0 rfl) ?_
  refine W.objInit hx hb hown (hts (.methodLink RX4 3 objectInit) (List.mem_of_getElem? (i := 1) rfl)) (hts (.instanceMethod objectInit) (List.mem_of_getElem? (i := 2) rfl)) (hts (.code objectInit ⟨#[0xb1]⟩ 1 none) (List.mem_of_getElem? (i := 3) rfl)) rfl (by rw [hml]; exact hl.1) rfl dX4_init_1 (Nat.le_of_ble_eq_true rfl) (Nat.le_of_ble_eq_true rfl) ?_
  refine W.eq (g2 := F0 m 4 ls []) rfl ?_
  refine lv_aload_n hx hb dX4_init_4 rfl (lv_at hl 0 rfl) ?_
  refine lv_iconst (v := 0) hx hb dX4_init_5 (by decide) ?_
  refine z_put (ci := 8) (v := .int 0) (C := RX4) (T := TX4) (N := 3) hx hb hts (fun _ h => (List.mem_cons_of_mem _ (List.mem_append_right _ h))) tyX4 tyX4_ok nmX4 hown hK hH hS 33 18 110 (by rfl) rfl rfl 0 (by decide) (hts (.fieldLink RX4 9 "BallotFoundry$Person" "age" "I") (List.mem_of_getElem? (i := 4) rfl)) (fun _ h => h) rfl (ty := .int) (by decide +kernel) rfl rfl (Nat.le_of_ble_eq_true rfl) 0 rfl dX4_init_6 (fun H locs hH hS => ?_)
  obtain ⟨F1, eF1⟩ : ∃ z, z = fs F 33 18 0 0 := ⟨_, rfl⟩
  have q := q F1 eF1
  rw [← eF1] at hH
  refine lv_aload_n hx hb dX4_init_9 rfl (lv_at hl 0 rfl) ?_
  refine lv_null hx hb dX4_init_10 ?_
  refine z_put (ci := 8) (v := .null) (C := RX4) (T := TX4) (N := 3) hx hb hts (fun _ h => (List.mem_cons_of_mem _ (List.mem_append_right _ h))) tyX4 tyX4_ok nmX4 hown hK hH hS 33 18 110 (by rfl) rfl rfl 1 (by decide) (hts (.fieldLink RX4 15 "BallotFoundry$Person" "latest" "LBallotFoundry$Stay;") (List.mem_of_getElem? (i := 5) rfl)) (fun _ h => h) rfl (ty := tyX4 1) (by decide +kernel) rfl rfl (Nat.le_of_ble_eq_true rfl) (-1) rfl dX4_init_11 (fun H locs hH hS => ?_)
  obtain ⟨F2, eF2⟩ : ∃ z, z = fs F1 33 18 1 (-1) := ⟨_, rfl⟩
  have q := q F2 eF2
  rw [← eF2] at hH
  refine lv_aload_n hx hb dX4_init_14 rfl (lv_at hl 0 rfl) ?_
  refine lv_iconst (v := 0) hx hb dX4_init_15 (by decide) ?_
  refine z_put (ci := 8) (v := .int 0) (C := RX4) (T := TX4) (N := 3) hx hb hts (fun _ h => (List.mem_cons_of_mem _ (List.mem_append_right _ h))) tyX4 tyX4_ok nmX4 hown hK hH hS 33 18 110 (by rfl) rfl rfl 2 (by decide) (hts (.fieldLink RX4 19 "BallotFoundry$Person" "hasDied" "Z") (List.mem_of_getElem? (i := 6) rfl)) (fun _ h => h) rfl (ty := .boolean) (by decide +kernel) rfl rfl (Nat.le_of_ble_eq_true rfl) 0 rfl dX4_init_16 (fun H locs hH hS => ?_)
  obtain ⟨F3, eF3⟩ : ∃ z, z = fs F2 33 18 2 0 := ⟨_, rfl⟩
  have q := q F3 eF3
  rw [← eF3] at hH
  refine W.cs (cells' := 0) (slots' := 0) rfl rfl ?_
  exact W.vret hx hb hr (fun t ht hW => ⟨⟨F3, rfl, q, zH_at ht hH⟩, hS.F ht⟩) hS.2.2 dX4_init_19
abbrev rz_X4_init_19 : Room := { frames := 1, cells := 0, slots := 0, locals := 20 }
set_option maxHeartbeats 4000000 in
set_option maxRecDepth 100000 in
theorem cz_X4_init_19 (l : Launch) (G : GPz) (F : GF) (K : GF → Prop) : Met l yX4_init wsX4_init rz_X4_init_19 (va_Pc [.ref (zad G.2.2.2 33 19)] (fun U => zD G 112 F U ∧ PZ_X4_init_19 F K)) (zQv G 112 K) 0 0 (gA (zg G)) := by
  refine Met.ofW (cc := cX4_init) (maxL := 1) (ret := none) (by decide) rfl ?_
  intro p e s m args below meth c s₁ Bd hml hv
  obtain ⟨rfl, ⟨⟨hK, hG, hZ⟩, hH, hz⟩, q⟩ := hv
  have hx := Bd.exec
  have hb := Bd.bytes
  have hr := Bd.returns
  have hts := atoms_spec (ws := wsX4_init) Bd.pre
  have hown : s.vm.findClass RX4 = some m.cls := findClass_of_methodNamed Bd.named
  have hlocks := Bd.notSynchronized
  have hin : meth.name = "<init>" := (name_of_methodNamed Bd.named Bd.method).1
  have hS : va_S (gA (zg G)) s.heap s.heap [] := va_S.rf
  have hl := lv_entry [.ref (zad G.2.2.2 33 19)] (n := 1) (Nat.le_of_ble_eq_true rfl)
  rw [lg_entry_eq]
  generalize (lg_sl [.ref (zad G.2.2.2 33 19)] ++ List.replicate (1 - (lg_sl [.ref (zad G.2.2.2 33 19)]).length) Slot.unset).toArray = ls at hl ⊢
  have hl : lv_has ls 1 [(0, .ref (zad G.2.2.2 33 19))] := hl
  unfold PZ_X4_init_19 at q
  refine lv_aload_n hx hb dX4_init_0 rfl (lv_at hl 0 rfl) ?_
  refine W.objInit hx hb hown (hts (.methodLink RX4 3 objectInit) (List.mem_of_getElem? (i := 1) rfl)) (hts (.instanceMethod objectInit) (List.mem_of_getElem? (i := 2) rfl)) (hts (.code objectInit ⟨#[0xb1]⟩ 1 none) (List.mem_of_getElem? (i := 3) rfl)) rfl (by rw [hml]; exact hl.1) rfl dX4_init_1 (Nat.le_of_ble_eq_true rfl) (Nat.le_of_ble_eq_true rfl) ?_
  refine W.eq (g2 := F0 m 4 ls []) rfl ?_
  refine lv_aload_n hx hb dX4_init_4 rfl (lv_at hl 0 rfl) ?_
  refine lv_iconst (v := 0) hx hb dX4_init_5 (by decide) ?_
  refine z_put (ci := 8) (v := .int 0) (C := RX4) (T := TX4) (N := 3) hx hb hts (fun _ h => (List.mem_cons_of_mem _ (List.mem_append_right _ h))) tyX4 tyX4_ok nmX4 hown hK hH hS 33 19 111 (by rfl) rfl rfl 0 (by decide) (hts (.fieldLink RX4 9 "BallotFoundry$Person" "age" "I") (List.mem_of_getElem? (i := 4) rfl)) (fun _ h => h) rfl (ty := .int) (by decide +kernel) rfl rfl (Nat.le_of_ble_eq_true rfl) 0 rfl dX4_init_6 (fun H locs hH hS => ?_)
  obtain ⟨F1, eF1⟩ : ∃ z, z = fs F 33 19 0 0 := ⟨_, rfl⟩
  have q := q F1 eF1
  rw [← eF1] at hH
  refine lv_aload_n hx hb dX4_init_9 rfl (lv_at hl 0 rfl) ?_
  refine lv_null hx hb dX4_init_10 ?_
  refine z_put (ci := 8) (v := .null) (C := RX4) (T := TX4) (N := 3) hx hb hts (fun _ h => (List.mem_cons_of_mem _ (List.mem_append_right _ h))) tyX4 tyX4_ok nmX4 hown hK hH hS 33 19 111 (by rfl) rfl rfl 1 (by decide) (hts (.fieldLink RX4 15 "BallotFoundry$Person" "latest" "LBallotFoundry$Stay;") (List.mem_of_getElem? (i := 5) rfl)) (fun _ h => h) rfl (ty := tyX4 1) (by decide +kernel) rfl rfl (Nat.le_of_ble_eq_true rfl) (-1) rfl dX4_init_11 (fun H locs hH hS => ?_)
  obtain ⟨F2, eF2⟩ : ∃ z, z = fs F1 33 19 1 (-1) := ⟨_, rfl⟩
  have q := q F2 eF2
  rw [← eF2] at hH
  refine lv_aload_n hx hb dX4_init_14 rfl (lv_at hl 0 rfl) ?_
  refine lv_iconst (v := 0) hx hb dX4_init_15 (by decide) ?_
  refine z_put (ci := 8) (v := .int 0) (C := RX4) (T := TX4) (N := 3) hx hb hts (fun _ h => (List.mem_cons_of_mem _ (List.mem_append_right _ h))) tyX4 tyX4_ok nmX4 hown hK hH hS 33 19 111 (by rfl) rfl rfl 2 (by decide) (hts (.fieldLink RX4 19 "BallotFoundry$Person" "hasDied" "Z") (List.mem_of_getElem? (i := 6) rfl)) (fun _ h => h) rfl (ty := .boolean) (by decide +kernel) rfl rfl (Nat.le_of_ble_eq_true rfl) 0 rfl dX4_init_16 (fun H locs hH hS => ?_)
  obtain ⟨F3, eF3⟩ : ∃ z, z = fs F2 33 19 2 0 := ⟨_, rfl⟩
  have q := q F3 eF3
  rw [← eF3] at hH
  refine W.cs (cells' := 0) (slots' := 0) rfl rfl ?_
  exact W.vret hx hb hr (fun t ht hW => ⟨⟨F3, rfl, q, zH_at ht hH⟩, hS.F ht⟩) hS.2.2 dX4_init_19
abbrev rz_X10_init : Room := { frames := 5, cells := 111, slots := 2739, locals := 102 }
set_option maxHeartbeats 4000000 in
set_option maxRecDepth 100000 in
theorem cz_X10_init (l : Launch) (G : GPz) (F : GF) (K : GF → Prop) : Met l yX10_init wsX10_init rz_X10_init (va_Pc [.ref (zad G.2.2.2 0 0)] (fun U => zD G 1 F U ∧ PZ_X10_init F K)) (zQv G 112 K) 111 2739 (gA (zg G)) := by
  refine Met.ofW (cc := cX10_init) (maxL := 2) (ret := none) (by decide) rfl ?_
  intro p e s m args below meth c s₁ Bd hml hv
  obtain ⟨rfl, ⟨⟨hK, hG, hZ⟩, hH, hz⟩, q⟩ := hv
  have hx := Bd.exec
  have hb := Bd.bytes
  have hr := Bd.returns
  have hts := atoms_spec (ws := wsX10_init) Bd.pre
  have hown : s.vm.findClass RX10 = some m.cls := findClass_of_methodNamed Bd.named
  have hlocks := Bd.notSynchronized
  have hin : meth.name = "<init>" := (name_of_methodNamed Bd.named Bd.method).1
  have hS : va_S (gA (zg G)) s.heap s.heap [] := va_S.rf
  have hl := lv_entry [.ref (zad G.2.2.2 0 0)] (n := 2) (Nat.le_of_ble_eq_true rfl)
  rw [lg_entry_eq]
  generalize (lg_sl [.ref (zad G.2.2.2 0 0)] ++ List.replicate (2 - (lg_sl [.ref (zad G.2.2.2 0 0)]).length) Slot.unset).toArray = ls at hl ⊢
  have hl : lv_has ls 2 [(0, .ref (zad G.2.2.2 0 0))] := hl
  unfold PZ_X10_init at q
  refine lv_aload_n hx hb dX10_init_0 rfl (lv_at hl 0 rfl) ?_
  refine W.objInit hx hb hown (hts (.methodLink RX10 3 objectInit) (List.mem_of_getElem? (i := 1) rfl)) (hts (.instanceMethod objectInit) (List.mem_of_getElem? (i := 2) rfl)) (hts (.code objectInit ⟨#[0xb1]⟩ 1 none) (List.mem_of_getElem? (i := 3) rfl)) rfl (by rw [hml]; exact hl.1) rfl dX10_init_1 (Nat.le_of_ble_eq_true rfl) (Nat.le_of_ble_eq_true rfl) ?_
  refine W.eq (g2 := F0 m 4 ls []) rfl ?_
  refine lv_aload_n hx hb dX10_init_4 rfl (lv_at hl 0 rfl) ?_
  obtain ⟨h1, q⟩ := q
  refine z_new (ci := 13) (C := RX9) (T := TX9) (N := 3) (fs0 := [.null, .null, .null]) hx hb hts (fun _ h => (List.mem_cons_of_mem _ (List.mem_append_left _ (List.mem_append_left _ (List.mem_append_left _ (List.mem_append_left _ (List.mem_append_left _ (List.mem_append_left _ (List.mem_append_left _ (List.mem_append_left _ (List.mem_append_left _ (List.mem_append_left _ (List.mem_append_right _ h))))))))))))) tyX9 tyX9_ok hown (hts (.classLink RX10 9 RX9) (List.mem_of_getElem? (i := 4) rfl)) (hts (.instantiable RX9 3) (List.mem_of_getElem? (i := 5) rfl)) (hts (.initialized RX9) (List.mem_of_getElem? (i := 6) rfl)) hK hH hS (n0 := 1) hz rfl (by decide) 1 0 (by rfl) (by rw [h1]; rfl) rfl (by decide +kernel) (Nat.le_of_ble_eq_true rfl) (Nat.le_of_ble_eq_true rfl) dX10_init_5 (fun H hH hS => ?_)
  refine lv_dup hx hb dX10_init_8 rfl ?_
  refine W.sz (fun hle => ?_)
  have hzn : H.size = G.2.2.2 + 2 := zsize (n0 := 1) hH (by decide) hz rfl hle
  refine va_callv (va_runIN (As := []) (rest := [.ref (zad G.2.2.2 1 0), .ref (zad G.2.2.2 0 0)]) ⟨hx, hb, hml, hown, hts⟩ (cz_X9_init l G F _) ⟨va_cnB (host := "BallotFoundry") 0 hts ggX10_init_X9_init rfl rfl rfl (hG.2.1 ("BallotFoundry", 11, ⟨"BallotFoundry$Town", "<init>", "()V"⟩, "BallotFoundry") (List.mem_of_getElem? (i := 0) rfl)) (hts (.initialized RX9) (List.mem_of_getElem? (i := 6) rfl)) (by decide +kernel) ⟨Nat.le_of_ble_eq_true rfl, Nat.le_of_ble_eq_true rfl⟩, rfl, hts (.instanceMethod yX9_init) (List.mem_of_getElem? (i := 28) rfl)⟩ ⟨fun a U g mk h => ⟨h.1, zD_blind h.2.1, h.2.2⟩, fun U hU hW => ⟨rfl, zD_at hK hG hZ hH hzn hS hU hW, q⟩⟩ rfl rfl hl.1 rfl (lv_room (Nat.le_of_ble_eq_true rfl)) dX10_init_9 ⟨Nat.le_of_ble_eq_true rfl, Nat.le_of_ble_eq_true rfl⟩) hS (fun _ _ h => h) (fun _ h => h) (fun F2 t H locs ht hvm q hB1 hzz hk hS => ?_)
  have hH : zH G 5 F2 H := zH_to ht hB1
  refine z_putF (ci := 14) (v := .ref (zad G.2.2.2 1 0)) (C := RX10) (T := TX10) (N := 8) hx hb hts (fun _ h => (List.mem_cons_of_mem _ (List.mem_append_left _ (List.mem_append_left _ (List.mem_append_left _ (List.mem_append_left _ (List.mem_append_left _ (List.mem_append_left _ (List.mem_append_left _ (List.mem_append_left _ (List.mem_append_left _ (List.mem_append_right _ h)))))))))))) tyX10 tyX10_ok nmX10 hown hK hH hS 0 0 0 (by rfl) rfl rfl 0 (by decide) (hts (.fieldLink RX10 12 "BallotFoundry" "town" "LBallotFoundry$Town;") (List.mem_of_getElem? (i := 7) rfl)) (fun _ h => h) rfl hin rfl (ty := tyX10 0) (by decide +kernel) rfl rfl (Nat.le_of_ble_eq_true rfl) 1 rfl dX10_init_12 (fun H locs hH hS => ?_)
  obtain ⟨F3, eF3⟩ : ∃ z, z = fs F2 0 0 0 1 := ⟨_, rfl⟩
  have q := q F3 eF3
  rw [← eF3] at hH
  refine lv_aload_n hx hb dX10_init_15 rfl (lv_at hl 0 rfl) ?_
  refine lv_bipush (v := 20) hx hb dX10_init_16 (by decide) ?_
  obtain ⟨h4, q⟩ := q
  refine z_anew (N' := 20) (C := RX4) hx hb hown (hts (.classLink RX10 16 RX4) (List.mem_of_getElem? (i := 8) rfl)) hZ.2.1 hK hH hS (n0 := 1) hz rfl (by decide) 5 0 5 (by rfl) (by rw [h4]; rfl) rfl (by decide) (by decide) (Nat.le_of_ble_eq_true rfl) (Nat.le_of_ble_eq_true rfl) (Nat.le_of_ble_eq_true rfl) dX10_init_18 (fun H hH hS => ?_)
  refine z_putF (ci := 14) (v := .ref (zad G.2.2.2 5 0)) (C := RX10) (T := TX10) (N := 8) hx hb hts (fun _ h => (List.mem_cons_of_mem _ (List.mem_append_left _ (List.mem_append_left _ (List.mem_append_left _ (List.mem_append_left _ (List.mem_append_left _ (List.mem_append_left _ (List.mem_append_left _ (List.mem_append_left _ (List.mem_append_left _ (List.mem_append_right _ h)))))))))))) tyX10 tyX10_ok nmX10 hown hK hH hS 0 0 0 (by rfl) rfl rfl 1 (by decide) (hts (.fieldLink RX10 18 "BallotFoundry" "people" "[LBallotFoundry$Person;") (List.mem_of_getElem? (i := 9) rfl)) (fun _ h => h) rfl hin rfl (ty := tyX10 1) (by decide +kernel) rfl rfl (Nat.le_of_ble_eq_true rfl) 1 rfl dX10_init_21 (fun H locs hH hS => ?_)
  obtain ⟨F5, eF5⟩ : ∃ z, z = fs F3 0 0 1 1 := ⟨_, rfl⟩
  have q := q F5 eF5
  rw [← eF5] at hH
  refine lv_aload_n hx hb dX10_init_24 rfl (lv_at hl 0 rfl) ?_
  refine lv_iconst (v := 0) hx hb dX10_init_25 (by decide) ?_
  refine z_put (ci := 14) (v := .int 0) (C := RX10) (T := TX10) (N := 8) hx hb hts (fun _ h => (List.mem_cons_of_mem _ (List.mem_append_left _ (List.mem_append_left _ (List.mem_append_left _ (List.mem_append_left _ (List.mem_append_left _ (List.mem_append_left _ (List.mem_append_left _ (List.mem_append_left _ (List.mem_append_left _ (List.mem_append_right _ h)))))))))))) tyX10 tyX10_ok nmX10 hown hK hH hS 0 0 0 (by rfl) rfl rfl 2 (by decide) (hts (.fieldLink RX10 22 "BallotFoundry" "peopleHere" "I") (List.mem_of_getElem? (i := 10) rfl)) (fun _ h => h) rfl (ty := .int) (by decide +kernel) rfl rfl (Nat.le_of_ble_eq_true rfl) 0 rfl dX10_init_26 (fun H locs hH hS => ?_)
  obtain ⟨F6, eF6⟩ : ∃ z, z = fs F5 0 0 2 0 := ⟨_, rfl⟩
  have q := q F6 eF6
  rw [← eF6] at hH
  refine lv_aload_n hx hb dX10_init_29 rfl (lv_at hl 0 rfl) ?_
  obtain ⟨h7, q⟩ := q
  refine z_new (ci := 11) (C := RX7) (T := TX7) (N := 3) (fs0 := [.null, .null, .int 0]) hx hb hts (fun _ h => (List.mem_cons_of_mem _ (List.mem_append_left _ (List.mem_append_left _ (List.mem_append_left _ (List.mem_append_left _ (List.mem_append_left _ (List.mem_append_left _ (List.mem_append_left _ (List.mem_append_left _ (List.mem_append_right _ h))))))))))) tyX7 tyX7_ok hown (hts (.classLink RX10 26 RX7) (List.mem_of_getElem? (i := 11) rfl)) (hts (.instantiable RX7 3) (List.mem_of_getElem? (i := 12) rfl)) (hts (.initialized RX7) (List.mem_of_getElem? (i := 13) rfl)) hK hH hS (n0 := 1) hz rfl (by decide) 6 0 (by rfl) (by rw [h7]; rfl) rfl (by decide +kernel) (Nat.le_of_ble_eq_true rfl) (Nat.le_of_ble_eq_true rfl) dX10_init_30 (fun H hH hS => ?_)
  refine lv_dup hx hb dX10_init_33 rfl ?_
  refine W.sz (fun hle => ?_)
  have hzn : H.size = G.2.2.2 + 7 := zsize (n0 := 1) hH (by decide) hz rfl hle
  refine va_callv (va_runIN (As := []) (rest := [.ref (zad G.2.2.2 6 0), .ref (zad G.2.2.2 0 0)]) ⟨hx, hb, hml, hown, hts⟩ (cz_X7_init l G F6 _) ⟨va_cnB (host := "BallotFoundry") 0 hts ggX10_init_X7_init rfl rfl rfl (hG.2.1 ("BallotFoundry", 28, ⟨"BallotFoundry$Stations", "<init>", "()V"⟩, "BallotFoundry") (List.mem_of_getElem? (i := 1) rfl)) (hts (.initialized RX7) (List.mem_of_getElem? (i := 13) rfl)) (by decide +kernel) ⟨Nat.le_of_ble_eq_true rfl, Nat.le_of_ble_eq_true rfl⟩, rfl, hts (.instanceMethod yX7_init) (List.mem_of_getElem? (i := 35) rfl)⟩ ⟨fun a U g mk h => ⟨h.1, zD_blind h.2.1, h.2.2⟩, fun U hU hW => ⟨rfl, zD_at hK hG hZ hH hzn hS hU hW, q⟩⟩ rfl rfl hl.1 rfl (lv_room (Nat.le_of_ble_eq_true rfl)) dX10_init_34 ⟨Nat.le_of_ble_eq_true rfl, Nat.le_of_ble_eq_true rfl⟩) hS (fun _ _ h => h) (fun _ h => h) (fun F8 t H locs ht hvm q hB1 hzz hk hS => ?_)
  have hH : zH G 9 F8 H := zH_to ht hB1
  refine z_putF (ci := 14) (v := .ref (zad G.2.2.2 6 0)) (C := RX10) (T := TX10) (N := 8) hx hb hts (fun _ h => (List.mem_cons_of_mem _ (List.mem_append_left _ (List.mem_append_left _ (List.mem_append_left _ (List.mem_append_left _ (List.mem_append_left _ (List.mem_append_left _ (List.mem_append_left _ (List.mem_append_left _ (List.mem_append_left _ (List.mem_append_right _ h)))))))))))) tyX10 tyX10_ok nmX10 hown hK hH hS 0 0 0 (by rfl) rfl rfl 3 (by decide) (hts (.fieldLink RX10 29 "BallotFoundry" "stations" "LBallotFoundry$Stations;") (List.mem_of_getElem? (i := 14) rfl)) (fun _ h => h) rfl hin rfl (ty := tyX10 3) (by decide +kernel) rfl rfl (Nat.le_of_ble_eq_true rfl) 1 rfl dX10_init_37 (fun H locs hH hS => ?_)
  obtain ⟨F9, eF9⟩ : ∃ z, z = fs F8 0 0 3 1 := ⟨_, rfl⟩
  have q := q F9 eF9
  rw [← eF9] at hH
  refine lv_aload_n hx hb dX10_init_40 rfl (lv_at hl 0 rfl) ?_
  refine lv_iconst (v := 4) hx hb dX10_init_41 (by decide) ?_
  obtain ⟨h10, q⟩ := q
  refine z_newa (atype := .int) (ty := .int) (N' := 4) (a0 := (4, .inl (zdef 9))) hx hb (hts (.arrayClass .int) (List.mem_of_getElem? (i := 15) rfl)) rfl hK hH hS (n0 := 1) hz rfl (by decide) 9 0 2 (by rfl) (by rw [h10]; rfl) rfl (fun _ h => by cases h) (fun _ => rfl) (by decide) (by decide) (Nat.le_of_ble_eq_true rfl) (Nat.le_of_ble_eq_true rfl) (Nat.le_of_ble_eq_true rfl) dX10_init_42 (fun H hH hS => ?_)
  refine z_putF (ci := 14) (v := .ref (zad G.2.2.2 9 0)) (C := RX10) (T := TX10) (N := 8) hx hb hts (fun _ h => (List.mem_cons_of_mem _ (List.mem_append_left _ (List.mem_append_left _ (List.mem_append_left _ (List.mem_append_left _ (List.mem_append_left _ (List.mem_append_left _ (List.mem_append_left _ (List.mem_append_left _ (List.mem_append_left _ (List.mem_append_right _ h)))))))))))) tyX10 tyX10_ok nmX10 hown hK hH hS 0 0 0 (by rfl) rfl rfl 4 (by decide) (hts (.fieldLink RX10 33 "BallotFoundry" "slips" "[I") (List.mem_of_getElem? (i := 16) rfl)) (fun _ h => h) rfl hin rfl (ty := tyX10 4) (by decide +kernel) rfl rfl (Nat.le_of_ble_eq_true rfl) 1 rfl dX10_init_44 (fun H locs hH hS => ?_)
  obtain ⟨F11, eF11⟩ : ∃ z, z = fs F9 0 0 4 1 := ⟨_, rfl⟩
  have q := q F11 eF11
  rw [← eF11] at hH
  refine lv_aload_n hx hb dX10_init_47 rfl (lv_at hl 0 rfl) ?_
  refine lv_iconst (v := 0) hx hb dX10_init_48 (by decide) ?_
  refine z_put (ci := 14) (v := .int 0) (C := RX10) (T := TX10) (N := 8) hx hb hts (fun _ h => (List.mem_cons_of_mem _ (List.mem_append_left _ (List.mem_append_left _ (List.mem_append_left _ (List.mem_append_left _ (List.mem_append_left _ (List.mem_append_left _ (List.mem_append_left _ (List.mem_append_left _ (List.mem_append_left _ (List.mem_append_right _ h)))))))))))) tyX10 tyX10_ok nmX10 hown hK hH hS 0 0 0 (by rfl) rfl rfl 5 (by decide) (hts (.fieldLink RX10 37 "BallotFoundry" "now" "I") (List.mem_of_getElem? (i := 17) rfl)) (fun _ h => h) rfl (ty := .int) (by decide +kernel) rfl rfl (Nat.le_of_ble_eq_true rfl) 0 rfl dX10_init_49 (fun H locs hH hS => ?_)
  obtain ⟨F12, eF12⟩ : ∃ z, z = fs F11 0 0 5 0 := ⟨_, rfl⟩
  have q := q F12 eF12
  rw [← eF12] at hH
  refine lv_aload_n hx hb dX10_init_52 rfl (lv_at hl 0 rfl) ?_
  obtain ⟨h13, q⟩ := q
  refine z_new (ci := 6) (C := RX2) (T := TX2) (N := 10) (fs0 := [.int 0, .int 0, .int 0, .int 0, .int 0, .null, .null, .null, .null, .null]) hx hb hts (fun _ h => (List.mem_cons_of_mem _ (List.mem_append_left _ (List.mem_append_left _ (List.mem_append_left _ (List.mem_append_left _ (List.mem_append_left _ (List.mem_append_left _ (List.mem_append_left _ (List.mem_append_right _ h)))))))))) tyX2 tyX2_ok hown (hts (.classLink RX10 40 RX2) (List.mem_of_getElem? (i := 18) rfl)) (hts (.instantiable RX2 10) (List.mem_of_getElem? (i := 19) rfl)) (hts (.initialized RX2) (List.mem_of_getElem? (i := 20) rfl)) hK hH hS (n0 := 1) hz rfl (by decide) 10 0 (by rfl) (by rw [h13]; rfl) rfl (by decide +kernel) (Nat.le_of_ble_eq_true rfl) (Nat.le_of_ble_eq_true rfl) dX10_init_53 (fun H hH hS => ?_)
  refine lv_dup hx hb dX10_init_56 rfl ?_
  refine W.sz (fun hle => ?_)
  have hzn : H.size = G.2.2.2 + 11 := zsize (n0 := 1) hH (by decide) hz rfl hle
  refine va_callv (va_runI (As := []) (rest := [.ref (zad G.2.2.2 10 0), .ref (zad G.2.2.2 0 0)]) ⟨hx, hb, hml, hown, hts⟩ (cz_X2_init l G F12 _) (cwI 0 hts gX10_init_X2_init rfl rfl rfl (hts (.initialized RX2) (List.mem_of_getElem? (i := 20) rfl)) (hts (.methodLink RX10 42 yX2_init) (List.mem_of_getElem? (i := 41) rfl)) (hts (.instanceMethod yX2_init) (List.mem_of_getElem? (i := 42) rfl)) rfl (by decide +kernel) ⟨Nat.le_of_ble_eq_true rfl, Nat.le_of_ble_eq_true rfl⟩) ⟨fun a U g mk h => ⟨h.1, zD_blind h.2.1, h.2.2⟩, fun U hU hW => ⟨rfl, zD_at hK hG hZ hH hzn hS hU hW, q⟩⟩ rfl rfl hl.1 rfl (lv_room (Nat.le_of_ble_eq_true rfl)) dX10_init_57 ⟨Nat.le_of_ble_eq_true rfl, Nat.le_of_ble_eq_true rfl⟩) hS (fun _ _ h => h) (fun _ h => h) (fun F14 t H locs ht hvm q hB1 hzz hk hS => ?_)
  have hH : zH G 87 F14 H := zH_to ht hB1
  refine z_putF (ci := 14) (v := .ref (zad G.2.2.2 10 0)) (C := RX10) (T := TX10) (N := 8) hx hb hts (fun _ h => (List.mem_cons_of_mem _ (List.mem_append_left _ (List.mem_append_left _ (List.mem_append_left _ (List.mem_append_left _ (List.mem_append_left _ (List.mem_append_left _ (List.mem_append_left _ (List.mem_append_left _ (List.mem_append_left _ (List.mem_append_right _ h)))))))))))) tyX10 tyX10_ok nmX10 hown hK hH hS 0 0 0 (by rfl) rfl rfl 6 (by decide) (hts (.fieldLink RX10 43 "BallotFoundry" "election" "LBallotFoundry$Election;") (List.mem_of_getElem? (i := 21) rfl)) (fun _ h => h) rfl hin rfl (ty := tyX10 6) (by decide +kernel) rfl rfl (Nat.le_of_ble_eq_true rfl) 1 rfl dX10_init_60 (fun H locs hH hS => ?_)
  obtain ⟨F15, eF15⟩ : ∃ z, z = fs F14 0 0 6 1 := ⟨_, rfl⟩
  have q := q F15 eF15
  rw [← eF15] at hH
  refine lv_aload_n hx hb dX10_init_63 rfl (lv_at hl 0 rfl) ?_
  obtain ⟨h16, q⟩ := q
  refine z_new (ci := 10) (C := RX6) (T := TX6) (N := 7) (fs0 := [.null, .null, .null, .null, .int 0, .int 0, .int 0]) hx hb hts (fun _ h => (List.mem_cons_of_mem _ (List.mem_append_left _ (List.mem_append_left _ (List.mem_append_left _ (List.mem_append_left _ (List.mem_append_left _ (List.mem_append_left _ (List.mem_append_right _ h))))))))) tyX6 tyX6_ok hown (hts (.classLink RX10 47 RX6) (List.mem_of_getElem? (i := 22) rfl)) (hts (.instantiable RX6 7) (List.mem_of_getElem? (i := 23) rfl)) (hts (.initialized RX6) (List.mem_of_getElem? (i := 24) rfl)) hK hH hS (n0 := 1) hz rfl (by decide) 27 0 (by rfl) (by rw [h16]; rfl) rfl (by decide +kernel) (Nat.le_of_ble_eq_true rfl) (Nat.le_of_ble_eq_true rfl) dX10_init_64 (fun H hH hS => ?_)
  refine lv_dup hx hb dX10_init_67 rfl ?_
  refine W.sz (fun hle => ?_)
  have hzn : H.size = G.2.2.2 + 88 := zsize (n0 := 1) hH (by decide) hz rfl hle
  refine va_callv (va_runIN (As := []) (rest := [.ref (zad G.2.2.2 27 0), .ref (zad G.2.2.2 0 0)]) ⟨hx, hb, hml, hown, hts⟩ (cz_X6_init l G F15 _) ⟨va_cnB (host := "BallotFoundry") 0 hts ggX10_init_X6_init rfl rfl rfl (hG.2.1 ("BallotFoundry", 49, ⟨"BallotFoundry$SeatGiving", "<init>", "()V"⟩, "BallotFoundry") (List.mem_of_getElem? (i := 5) rfl)) (hts (.initialized RX6) (List.mem_of_getElem? (i := 24) rfl)) (by decide +kernel) ⟨Nat.le_of_ble_eq_true rfl, Nat.le_of_ble_eq_true rfl⟩, rfl, hts (.instanceMethod yX6_init) (List.mem_of_getElem? (i := 127) rfl)⟩ ⟨fun a U g mk h => ⟨h.1, zD_blind h.2.1, h.2.2⟩, fun U hU hW => ⟨rfl, zD_at hK hG hZ hH hzn hS hU hW, q⟩⟩ rfl rfl hl.1 rfl (lv_room (Nat.le_of_ble_eq_true rfl)) dX10_init_68 ⟨Nat.le_of_ble_eq_true rfl, Nat.le_of_ble_eq_true rfl⟩) hS (fun _ _ h => h) (fun _ h => h) (fun F17 t H locs ht hvm q hB1 hzz hk hS => ?_)
  have hH : zH G 92 F17 H := zH_to ht hB1
  refine z_putF (ci := 14) (v := .ref (zad G.2.2.2 27 0)) (C := RX10) (T := TX10) (N := 8) hx hb hts (fun _ h => (List.mem_cons_of_mem _ (List.mem_append_left _ (List.mem_append_left _ (List.mem_append_left _ (List.mem_append_left _ (List.mem_append_left _ (List.mem_append_left _ (List.mem_append_left _ (List.mem_append_left _ (List.mem_append_left _ (List.mem_append_right _ h)))))))))))) tyX10 tyX10_ok nmX10 hown hK hH hS 0 0 0 (by rfl) rfl rfl 7 (by decide) (hts (.fieldLink RX10 50 "BallotFoundry" "giving" "LBallotFoundry$SeatGiving;") (List.mem_of_getElem? (i := 25) rfl)) (fun _ h => h) rfl hin rfl (ty := tyX10 7) (by decide +kernel) rfl rfl (Nat.le_of_ble_eq_true rfl) 1 rfl dX10_init_71 (fun H locs hH hS => ?_)
  obtain ⟨F18, eF18⟩ : ∃ z, z = fs F17 0 0 7 1 := ⟨_, rfl⟩
  have q := q F18 eF18
  rw [← eF18] at hH
  refine lv_iconst (v := 0) hx hb dX10_init_74 (by decide) ?_
  refine lv_istore_n (lv' := [(1, .int 0), (0, .ref (zad G.2.2.2 0 0))]) hx hb dX10_init_75 rfl hl (by decide) rfl (fun ls hl => ?_)
  refine lv_iload_n hx hb dX10_init_76 rfl (lv_at hl 0 rfl) ?_
  refine lv_bipush (v := 20) hx hb dX10_init_77 (by decide) ?_
  refine lv_icmp_ge (tgt := 101) hx hb dX10_init_79 (by decide) (fun c1 => absurd c1 (by decide)) (fun _ => ?_)
  refine lv_aload_n hx hb dX10_init_82 rfl (lv_at hl 1 rfl) ?_
  obtain ⟨h19, q⟩ := q
  refine z_get (ci := 14) (v := .ref (zad G.2.2.2 5 0)) (C := RX10) (T := TX10) (N := 8) (fs0 := [zv (F18 0 0 0) (zad G.2.2.2 1 0), .ref (zad G.2.2.2 5 0), .int (F18 0 0 2), zv (F18 0 0 3) (zad G.2.2.2 6 0), zv (F18 0 0 4) (zad G.2.2.2 9 0), .int (F18 0 0 5), zv (F18 0 0 6) (zad G.2.2.2 10 0), zv (F18 0 0 7) (zad G.2.2.2 27 0)]) hx hb hts (fun _ h => (List.mem_cons_of_mem _ (List.mem_append_left _ (List.mem_append_left _ (List.mem_append_left _ (List.mem_append_left _ (List.mem_append_left _ (List.mem_append_left _ (List.mem_append_left _ (List.mem_append_left _ (List.mem_append_left _ (List.mem_append_right _ h)))))))))))) hown hK hH 0 0 0 (by rfl) (by show Sum.inr (14, [zv (F18 0 0 0) (zad G.2.2.2 1 0), zv (F18 0 0 1) (zad G.2.2.2 5 0), Value.int (F18 0 0 2), zv (F18 0 0 3) (zad G.2.2.2 6 0), zv (F18 0 0 4) (zad G.2.2.2 9 0), Value.int (F18 0 0 5), zv (F18 0 0 6) (zad G.2.2.2 10 0), zv (F18 0 0 7) (zad G.2.2.2 27 0)]) = _; rw [h19]; rfl) rfl 1 (by decide) (hts (.fieldLink RX10 18 "BallotFoundry" "people" "[LBallotFoundry$Person;") (List.mem_of_getElem? (i := 9) rfl)) (fun _ h => h) rfl dX10_init_83 ?_
  refine lv_iload_n hx hb dX10_init_86 rfl (lv_at hl 0 rfl) ?_
  obtain ⟨h20, q⟩ := q
  refine z_new (ci := 8) (C := RX4) (T := TX4) (N := 3) (fs0 := [.int 0, .null, .int 0]) hx hb hts (fun _ h => (List.mem_cons_of_mem _ (List.mem_append_left _ (List.mem_append_left _ (List.mem_append_left _ (List.mem_append_left _ (List.mem_append_left _ (List.mem_append_right _ h)))))))) tyX4 tyX4_ok hown (hts (.classLink RX10 16 RX4) (List.mem_of_getElem? (i := 8) rfl)) (hts (.instantiable RX4 3) (List.mem_of_getElem? (i := 26) rfl)) (hts (.initialized RX4) (List.mem_of_getElem? (i := 27) rfl)) hK hH hS (n0 := 1) hz rfl (by decide) 33 0 (by rfl) (by rw [h20]; rfl) rfl (by decide +kernel) (Nat.le_of_ble_eq_true rfl) (Nat.le_of_ble_eq_true rfl) dX10_init_87 (fun H hH hS => ?_)
  refine lv_dup hx hb dX10_init_90 rfl ?_
  refine W.sz (fun hle => ?_)
  have hzn : H.size = G.2.2.2 + 93 := zsize (n0 := 1) hH (by decide) hz rfl hle
  refine va_callv (va_runIN (As := []) (rest := [.ref (zad G.2.2.2 33 0), .int 0, .ref (zad G.2.2.2 5 0)]) ⟨hx, hb, hml, hown, hts⟩ (cz_X4_init_0 l G F18 _) ⟨va_cnB (host := "BallotFoundry") 0 hts ggX10_init_X4_init rfl rfl rfl (hG.2.1 ("BallotFoundry", 54, ⟨"BallotFoundry$Person", "<init>", "()V"⟩, "BallotFoundry") (List.mem_of_getElem? (i := 6) rfl)) (hts (.initialized RX4) (List.mem_of_getElem? (i := 27) rfl)) (by decide +kernel) ⟨Nat.le_of_ble_eq_true rfl, Nat.le_of_ble_eq_true rfl⟩, rfl, hts (.instanceMethod yX4_init) (List.mem_of_getElem? (i := 137) rfl)⟩ ⟨fun a U g mk h => ⟨h.1, zD_blind h.2.1, h.2.2⟩, fun U hU hW => ⟨rfl, zD_at hK hG hZ hH hzn hS hU hW, q⟩⟩ rfl rfl hl.1 rfl (lv_room (Nat.le_of_ble_eq_true rfl)) dX10_init_91 ⟨Nat.le_of_ble_eq_true rfl, Nat.le_of_ble_eq_true rfl⟩) hS (fun _ _ h => h) (fun _ h => h) (fun F21 t H locs ht hvm q hB1 hzz hk hS => ?_)
  have hH : zH G 93 F21 H := zH_to ht hB1
  refine z_aast hx hb hK hH hS 5 0 5 (by rfl) 5 33 0 92 20 8 (by rfl) (r := (RX4, TX4, 3)) rfl rfl rfl rfl (by unfold vp_in; decide) (zaast_5 0 (by decide) rfl) dX10_init_94 (fun H locs hH hS => ?_)
  obtain ⟨F22, eF22⟩ : ∃ z, z = fs F21 5 0 (0 : Int32).toNatClampNeg 1 := ⟨_, rfl⟩
  have q := q F22 eF22
  rw [← eF22] at hH
  refine lv_iinc (v := 1) (lv' := [(1, .int 1), (0, .ref (zad G.2.2.2 0 0))]) hx hb dX10_init_95 hl (k := 0) rfl (by decide) (by decide) rfl (fun ls hl => ?_)
  refine lv_goto (tgt := 76) hx hb dX10_init_98 (by decide) ?_
  refine lv_iload_n hx hb dX10_init_76 rfl (lv_at hl 0 rfl) ?_
  refine lv_bipush (v := 20) hx hb dX10_init_77 (by decide) ?_
  refine lv_icmp_ge (tgt := 101) hx hb dX10_init_79 (by decide) (fun c1 => absurd c1 (by decide)) (fun _ => ?_)
  refine lv_aload_n hx hb dX10_init_82 rfl (lv_at hl 1 rfl) ?_
  obtain ⟨h23, q⟩ := q
  refine z_get (ci := 14) (v := .ref (zad G.2.2.2 5 0)) (C := RX10) (T := TX10) (N := 8) (fs0 := [zv (F22 0 0 0) (zad G.2.2.2 1 0), .ref (zad G.2.2.2 5 0), .int (F22 0 0 2), zv (F22 0 0 3) (zad G.2.2.2 6 0), zv (F22 0 0 4) (zad G.2.2.2 9 0), .int (F22 0 0 5), zv (F22 0 0 6) (zad G.2.2.2 10 0), zv (F22 0 0 7) (zad G.2.2.2 27 0)]) hx hb hts (fun _ h => (List.mem_cons_of_mem _ (List.mem_append_left _ (List.mem_append_left _ (List.mem_append_left _ (List.mem_append_left _ (List.mem_append_left _ (List.mem_append_left _ (List.mem_append_left _ (List.mem_append_left _ (List.mem_append_left _ (List.mem_append_right _ h)))))))))))) hown hK hH 0 0 0 (by rfl) (by show Sum.inr (14, [zv (F22 0 0 0) (zad G.2.2.2 1 0), zv (F22 0 0 1) (zad G.2.2.2 5 0), Value.int (F22 0 0 2), zv (F22 0 0 3) (zad G.2.2.2 6 0), zv (F22 0 0 4) (zad G.2.2.2 9 0), Value.int (F22 0 0 5), zv (F22 0 0 6) (zad G.2.2.2 10 0), zv (F22 0 0 7) (zad G.2.2.2 27 0)]) = _; rw [h23]; rfl) rfl 1 (by decide) (hts (.fieldLink RX10 18 "BallotFoundry" "people" "[LBallotFoundry$Person;") (List.mem_of_getElem? (i := 9) rfl)) (fun _ h => h) rfl dX10_init_83 ?_
  refine lv_iload_n hx hb dX10_init_86 rfl (lv_at hl 0 rfl) ?_
  obtain ⟨h24, q⟩ := q
  refine z_new (ci := 8) (C := RX4) (T := TX4) (N := 3) (fs0 := [.int 0, .null, .int 0]) hx hb hts (fun _ h => (List.mem_cons_of_mem _ (List.mem_append_left _ (List.mem_append_left _ (List.mem_append_left _ (List.mem_append_left _ (List.mem_append_left _ (List.mem_append_right _ h)))))))) tyX4 tyX4_ok hown (hts (.classLink RX10 16 RX4) (List.mem_of_getElem? (i := 8) rfl)) (hts (.instantiable RX4 3) (List.mem_of_getElem? (i := 26) rfl)) (hts (.initialized RX4) (List.mem_of_getElem? (i := 27) rfl)) hK hH hS (n0 := 1) hz rfl (by decide) 33 1 (by rfl) (by rw [h24]; rfl) rfl (by decide +kernel) (Nat.le_of_ble_eq_true rfl) (Nat.le_of_ble_eq_true rfl) dX10_init_87 (fun H hH hS => ?_)
  refine lv_dup hx hb dX10_init_90 rfl ?_
  refine W.sz (fun hle => ?_)
  have hzn : H.size = G.2.2.2 + 94 := zsize (n0 := 1) hH (by decide) hz rfl hle
  refine va_callv (va_runIN (As := []) (rest := [.ref (zad G.2.2.2 33 1), .int 1, .ref (zad G.2.2.2 5 0)]) ⟨hx, hb, hml, hown, hts⟩ (cz_X4_init_1 l G F22 _) ⟨va_cnB (host := "BallotFoundry") 0 hts ggX10_init_X4_init rfl rfl rfl (hG.2.1 ("BallotFoundry", 54, ⟨"BallotFoundry$Person", "<init>", "()V"⟩, "BallotFoundry") (List.mem_of_getElem? (i := 6) rfl)) (hts (.initialized RX4) (List.mem_of_getElem? (i := 27) rfl)) (by decide +kernel) ⟨Nat.le_of_ble_eq_true rfl, Nat.le_of_ble_eq_true rfl⟩, rfl, hts (.instanceMethod yX4_init) (List.mem_of_getElem? (i := 137) rfl)⟩ ⟨fun a U g mk h => ⟨h.1, zD_blind h.2.1, h.2.2⟩, fun U hU hW => ⟨rfl, zD_at hK hG hZ hH hzn hS hU hW, q⟩⟩ rfl rfl hl.1 rfl (lv_room (Nat.le_of_ble_eq_true rfl)) dX10_init_91 ⟨Nat.le_of_ble_eq_true rfl, Nat.le_of_ble_eq_true rfl⟩) hS (fun _ _ h => h) (fun _ h => h) (fun F25 t H locs ht hvm q hB1 hzz hk hS => ?_)
  have hH : zH G 94 F25 H := zH_to ht hB1
  refine z_aast hx hb hK hH hS 5 0 5 (by rfl) 5 33 1 93 20 8 (by rfl) (r := (RX4, TX4, 3)) rfl rfl rfl rfl (by unfold vp_in; decide) (zaast_5 1 (by decide) rfl) dX10_init_94 (fun H locs hH hS => ?_)
  obtain ⟨F26, eF26⟩ : ∃ z, z = fs F25 5 0 (1 : Int32).toNatClampNeg 1 := ⟨_, rfl⟩
  have q := q F26 eF26
  rw [← eF26] at hH
  refine lv_iinc (v := 2) (lv' := [(1, .int 2), (0, .ref (zad G.2.2.2 0 0))]) hx hb dX10_init_95 hl (k := 0) rfl (by decide) (by decide) rfl (fun ls hl => ?_)
  refine lv_goto (tgt := 76) hx hb dX10_init_98 (by decide) ?_
  refine lv_iload_n hx hb dX10_init_76 rfl (lv_at hl 0 rfl) ?_
  refine lv_bipush (v := 20) hx hb dX10_init_77 (by decide) ?_
  refine lv_icmp_ge (tgt := 101) hx hb dX10_init_79 (by decide) (fun c1 => absurd c1 (by decide)) (fun _ => ?_)
  refine lv_aload_n hx hb dX10_init_82 rfl (lv_at hl 1 rfl) ?_
  obtain ⟨h27, q⟩ := q
  refine z_get (ci := 14) (v := .ref (zad G.2.2.2 5 0)) (C := RX10) (T := TX10) (N := 8) (fs0 := [zv (F26 0 0 0) (zad G.2.2.2 1 0), .ref (zad G.2.2.2 5 0), .int (F26 0 0 2), zv (F26 0 0 3) (zad G.2.2.2 6 0), zv (F26 0 0 4) (zad G.2.2.2 9 0), .int (F26 0 0 5), zv (F26 0 0 6) (zad G.2.2.2 10 0), zv (F26 0 0 7) (zad G.2.2.2 27 0)]) hx hb hts (fun _ h => (List.mem_cons_of_mem _ (List.mem_append_left _ (List.mem_append_left _ (List.mem_append_left _ (List.mem_append_left _ (List.mem_append_left _ (List.mem_append_left _ (List.mem_append_left _ (List.mem_append_left _ (List.mem_append_left _ (List.mem_append_right _ h)))))))))))) hown hK hH 0 0 0 (by rfl) (by show Sum.inr (14, [zv (F26 0 0 0) (zad G.2.2.2 1 0), zv (F26 0 0 1) (zad G.2.2.2 5 0), Value.int (F26 0 0 2), zv (F26 0 0 3) (zad G.2.2.2 6 0), zv (F26 0 0 4) (zad G.2.2.2 9 0), Value.int (F26 0 0 5), zv (F26 0 0 6) (zad G.2.2.2 10 0), zv (F26 0 0 7) (zad G.2.2.2 27 0)]) = _; rw [h27]; rfl) rfl 1 (by decide) (hts (.fieldLink RX10 18 "BallotFoundry" "people" "[LBallotFoundry$Person;") (List.mem_of_getElem? (i := 9) rfl)) (fun _ h => h) rfl dX10_init_83 ?_
  refine lv_iload_n hx hb dX10_init_86 rfl (lv_at hl 0 rfl) ?_
  obtain ⟨h28, q⟩ := q
  refine z_new (ci := 8) (C := RX4) (T := TX4) (N := 3) (fs0 := [.int 0, .null, .int 0]) hx hb hts (fun _ h => (List.mem_cons_of_mem _ (List.mem_append_left _ (List.mem_append_left _ (List.mem_append_left _ (List.mem_append_left _ (List.mem_append_left _ (List.mem_append_right _ h)))))))) tyX4 tyX4_ok hown (hts (.classLink RX10 16 RX4) (List.mem_of_getElem? (i := 8) rfl)) (hts (.instantiable RX4 3) (List.mem_of_getElem? (i := 26) rfl)) (hts (.initialized RX4) (List.mem_of_getElem? (i := 27) rfl)) hK hH hS (n0 := 1) hz rfl (by decide) 33 2 (by rfl) (by rw [h28]; rfl) rfl (by decide +kernel) (Nat.le_of_ble_eq_true rfl) (Nat.le_of_ble_eq_true rfl) dX10_init_87 (fun H hH hS => ?_)
  refine lv_dup hx hb dX10_init_90 rfl ?_
  refine W.sz (fun hle => ?_)
  have hzn : H.size = G.2.2.2 + 95 := zsize (n0 := 1) hH (by decide) hz rfl hle
  refine va_callv (va_runIN (As := []) (rest := [.ref (zad G.2.2.2 33 2), .int 2, .ref (zad G.2.2.2 5 0)]) ⟨hx, hb, hml, hown, hts⟩ (cz_X4_init_2 l G F26 _) ⟨va_cnB (host := "BallotFoundry") 0 hts ggX10_init_X4_init rfl rfl rfl (hG.2.1 ("BallotFoundry", 54, ⟨"BallotFoundry$Person", "<init>", "()V"⟩, "BallotFoundry") (List.mem_of_getElem? (i := 6) rfl)) (hts (.initialized RX4) (List.mem_of_getElem? (i := 27) rfl)) (by decide +kernel) ⟨Nat.le_of_ble_eq_true rfl, Nat.le_of_ble_eq_true rfl⟩, rfl, hts (.instanceMethod yX4_init) (List.mem_of_getElem? (i := 137) rfl)⟩ ⟨fun a U g mk h => ⟨h.1, zD_blind h.2.1, h.2.2⟩, fun U hU hW => ⟨rfl, zD_at hK hG hZ hH hzn hS hU hW, q⟩⟩ rfl rfl hl.1 rfl (lv_room (Nat.le_of_ble_eq_true rfl)) dX10_init_91 ⟨Nat.le_of_ble_eq_true rfl, Nat.le_of_ble_eq_true rfl⟩) hS (fun _ _ h => h) (fun _ h => h) (fun F29 t H locs ht hvm q hB1 hzz hk hS => ?_)
  have hH : zH G 95 F29 H := zH_to ht hB1
  refine z_aast hx hb hK hH hS 5 0 5 (by rfl) 5 33 2 94 20 8 (by rfl) (r := (RX4, TX4, 3)) rfl rfl rfl rfl (by unfold vp_in; decide) (zaast_5 2 (by decide) rfl) dX10_init_94 (fun H locs hH hS => ?_)
  obtain ⟨F30, eF30⟩ : ∃ z, z = fs F29 5 0 (2 : Int32).toNatClampNeg 1 := ⟨_, rfl⟩
  have q := q F30 eF30
  rw [← eF30] at hH
  refine lv_iinc (v := 3) (lv' := [(1, .int 3), (0, .ref (zad G.2.2.2 0 0))]) hx hb dX10_init_95 hl (k := 0) rfl (by decide) (by decide) rfl (fun ls hl => ?_)
  refine lv_goto (tgt := 76) hx hb dX10_init_98 (by decide) ?_
  refine lv_iload_n hx hb dX10_init_76 rfl (lv_at hl 0 rfl) ?_
  refine lv_bipush (v := 20) hx hb dX10_init_77 (by decide) ?_
  refine lv_icmp_ge (tgt := 101) hx hb dX10_init_79 (by decide) (fun c1 => absurd c1 (by decide)) (fun _ => ?_)
  refine lv_aload_n hx hb dX10_init_82 rfl (lv_at hl 1 rfl) ?_
  obtain ⟨h31, q⟩ := q
  refine z_get (ci := 14) (v := .ref (zad G.2.2.2 5 0)) (C := RX10) (T := TX10) (N := 8) (fs0 := [zv (F30 0 0 0) (zad G.2.2.2 1 0), .ref (zad G.2.2.2 5 0), .int (F30 0 0 2), zv (F30 0 0 3) (zad G.2.2.2 6 0), zv (F30 0 0 4) (zad G.2.2.2 9 0), .int (F30 0 0 5), zv (F30 0 0 6) (zad G.2.2.2 10 0), zv (F30 0 0 7) (zad G.2.2.2 27 0)]) hx hb hts (fun _ h => (List.mem_cons_of_mem _ (List.mem_append_left _ (List.mem_append_left _ (List.mem_append_left _ (List.mem_append_left _ (List.mem_append_left _ (List.mem_append_left _ (List.mem_append_left _ (List.mem_append_left _ (List.mem_append_left _ (List.mem_append_right _ h)))))))))))) hown hK hH 0 0 0 (by rfl) (by show Sum.inr (14, [zv (F30 0 0 0) (zad G.2.2.2 1 0), zv (F30 0 0 1) (zad G.2.2.2 5 0), Value.int (F30 0 0 2), zv (F30 0 0 3) (zad G.2.2.2 6 0), zv (F30 0 0 4) (zad G.2.2.2 9 0), Value.int (F30 0 0 5), zv (F30 0 0 6) (zad G.2.2.2 10 0), zv (F30 0 0 7) (zad G.2.2.2 27 0)]) = _; rw [h31]; rfl) rfl 1 (by decide) (hts (.fieldLink RX10 18 "BallotFoundry" "people" "[LBallotFoundry$Person;") (List.mem_of_getElem? (i := 9) rfl)) (fun _ h => h) rfl dX10_init_83 ?_
  refine lv_iload_n hx hb dX10_init_86 rfl (lv_at hl 0 rfl) ?_
  obtain ⟨h32, q⟩ := q
  refine z_new (ci := 8) (C := RX4) (T := TX4) (N := 3) (fs0 := [.int 0, .null, .int 0]) hx hb hts (fun _ h => (List.mem_cons_of_mem _ (List.mem_append_left _ (List.mem_append_left _ (List.mem_append_left _ (List.mem_append_left _ (List.mem_append_left _ (List.mem_append_right _ h)))))))) tyX4 tyX4_ok hown (hts (.classLink RX10 16 RX4) (List.mem_of_getElem? (i := 8) rfl)) (hts (.instantiable RX4 3) (List.mem_of_getElem? (i := 26) rfl)) (hts (.initialized RX4) (List.mem_of_getElem? (i := 27) rfl)) hK hH hS (n0 := 1) hz rfl (by decide) 33 3 (by rfl) (by rw [h32]; rfl) rfl (by decide +kernel) (Nat.le_of_ble_eq_true rfl) (Nat.le_of_ble_eq_true rfl) dX10_init_87 (fun H hH hS => ?_)
  refine lv_dup hx hb dX10_init_90 rfl ?_
  refine W.sz (fun hle => ?_)
  have hzn : H.size = G.2.2.2 + 96 := zsize (n0 := 1) hH (by decide) hz rfl hle
  refine va_callv (va_runIN (As := []) (rest := [.ref (zad G.2.2.2 33 3), .int 3, .ref (zad G.2.2.2 5 0)]) ⟨hx, hb, hml, hown, hts⟩ (cz_X4_init_3 l G F30 _) ⟨va_cnB (host := "BallotFoundry") 0 hts ggX10_init_X4_init rfl rfl rfl (hG.2.1 ("BallotFoundry", 54, ⟨"BallotFoundry$Person", "<init>", "()V"⟩, "BallotFoundry") (List.mem_of_getElem? (i := 6) rfl)) (hts (.initialized RX4) (List.mem_of_getElem? (i := 27) rfl)) (by decide +kernel) ⟨Nat.le_of_ble_eq_true rfl, Nat.le_of_ble_eq_true rfl⟩, rfl, hts (.instanceMethod yX4_init) (List.mem_of_getElem? (i := 137) rfl)⟩ ⟨fun a U g mk h => ⟨h.1, zD_blind h.2.1, h.2.2⟩, fun U hU hW => ⟨rfl, zD_at hK hG hZ hH hzn hS hU hW, q⟩⟩ rfl rfl hl.1 rfl (lv_room (Nat.le_of_ble_eq_true rfl)) dX10_init_91 ⟨Nat.le_of_ble_eq_true rfl, Nat.le_of_ble_eq_true rfl⟩) hS (fun _ _ h => h) (fun _ h => h) (fun F33 t H locs ht hvm q hB1 hzz hk hS => ?_)
  have hH : zH G 96 F33 H := zH_to ht hB1
  refine z_aast hx hb hK hH hS 5 0 5 (by rfl) 5 33 3 95 20 8 (by rfl) (r := (RX4, TX4, 3)) rfl rfl rfl rfl (by unfold vp_in; decide) (zaast_5 3 (by decide) rfl) dX10_init_94 (fun H locs hH hS => ?_)
  obtain ⟨F34, eF34⟩ : ∃ z, z = fs F33 5 0 (3 : Int32).toNatClampNeg 1 := ⟨_, rfl⟩
  have q := q F34 eF34
  rw [← eF34] at hH
  refine lv_iinc (v := 4) (lv' := [(1, .int 4), (0, .ref (zad G.2.2.2 0 0))]) hx hb dX10_init_95 hl (k := 0) rfl (by decide) (by decide) rfl (fun ls hl => ?_)
  refine lv_goto (tgt := 76) hx hb dX10_init_98 (by decide) ?_
  refine lv_iload_n hx hb dX10_init_76 rfl (lv_at hl 0 rfl) ?_
  refine lv_bipush (v := 20) hx hb dX10_init_77 (by decide) ?_
  refine lv_icmp_ge (tgt := 101) hx hb dX10_init_79 (by decide) (fun c1 => absurd c1 (by decide)) (fun _ => ?_)
  refine lv_aload_n hx hb dX10_init_82 rfl (lv_at hl 1 rfl) ?_
  obtain ⟨h35, q⟩ := q
  refine z_get (ci := 14) (v := .ref (zad G.2.2.2 5 0)) (C := RX10) (T := TX10) (N := 8) (fs0 := [zv (F34 0 0 0) (zad G.2.2.2 1 0), .ref (zad G.2.2.2 5 0), .int (F34 0 0 2), zv (F34 0 0 3) (zad G.2.2.2 6 0), zv (F34 0 0 4) (zad G.2.2.2 9 0), .int (F34 0 0 5), zv (F34 0 0 6) (zad G.2.2.2 10 0), zv (F34 0 0 7) (zad G.2.2.2 27 0)]) hx hb hts (fun _ h => (List.mem_cons_of_mem _ (List.mem_append_left _ (List.mem_append_left _ (List.mem_append_left _ (List.mem_append_left _ (List.mem_append_left _ (List.mem_append_left _ (List.mem_append_left _ (List.mem_append_left _ (List.mem_append_left _ (List.mem_append_right _ h)))))))))))) hown hK hH 0 0 0 (by rfl) (by show Sum.inr (14, [zv (F34 0 0 0) (zad G.2.2.2 1 0), zv (F34 0 0 1) (zad G.2.2.2 5 0), Value.int (F34 0 0 2), zv (F34 0 0 3) (zad G.2.2.2 6 0), zv (F34 0 0 4) (zad G.2.2.2 9 0), Value.int (F34 0 0 5), zv (F34 0 0 6) (zad G.2.2.2 10 0), zv (F34 0 0 7) (zad G.2.2.2 27 0)]) = _; rw [h35]; rfl) rfl 1 (by decide) (hts (.fieldLink RX10 18 "BallotFoundry" "people" "[LBallotFoundry$Person;") (List.mem_of_getElem? (i := 9) rfl)) (fun _ h => h) rfl dX10_init_83 ?_
  refine lv_iload_n hx hb dX10_init_86 rfl (lv_at hl 0 rfl) ?_
  obtain ⟨h36, q⟩ := q
  refine z_new (ci := 8) (C := RX4) (T := TX4) (N := 3) (fs0 := [.int 0, .null, .int 0]) hx hb hts (fun _ h => (List.mem_cons_of_mem _ (List.mem_append_left _ (List.mem_append_left _ (List.mem_append_left _ (List.mem_append_left _ (List.mem_append_left _ (List.mem_append_right _ h)))))))) tyX4 tyX4_ok hown (hts (.classLink RX10 16 RX4) (List.mem_of_getElem? (i := 8) rfl)) (hts (.instantiable RX4 3) (List.mem_of_getElem? (i := 26) rfl)) (hts (.initialized RX4) (List.mem_of_getElem? (i := 27) rfl)) hK hH hS (n0 := 1) hz rfl (by decide) 33 4 (by rfl) (by rw [h36]; rfl) rfl (by decide +kernel) (Nat.le_of_ble_eq_true rfl) (Nat.le_of_ble_eq_true rfl) dX10_init_87 (fun H hH hS => ?_)
  refine lv_dup hx hb dX10_init_90 rfl ?_
  refine W.sz (fun hle => ?_)
  have hzn : H.size = G.2.2.2 + 97 := zsize (n0 := 1) hH (by decide) hz rfl hle
  refine va_callv (va_runIN (As := []) (rest := [.ref (zad G.2.2.2 33 4), .int 4, .ref (zad G.2.2.2 5 0)]) ⟨hx, hb, hml, hown, hts⟩ (cz_X4_init_4 l G F34 _) ⟨va_cnB (host := "BallotFoundry") 0 hts ggX10_init_X4_init rfl rfl rfl (hG.2.1 ("BallotFoundry", 54, ⟨"BallotFoundry$Person", "<init>", "()V"⟩, "BallotFoundry") (List.mem_of_getElem? (i := 6) rfl)) (hts (.initialized RX4) (List.mem_of_getElem? (i := 27) rfl)) (by decide +kernel) ⟨Nat.le_of_ble_eq_true rfl, Nat.le_of_ble_eq_true rfl⟩, rfl, hts (.instanceMethod yX4_init) (List.mem_of_getElem? (i := 137) rfl)⟩ ⟨fun a U g mk h => ⟨h.1, zD_blind h.2.1, h.2.2⟩, fun U hU hW => ⟨rfl, zD_at hK hG hZ hH hzn hS hU hW, q⟩⟩ rfl rfl hl.1 rfl (lv_room (Nat.le_of_ble_eq_true rfl)) dX10_init_91 ⟨Nat.le_of_ble_eq_true rfl, Nat.le_of_ble_eq_true rfl⟩) hS (fun _ _ h => h) (fun _ h => h) (fun F37 t H locs ht hvm q hB1 hzz hk hS => ?_)
  have hH : zH G 97 F37 H := zH_to ht hB1
  refine z_aast hx hb hK hH hS 5 0 5 (by rfl) 5 33 4 96 20 8 (by rfl) (r := (RX4, TX4, 3)) rfl rfl rfl rfl (by unfold vp_in; decide) (zaast_5 4 (by decide) rfl) dX10_init_94 (fun H locs hH hS => ?_)
  obtain ⟨F38, eF38⟩ : ∃ z, z = fs F37 5 0 (4 : Int32).toNatClampNeg 1 := ⟨_, rfl⟩
  have q := q F38 eF38
  rw [← eF38] at hH
  refine lv_iinc (v := 5) (lv' := [(1, .int 5), (0, .ref (zad G.2.2.2 0 0))]) hx hb dX10_init_95 hl (k := 0) rfl (by decide) (by decide) rfl (fun ls hl => ?_)
  refine lv_goto (tgt := 76) hx hb dX10_init_98 (by decide) ?_
  refine lv_iload_n hx hb dX10_init_76 rfl (lv_at hl 0 rfl) ?_
  refine lv_bipush (v := 20) hx hb dX10_init_77 (by decide) ?_
  refine lv_icmp_ge (tgt := 101) hx hb dX10_init_79 (by decide) (fun c1 => absurd c1 (by decide)) (fun _ => ?_)
  refine lv_aload_n hx hb dX10_init_82 rfl (lv_at hl 1 rfl) ?_
  obtain ⟨h39, q⟩ := q
  refine z_get (ci := 14) (v := .ref (zad G.2.2.2 5 0)) (C := RX10) (T := TX10) (N := 8) (fs0 := [zv (F38 0 0 0) (zad G.2.2.2 1 0), .ref (zad G.2.2.2 5 0), .int (F38 0 0 2), zv (F38 0 0 3) (zad G.2.2.2 6 0), zv (F38 0 0 4) (zad G.2.2.2 9 0), .int (F38 0 0 5), zv (F38 0 0 6) (zad G.2.2.2 10 0), zv (F38 0 0 7) (zad G.2.2.2 27 0)]) hx hb hts (fun _ h => (List.mem_cons_of_mem _ (List.mem_append_left _ (List.mem_append_left _ (List.mem_append_left _ (List.mem_append_left _ (List.mem_append_left _ (List.mem_append_left _ (List.mem_append_left _ (List.mem_append_left _ (List.mem_append_left _ (List.mem_append_right _ h)))))))))))) hown hK hH 0 0 0 (by rfl) (by show Sum.inr (14, [zv (F38 0 0 0) (zad G.2.2.2 1 0), zv (F38 0 0 1) (zad G.2.2.2 5 0), Value.int (F38 0 0 2), zv (F38 0 0 3) (zad G.2.2.2 6 0), zv (F38 0 0 4) (zad G.2.2.2 9 0), Value.int (F38 0 0 5), zv (F38 0 0 6) (zad G.2.2.2 10 0), zv (F38 0 0 7) (zad G.2.2.2 27 0)]) = _; rw [h39]; rfl) rfl 1 (by decide) (hts (.fieldLink RX10 18 "BallotFoundry" "people" "[LBallotFoundry$Person;") (List.mem_of_getElem? (i := 9) rfl)) (fun _ h => h) rfl dX10_init_83 ?_
  refine lv_iload_n hx hb dX10_init_86 rfl (lv_at hl 0 rfl) ?_
  obtain ⟨h40, q⟩ := q
  refine z_new (ci := 8) (C := RX4) (T := TX4) (N := 3) (fs0 := [.int 0, .null, .int 0]) hx hb hts (fun _ h => (List.mem_cons_of_mem _ (List.mem_append_left _ (List.mem_append_left _ (List.mem_append_left _ (List.mem_append_left _ (List.mem_append_left _ (List.mem_append_right _ h)))))))) tyX4 tyX4_ok hown (hts (.classLink RX10 16 RX4) (List.mem_of_getElem? (i := 8) rfl)) (hts (.instantiable RX4 3) (List.mem_of_getElem? (i := 26) rfl)) (hts (.initialized RX4) (List.mem_of_getElem? (i := 27) rfl)) hK hH hS (n0 := 1) hz rfl (by decide) 33 5 (by rfl) (by rw [h40]; rfl) rfl (by decide +kernel) (Nat.le_of_ble_eq_true rfl) (Nat.le_of_ble_eq_true rfl) dX10_init_87 (fun H hH hS => ?_)
  refine lv_dup hx hb dX10_init_90 rfl ?_
  refine W.sz (fun hle => ?_)
  have hzn : H.size = G.2.2.2 + 98 := zsize (n0 := 1) hH (by decide) hz rfl hle
  refine va_callv (va_runIN (As := []) (rest := [.ref (zad G.2.2.2 33 5), .int 5, .ref (zad G.2.2.2 5 0)]) ⟨hx, hb, hml, hown, hts⟩ (cz_X4_init_5 l G F38 _) ⟨va_cnB (host := "BallotFoundry") 0 hts ggX10_init_X4_init rfl rfl rfl (hG.2.1 ("BallotFoundry", 54, ⟨"BallotFoundry$Person", "<init>", "()V"⟩, "BallotFoundry") (List.mem_of_getElem? (i := 6) rfl)) (hts (.initialized RX4) (List.mem_of_getElem? (i := 27) rfl)) (by decide +kernel) ⟨Nat.le_of_ble_eq_true rfl, Nat.le_of_ble_eq_true rfl⟩, rfl, hts (.instanceMethod yX4_init) (List.mem_of_getElem? (i := 137) rfl)⟩ ⟨fun a U g mk h => ⟨h.1, zD_blind h.2.1, h.2.2⟩, fun U hU hW => ⟨rfl, zD_at hK hG hZ hH hzn hS hU hW, q⟩⟩ rfl rfl hl.1 rfl (lv_room (Nat.le_of_ble_eq_true rfl)) dX10_init_91 ⟨Nat.le_of_ble_eq_true rfl, Nat.le_of_ble_eq_true rfl⟩) hS (fun _ _ h => h) (fun _ h => h) (fun F41 t H locs ht hvm q hB1 hzz hk hS => ?_)
  have hH : zH G 98 F41 H := zH_to ht hB1
  refine z_aast hx hb hK hH hS 5 0 5 (by rfl) 5 33 5 97 20 8 (by rfl) (r := (RX4, TX4, 3)) rfl rfl rfl rfl (by unfold vp_in; decide) (zaast_5 5 (by decide) rfl) dX10_init_94 (fun H locs hH hS => ?_)
  obtain ⟨F42, eF42⟩ : ∃ z, z = fs F41 5 0 (5 : Int32).toNatClampNeg 1 := ⟨_, rfl⟩
  have q := q F42 eF42
  rw [← eF42] at hH
  refine lv_iinc (v := 6) (lv' := [(1, .int 6), (0, .ref (zad G.2.2.2 0 0))]) hx hb dX10_init_95 hl (k := 0) rfl (by decide) (by decide) rfl (fun ls hl => ?_)
  refine lv_goto (tgt := 76) hx hb dX10_init_98 (by decide) ?_
  refine lv_iload_n hx hb dX10_init_76 rfl (lv_at hl 0 rfl) ?_
  refine lv_bipush (v := 20) hx hb dX10_init_77 (by decide) ?_
  refine lv_icmp_ge (tgt := 101) hx hb dX10_init_79 (by decide) (fun c1 => absurd c1 (by decide)) (fun _ => ?_)
  refine lv_aload_n hx hb dX10_init_82 rfl (lv_at hl 1 rfl) ?_
  obtain ⟨h43, q⟩ := q
  refine z_get (ci := 14) (v := .ref (zad G.2.2.2 5 0)) (C := RX10) (T := TX10) (N := 8) (fs0 := [zv (F42 0 0 0) (zad G.2.2.2 1 0), .ref (zad G.2.2.2 5 0), .int (F42 0 0 2), zv (F42 0 0 3) (zad G.2.2.2 6 0), zv (F42 0 0 4) (zad G.2.2.2 9 0), .int (F42 0 0 5), zv (F42 0 0 6) (zad G.2.2.2 10 0), zv (F42 0 0 7) (zad G.2.2.2 27 0)]) hx hb hts (fun _ h => (List.mem_cons_of_mem _ (List.mem_append_left _ (List.mem_append_left _ (List.mem_append_left _ (List.mem_append_left _ (List.mem_append_left _ (List.mem_append_left _ (List.mem_append_left _ (List.mem_append_left _ (List.mem_append_left _ (List.mem_append_right _ h)))))))))))) hown hK hH 0 0 0 (by rfl) (by show Sum.inr (14, [zv (F42 0 0 0) (zad G.2.2.2 1 0), zv (F42 0 0 1) (zad G.2.2.2 5 0), Value.int (F42 0 0 2), zv (F42 0 0 3) (zad G.2.2.2 6 0), zv (F42 0 0 4) (zad G.2.2.2 9 0), Value.int (F42 0 0 5), zv (F42 0 0 6) (zad G.2.2.2 10 0), zv (F42 0 0 7) (zad G.2.2.2 27 0)]) = _; rw [h43]; rfl) rfl 1 (by decide) (hts (.fieldLink RX10 18 "BallotFoundry" "people" "[LBallotFoundry$Person;") (List.mem_of_getElem? (i := 9) rfl)) (fun _ h => h) rfl dX10_init_83 ?_
  refine lv_iload_n hx hb dX10_init_86 rfl (lv_at hl 0 rfl) ?_
  obtain ⟨h44, q⟩ := q
  refine z_new (ci := 8) (C := RX4) (T := TX4) (N := 3) (fs0 := [.int 0, .null, .int 0]) hx hb hts (fun _ h => (List.mem_cons_of_mem _ (List.mem_append_left _ (List.mem_append_left _ (List.mem_append_left _ (List.mem_append_left _ (List.mem_append_left _ (List.mem_append_right _ h)))))))) tyX4 tyX4_ok hown (hts (.classLink RX10 16 RX4) (List.mem_of_getElem? (i := 8) rfl)) (hts (.instantiable RX4 3) (List.mem_of_getElem? (i := 26) rfl)) (hts (.initialized RX4) (List.mem_of_getElem? (i := 27) rfl)) hK hH hS (n0 := 1) hz rfl (by decide) 33 6 (by rfl) (by rw [h44]; rfl) rfl (by decide +kernel) (Nat.le_of_ble_eq_true rfl) (Nat.le_of_ble_eq_true rfl) dX10_init_87 (fun H hH hS => ?_)
  refine lv_dup hx hb dX10_init_90 rfl ?_
  refine W.sz (fun hle => ?_)
  have hzn : H.size = G.2.2.2 + 99 := zsize (n0 := 1) hH (by decide) hz rfl hle
  refine va_callv (va_runIN (As := []) (rest := [.ref (zad G.2.2.2 33 6), .int 6, .ref (zad G.2.2.2 5 0)]) ⟨hx, hb, hml, hown, hts⟩ (cz_X4_init_6 l G F42 _) ⟨va_cnB (host := "BallotFoundry") 0 hts ggX10_init_X4_init rfl rfl rfl (hG.2.1 ("BallotFoundry", 54, ⟨"BallotFoundry$Person", "<init>", "()V"⟩, "BallotFoundry") (List.mem_of_getElem? (i := 6) rfl)) (hts (.initialized RX4) (List.mem_of_getElem? (i := 27) rfl)) (by decide +kernel) ⟨Nat.le_of_ble_eq_true rfl, Nat.le_of_ble_eq_true rfl⟩, rfl, hts (.instanceMethod yX4_init) (List.mem_of_getElem? (i := 137) rfl)⟩ ⟨fun a U g mk h => ⟨h.1, zD_blind h.2.1, h.2.2⟩, fun U hU hW => ⟨rfl, zD_at hK hG hZ hH hzn hS hU hW, q⟩⟩ rfl rfl hl.1 rfl (lv_room (Nat.le_of_ble_eq_true rfl)) dX10_init_91 ⟨Nat.le_of_ble_eq_true rfl, Nat.le_of_ble_eq_true rfl⟩) hS (fun _ _ h => h) (fun _ h => h) (fun F45 t H locs ht hvm q hB1 hzz hk hS => ?_)
  have hH : zH G 99 F45 H := zH_to ht hB1
  refine z_aast hx hb hK hH hS 5 0 5 (by rfl) 5 33 6 98 20 8 (by rfl) (r := (RX4, TX4, 3)) rfl rfl rfl rfl (by unfold vp_in; decide) (zaast_5 6 (by decide) rfl) dX10_init_94 (fun H locs hH hS => ?_)
  obtain ⟨F46, eF46⟩ : ∃ z, z = fs F45 5 0 (6 : Int32).toNatClampNeg 1 := ⟨_, rfl⟩
  have q := q F46 eF46
  rw [← eF46] at hH
  refine lv_iinc (v := 7) (lv' := [(1, .int 7), (0, .ref (zad G.2.2.2 0 0))]) hx hb dX10_init_95 hl (k := 0) rfl (by decide) (by decide) rfl (fun ls hl => ?_)
  refine lv_goto (tgt := 76) hx hb dX10_init_98 (by decide) ?_
  refine lv_iload_n hx hb dX10_init_76 rfl (lv_at hl 0 rfl) ?_
  refine lv_bipush (v := 20) hx hb dX10_init_77 (by decide) ?_
  refine lv_icmp_ge (tgt := 101) hx hb dX10_init_79 (by decide) (fun c1 => absurd c1 (by decide)) (fun _ => ?_)
  refine lv_aload_n hx hb dX10_init_82 rfl (lv_at hl 1 rfl) ?_
  obtain ⟨h47, q⟩ := q
  refine z_get (ci := 14) (v := .ref (zad G.2.2.2 5 0)) (C := RX10) (T := TX10) (N := 8) (fs0 := [zv (F46 0 0 0) (zad G.2.2.2 1 0), .ref (zad G.2.2.2 5 0), .int (F46 0 0 2), zv (F46 0 0 3) (zad G.2.2.2 6 0), zv (F46 0 0 4) (zad G.2.2.2 9 0), .int (F46 0 0 5), zv (F46 0 0 6) (zad G.2.2.2 10 0), zv (F46 0 0 7) (zad G.2.2.2 27 0)]) hx hb hts (fun _ h => (List.mem_cons_of_mem _ (List.mem_append_left _ (List.mem_append_left _ (List.mem_append_left _ (List.mem_append_left _ (List.mem_append_left _ (List.mem_append_left _ (List.mem_append_left _ (List.mem_append_left _ (List.mem_append_left _ (List.mem_append_right _ h)))))))))))) hown hK hH 0 0 0 (by rfl) (by show Sum.inr (14, [zv (F46 0 0 0) (zad G.2.2.2 1 0), zv (F46 0 0 1) (zad G.2.2.2 5 0), Value.int (F46 0 0 2), zv (F46 0 0 3) (zad G.2.2.2 6 0), zv (F46 0 0 4) (zad G.2.2.2 9 0), Value.int (F46 0 0 5), zv (F46 0 0 6) (zad G.2.2.2 10 0), zv (F46 0 0 7) (zad G.2.2.2 27 0)]) = _; rw [h47]; rfl) rfl 1 (by decide) (hts (.fieldLink RX10 18 "BallotFoundry" "people" "[LBallotFoundry$Person;") (List.mem_of_getElem? (i := 9) rfl)) (fun _ h => h) rfl dX10_init_83 ?_
  refine lv_iload_n hx hb dX10_init_86 rfl (lv_at hl 0 rfl) ?_
  obtain ⟨h48, q⟩ := q
  refine z_new (ci := 8) (C := RX4) (T := TX4) (N := 3) (fs0 := [.int 0, .null, .int 0]) hx hb hts (fun _ h => (List.mem_cons_of_mem _ (List.mem_append_left _ (List.mem_append_left _ (List.mem_append_left _ (List.mem_append_left _ (List.mem_append_left _ (List.mem_append_right _ h)))))))) tyX4 tyX4_ok hown (hts (.classLink RX10 16 RX4) (List.mem_of_getElem? (i := 8) rfl)) (hts (.instantiable RX4 3) (List.mem_of_getElem? (i := 26) rfl)) (hts (.initialized RX4) (List.mem_of_getElem? (i := 27) rfl)) hK hH hS (n0 := 1) hz rfl (by decide) 33 7 (by rfl) (by rw [h48]; rfl) rfl (by decide +kernel) (Nat.le_of_ble_eq_true rfl) (Nat.le_of_ble_eq_true rfl) dX10_init_87 (fun H hH hS => ?_)
  refine lv_dup hx hb dX10_init_90 rfl ?_
  refine W.sz (fun hle => ?_)
  have hzn : H.size = G.2.2.2 + 100 := zsize (n0 := 1) hH (by decide) hz rfl hle
  refine va_callv (va_runIN (As := []) (rest := [.ref (zad G.2.2.2 33 7), .int 7, .ref (zad G.2.2.2 5 0)]) ⟨hx, hb, hml, hown, hts⟩ (cz_X4_init_7 l G F46 _) ⟨va_cnB (host := "BallotFoundry") 0 hts ggX10_init_X4_init rfl rfl rfl (hG.2.1 ("BallotFoundry", 54, ⟨"BallotFoundry$Person", "<init>", "()V"⟩, "BallotFoundry") (List.mem_of_getElem? (i := 6) rfl)) (hts (.initialized RX4) (List.mem_of_getElem? (i := 27) rfl)) (by decide +kernel) ⟨Nat.le_of_ble_eq_true rfl, Nat.le_of_ble_eq_true rfl⟩, rfl, hts (.instanceMethod yX4_init) (List.mem_of_getElem? (i := 137) rfl)⟩ ⟨fun a U g mk h => ⟨h.1, zD_blind h.2.1, h.2.2⟩, fun U hU hW => ⟨rfl, zD_at hK hG hZ hH hzn hS hU hW, q⟩⟩ rfl rfl hl.1 rfl (lv_room (Nat.le_of_ble_eq_true rfl)) dX10_init_91 ⟨Nat.le_of_ble_eq_true rfl, Nat.le_of_ble_eq_true rfl⟩) hS (fun _ _ h => h) (fun _ h => h) (fun F49 t H locs ht hvm q hB1 hzz hk hS => ?_)
  have hH : zH G 100 F49 H := zH_to ht hB1
  refine z_aast hx hb hK hH hS 5 0 5 (by rfl) 5 33 7 99 20 8 (by rfl) (r := (RX4, TX4, 3)) rfl rfl rfl rfl (by unfold vp_in; decide) (zaast_5 7 (by decide) rfl) dX10_init_94 (fun H locs hH hS => ?_)
  obtain ⟨F50, eF50⟩ : ∃ z, z = fs F49 5 0 (7 : Int32).toNatClampNeg 1 := ⟨_, rfl⟩
  have q := q F50 eF50
  rw [← eF50] at hH
  refine lv_iinc (v := 8) (lv' := [(1, .int 8), (0, .ref (zad G.2.2.2 0 0))]) hx hb dX10_init_95 hl (k := 0) rfl (by decide) (by decide) rfl (fun ls hl => ?_)
  refine lv_goto (tgt := 76) hx hb dX10_init_98 (by decide) ?_
  refine lv_iload_n hx hb dX10_init_76 rfl (lv_at hl 0 rfl) ?_
  refine lv_bipush (v := 20) hx hb dX10_init_77 (by decide) ?_
  refine lv_icmp_ge (tgt := 101) hx hb dX10_init_79 (by decide) (fun c1 => absurd c1 (by decide)) (fun _ => ?_)
  refine lv_aload_n hx hb dX10_init_82 rfl (lv_at hl 1 rfl) ?_
  obtain ⟨h51, q⟩ := q
  refine z_get (ci := 14) (v := .ref (zad G.2.2.2 5 0)) (C := RX10) (T := TX10) (N := 8) (fs0 := [zv (F50 0 0 0) (zad G.2.2.2 1 0), .ref (zad G.2.2.2 5 0), .int (F50 0 0 2), zv (F50 0 0 3) (zad G.2.2.2 6 0), zv (F50 0 0 4) (zad G.2.2.2 9 0), .int (F50 0 0 5), zv (F50 0 0 6) (zad G.2.2.2 10 0), zv (F50 0 0 7) (zad G.2.2.2 27 0)]) hx hb hts (fun _ h => (List.mem_cons_of_mem _ (List.mem_append_left _ (List.mem_append_left _ (List.mem_append_left _ (List.mem_append_left _ (List.mem_append_left _ (List.mem_append_left _ (List.mem_append_left _ (List.mem_append_left _ (List.mem_append_left _ (List.mem_append_right _ h)))))))))))) hown hK hH 0 0 0 (by rfl) (by show Sum.inr (14, [zv (F50 0 0 0) (zad G.2.2.2 1 0), zv (F50 0 0 1) (zad G.2.2.2 5 0), Value.int (F50 0 0 2), zv (F50 0 0 3) (zad G.2.2.2 6 0), zv (F50 0 0 4) (zad G.2.2.2 9 0), Value.int (F50 0 0 5), zv (F50 0 0 6) (zad G.2.2.2 10 0), zv (F50 0 0 7) (zad G.2.2.2 27 0)]) = _; rw [h51]; rfl) rfl 1 (by decide) (hts (.fieldLink RX10 18 "BallotFoundry" "people" "[LBallotFoundry$Person;") (List.mem_of_getElem? (i := 9) rfl)) (fun _ h => h) rfl dX10_init_83 ?_
  refine lv_iload_n hx hb dX10_init_86 rfl (lv_at hl 0 rfl) ?_
  obtain ⟨h52, q⟩ := q
  refine z_new (ci := 8) (C := RX4) (T := TX4) (N := 3) (fs0 := [.int 0, .null, .int 0]) hx hb hts (fun _ h => (List.mem_cons_of_mem _ (List.mem_append_left _ (List.mem_append_left _ (List.mem_append_left _ (List.mem_append_left _ (List.mem_append_left _ (List.mem_append_right _ h)))))))) tyX4 tyX4_ok hown (hts (.classLink RX10 16 RX4) (List.mem_of_getElem? (i := 8) rfl)) (hts (.instantiable RX4 3) (List.mem_of_getElem? (i := 26) rfl)) (hts (.initialized RX4) (List.mem_of_getElem? (i := 27) rfl)) hK hH hS (n0 := 1) hz rfl (by decide) 33 8 (by rfl) (by rw [h52]; rfl) rfl (by decide +kernel) (Nat.le_of_ble_eq_true rfl) (Nat.le_of_ble_eq_true rfl) dX10_init_87 (fun H hH hS => ?_)
  refine lv_dup hx hb dX10_init_90 rfl ?_
  refine W.sz (fun hle => ?_)
  have hzn : H.size = G.2.2.2 + 101 := zsize (n0 := 1) hH (by decide) hz rfl hle
  refine va_callv (va_runIN (As := []) (rest := [.ref (zad G.2.2.2 33 8), .int 8, .ref (zad G.2.2.2 5 0)]) ⟨hx, hb, hml, hown, hts⟩ (cz_X4_init_8 l G F50 _) ⟨va_cnB (host := "BallotFoundry") 0 hts ggX10_init_X4_init rfl rfl rfl (hG.2.1 ("BallotFoundry", 54, ⟨"BallotFoundry$Person", "<init>", "()V"⟩, "BallotFoundry") (List.mem_of_getElem? (i := 6) rfl)) (hts (.initialized RX4) (List.mem_of_getElem? (i := 27) rfl)) (by decide +kernel) ⟨Nat.le_of_ble_eq_true rfl, Nat.le_of_ble_eq_true rfl⟩, rfl, hts (.instanceMethod yX4_init) (List.mem_of_getElem? (i := 137) rfl)⟩ ⟨fun a U g mk h => ⟨h.1, zD_blind h.2.1, h.2.2⟩, fun U hU hW => ⟨rfl, zD_at hK hG hZ hH hzn hS hU hW, q⟩⟩ rfl rfl hl.1 rfl (lv_room (Nat.le_of_ble_eq_true rfl)) dX10_init_91 ⟨Nat.le_of_ble_eq_true rfl, Nat.le_of_ble_eq_true rfl⟩) hS (fun _ _ h => h) (fun _ h => h) (fun F53 t H locs ht hvm q hB1 hzz hk hS => ?_)
  have hH : zH G 101 F53 H := zH_to ht hB1
  refine z_aast hx hb hK hH hS 5 0 5 (by rfl) 5 33 8 100 20 8 (by rfl) (r := (RX4, TX4, 3)) rfl rfl rfl rfl (by unfold vp_in; decide) (zaast_5 8 (by decide) rfl) dX10_init_94 (fun H locs hH hS => ?_)
  obtain ⟨F54, eF54⟩ : ∃ z, z = fs F53 5 0 (8 : Int32).toNatClampNeg 1 := ⟨_, rfl⟩
  have q := q F54 eF54
  rw [← eF54] at hH
  refine lv_iinc (v := 9) (lv' := [(1, .int 9), (0, .ref (zad G.2.2.2 0 0))]) hx hb dX10_init_95 hl (k := 0) rfl (by decide) (by decide) rfl (fun ls hl => ?_)
  refine lv_goto (tgt := 76) hx hb dX10_init_98 (by decide) ?_
  refine lv_iload_n hx hb dX10_init_76 rfl (lv_at hl 0 rfl) ?_
  refine lv_bipush (v := 20) hx hb dX10_init_77 (by decide) ?_
  refine lv_icmp_ge (tgt := 101) hx hb dX10_init_79 (by decide) (fun c1 => absurd c1 (by decide)) (fun _ => ?_)
  refine lv_aload_n hx hb dX10_init_82 rfl (lv_at hl 1 rfl) ?_
  obtain ⟨h55, q⟩ := q
  refine z_get (ci := 14) (v := .ref (zad G.2.2.2 5 0)) (C := RX10) (T := TX10) (N := 8) (fs0 := [zv (F54 0 0 0) (zad G.2.2.2 1 0), .ref (zad G.2.2.2 5 0), .int (F54 0 0 2), zv (F54 0 0 3) (zad G.2.2.2 6 0), zv (F54 0 0 4) (zad G.2.2.2 9 0), .int (F54 0 0 5), zv (F54 0 0 6) (zad G.2.2.2 10 0), zv (F54 0 0 7) (zad G.2.2.2 27 0)]) hx hb hts (fun _ h => (List.mem_cons_of_mem _ (List.mem_append_left _ (List.mem_append_left _ (List.mem_append_left _ (List.mem_append_left _ (List.mem_append_left _ (List.mem_append_left _ (List.mem_append_left _ (List.mem_append_left _ (List.mem_append_left _ (List.mem_append_right _ h)))))))))))) hown hK hH 0 0 0 (by rfl) (by show Sum.inr (14, [zv (F54 0 0 0) (zad G.2.2.2 1 0), zv (F54 0 0 1) (zad G.2.2.2 5 0), Value.int (F54 0 0 2), zv (F54 0 0 3) (zad G.2.2.2 6 0), zv (F54 0 0 4) (zad G.2.2.2 9 0), Value.int (F54 0 0 5), zv (F54 0 0 6) (zad G.2.2.2 10 0), zv (F54 0 0 7) (zad G.2.2.2 27 0)]) = _; rw [h55]; rfl) rfl 1 (by decide) (hts (.fieldLink RX10 18 "BallotFoundry" "people" "[LBallotFoundry$Person;") (List.mem_of_getElem? (i := 9) rfl)) (fun _ h => h) rfl dX10_init_83 ?_
  refine lv_iload_n hx hb dX10_init_86 rfl (lv_at hl 0 rfl) ?_
  obtain ⟨h56, q⟩ := q
  refine z_new (ci := 8) (C := RX4) (T := TX4) (N := 3) (fs0 := [.int 0, .null, .int 0]) hx hb hts (fun _ h => (List.mem_cons_of_mem _ (List.mem_append_left _ (List.mem_append_left _ (List.mem_append_left _ (List.mem_append_left _ (List.mem_append_left _ (List.mem_append_right _ h)))))))) tyX4 tyX4_ok hown (hts (.classLink RX10 16 RX4) (List.mem_of_getElem? (i := 8) rfl)) (hts (.instantiable RX4 3) (List.mem_of_getElem? (i := 26) rfl)) (hts (.initialized RX4) (List.mem_of_getElem? (i := 27) rfl)) hK hH hS (n0 := 1) hz rfl (by decide) 33 9 (by rfl) (by rw [h56]; rfl) rfl (by decide +kernel) (Nat.le_of_ble_eq_true rfl) (Nat.le_of_ble_eq_true rfl) dX10_init_87 (fun H hH hS => ?_)
  refine lv_dup hx hb dX10_init_90 rfl ?_
  refine W.sz (fun hle => ?_)
  have hzn : H.size = G.2.2.2 + 102 := zsize (n0 := 1) hH (by decide) hz rfl hle
  refine va_callv (va_runIN (As := []) (rest := [.ref (zad G.2.2.2 33 9), .int 9, .ref (zad G.2.2.2 5 0)]) ⟨hx, hb, hml, hown, hts⟩ (cz_X4_init_9 l G F54 _) ⟨va_cnB (host := "BallotFoundry") 0 hts ggX10_init_X4_init rfl rfl rfl (hG.2.1 ("BallotFoundry", 54, ⟨"BallotFoundry$Person", "<init>", "()V"⟩, "BallotFoundry") (List.mem_of_getElem? (i := 6) rfl)) (hts (.initialized RX4) (List.mem_of_getElem? (i := 27) rfl)) (by decide +kernel) ⟨Nat.le_of_ble_eq_true rfl, Nat.le_of_ble_eq_true rfl⟩, rfl, hts (.instanceMethod yX4_init) (List.mem_of_getElem? (i := 137) rfl)⟩ ⟨fun a U g mk h => ⟨h.1, zD_blind h.2.1, h.2.2⟩, fun U hU hW => ⟨rfl, zD_at hK hG hZ hH hzn hS hU hW, q⟩⟩ rfl rfl hl.1 rfl (lv_room (Nat.le_of_ble_eq_true rfl)) dX10_init_91 ⟨Nat.le_of_ble_eq_true rfl, Nat.le_of_ble_eq_true rfl⟩) hS (fun _ _ h => h) (fun _ h => h) (fun F57 t H locs ht hvm q hB1 hzz hk hS => ?_)
  have hH : zH G 102 F57 H := zH_to ht hB1
  refine z_aast hx hb hK hH hS 5 0 5 (by rfl) 5 33 9 101 20 8 (by rfl) (r := (RX4, TX4, 3)) rfl rfl rfl rfl (by unfold vp_in; decide) (zaast_5 9 (by decide) rfl) dX10_init_94 (fun H locs hH hS => ?_)
  obtain ⟨F58, eF58⟩ : ∃ z, z = fs F57 5 0 (9 : Int32).toNatClampNeg 1 := ⟨_, rfl⟩
  have q := q F58 eF58
  rw [← eF58] at hH
  refine lv_iinc (v := 10) (lv' := [(1, .int 10), (0, .ref (zad G.2.2.2 0 0))]) hx hb dX10_init_95 hl (k := 0) rfl (by decide) (by decide) rfl (fun ls hl => ?_)
  refine lv_goto (tgt := 76) hx hb dX10_init_98 (by decide) ?_
  refine lv_iload_n hx hb dX10_init_76 rfl (lv_at hl 0 rfl) ?_
  refine lv_bipush (v := 20) hx hb dX10_init_77 (by decide) ?_
  refine lv_icmp_ge (tgt := 101) hx hb dX10_init_79 (by decide) (fun c1 => absurd c1 (by decide)) (fun _ => ?_)
  refine lv_aload_n hx hb dX10_init_82 rfl (lv_at hl 1 rfl) ?_
  obtain ⟨h59, q⟩ := q
  refine z_get (ci := 14) (v := .ref (zad G.2.2.2 5 0)) (C := RX10) (T := TX10) (N := 8) (fs0 := [zv (F58 0 0 0) (zad G.2.2.2 1 0), .ref (zad G.2.2.2 5 0), .int (F58 0 0 2), zv (F58 0 0 3) (zad G.2.2.2 6 0), zv (F58 0 0 4) (zad G.2.2.2 9 0), .int (F58 0 0 5), zv (F58 0 0 6) (zad G.2.2.2 10 0), zv (F58 0 0 7) (zad G.2.2.2 27 0)]) hx hb hts (fun _ h => (List.mem_cons_of_mem _ (List.mem_append_left _ (List.mem_append_left _ (List.mem_append_left _ (List.mem_append_left _ (List.mem_append_left _ (List.mem_append_left _ (List.mem_append_left _ (List.mem_append_left _ (List.mem_append_left _ (List.mem_append_right _ h)))))))))))) hown hK hH 0 0 0 (by rfl) (by show Sum.inr (14, [zv (F58 0 0 0) (zad G.2.2.2 1 0), zv (F58 0 0 1) (zad G.2.2.2 5 0), Value.int (F58 0 0 2), zv (F58 0 0 3) (zad G.2.2.2 6 0), zv (F58 0 0 4) (zad G.2.2.2 9 0), Value.int (F58 0 0 5), zv (F58 0 0 6) (zad G.2.2.2 10 0), zv (F58 0 0 7) (zad G.2.2.2 27 0)]) = _; rw [h59]; rfl) rfl 1 (by decide) (hts (.fieldLink RX10 18 "BallotFoundry" "people" "[LBallotFoundry$Person;") (List.mem_of_getElem? (i := 9) rfl)) (fun _ h => h) rfl dX10_init_83 ?_
  refine lv_iload_n hx hb dX10_init_86 rfl (lv_at hl 0 rfl) ?_
  obtain ⟨h60, q⟩ := q
  refine z_new (ci := 8) (C := RX4) (T := TX4) (N := 3) (fs0 := [.int 0, .null, .int 0]) hx hb hts (fun _ h => (List.mem_cons_of_mem _ (List.mem_append_left _ (List.mem_append_left _ (List.mem_append_left _ (List.mem_append_left _ (List.mem_append_left _ (List.mem_append_right _ h)))))))) tyX4 tyX4_ok hown (hts (.classLink RX10 16 RX4) (List.mem_of_getElem? (i := 8) rfl)) (hts (.instantiable RX4 3) (List.mem_of_getElem? (i := 26) rfl)) (hts (.initialized RX4) (List.mem_of_getElem? (i := 27) rfl)) hK hH hS (n0 := 1) hz rfl (by decide) 33 10 (by rfl) (by rw [h60]; rfl) rfl (by decide +kernel) (Nat.le_of_ble_eq_true rfl) (Nat.le_of_ble_eq_true rfl) dX10_init_87 (fun H hH hS => ?_)
  refine lv_dup hx hb dX10_init_90 rfl ?_
  refine W.sz (fun hle => ?_)
  have hzn : H.size = G.2.2.2 + 103 := zsize (n0 := 1) hH (by decide) hz rfl hle
  refine va_callv (va_runIN (As := []) (rest := [.ref (zad G.2.2.2 33 10), .int 10, .ref (zad G.2.2.2 5 0)]) ⟨hx, hb, hml, hown, hts⟩ (cz_X4_init_10 l G F58 _) ⟨va_cnB (host := "BallotFoundry") 0 hts ggX10_init_X4_init rfl rfl rfl (hG.2.1 ("BallotFoundry", 54, ⟨"BallotFoundry$Person", "<init>", "()V"⟩, "BallotFoundry") (List.mem_of_getElem? (i := 6) rfl)) (hts (.initialized RX4) (List.mem_of_getElem? (i := 27) rfl)) (by decide +kernel) ⟨Nat.le_of_ble_eq_true rfl, Nat.le_of_ble_eq_true rfl⟩, rfl, hts (.instanceMethod yX4_init) (List.mem_of_getElem? (i := 137) rfl)⟩ ⟨fun a U g mk h => ⟨h.1, zD_blind h.2.1, h.2.2⟩, fun U hU hW => ⟨rfl, zD_at hK hG hZ hH hzn hS hU hW, q⟩⟩ rfl rfl hl.1 rfl (lv_room (Nat.le_of_ble_eq_true rfl)) dX10_init_91 ⟨Nat.le_of_ble_eq_true rfl, Nat.le_of_ble_eq_true rfl⟩) hS (fun _ _ h => h) (fun _ h => h) (fun F61 t H locs ht hvm q hB1 hzz hk hS => ?_)
  have hH : zH G 103 F61 H := zH_to ht hB1
  refine z_aast hx hb hK hH hS 5 0 5 (by rfl) 5 33 10 102 20 8 (by rfl) (r := (RX4, TX4, 3)) rfl rfl rfl rfl (by unfold vp_in; decide) (zaast_5 10 (by decide) rfl) dX10_init_94 (fun H locs hH hS => ?_)
  obtain ⟨F62, eF62⟩ : ∃ z, z = fs F61 5 0 (10 : Int32).toNatClampNeg 1 := ⟨_, rfl⟩
  have q := q F62 eF62
  rw [← eF62] at hH
  refine lv_iinc (v := 11) (lv' := [(1, .int 11), (0, .ref (zad G.2.2.2 0 0))]) hx hb dX10_init_95 hl (k := 0) rfl (by decide) (by decide) rfl (fun ls hl => ?_)
  refine lv_goto (tgt := 76) hx hb dX10_init_98 (by decide) ?_
  refine lv_iload_n hx hb dX10_init_76 rfl (lv_at hl 0 rfl) ?_
  refine lv_bipush (v := 20) hx hb dX10_init_77 (by decide) ?_
  refine lv_icmp_ge (tgt := 101) hx hb dX10_init_79 (by decide) (fun c1 => absurd c1 (by decide)) (fun _ => ?_)
  refine lv_aload_n hx hb dX10_init_82 rfl (lv_at hl 1 rfl) ?_
  obtain ⟨h63, q⟩ := q
  refine z_get (ci := 14) (v := .ref (zad G.2.2.2 5 0)) (C := RX10) (T := TX10) (N := 8) (fs0 := [zv (F62 0 0 0) (zad G.2.2.2 1 0), .ref (zad G.2.2.2 5 0), .int (F62 0 0 2), zv (F62 0 0 3) (zad G.2.2.2 6 0), zv (F62 0 0 4) (zad G.2.2.2 9 0), .int (F62 0 0 5), zv (F62 0 0 6) (zad G.2.2.2 10 0), zv (F62 0 0 7) (zad G.2.2.2 27 0)]) hx hb hts (fun _ h => (List.mem_cons_of_mem _ (List.mem_append_left _ (List.mem_append_left _ (List.mem_append_left _ (List.mem_append_left _ (List.mem_append_left _ (List.mem_append_left _ (List.mem_append_left _ (List.mem_append_left _ (List.mem_append_left _ (List.mem_append_right _ h)))))))))))) hown hK hH 0 0 0 (by rfl) (by show Sum.inr (14, [zv (F62 0 0 0) (zad G.2.2.2 1 0), zv (F62 0 0 1) (zad G.2.2.2 5 0), Value.int (F62 0 0 2), zv (F62 0 0 3) (zad G.2.2.2 6 0), zv (F62 0 0 4) (zad G.2.2.2 9 0), Value.int (F62 0 0 5), zv (F62 0 0 6) (zad G.2.2.2 10 0), zv (F62 0 0 7) (zad G.2.2.2 27 0)]) = _; rw [h63]; rfl) rfl 1 (by decide) (hts (.fieldLink RX10 18 "BallotFoundry" "people" "[LBallotFoundry$Person;") (List.mem_of_getElem? (i := 9) rfl)) (fun _ h => h) rfl dX10_init_83 ?_
  refine lv_iload_n hx hb dX10_init_86 rfl (lv_at hl 0 rfl) ?_
  obtain ⟨h64, q⟩ := q
  refine z_new (ci := 8) (C := RX4) (T := TX4) (N := 3) (fs0 := [.int 0, .null, .int 0]) hx hb hts (fun _ h => (List.mem_cons_of_mem _ (List.mem_append_left _ (List.mem_append_left _ (List.mem_append_left _ (List.mem_append_left _ (List.mem_append_left _ (List.mem_append_right _ h)))))))) tyX4 tyX4_ok hown (hts (.classLink RX10 16 RX4) (List.mem_of_getElem? (i := 8) rfl)) (hts (.instantiable RX4 3) (List.mem_of_getElem? (i := 26) rfl)) (hts (.initialized RX4) (List.mem_of_getElem? (i := 27) rfl)) hK hH hS (n0 := 1) hz rfl (by decide) 33 11 (by rfl) (by rw [h64]; rfl) rfl (by decide +kernel) (Nat.le_of_ble_eq_true rfl) (Nat.le_of_ble_eq_true rfl) dX10_init_87 (fun H hH hS => ?_)
  refine lv_dup hx hb dX10_init_90 rfl ?_
  refine W.sz (fun hle => ?_)
  have hzn : H.size = G.2.2.2 + 104 := zsize (n0 := 1) hH (by decide) hz rfl hle
  refine va_callv (va_runIN (As := []) (rest := [.ref (zad G.2.2.2 33 11), .int 11, .ref (zad G.2.2.2 5 0)]) ⟨hx, hb, hml, hown, hts⟩ (cz_X4_init_11 l G F62 _) ⟨va_cnB (host := "BallotFoundry") 0 hts ggX10_init_X4_init rfl rfl rfl (hG.2.1 ("BallotFoundry", 54, ⟨"BallotFoundry$Person", "<init>", "()V"⟩, "BallotFoundry") (List.mem_of_getElem? (i := 6) rfl)) (hts (.initialized RX4) (List.mem_of_getElem? (i := 27) rfl)) (by decide +kernel) ⟨Nat.le_of_ble_eq_true rfl, Nat.le_of_ble_eq_true rfl⟩, rfl, hts (.instanceMethod yX4_init) (List.mem_of_getElem? (i := 137) rfl)⟩ ⟨fun a U g mk h => ⟨h.1, zD_blind h.2.1, h.2.2⟩, fun U hU hW => ⟨rfl, zD_at hK hG hZ hH hzn hS hU hW, q⟩⟩ rfl rfl hl.1 rfl (lv_room (Nat.le_of_ble_eq_true rfl)) dX10_init_91 ⟨Nat.le_of_ble_eq_true rfl, Nat.le_of_ble_eq_true rfl⟩) hS (fun _ _ h => h) (fun _ h => h) (fun F65 t H locs ht hvm q hB1 hzz hk hS => ?_)
  have hH : zH G 104 F65 H := zH_to ht hB1
  refine z_aast hx hb hK hH hS 5 0 5 (by rfl) 5 33 11 103 20 8 (by rfl) (r := (RX4, TX4, 3)) rfl rfl rfl rfl (by unfold vp_in; decide) (zaast_5 11 (by decide) rfl) dX10_init_94 (fun H locs hH hS => ?_)
  obtain ⟨F66, eF66⟩ : ∃ z, z = fs F65 5 0 (11 : Int32).toNatClampNeg 1 := ⟨_, rfl⟩
  have q := q F66 eF66
  rw [← eF66] at hH
  refine lv_iinc (v := 12) (lv' := [(1, .int 12), (0, .ref (zad G.2.2.2 0 0))]) hx hb dX10_init_95 hl (k := 0) rfl (by decide) (by decide) rfl (fun ls hl => ?_)
  refine lv_goto (tgt := 76) hx hb dX10_init_98 (by decide) ?_
  refine lv_iload_n hx hb dX10_init_76 rfl (lv_at hl 0 rfl) ?_
  refine lv_bipush (v := 20) hx hb dX10_init_77 (by decide) ?_
  refine lv_icmp_ge (tgt := 101) hx hb dX10_init_79 (by decide) (fun c1 => absurd c1 (by decide)) (fun _ => ?_)
  refine lv_aload_n hx hb dX10_init_82 rfl (lv_at hl 1 rfl) ?_
  obtain ⟨h67, q⟩ := q
  refine z_get (ci := 14) (v := .ref (zad G.2.2.2 5 0)) (C := RX10) (T := TX10) (N := 8) (fs0 := [zv (F66 0 0 0) (zad G.2.2.2 1 0), .ref (zad G.2.2.2 5 0), .int (F66 0 0 2), zv (F66 0 0 3) (zad G.2.2.2 6 0), zv (F66 0 0 4) (zad G.2.2.2 9 0), .int (F66 0 0 5), zv (F66 0 0 6) (zad G.2.2.2 10 0), zv (F66 0 0 7) (zad G.2.2.2 27 0)]) hx hb hts (fun _ h => (List.mem_cons_of_mem _ (List.mem_append_left _ (List.mem_append_left _ (List.mem_append_left _ (List.mem_append_left _ (List.mem_append_left _ (List.mem_append_left _ (List.mem_append_left _ (List.mem_append_left _ (List.mem_append_left _ (List.mem_append_right _ h)))))))))))) hown hK hH 0 0 0 (by rfl) (by show Sum.inr (14, [zv (F66 0 0 0) (zad G.2.2.2 1 0), zv (F66 0 0 1) (zad G.2.2.2 5 0), Value.int (F66 0 0 2), zv (F66 0 0 3) (zad G.2.2.2 6 0), zv (F66 0 0 4) (zad G.2.2.2 9 0), Value.int (F66 0 0 5), zv (F66 0 0 6) (zad G.2.2.2 10 0), zv (F66 0 0 7) (zad G.2.2.2 27 0)]) = _; rw [h67]; rfl) rfl 1 (by decide) (hts (.fieldLink RX10 18 "BallotFoundry" "people" "[LBallotFoundry$Person;") (List.mem_of_getElem? (i := 9) rfl)) (fun _ h => h) rfl dX10_init_83 ?_
  refine lv_iload_n hx hb dX10_init_86 rfl (lv_at hl 0 rfl) ?_
  obtain ⟨h68, q⟩ := q
  refine z_new (ci := 8) (C := RX4) (T := TX4) (N := 3) (fs0 := [.int 0, .null, .int 0]) hx hb hts (fun _ h => (List.mem_cons_of_mem _ (List.mem_append_left _ (List.mem_append_left _ (List.mem_append_left _ (List.mem_append_left _ (List.mem_append_left _ (List.mem_append_right _ h)))))))) tyX4 tyX4_ok hown (hts (.classLink RX10 16 RX4) (List.mem_of_getElem? (i := 8) rfl)) (hts (.instantiable RX4 3) (List.mem_of_getElem? (i := 26) rfl)) (hts (.initialized RX4) (List.mem_of_getElem? (i := 27) rfl)) hK hH hS (n0 := 1) hz rfl (by decide) 33 12 (by rfl) (by rw [h68]; rfl) rfl (by decide +kernel) (Nat.le_of_ble_eq_true rfl) (Nat.le_of_ble_eq_true rfl) dX10_init_87 (fun H hH hS => ?_)
  refine lv_dup hx hb dX10_init_90 rfl ?_
  refine W.sz (fun hle => ?_)
  have hzn : H.size = G.2.2.2 + 105 := zsize (n0 := 1) hH (by decide) hz rfl hle
  refine va_callv (va_runIN (As := []) (rest := [.ref (zad G.2.2.2 33 12), .int 12, .ref (zad G.2.2.2 5 0)]) ⟨hx, hb, hml, hown, hts⟩ (cz_X4_init_12 l G F66 _) ⟨va_cnB (host := "BallotFoundry") 0 hts ggX10_init_X4_init rfl rfl rfl (hG.2.1 ("BallotFoundry", 54, ⟨"BallotFoundry$Person", "<init>", "()V"⟩, "BallotFoundry") (List.mem_of_getElem? (i := 6) rfl)) (hts (.initialized RX4) (List.mem_of_getElem? (i := 27) rfl)) (by decide +kernel) ⟨Nat.le_of_ble_eq_true rfl, Nat.le_of_ble_eq_true rfl⟩, rfl, hts (.instanceMethod yX4_init) (List.mem_of_getElem? (i := 137) rfl)⟩ ⟨fun a U g mk h => ⟨h.1, zD_blind h.2.1, h.2.2⟩, fun U hU hW => ⟨rfl, zD_at hK hG hZ hH hzn hS hU hW, q⟩⟩ rfl rfl hl.1 rfl (lv_room (Nat.le_of_ble_eq_true rfl)) dX10_init_91 ⟨Nat.le_of_ble_eq_true rfl, Nat.le_of_ble_eq_true rfl⟩) hS (fun _ _ h => h) (fun _ h => h) (fun F69 t H locs ht hvm q hB1 hzz hk hS => ?_)
  have hH : zH G 105 F69 H := zH_to ht hB1
  refine z_aast hx hb hK hH hS 5 0 5 (by rfl) 5 33 12 104 20 8 (by rfl) (r := (RX4, TX4, 3)) rfl rfl rfl rfl (by unfold vp_in; decide) (zaast_5 12 (by decide) rfl) dX10_init_94 (fun H locs hH hS => ?_)
  obtain ⟨F70, eF70⟩ : ∃ z, z = fs F69 5 0 (12 : Int32).toNatClampNeg 1 := ⟨_, rfl⟩
  have q := q F70 eF70
  rw [← eF70] at hH
  refine lv_iinc (v := 13) (lv' := [(1, .int 13), (0, .ref (zad G.2.2.2 0 0))]) hx hb dX10_init_95 hl (k := 0) rfl (by decide) (by decide) rfl (fun ls hl => ?_)
  refine lv_goto (tgt := 76) hx hb dX10_init_98 (by decide) ?_
  refine lv_iload_n hx hb dX10_init_76 rfl (lv_at hl 0 rfl) ?_
  refine lv_bipush (v := 20) hx hb dX10_init_77 (by decide) ?_
  refine lv_icmp_ge (tgt := 101) hx hb dX10_init_79 (by decide) (fun c1 => absurd c1 (by decide)) (fun _ => ?_)
  refine lv_aload_n hx hb dX10_init_82 rfl (lv_at hl 1 rfl) ?_
  obtain ⟨h71, q⟩ := q
  refine z_get (ci := 14) (v := .ref (zad G.2.2.2 5 0)) (C := RX10) (T := TX10) (N := 8) (fs0 := [zv (F70 0 0 0) (zad G.2.2.2 1 0), .ref (zad G.2.2.2 5 0), .int (F70 0 0 2), zv (F70 0 0 3) (zad G.2.2.2 6 0), zv (F70 0 0 4) (zad G.2.2.2 9 0), .int (F70 0 0 5), zv (F70 0 0 6) (zad G.2.2.2 10 0), zv (F70 0 0 7) (zad G.2.2.2 27 0)]) hx hb hts (fun _ h => (List.mem_cons_of_mem _ (List.mem_append_left _ (List.mem_append_left _ (List.mem_append_left _ (List.mem_append_left _ (List.mem_append_left _ (List.mem_append_left _ (List.mem_append_left _ (List.mem_append_left _ (List.mem_append_left _ (List.mem_append_right _ h)))))))))))) hown hK hH 0 0 0 (by rfl) (by show Sum.inr (14, [zv (F70 0 0 0) (zad G.2.2.2 1 0), zv (F70 0 0 1) (zad G.2.2.2 5 0), Value.int (F70 0 0 2), zv (F70 0 0 3) (zad G.2.2.2 6 0), zv (F70 0 0 4) (zad G.2.2.2 9 0), Value.int (F70 0 0 5), zv (F70 0 0 6) (zad G.2.2.2 10 0), zv (F70 0 0 7) (zad G.2.2.2 27 0)]) = _; rw [h71]; rfl) rfl 1 (by decide) (hts (.fieldLink RX10 18 "BallotFoundry" "people" "[LBallotFoundry$Person;") (List.mem_of_getElem? (i := 9) rfl)) (fun _ h => h) rfl dX10_init_83 ?_
  refine lv_iload_n hx hb dX10_init_86 rfl (lv_at hl 0 rfl) ?_
  obtain ⟨h72, q⟩ := q
  refine z_new (ci := 8) (C := RX4) (T := TX4) (N := 3) (fs0 := [.int 0, .null, .int 0]) hx hb hts (fun _ h => (List.mem_cons_of_mem _ (List.mem_append_left _ (List.mem_append_left _ (List.mem_append_left _ (List.mem_append_left _ (List.mem_append_left _ (List.mem_append_right _ h)))))))) tyX4 tyX4_ok hown (hts (.classLink RX10 16 RX4) (List.mem_of_getElem? (i := 8) rfl)) (hts (.instantiable RX4 3) (List.mem_of_getElem? (i := 26) rfl)) (hts (.initialized RX4) (List.mem_of_getElem? (i := 27) rfl)) hK hH hS (n0 := 1) hz rfl (by decide) 33 13 (by rfl) (by rw [h72]; rfl) rfl (by decide +kernel) (Nat.le_of_ble_eq_true rfl) (Nat.le_of_ble_eq_true rfl) dX10_init_87 (fun H hH hS => ?_)
  refine lv_dup hx hb dX10_init_90 rfl ?_
  refine W.sz (fun hle => ?_)
  have hzn : H.size = G.2.2.2 + 106 := zsize (n0 := 1) hH (by decide) hz rfl hle
  refine va_callv (va_runIN (As := []) (rest := [.ref (zad G.2.2.2 33 13), .int 13, .ref (zad G.2.2.2 5 0)]) ⟨hx, hb, hml, hown, hts⟩ (cz_X4_init_13 l G F70 _) ⟨va_cnB (host := "BallotFoundry") 0 hts ggX10_init_X4_init rfl rfl rfl (hG.2.1 ("BallotFoundry", 54, ⟨"BallotFoundry$Person", "<init>", "()V"⟩, "BallotFoundry") (List.mem_of_getElem? (i := 6) rfl)) (hts (.initialized RX4) (List.mem_of_getElem? (i := 27) rfl)) (by decide +kernel) ⟨Nat.le_of_ble_eq_true rfl, Nat.le_of_ble_eq_true rfl⟩, rfl, hts (.instanceMethod yX4_init) (List.mem_of_getElem? (i := 137) rfl)⟩ ⟨fun a U g mk h => ⟨h.1, zD_blind h.2.1, h.2.2⟩, fun U hU hW => ⟨rfl, zD_at hK hG hZ hH hzn hS hU hW, q⟩⟩ rfl rfl hl.1 rfl (lv_room (Nat.le_of_ble_eq_true rfl)) dX10_init_91 ⟨Nat.le_of_ble_eq_true rfl, Nat.le_of_ble_eq_true rfl⟩) hS (fun _ _ h => h) (fun _ h => h) (fun F73 t H locs ht hvm q hB1 hzz hk hS => ?_)
  have hH : zH G 106 F73 H := zH_to ht hB1
  refine z_aast hx hb hK hH hS 5 0 5 (by rfl) 5 33 13 105 20 8 (by rfl) (r := (RX4, TX4, 3)) rfl rfl rfl rfl (by unfold vp_in; decide) (zaast_5 13 (by decide) rfl) dX10_init_94 (fun H locs hH hS => ?_)
  obtain ⟨F74, eF74⟩ : ∃ z, z = fs F73 5 0 (13 : Int32).toNatClampNeg 1 := ⟨_, rfl⟩
  have q := q F74 eF74
  rw [← eF74] at hH
  refine lv_iinc (v := 14) (lv' := [(1, .int 14), (0, .ref (zad G.2.2.2 0 0))]) hx hb dX10_init_95 hl (k := 0) rfl (by decide) (by decide) rfl (fun ls hl => ?_)
  refine lv_goto (tgt := 76) hx hb dX10_init_98 (by decide) ?_
  refine lv_iload_n hx hb dX10_init_76 rfl (lv_at hl 0 rfl) ?_
  refine lv_bipush (v := 20) hx hb dX10_init_77 (by decide) ?_
  refine lv_icmp_ge (tgt := 101) hx hb dX10_init_79 (by decide) (fun c1 => absurd c1 (by decide)) (fun _ => ?_)
  refine lv_aload_n hx hb dX10_init_82 rfl (lv_at hl 1 rfl) ?_
  obtain ⟨h75, q⟩ := q
  refine z_get (ci := 14) (v := .ref (zad G.2.2.2 5 0)) (C := RX10) (T := TX10) (N := 8) (fs0 := [zv (F74 0 0 0) (zad G.2.2.2 1 0), .ref (zad G.2.2.2 5 0), .int (F74 0 0 2), zv (F74 0 0 3) (zad G.2.2.2 6 0), zv (F74 0 0 4) (zad G.2.2.2 9 0), .int (F74 0 0 5), zv (F74 0 0 6) (zad G.2.2.2 10 0), zv (F74 0 0 7) (zad G.2.2.2 27 0)]) hx hb hts (fun _ h => (List.mem_cons_of_mem _ (List.mem_append_left _ (List.mem_append_left _ (List.mem_append_left _ (List.mem_append_left _ (List.mem_append_left _ (List.mem_append_left _ (List.mem_append_left _ (List.mem_append_left _ (List.mem_append_left _ (List.mem_append_right _ h)))))))))))) hown hK hH 0 0 0 (by rfl) (by show Sum.inr (14, [zv (F74 0 0 0) (zad G.2.2.2 1 0), zv (F74 0 0 1) (zad G.2.2.2 5 0), Value.int (F74 0 0 2), zv (F74 0 0 3) (zad G.2.2.2 6 0), zv (F74 0 0 4) (zad G.2.2.2 9 0), Value.int (F74 0 0 5), zv (F74 0 0 6) (zad G.2.2.2 10 0), zv (F74 0 0 7) (zad G.2.2.2 27 0)]) = _; rw [h75]; rfl) rfl 1 (by decide) (hts (.fieldLink RX10 18 "BallotFoundry" "people" "[LBallotFoundry$Person;") (List.mem_of_getElem? (i := 9) rfl)) (fun _ h => h) rfl dX10_init_83 ?_
  refine lv_iload_n hx hb dX10_init_86 rfl (lv_at hl 0 rfl) ?_
  obtain ⟨h76, q⟩ := q
  refine z_new (ci := 8) (C := RX4) (T := TX4) (N := 3) (fs0 := [.int 0, .null, .int 0]) hx hb hts (fun _ h => (List.mem_cons_of_mem _ (List.mem_append_left _ (List.mem_append_left _ (List.mem_append_left _ (List.mem_append_left _ (List.mem_append_left _ (List.mem_append_right _ h)))))))) tyX4 tyX4_ok hown (hts (.classLink RX10 16 RX4) (List.mem_of_getElem? (i := 8) rfl)) (hts (.instantiable RX4 3) (List.mem_of_getElem? (i := 26) rfl)) (hts (.initialized RX4) (List.mem_of_getElem? (i := 27) rfl)) hK hH hS (n0 := 1) hz rfl (by decide) 33 14 (by rfl) (by rw [h76]; rfl) rfl (by decide +kernel) (Nat.le_of_ble_eq_true rfl) (Nat.le_of_ble_eq_true rfl) dX10_init_87 (fun H hH hS => ?_)
  refine lv_dup hx hb dX10_init_90 rfl ?_
  refine W.sz (fun hle => ?_)
  have hzn : H.size = G.2.2.2 + 107 := zsize (n0 := 1) hH (by decide) hz rfl hle
  refine va_callv (va_runIN (As := []) (rest := [.ref (zad G.2.2.2 33 14), .int 14, .ref (zad G.2.2.2 5 0)]) ⟨hx, hb, hml, hown, hts⟩ (cz_X4_init_14 l G F74 _) ⟨va_cnB (host := "BallotFoundry") 0 hts ggX10_init_X4_init rfl rfl rfl (hG.2.1 ("BallotFoundry", 54, ⟨"BallotFoundry$Person", "<init>", "()V"⟩, "BallotFoundry") (List.mem_of_getElem? (i := 6) rfl)) (hts (.initialized RX4) (List.mem_of_getElem? (i := 27) rfl)) (by decide +kernel) ⟨Nat.le_of_ble_eq_true rfl, Nat.le_of_ble_eq_true rfl⟩, rfl, hts (.instanceMethod yX4_init) (List.mem_of_getElem? (i := 137) rfl)⟩ ⟨fun a U g mk h => ⟨h.1, zD_blind h.2.1, h.2.2⟩, fun U hU hW => ⟨rfl, zD_at hK hG hZ hH hzn hS hU hW, q⟩⟩ rfl rfl hl.1 rfl (lv_room (Nat.le_of_ble_eq_true rfl)) dX10_init_91 ⟨Nat.le_of_ble_eq_true rfl, Nat.le_of_ble_eq_true rfl⟩) hS (fun _ _ h => h) (fun _ h => h) (fun F77 t H locs ht hvm q hB1 hzz hk hS => ?_)
  have hH : zH G 107 F77 H := zH_to ht hB1
  refine z_aast hx hb hK hH hS 5 0 5 (by rfl) 5 33 14 106 20 8 (by rfl) (r := (RX4, TX4, 3)) rfl rfl rfl rfl (by unfold vp_in; decide) (zaast_5 14 (by decide) rfl) dX10_init_94 (fun H locs hH hS => ?_)
  obtain ⟨F78, eF78⟩ : ∃ z, z = fs F77 5 0 (14 : Int32).toNatClampNeg 1 := ⟨_, rfl⟩
  have q := q F78 eF78
  rw [← eF78] at hH
  refine lv_iinc (v := 15) (lv' := [(1, .int 15), (0, .ref (zad G.2.2.2 0 0))]) hx hb dX10_init_95 hl (k := 0) rfl (by decide) (by decide) rfl (fun ls hl => ?_)
  refine lv_goto (tgt := 76) hx hb dX10_init_98 (by decide) ?_
  refine lv_iload_n hx hb dX10_init_76 rfl (lv_at hl 0 rfl) ?_
  refine lv_bipush (v := 20) hx hb dX10_init_77 (by decide) ?_
  refine lv_icmp_ge (tgt := 101) hx hb dX10_init_79 (by decide) (fun c1 => absurd c1 (by decide)) (fun _ => ?_)
  refine lv_aload_n hx hb dX10_init_82 rfl (lv_at hl 1 rfl) ?_
  obtain ⟨h79, q⟩ := q
  refine z_get (ci := 14) (v := .ref (zad G.2.2.2 5 0)) (C := RX10) (T := TX10) (N := 8) (fs0 := [zv (F78 0 0 0) (zad G.2.2.2 1 0), .ref (zad G.2.2.2 5 0), .int (F78 0 0 2), zv (F78 0 0 3) (zad G.2.2.2 6 0), zv (F78 0 0 4) (zad G.2.2.2 9 0), .int (F78 0 0 5), zv (F78 0 0 6) (zad G.2.2.2 10 0), zv (F78 0 0 7) (zad G.2.2.2 27 0)]) hx hb hts (fun _ h => (List.mem_cons_of_mem _ (List.mem_append_left _ (List.mem_append_left _ (List.mem_append_left _ (List.mem_append_left _ (List.mem_append_left _ (List.mem_append_left _ (List.mem_append_left _ (List.mem_append_left _ (List.mem_append_left _ (List.mem_append_right _ h)))))))))))) hown hK hH 0 0 0 (by rfl) (by show Sum.inr (14, [zv (F78 0 0 0) (zad G.2.2.2 1 0), zv (F78 0 0 1) (zad G.2.2.2 5 0), Value.int (F78 0 0 2), zv (F78 0 0 3) (zad G.2.2.2 6 0), zv (F78 0 0 4) (zad G.2.2.2 9 0), Value.int (F78 0 0 5), zv (F78 0 0 6) (zad G.2.2.2 10 0), zv (F78 0 0 7) (zad G.2.2.2 27 0)]) = _; rw [h79]; rfl) rfl 1 (by decide) (hts (.fieldLink RX10 18 "BallotFoundry" "people" "[LBallotFoundry$Person;") (List.mem_of_getElem? (i := 9) rfl)) (fun _ h => h) rfl dX10_init_83 ?_
  refine lv_iload_n hx hb dX10_init_86 rfl (lv_at hl 0 rfl) ?_
  obtain ⟨h80, q⟩ := q
  refine z_new (ci := 8) (C := RX4) (T := TX4) (N := 3) (fs0 := [.int 0, .null, .int 0]) hx hb hts (fun _ h => (List.mem_cons_of_mem _ (List.mem_append_left _ (List.mem_append_left _ (List.mem_append_left _ (List.mem_append_left _ (List.mem_append_left _ (List.mem_append_right _ h)))))))) tyX4 tyX4_ok hown (hts (.classLink RX10 16 RX4) (List.mem_of_getElem? (i := 8) rfl)) (hts (.instantiable RX4 3) (List.mem_of_getElem? (i := 26) rfl)) (hts (.initialized RX4) (List.mem_of_getElem? (i := 27) rfl)) hK hH hS (n0 := 1) hz rfl (by decide) 33 15 (by rfl) (by rw [h80]; rfl) rfl (by decide +kernel) (Nat.le_of_ble_eq_true rfl) (Nat.le_of_ble_eq_true rfl) dX10_init_87 (fun H hH hS => ?_)
  refine lv_dup hx hb dX10_init_90 rfl ?_
  refine W.sz (fun hle => ?_)
  have hzn : H.size = G.2.2.2 + 108 := zsize (n0 := 1) hH (by decide) hz rfl hle
  refine va_callv (va_runIN (As := []) (rest := [.ref (zad G.2.2.2 33 15), .int 15, .ref (zad G.2.2.2 5 0)]) ⟨hx, hb, hml, hown, hts⟩ (cz_X4_init_15 l G F78 _) ⟨va_cnB (host := "BallotFoundry") 0 hts ggX10_init_X4_init rfl rfl rfl (hG.2.1 ("BallotFoundry", 54, ⟨"BallotFoundry$Person", "<init>", "()V"⟩, "BallotFoundry") (List.mem_of_getElem? (i := 6) rfl)) (hts (.initialized RX4) (List.mem_of_getElem? (i := 27) rfl)) (by decide +kernel) ⟨Nat.le_of_ble_eq_true rfl, Nat.le_of_ble_eq_true rfl⟩, rfl, hts (.instanceMethod yX4_init) (List.mem_of_getElem? (i := 137) rfl)⟩ ⟨fun a U g mk h => ⟨h.1, zD_blind h.2.1, h.2.2⟩, fun U hU hW => ⟨rfl, zD_at hK hG hZ hH hzn hS hU hW, q⟩⟩ rfl rfl hl.1 rfl (lv_room (Nat.le_of_ble_eq_true rfl)) dX10_init_91 ⟨Nat.le_of_ble_eq_true rfl, Nat.le_of_ble_eq_true rfl⟩) hS (fun _ _ h => h) (fun _ h => h) (fun F81 t H locs ht hvm q hB1 hzz hk hS => ?_)
  have hH : zH G 108 F81 H := zH_to ht hB1
  refine z_aast hx hb hK hH hS 5 0 5 (by rfl) 5 33 15 107 20 8 (by rfl) (r := (RX4, TX4, 3)) rfl rfl rfl rfl (by unfold vp_in; decide) (zaast_5 15 (by decide) rfl) dX10_init_94 (fun H locs hH hS => ?_)
  obtain ⟨F82, eF82⟩ : ∃ z, z = fs F81 5 0 (15 : Int32).toNatClampNeg 1 := ⟨_, rfl⟩
  have q := q F82 eF82
  rw [← eF82] at hH
  refine lv_iinc (v := 16) (lv' := [(1, .int 16), (0, .ref (zad G.2.2.2 0 0))]) hx hb dX10_init_95 hl (k := 0) rfl (by decide) (by decide) rfl (fun ls hl => ?_)
  refine lv_goto (tgt := 76) hx hb dX10_init_98 (by decide) ?_
  refine lv_iload_n hx hb dX10_init_76 rfl (lv_at hl 0 rfl) ?_
  refine lv_bipush (v := 20) hx hb dX10_init_77 (by decide) ?_
  refine lv_icmp_ge (tgt := 101) hx hb dX10_init_79 (by decide) (fun c1 => absurd c1 (by decide)) (fun _ => ?_)
  refine lv_aload_n hx hb dX10_init_82 rfl (lv_at hl 1 rfl) ?_
  obtain ⟨h83, q⟩ := q
  refine z_get (ci := 14) (v := .ref (zad G.2.2.2 5 0)) (C := RX10) (T := TX10) (N := 8) (fs0 := [zv (F82 0 0 0) (zad G.2.2.2 1 0), .ref (zad G.2.2.2 5 0), .int (F82 0 0 2), zv (F82 0 0 3) (zad G.2.2.2 6 0), zv (F82 0 0 4) (zad G.2.2.2 9 0), .int (F82 0 0 5), zv (F82 0 0 6) (zad G.2.2.2 10 0), zv (F82 0 0 7) (zad G.2.2.2 27 0)]) hx hb hts (fun _ h => (List.mem_cons_of_mem _ (List.mem_append_left _ (List.mem_append_left _ (List.mem_append_left _ (List.mem_append_left _ (List.mem_append_left _ (List.mem_append_left _ (List.mem_append_left _ (List.mem_append_left _ (List.mem_append_left _ (List.mem_append_right _ h)))))))))))) hown hK hH 0 0 0 (by rfl) (by show Sum.inr (14, [zv (F82 0 0 0) (zad G.2.2.2 1 0), zv (F82 0 0 1) (zad G.2.2.2 5 0), Value.int (F82 0 0 2), zv (F82 0 0 3) (zad G.2.2.2 6 0), zv (F82 0 0 4) (zad G.2.2.2 9 0), Value.int (F82 0 0 5), zv (F82 0 0 6) (zad G.2.2.2 10 0), zv (F82 0 0 7) (zad G.2.2.2 27 0)]) = _; rw [h83]; rfl) rfl 1 (by decide) (hts (.fieldLink RX10 18 "BallotFoundry" "people" "[LBallotFoundry$Person;") (List.mem_of_getElem? (i := 9) rfl)) (fun _ h => h) rfl dX10_init_83 ?_
  refine lv_iload_n hx hb dX10_init_86 rfl (lv_at hl 0 rfl) ?_
  obtain ⟨h84, q⟩ := q
  refine z_new (ci := 8) (C := RX4) (T := TX4) (N := 3) (fs0 := [.int 0, .null, .int 0]) hx hb hts (fun _ h => (List.mem_cons_of_mem _ (List.mem_append_left _ (List.mem_append_left _ (List.mem_append_left _ (List.mem_append_left _ (List.mem_append_left _ (List.mem_append_right _ h)))))))) tyX4 tyX4_ok hown (hts (.classLink RX10 16 RX4) (List.mem_of_getElem? (i := 8) rfl)) (hts (.instantiable RX4 3) (List.mem_of_getElem? (i := 26) rfl)) (hts (.initialized RX4) (List.mem_of_getElem? (i := 27) rfl)) hK hH hS (n0 := 1) hz rfl (by decide) 33 16 (by rfl) (by rw [h84]; rfl) rfl (by decide +kernel) (Nat.le_of_ble_eq_true rfl) (Nat.le_of_ble_eq_true rfl) dX10_init_87 (fun H hH hS => ?_)
  refine lv_dup hx hb dX10_init_90 rfl ?_
  refine W.sz (fun hle => ?_)
  have hzn : H.size = G.2.2.2 + 109 := zsize (n0 := 1) hH (by decide) hz rfl hle
  refine va_callv (va_runIN (As := []) (rest := [.ref (zad G.2.2.2 33 16), .int 16, .ref (zad G.2.2.2 5 0)]) ⟨hx, hb, hml, hown, hts⟩ (cz_X4_init_16 l G F82 _) ⟨va_cnB (host := "BallotFoundry") 0 hts ggX10_init_X4_init rfl rfl rfl (hG.2.1 ("BallotFoundry", 54, ⟨"BallotFoundry$Person", "<init>", "()V"⟩, "BallotFoundry") (List.mem_of_getElem? (i := 6) rfl)) (hts (.initialized RX4) (List.mem_of_getElem? (i := 27) rfl)) (by decide +kernel) ⟨Nat.le_of_ble_eq_true rfl, Nat.le_of_ble_eq_true rfl⟩, rfl, hts (.instanceMethod yX4_init) (List.mem_of_getElem? (i := 137) rfl)⟩ ⟨fun a U g mk h => ⟨h.1, zD_blind h.2.1, h.2.2⟩, fun U hU hW => ⟨rfl, zD_at hK hG hZ hH hzn hS hU hW, q⟩⟩ rfl rfl hl.1 rfl (lv_room (Nat.le_of_ble_eq_true rfl)) dX10_init_91 ⟨Nat.le_of_ble_eq_true rfl, Nat.le_of_ble_eq_true rfl⟩) hS (fun _ _ h => h) (fun _ h => h) (fun F85 t H locs ht hvm q hB1 hzz hk hS => ?_)
  have hH : zH G 109 F85 H := zH_to ht hB1
  refine z_aast hx hb hK hH hS 5 0 5 (by rfl) 5 33 16 108 20 8 (by rfl) (r := (RX4, TX4, 3)) rfl rfl rfl rfl (by unfold vp_in; decide) (zaast_5 16 (by decide) rfl) dX10_init_94 (fun H locs hH hS => ?_)
  obtain ⟨F86, eF86⟩ : ∃ z, z = fs F85 5 0 (16 : Int32).toNatClampNeg 1 := ⟨_, rfl⟩
  have q := q F86 eF86
  rw [← eF86] at hH
  refine lv_iinc (v := 17) (lv' := [(1, .int 17), (0, .ref (zad G.2.2.2 0 0))]) hx hb dX10_init_95 hl (k := 0) rfl (by decide) (by decide) rfl (fun ls hl => ?_)
  refine lv_goto (tgt := 76) hx hb dX10_init_98 (by decide) ?_
  refine lv_iload_n hx hb dX10_init_76 rfl (lv_at hl 0 rfl) ?_
  refine lv_bipush (v := 20) hx hb dX10_init_77 (by decide) ?_
  refine lv_icmp_ge (tgt := 101) hx hb dX10_init_79 (by decide) (fun c1 => absurd c1 (by decide)) (fun _ => ?_)
  refine lv_aload_n hx hb dX10_init_82 rfl (lv_at hl 1 rfl) ?_
  obtain ⟨h87, q⟩ := q
  refine z_get (ci := 14) (v := .ref (zad G.2.2.2 5 0)) (C := RX10) (T := TX10) (N := 8) (fs0 := [zv (F86 0 0 0) (zad G.2.2.2 1 0), .ref (zad G.2.2.2 5 0), .int (F86 0 0 2), zv (F86 0 0 3) (zad G.2.2.2 6 0), zv (F86 0 0 4) (zad G.2.2.2 9 0), .int (F86 0 0 5), zv (F86 0 0 6) (zad G.2.2.2 10 0), zv (F86 0 0 7) (zad G.2.2.2 27 0)]) hx hb hts (fun _ h => (List.mem_cons_of_mem _ (List.mem_append_left _ (List.mem_append_left _ (List.mem_append_left _ (List.mem_append_left _ (List.mem_append_left _ (List.mem_append_left _ (List.mem_append_left _ (List.mem_append_left _ (List.mem_append_left _ (List.mem_append_right _ h)))))))))))) hown hK hH 0 0 0 (by rfl) (by show Sum.inr (14, [zv (F86 0 0 0) (zad G.2.2.2 1 0), zv (F86 0 0 1) (zad G.2.2.2 5 0), Value.int (F86 0 0 2), zv (F86 0 0 3) (zad G.2.2.2 6 0), zv (F86 0 0 4) (zad G.2.2.2 9 0), Value.int (F86 0 0 5), zv (F86 0 0 6) (zad G.2.2.2 10 0), zv (F86 0 0 7) (zad G.2.2.2 27 0)]) = _; rw [h87]; rfl) rfl 1 (by decide) (hts (.fieldLink RX10 18 "BallotFoundry" "people" "[LBallotFoundry$Person;") (List.mem_of_getElem? (i := 9) rfl)) (fun _ h => h) rfl dX10_init_83 ?_
  refine lv_iload_n hx hb dX10_init_86 rfl (lv_at hl 0 rfl) ?_
  obtain ⟨h88, q⟩ := q
  refine z_new (ci := 8) (C := RX4) (T := TX4) (N := 3) (fs0 := [.int 0, .null, .int 0]) hx hb hts (fun _ h => (List.mem_cons_of_mem _ (List.mem_append_left _ (List.mem_append_left _ (List.mem_append_left _ (List.mem_append_left _ (List.mem_append_left _ (List.mem_append_right _ h)))))))) tyX4 tyX4_ok hown (hts (.classLink RX10 16 RX4) (List.mem_of_getElem? (i := 8) rfl)) (hts (.instantiable RX4 3) (List.mem_of_getElem? (i := 26) rfl)) (hts (.initialized RX4) (List.mem_of_getElem? (i := 27) rfl)) hK hH hS (n0 := 1) hz rfl (by decide) 33 17 (by rfl) (by rw [h88]; rfl) rfl (by decide +kernel) (Nat.le_of_ble_eq_true rfl) (Nat.le_of_ble_eq_true rfl) dX10_init_87 (fun H hH hS => ?_)
  refine lv_dup hx hb dX10_init_90 rfl ?_
  refine W.sz (fun hle => ?_)
  have hzn : H.size = G.2.2.2 + 110 := zsize (n0 := 1) hH (by decide) hz rfl hle
  refine va_callv (va_runIN (As := []) (rest := [.ref (zad G.2.2.2 33 17), .int 17, .ref (zad G.2.2.2 5 0)]) ⟨hx, hb, hml, hown, hts⟩ (cz_X4_init_17 l G F86 _) ⟨va_cnB (host := "BallotFoundry") 0 hts ggX10_init_X4_init rfl rfl rfl (hG.2.1 ("BallotFoundry", 54, ⟨"BallotFoundry$Person", "<init>", "()V"⟩, "BallotFoundry") (List.mem_of_getElem? (i := 6) rfl)) (hts (.initialized RX4) (List.mem_of_getElem? (i := 27) rfl)) (by decide +kernel) ⟨Nat.le_of_ble_eq_true rfl, Nat.le_of_ble_eq_true rfl⟩, rfl, hts (.instanceMethod yX4_init) (List.mem_of_getElem? (i := 137) rfl)⟩ ⟨fun a U g mk h => ⟨h.1, zD_blind h.2.1, h.2.2⟩, fun U hU hW => ⟨rfl, zD_at hK hG hZ hH hzn hS hU hW, q⟩⟩ rfl rfl hl.1 rfl (lv_room (Nat.le_of_ble_eq_true rfl)) dX10_init_91 ⟨Nat.le_of_ble_eq_true rfl, Nat.le_of_ble_eq_true rfl⟩) hS (fun _ _ h => h) (fun _ h => h) (fun F89 t H locs ht hvm q hB1 hzz hk hS => ?_)
  have hH : zH G 110 F89 H := zH_to ht hB1
  refine z_aast hx hb hK hH hS 5 0 5 (by rfl) 5 33 17 109 20 8 (by rfl) (r := (RX4, TX4, 3)) rfl rfl rfl rfl (by unfold vp_in; decide) (zaast_5 17 (by decide) rfl) dX10_init_94 (fun H locs hH hS => ?_)
  obtain ⟨F90, eF90⟩ : ∃ z, z = fs F89 5 0 (17 : Int32).toNatClampNeg 1 := ⟨_, rfl⟩
  have q := q F90 eF90
  rw [← eF90] at hH
  refine lv_iinc (v := 18) (lv' := [(1, .int 18), (0, .ref (zad G.2.2.2 0 0))]) hx hb dX10_init_95 hl (k := 0) rfl (by decide) (by decide) rfl (fun ls hl => ?_)
  refine lv_goto (tgt := 76) hx hb dX10_init_98 (by decide) ?_
  refine lv_iload_n hx hb dX10_init_76 rfl (lv_at hl 0 rfl) ?_
  refine lv_bipush (v := 20) hx hb dX10_init_77 (by decide) ?_
  refine lv_icmp_ge (tgt := 101) hx hb dX10_init_79 (by decide) (fun c1 => absurd c1 (by decide)) (fun _ => ?_)
  refine lv_aload_n hx hb dX10_init_82 rfl (lv_at hl 1 rfl) ?_
  obtain ⟨h91, q⟩ := q
  refine z_get (ci := 14) (v := .ref (zad G.2.2.2 5 0)) (C := RX10) (T := TX10) (N := 8) (fs0 := [zv (F90 0 0 0) (zad G.2.2.2 1 0), .ref (zad G.2.2.2 5 0), .int (F90 0 0 2), zv (F90 0 0 3) (zad G.2.2.2 6 0), zv (F90 0 0 4) (zad G.2.2.2 9 0), .int (F90 0 0 5), zv (F90 0 0 6) (zad G.2.2.2 10 0), zv (F90 0 0 7) (zad G.2.2.2 27 0)]) hx hb hts (fun _ h => (List.mem_cons_of_mem _ (List.mem_append_left _ (List.mem_append_left _ (List.mem_append_left _ (List.mem_append_left _ (List.mem_append_left _ (List.mem_append_left _ (List.mem_append_left _ (List.mem_append_left _ (List.mem_append_left _ (List.mem_append_right _ h)))))))))))) hown hK hH 0 0 0 (by rfl) (by show Sum.inr (14, [zv (F90 0 0 0) (zad G.2.2.2 1 0), zv (F90 0 0 1) (zad G.2.2.2 5 0), Value.int (F90 0 0 2), zv (F90 0 0 3) (zad G.2.2.2 6 0), zv (F90 0 0 4) (zad G.2.2.2 9 0), Value.int (F90 0 0 5), zv (F90 0 0 6) (zad G.2.2.2 10 0), zv (F90 0 0 7) (zad G.2.2.2 27 0)]) = _; rw [h91]; rfl) rfl 1 (by decide) (hts (.fieldLink RX10 18 "BallotFoundry" "people" "[LBallotFoundry$Person;") (List.mem_of_getElem? (i := 9) rfl)) (fun _ h => h) rfl dX10_init_83 ?_
  refine lv_iload_n hx hb dX10_init_86 rfl (lv_at hl 0 rfl) ?_
  obtain ⟨h92, q⟩ := q
  refine z_new (ci := 8) (C := RX4) (T := TX4) (N := 3) (fs0 := [.int 0, .null, .int 0]) hx hb hts (fun _ h => (List.mem_cons_of_mem _ (List.mem_append_left _ (List.mem_append_left _ (List.mem_append_left _ (List.mem_append_left _ (List.mem_append_left _ (List.mem_append_right _ h)))))))) tyX4 tyX4_ok hown (hts (.classLink RX10 16 RX4) (List.mem_of_getElem? (i := 8) rfl)) (hts (.instantiable RX4 3) (List.mem_of_getElem? (i := 26) rfl)) (hts (.initialized RX4) (List.mem_of_getElem? (i := 27) rfl)) hK hH hS (n0 := 1) hz rfl (by decide) 33 18 (by rfl) (by rw [h92]; rfl) rfl (by decide +kernel) (Nat.le_of_ble_eq_true rfl) (Nat.le_of_ble_eq_true rfl) dX10_init_87 (fun H hH hS => ?_)
  refine lv_dup hx hb dX10_init_90 rfl ?_
  refine W.sz (fun hle => ?_)
  have hzn : H.size = G.2.2.2 + 111 := zsize (n0 := 1) hH (by decide) hz rfl hle
  refine va_callv (va_runIN (As := []) (rest := [.ref (zad G.2.2.2 33 18), .int 18, .ref (zad G.2.2.2 5 0)]) ⟨hx, hb, hml, hown, hts⟩ (cz_X4_init_18 l G F90 _) ⟨va_cnB (host := "BallotFoundry") 0 hts ggX10_init_X4_init rfl rfl rfl (hG.2.1 ("BallotFoundry", 54, ⟨"BallotFoundry$Person", "<init>", "()V"⟩, "BallotFoundry") (List.mem_of_getElem? (i := 6) rfl)) (hts (.initialized RX4) (List.mem_of_getElem? (i := 27) rfl)) (by decide +kernel) ⟨Nat.le_of_ble_eq_true rfl, Nat.le_of_ble_eq_true rfl⟩, rfl, hts (.instanceMethod yX4_init) (List.mem_of_getElem? (i := 137) rfl)⟩ ⟨fun a U g mk h => ⟨h.1, zD_blind h.2.1, h.2.2⟩, fun U hU hW => ⟨rfl, zD_at hK hG hZ hH hzn hS hU hW, q⟩⟩ rfl rfl hl.1 rfl (lv_room (Nat.le_of_ble_eq_true rfl)) dX10_init_91 ⟨Nat.le_of_ble_eq_true rfl, Nat.le_of_ble_eq_true rfl⟩) hS (fun _ _ h => h) (fun _ h => h) (fun F93 t H locs ht hvm q hB1 hzz hk hS => ?_)
  have hH : zH G 111 F93 H := zH_to ht hB1
  refine z_aast hx hb hK hH hS 5 0 5 (by rfl) 5 33 18 110 20 8 (by rfl) (r := (RX4, TX4, 3)) rfl rfl rfl rfl (by unfold vp_in; decide) (zaast_5 18 (by decide) rfl) dX10_init_94 (fun H locs hH hS => ?_)
  obtain ⟨F94, eF94⟩ : ∃ z, z = fs F93 5 0 (18 : Int32).toNatClampNeg 1 := ⟨_, rfl⟩
  have q := q F94 eF94
  rw [← eF94] at hH
  refine lv_iinc (v := 19) (lv' := [(1, .int 19), (0, .ref (zad G.2.2.2 0 0))]) hx hb dX10_init_95 hl (k := 0) rfl (by decide) (by decide) rfl (fun ls hl => ?_)
  refine lv_goto (tgt := 76) hx hb dX10_init_98 (by decide) ?_
  refine lv_iload_n hx hb dX10_init_76 rfl (lv_at hl 0 rfl) ?_
  refine lv_bipush (v := 20) hx hb dX10_init_77 (by decide) ?_
  refine lv_icmp_ge (tgt := 101) hx hb dX10_init_79 (by decide) (fun c1 => absurd c1 (by decide)) (fun _ => ?_)
  refine lv_aload_n hx hb dX10_init_82 rfl (lv_at hl 1 rfl) ?_
  obtain ⟨h95, q⟩ := q
  refine z_get (ci := 14) (v := .ref (zad G.2.2.2 5 0)) (C := RX10) (T := TX10) (N := 8) (fs0 := [zv (F94 0 0 0) (zad G.2.2.2 1 0), .ref (zad G.2.2.2 5 0), .int (F94 0 0 2), zv (F94 0 0 3) (zad G.2.2.2 6 0), zv (F94 0 0 4) (zad G.2.2.2 9 0), .int (F94 0 0 5), zv (F94 0 0 6) (zad G.2.2.2 10 0), zv (F94 0 0 7) (zad G.2.2.2 27 0)]) hx hb hts (fun _ h => (List.mem_cons_of_mem _ (List.mem_append_left _ (List.mem_append_left _ (List.mem_append_left _ (List.mem_append_left _ (List.mem_append_left _ (List.mem_append_left _ (List.mem_append_left _ (List.mem_append_left _ (List.mem_append_left _ (List.mem_append_right _ h)))))))))))) hown hK hH 0 0 0 (by rfl) (by show Sum.inr (14, [zv (F94 0 0 0) (zad G.2.2.2 1 0), zv (F94 0 0 1) (zad G.2.2.2 5 0), Value.int (F94 0 0 2), zv (F94 0 0 3) (zad G.2.2.2 6 0), zv (F94 0 0 4) (zad G.2.2.2 9 0), Value.int (F94 0 0 5), zv (F94 0 0 6) (zad G.2.2.2 10 0), zv (F94 0 0 7) (zad G.2.2.2 27 0)]) = _; rw [h95]; rfl) rfl 1 (by decide) (hts (.fieldLink RX10 18 "BallotFoundry" "people" "[LBallotFoundry$Person;") (List.mem_of_getElem? (i := 9) rfl)) (fun _ h => h) rfl dX10_init_83 ?_
  refine lv_iload_n hx hb dX10_init_86 rfl (lv_at hl 0 rfl) ?_
  obtain ⟨h96, q⟩ := q
  refine z_new (ci := 8) (C := RX4) (T := TX4) (N := 3) (fs0 := [.int 0, .null, .int 0]) hx hb hts (fun _ h => (List.mem_cons_of_mem _ (List.mem_append_left _ (List.mem_append_left _ (List.mem_append_left _ (List.mem_append_left _ (List.mem_append_left _ (List.mem_append_right _ h)))))))) tyX4 tyX4_ok hown (hts (.classLink RX10 16 RX4) (List.mem_of_getElem? (i := 8) rfl)) (hts (.instantiable RX4 3) (List.mem_of_getElem? (i := 26) rfl)) (hts (.initialized RX4) (List.mem_of_getElem? (i := 27) rfl)) hK hH hS (n0 := 1) hz rfl (by decide) 33 19 (by rfl) (by rw [h96]; rfl) rfl (by decide +kernel) (Nat.le_of_ble_eq_true rfl) (Nat.le_of_ble_eq_true rfl) dX10_init_87 (fun H hH hS => ?_)
  refine lv_dup hx hb dX10_init_90 rfl ?_
  refine W.sz (fun hle => ?_)
  have hzn : H.size = G.2.2.2 + 112 := zsize (n0 := 1) hH (by decide) hz rfl hle
  refine va_callv (va_runIN (As := []) (rest := [.ref (zad G.2.2.2 33 19), .int 19, .ref (zad G.2.2.2 5 0)]) ⟨hx, hb, hml, hown, hts⟩ (cz_X4_init_19 l G F94 _) ⟨va_cnB (host := "BallotFoundry") 0 hts ggX10_init_X4_init rfl rfl rfl (hG.2.1 ("BallotFoundry", 54, ⟨"BallotFoundry$Person", "<init>", "()V"⟩, "BallotFoundry") (List.mem_of_getElem? (i := 6) rfl)) (hts (.initialized RX4) (List.mem_of_getElem? (i := 27) rfl)) (by decide +kernel) ⟨Nat.le_of_ble_eq_true rfl, Nat.le_of_ble_eq_true rfl⟩, rfl, hts (.instanceMethod yX4_init) (List.mem_of_getElem? (i := 137) rfl)⟩ ⟨fun a U g mk h => ⟨h.1, zD_blind h.2.1, h.2.2⟩, fun U hU hW => ⟨rfl, zD_at hK hG hZ hH hzn hS hU hW, q⟩⟩ rfl rfl hl.1 rfl (lv_room (Nat.le_of_ble_eq_true rfl)) dX10_init_91 ⟨Nat.le_of_ble_eq_true rfl, Nat.le_of_ble_eq_true rfl⟩) hS (fun _ _ h => h) (fun _ h => h) (fun F97 t H locs ht hvm q hB1 hzz hk hS => ?_)
  have hH : zH G 112 F97 H := zH_to ht hB1
  refine z_aast hx hb hK hH hS 5 0 5 (by rfl) 5 33 19 111 20 8 (by rfl) (r := (RX4, TX4, 3)) rfl rfl rfl rfl (by unfold vp_in; decide) (zaast_5 19 (by decide) rfl) dX10_init_94 (fun H locs hH hS => ?_)
  obtain ⟨F98, eF98⟩ : ∃ z, z = fs F97 5 0 (19 : Int32).toNatClampNeg 1 := ⟨_, rfl⟩
  have q := q F98 eF98
  rw [← eF98] at hH
  refine lv_iinc (v := 20) (lv' := [(1, .int 20), (0, .ref (zad G.2.2.2 0 0))]) hx hb dX10_init_95 hl (k := 0) rfl (by decide) (by decide) rfl (fun ls hl => ?_)
  refine lv_goto (tgt := 76) hx hb dX10_init_98 (by decide) ?_
  refine lv_iload_n hx hb dX10_init_76 rfl (lv_at hl 0 rfl) ?_
  refine lv_bipush (v := 20) hx hb dX10_init_77 (by decide) ?_
  refine lv_icmp_ge (tgt := 101) hx hb dX10_init_79 (by decide) (fun _ => ?_) (fun c1 => absurd (by decide) c1)
  refine W.cs (cells' := 111) (slots' := 2739) rfl rfl ?_
  exact W.vret hx hb hr (fun t ht hW => ⟨⟨F98, rfl, q, zH_at ht hH⟩, hS.F ht⟩) hS.2.2 dX10_init_101
