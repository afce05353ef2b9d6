theorem zaast_5 {G : GPz} {F : GF} (p : Nat) (hp : p < 20) (hc : (Int32.ofNat p).toNatClampNeg = p) : zcell G.2.2.1 (zad G.2.2.2) 5 0 (upd (F 5 0) p 1) = .inl (G.2.2.1 5, 20, .inr (.inr (.inr (.inr (va_up (fun j => if F 5 0 j = 0 then none else some (zad G.2.2.2 33 j)) p (some (zad G.2.2.2 33 p))))))) := by
  show Sum.inl (G.2.2.1 5, 20, Sum.inr (Sum.inr (Sum.inr (Sum.inr (fun j => if upd (F 5 0) p 1 j = 0 then none else some (zad G.2.2.2 33 j)))))) = _
  congr 7
  funext j
  by_cases e : j = p
  · subst e
    simp [upd, va_up]
  · simp [upd, va_up, e]
theorem zaast_20 {G : GPz} {F : GF} (p : Nat) (hp : p < 5) (hc : (Int32.ofNat p).toNatClampNeg = p) : zcell G.2.2.1 (zad G.2.2.2) 20 0 (upd (F 20 0) p 1) = .inl (G.2.2.1 4, 5, .inr (.inr (.inr (.inr (va_up (fun j => if F 20 0 j = 0 then none else some (zad G.2.2.2 28 j)) p (some (zad G.2.2.2 28 p))))))) := by
  show Sum.inl (G.2.2.1 4, 5, Sum.inr (Sum.inr (Sum.inr (Sum.inr (fun j => if upd (F 20 0) p 1 j = 0 then none else some (zad G.2.2.2 28 j)))))) = _
  congr 7
  funext j
  by_cases e : j = p
  · subst e
    simp [upd, va_up]
  · simp [upd, va_up, e]
abbrev rz_X9_init : Room := { frames := 1, cells := 3, slots := 144, locals := 20 }
set_option maxHeartbeats 4000000 in
set_option maxRecDepth 100000 in
theorem cz_X9_init (l : Launch) (G : GPz) (F : GF) (K : GF → Prop) : Met l yX9_init wsX9_init rz_X9_init (va_Pc [.ref (zad G.2.2.2 1 0)] (fun U => zD G 2 F U ∧ PZ_X9_init F K)) (zQv G 5 K) 3 144 (gA (zg G)) := by
  refine Met.ofW (cc := cX9_init) (maxL := 1) (ret := none) (by decide) rfl ?_
  intro p e s m args below meth c s₁ Bd hml hv
  obtain ⟨rfl, ⟨⟨hK, hG, hZ⟩, hH, hz⟩, q⟩ := hv
  have hx := Bd.exec
  have hb := Bd.bytes
  have hr := Bd.returns
  have hts := atoms_spec (ws := wsX9_init) Bd.pre
  have hown : s.vm.findClass RX9 = some m.cls := findClass_of_methodNamed Bd.named
  have hlocks := Bd.notSynchronized
  have hin : meth.name = "<init>" := (name_of_methodNamed Bd.named Bd.method).1
  have hS : va_S (gA (zg G)) s.heap s.heap [] := va_S.rf
  have hl := lv_entry [.ref (zad G.2.2.2 1 0)] (n := 1) (Nat.le_of_ble_eq_true rfl)
  rw [lg_entry_eq]
  generalize (lg_sl [.ref (zad G.2.2.2 1 0)] ++ List.replicate (1 - (lg_sl [.ref (zad G.2.2.2 1 0)]).length) Slot.unset).toArray = ls at hl ⊢
  have hl : lv_has ls 1 [(0, .ref (zad G.2.2.2 1 0))] := hl
  unfold PZ_X9_init at q
  refine lv_aload_n hx hb dX9_init_0 rfl (lv_at hl 0 rfl) ?_
  refine W.objInit hx hb hown (hts (.methodLink RX9 3 objectInit) (List.mem_of_getElem? (i := 1) rfl)) (hts (.instanceMethod objectInit) (List.mem_of_getElem? (i := 2) rfl)) (hts (.code objectInit ⟨#[0xb1]⟩ 1 none) (List.mem_of_getElem? (i := 3) rfl)) rfl (by rw [hml]; exact hl.1) rfl dX9_init_1 (Nat.le_of_ble_eq_true rfl) (Nat.le_of_ble_eq_true rfl) ?_
  refine W.eq (g2 := F0 m 4 ls []) rfl ?_
  refine lv_aload_n hx hb dX9_init_4 rfl (lv_at hl 0 rfl) ?_
  refine lv_bipush (v := 72) hx hb dX9_init_5 (by decide) ?_
  obtain ⟨h1, q⟩ := q
  refine z_newa (atype := .boolean) (ty := .boolean) (N' := 72) (a0 := (72, .inl (zdef 2))) hx hb (hts (.arrayClass .boolean) (List.mem_of_getElem? (i := 4) rfl)) rfl hK hH hS (n0 := 2) hz rfl (by decide) 2 0 3 (by rfl) (by rw [h1]; rfl) rfl (fun _ h => by cases h) (fun _ => rfl) (by decide) (by decide) (Nat.le_of_ble_eq_true rfl) (Nat.le_of_ble_eq_true rfl) (Nat.le_of_ble_eq_true rfl) dX9_init_7 (fun H hH hS => ?_)
  refine z_putF (ci := 13) (v := .ref (zad G.2.2.2 2 0)) (C := RX9) (T := TX9) (N := 3) hx hb hts (fun _ h => (List.mem_cons_of_mem _ (List.mem_append_right _ h))) tyX9 tyX9_ok nmX9 hown hK hH hS 1 0 1 (by rfl) rfl rfl 0 (by decide) (hts (.fieldLink RX9 9 "BallotFoundry$Town" "barred" "[Z") (List.mem_of_getElem? (i := 5) rfl)) (fun _ h => h) rfl hin rfl (ty := tyX9 0) (by decide +kernel) rfl rfl (Nat.le_of_ble_eq_true rfl) 1 rfl dX9_init_9 (fun H locs hH hS => ?_)
  obtain ⟨F2, eF2⟩ : ∃ z, z = fs F 1 0 0 1 := ⟨_, rfl⟩
  have q := q F2 eF2
  rw [← eF2] at hH
  refine lv_aload_n hx hb dX9_init_12 rfl (lv_at hl 0 rfl) ?_
  refine lv_bipush (v := 36) hx hb dX9_init_13 (by decide) ?_
  obtain ⟨h3, q⟩ := q
  refine z_newa (atype := .int) (ty := .int) (N' := 36) (a0 := (36, .inl (zdef 3))) hx hb (hts (.arrayClass .int) (List.mem_of_getElem? (i := 6) rfl)) rfl hK hH hS (n0 := 2) hz rfl (by decide) 3 0 2 (by rfl) (by rw [h3]; rfl) rfl (fun _ h => by cases h) (fun _ => rfl) (by decide) (by decide) (Nat.le_of_ble_eq_true rfl) (Nat.le_of_ble_eq_true rfl) (Nat.le_of_ble_eq_true rfl) dX9_init_15 (fun H hH hS => ?_)
  refine z_putF (ci := 13) (v := .ref (zad G.2.2.2 3 0)) (C := RX9) (T := TX9) (N := 3) hx hb hts (fun _ h => (List.mem_cons_of_mem _ (List.mem_append_right _ h))) tyX9 tyX9_ok nmX9 hown hK hH hS 1 0 1 (by rfl) rfl rfl 1 (by decide) (hts (.fieldLink RX9 15 "BallotFoundry$Town" "measured" "[I") (List.mem_of_getElem? (i := 7) rfl)) (fun _ h => h) rfl hin rfl (ty := tyX9 1) (by decide +kernel) rfl rfl (Nat.le_of_ble_eq_true rfl) 1 rfl dX9_init_17 (fun H locs hH hS => ?_)
  obtain ⟨F4, eF4⟩ : ∃ z, z = fs F2 1 0 1 1 := ⟨_, rfl⟩
  have q := q F4 eF4
  rw [← eF4] at hH
  refine lv_aload_n hx hb dX9_init_20 rfl (lv_at hl 0 rfl) ?_
  refine lv_bipush (v := 36) hx hb dX9_init_21 (by decide) ?_
  obtain ⟨h5, q⟩ := q
  refine z_newa (atype := .int) (ty := .int) (N' := 36) (a0 := (36, .inl (zdef 4))) hx hb (hts (.arrayClass .int) (List.mem_of_getElem? (i := 6) rfl)) rfl hK hH hS (n0 := 2) hz rfl (by decide) 4 0 2 (by rfl) (by rw [h5]; rfl) rfl (fun _ h => by cases h) (fun _ => rfl) (by decide) (by decide) (Nat.le_of_ble_eq_true rfl) (Nat.le_of_ble_eq_true rfl) (Nat.le_of_ble_eq_true rfl) dX9_init_23 (fun H hH hS => ?_)
  refine z_putF (ci := 13) (v := .ref (zad G.2.2.2 4 0)) (C := RX9) (T := TX9) (N := 3) hx hb hts (fun _ h => (List.mem_cons_of_mem _ (List.mem_append_right _ h))) tyX9 tyX9_ok nmX9 hown hK hH hS 1 0 1 (by rfl) rfl rfl 2 (by decide) (hts (.fieldLink RX9 19 "BallotFoundry$Town" "reached" "[I") (List.mem_of_getElem? (i := 8) rfl)) (fun _ h => h) rfl hin rfl (ty := tyX9 2) (by decide +kernel) rfl rfl (Nat.le_of_ble_eq_true rfl) 1 rfl dX9_init_25 (fun H locs hH hS => ?_)
  obtain ⟨F6, eF6⟩ : ∃ z, z = fs F4 1 0 2 1 := ⟨_, rfl⟩
  have q := q F6 eF6
  rw [← eF6] at hH
  refine W.cs (cells' := 3) (slots' := 144) rfl rfl ?_
  exact W.vret hx hb hr (fun t ht hW => ⟨⟨F6, rfl, q, zH_at ht hH⟩, hS.F ht⟩) hS.2.2 dX9_init_28
abbrev rz_X7_init : Room := { frames := 1, cells := 2, slots := 10, locals := 20 }
set_option maxHeartbeats 4000000 in
set_option maxRecDepth 100000 in
theorem cz_X7_init (l : Launch) (G : GPz) (F : GF) (K : GF → Prop) : Met l yX7_init wsX7_init rz_X7_init (va_Pc [.ref (zad G.2.2.2 6 0)] (fun U => zD G 7 F U ∧ PZ_X7_init F K)) (zQv G 9 K) 2 10 (gA (zg G)) := by
  refine Met.ofW (cc := cX7_init) (maxL := 1) (ret := none) (by decide) rfl ?_
  intro p e s m args below meth c s₁ Bd hml hv
  obtain ⟨rfl, ⟨⟨hK, hG, hZ⟩, hH, hz⟩, q⟩ := hv
  have hx := Bd.exec
  have hb := Bd.bytes
  have hr := Bd.returns
  have hts := atoms_spec (ws := wsX7_init) Bd.pre
  have hown : s.vm.findClass RX7 = some m.cls := findClass_of_methodNamed Bd.named
  have hlocks := Bd.notSynchronized
  have hin : meth.name = "<init>" := (name_of_methodNamed Bd.named Bd.method).1
  have hS : va_S (gA (zg G)) s.heap s.heap [] := va_S.rf
  have hl := lv_entry [.ref (zad G.2.2.2 6 0)] (n := 1) (Nat.le_of_ble_eq_true rfl)
  rw [lg_entry_eq]
  generalize (lg_sl [.ref (zad G.2.2.2 6 0)] ++ List.replicate (1 - (lg_sl [.ref (zad G.2.2.2 6 0)]).length) Slot.unset).toArray = ls at hl ⊢
  have hl : lv_has ls 1 [(0, .ref (zad G.2.2.2 6 0))] := hl
  unfold PZ_X7_init at q
  refine lv_aload_n hx hb dX7_init_0 rfl (lv_at hl 0 rfl) ?_
  refine W.objInit hx hb hown (hts (.methodLink RX7 3 objectInit) (List.mem_of_getElem? (i := 1) rfl)) (hts (.instanceMethod objectInit) (List.mem_of_getElem? (i := 2) rfl)) (hts (.code objectInit ⟨#[0xb1]⟩ 1 none) (List.mem_of_getElem? (i := 3) rfl)) rfl (by rw [hml]; exact hl.1) rfl dX7_init_1 (Nat.le_of_ble_eq_true rfl) (Nat.le_of_ble_eq_true rfl) ?_
  refine W.eq (g2 := F0 m 4 ls []) rfl ?_
  refine lv_aload_n hx hb dX7_init_4 rfl (lv_at hl 0 rfl) ?_
  refine lv_iconst (v := 5) hx hb dX7_init_5 (by decide) ?_
  obtain ⟨h1, q⟩ := q
  refine z_newa (atype := .int) (ty := .int) (N' := 5) (a0 := (5, .inl (zdef 7))) hx hb (hts (.arrayClass .int) (List.mem_of_getElem? (i := 4) rfl)) rfl hK hH hS (n0 := 7) hz rfl (by decide) 7 0 2 (by rfl) (by rw [h1]; rfl) rfl (fun _ h => by cases h) (fun _ => rfl) (by decide) (by decide) (Nat.le_of_ble_eq_true rfl) (Nat.le_of_ble_eq_true rfl) (Nat.le_of_ble_eq_true rfl) dX7_init_6 (fun H hH hS => ?_)
  refine z_putF (ci := 11) (v := .ref (zad G.2.2.2 7 0)) (C := RX7) (T := TX7) (N := 3) hx hb hts (fun _ h => (List.mem_cons_of_mem _ (List.mem_append_right _ h))) tyX7 tyX7_ok nmX7 hown hK hH hS 6 0 6 (by rfl) rfl rfl 0 (by decide) (hts (.fieldLink RX7 9 "BallotFoundry$Stations" "crossings" "[I") (List.mem_of_getElem? (i := 5) rfl)) (fun _ h => h) rfl hin rfl (ty := tyX7 0) (by decide +kernel) rfl rfl (Nat.le_of_ble_eq_true rfl) 1 rfl dX7_init_8 (fun H locs hH hS => ?_)
  obtain ⟨F2, eF2⟩ : ∃ z, z = fs F 6 0 0 1 := ⟨_, rfl⟩
  have q := q F2 eF2
  rw [← eF2] at hH
  refine lv_aload_n hx hb dX7_init_11 rfl (lv_at hl 0 rfl) ?_
  refine lv_iconst (v := 5) hx hb dX7_init_12 (by decide) ?_
  obtain ⟨h3, q⟩ := q
  refine z_newa (atype := .int) (ty := .int) (N' := 5) (a0 := (5, .inl (zdef 8))) hx hb (hts (.arrayClass .int) (List.mem_of_getElem? (i := 4) rfl)) rfl hK hH hS (n0 := 7) hz rfl (by decide) 8 0 2 (by rfl) (by rw [h3]; rfl) rfl (fun _ h => by cases h) (fun _ => rfl) (by decide) (by decide) (Nat.le_of_ble_eq_true rfl) (Nat.le_of_ble_eq_true rfl) (Nat.le_of_ble_eq_true rfl) dX7_init_13 (fun H hH hS => ?_)
  refine z_putF (ci := 11) (v := .ref (zad G.2.2.2 8 0)) (C := RX7) (T := TX7) (N := 3) hx hb hts (fun _ h => (List.mem_cons_of_mem _ (List.mem_append_right _ h))) tyX7 tyX7_ok nmX7 hown hK hH hS 6 0 6 (by rfl) rfl rfl 1 (by decide) (hts (.fieldLink RX7 15 "BallotFoundry$Stations" "seats" "[I") (List.mem_of_getElem? (i := 6) rfl)) (fun _ h => h) rfl hin rfl (ty := tyX7 1) (by decide +kernel) rfl rfl (Nat.le_of_ble_eq_true rfl) 1 rfl dX7_init_15 (fun H locs hH hS => ?_)
  obtain ⟨F4, eF4⟩ : ∃ z, z = fs F2 6 0 1 1 := ⟨_, rfl⟩
  have q := q F4 eF4
  rw [← eF4] at hH
  refine lv_aload_n hx hb dX7_init_18 rfl (lv_at hl 0 rfl) ?_
  refine lv_iconst (v := 0) hx hb dX7_init_19 (by decide) ?_
  refine z_put (ci := 11) (v := .int 0) (C := RX7) (T := TX7) (N := 3) hx hb hts (fun _ h => (List.mem_cons_of_mem _ (List.mem_append_right _ h))) tyX7 tyX7_ok nmX7 hown hK hH hS 6 0 6 (by rfl) rfl rfl 2 (by decide) (hts (.fieldLink RX7 18 "BallotFoundry$Stations" "size" "I") (List.mem_of_getElem? (i := 7) rfl)) (fun _ h => h) rfl (ty := .int) (by decide +kernel) rfl rfl (Nat.le_of_ble_eq_true rfl) 0 rfl dX7_init_20 (fun H locs hH hS => ?_)
  obtain ⟨F5, eF5⟩ : ∃ z, z = fs F4 6 0 2 0 := ⟨_, rfl⟩
  have q := q F5 eF5
  rw [← eF5] at hH
  refine W.cs (cells' := 2) (slots' := 10) rfl rfl ?_
  exact W.vret hx hb hr (fun t ht hW => ⟨⟨F5, rfl, q, zH_at ht hH⟩, hS.F ht⟩) hS.2.2 dX7_init_23
abbrev rz_X5_init : Room := { frames := 1, cells := 3, slots := 45, locals := 23 }
set_option maxHeartbeats 4000000 in
set_option maxRecDepth 100000 in
theorem cz_X5_init (l : Launch) (G : GPz) (F : GF) (K : GF → Prop) : Met l yX5_init wsX5_init rz_X5_init (va_Pc [.ref (zad G.2.2.2 12 0)] (fun U => zD G 13 F U ∧ PZ_X5_init F K)) (zQv G 16 K) 3 45 (gA (zg G)) := by
  refine Met.ofW (cc := cX5_init) (maxL := 1) (ret := none) (by decide) rfl ?_
  intro p e s m args below meth c s₁ Bd hml hv
  obtain ⟨rfl, ⟨⟨hK, hG, hZ⟩, hH, hz⟩, q⟩ := hv
  have hx := Bd.exec
  have hb := Bd.bytes
  have hr := Bd.returns
  have hts := atoms_spec (ws := wsX5_init) Bd.pre
  have hown : s.vm.findClass RX5 = some m.cls := findClass_of_methodNamed Bd.named
  have hlocks := Bd.notSynchronized
  have hin : meth.name = "<init>" := (name_of_methodNamed Bd.named Bd.method).1
  have hS : va_S (gA (zg G)) s.heap s.heap [] := va_S.rf
  have hl := lv_entry [.ref (zad G.2.2.2 12 0)] (n := 1) (Nat.le_of_ble_eq_true rfl)
  rw [lg_entry_eq]
  generalize (lg_sl [.ref (zad G.2.2.2 12 0)] ++ List.replicate (1 - (lg_sl [.ref (zad G.2.2.2 12 0)]).length) Slot.unset).toArray = ls at hl ⊢
  have hl : lv_has ls 1 [(0, .ref (zad G.2.2.2 12 0))] := hl
  unfold PZ_X5_init at q
  refine lv_aload_n hx hb dX5_init_0 rfl (lv_at hl 0 rfl) ?_
  refine W.objInit hx hb hown (hts (.methodLink RX5 3 objectInit) (List.mem_of_getElem? (i := 1) rfl)) (hts (.instanceMethod objectInit) (List.mem_of_getElem? (i := 2) rfl)) (hts (.code objectInit ⟨#[0xb1]⟩ 1 none) (List.mem_of_getElem? (i := 3) rfl)) rfl (by rw [hml]; exact hl.1) rfl dX5_init_1 (Nat.le_of_ble_eq_true rfl) (Nat.le_of_ble_eq_true rfl) ?_
  refine W.eq (g2 := F0 m 4 ls []) rfl ?_
  refine lv_aload_n hx hb dX5_init_4 rfl (lv_at hl 0 rfl) ?_
  refine lv_bipush (v := 20) hx hb dX5_init_5 (by decide) ?_
  obtain ⟨h1, q⟩ := q
  refine z_newa (atype := .int) (ty := .int) (N' := 20) (a0 := (20, .inl (zdef 13))) hx hb (hts (.arrayClass .int) (List.mem_of_getElem? (i := 4) rfl)) rfl hK hH hS (n0 := 13) hz rfl (by decide) 13 0 2 (by rfl) (by rw [h1]; rfl) rfl (fun _ h => by cases h) (fun _ => rfl) (by decide) (by decide) (Nat.le_of_ble_eq_true rfl) (Nat.le_of_ble_eq_true rfl) (Nat.le_of_ble_eq_true rfl) dX5_init_7 (fun H hH hS => ?_)
  refine z_putF (ci := 9) (v := .ref (zad G.2.2.2 13 0)) (C := RX5) (T := TX5) (N := 3) hx hb hts (fun _ h => (List.mem_cons_of_mem _ (List.mem_append_right _ h))) tyX5 tyX5_ok nmX5 hown hK hH hS 12 0 12 (by rfl) rfl rfl 0 (by decide) (hts (.fieldLink RX5 9 "BallotFoundry$Roll" "stationsOfPeople" "[I") (List.mem_of_getElem? (i := 5) rfl)) (fun _ h => h) rfl hin rfl (ty := tyX5 0) (by decide +kernel) rfl rfl (Nat.le_of_ble_eq_true rfl) 1 rfl dX5_init_9 (fun H locs hH hS => ?_)
  obtain ⟨F2, eF2⟩ : ∃ z, z = fs F 12 0 0 1 := ⟨_, rfl⟩
  have q := q F2 eF2
  rw [← eF2] at hH
  refine lv_aload_n hx hb dX5_init_12 rfl (lv_at hl 0 rfl) ?_
  refine lv_iconst (v := 5) hx hb dX5_init_13 (by decide) ?_
  obtain ⟨h3, q⟩ := q
  refine z_newa (atype := .int) (ty := .int) (N' := 5) (a0 := (5, .inl (zdef 14))) hx hb (hts (.arrayClass .int) (List.mem_of_getElem? (i := 4) rfl)) rfl hK hH hS (n0 := 13) hz rfl (by decide) 14 0 2 (by rfl) (by rw [h3]; rfl) rfl (fun _ h => by cases h) (fun _ => rfl) (by decide) (by decide) (Nat.le_of_ble_eq_true rfl) (Nat.le_of_ble_eq_true rfl) (Nat.le_of_ble_eq_true rfl) dX5_init_14 (fun H hH hS => ?_)
  refine z_putF (ci := 9) (v := .ref (zad G.2.2.2 14 0)) (C := RX5) (T := TX5) (N := 3) hx hb hts (fun _ h => (List.mem_cons_of_mem _ (List.mem_append_right _ h))) tyX5 tyX5_ok nmX5 hown hK hH hS 12 0 12 (by rfl) rfl rfl 1 (by decide) (hts (.fieldLink RX5 15 "BallotFoundry$Roll" "peopleOfStations" "[I") (List.mem_of_getElem? (i := 6) rfl)) (fun _ h => h) rfl hin rfl (ty := tyX5 1) (by decide +kernel) rfl rfl (Nat.le_of_ble_eq_true rfl) 1 rfl dX5_init_16 (fun H locs hH hS => ?_)
  obtain ⟨F4, eF4⟩ : ∃ z, z = fs F2 12 0 1 1 := ⟨_, rfl⟩
  have q := q F4 eF4
  rw [← eF4] at hH
  refine lv_aload_n hx hb dX5_init_19 rfl (lv_at hl 0 rfl) ?_
  refine lv_bipush (v := 20) hx hb dX5_init_20 (by decide) ?_
  obtain ⟨h5, q⟩ := q
  refine z_newa (atype := .boolean) (ty := .boolean) (N' := 20) (a0 := (20, .inl (zdef 15))) hx hb (hts (.arrayClass .boolean) (List.mem_of_getElem? (i := 7) rfl)) rfl hK hH hS (n0 := 13) hz rfl (by decide) 15 0 3 (by rfl) (by rw [h5]; rfl) rfl (fun _ h => by cases h) (fun _ => rfl) (by decide) (by decide) (Nat.le_of_ble_eq_true rfl) (Nat.le_of_ble_eq_true rfl) (Nat.le_of_ble_eq_true rfl) dX5_init_22 (fun H hH hS => ?_)
  refine z_putF (ci := 9) (v := .ref (zad G.2.2.2 15 0)) (C := RX5) (T := TX5) (N := 3) hx hb hts (fun _ h => (List.mem_cons_of_mem _ (List.mem_append_right _ h))) tyX5 tyX5_ok nmX5 hown hK hH hS 12 0 12 (by rfl) rfl rfl 2 (by decide) (hts (.fieldLink RX5 18 "BallotFoundry$Roll" "hasVoted" "[Z") (List.mem_of_getElem? (i := 8) rfl)) (fun _ h => h) rfl hin rfl (ty := tyX5 2) (by decide +kernel) rfl rfl (Nat.le_of_ble_eq_true rfl) 1 rfl dX5_init_24 (fun H locs hH hS => ?_)
  obtain ⟨F6, eF6⟩ : ∃ z, z = fs F4 12 0 2 1 := ⟨_, rfl⟩
  have q := q F6 eF6
  rw [← eF6] at hH
  refine lv_aload_n hx hb dX5_init_27 rfl (lv_at hl 0 rfl) ?_
  obtain ⟨h7, q⟩ := q
  refine z_get (ci := 9) (v := .ref (zad G.2.2.2 13 0)) (C := RX5) (T := TX5) (N := 3) (fs0 := [.ref (zad G.2.2.2 13 0), zv (F6 12 0 1) (zad G.2.2.2 14 0), zv (F6 12 0 2) (zad G.2.2.2 15 0)]) hx hb hts (fun _ h => (List.mem_cons_of_mem _ (List.mem_append_right _ h))) hown hK hH 12 0 12 (by rfl) (by show Sum.inr (9, [zv (F6 12 0 0) (zad G.2.2.2 13 0), zv (F6 12 0 1) (zad G.2.2.2 14 0), zv (F6 12 0 2) (zad G.2.2.2 15 0)]) = _; rw [h7]; rfl) rfl 0 (by decide) (hts (.fieldLink RX5 9 "BallotFoundry$Roll" "stationsOfPeople" "[I") (List.mem_of_getElem? (i := 5) rfl)) (fun _ h => h) rfl dX5_init_28 ?_
  refine lv_iconst (v := (-1)) hx hb dX5_init_31 (by decide) ?_
  refine W.sz (fun hle => ?_)
  have hzn : H.size = G.2.2.2 + 16 := zsize (n0 := 13) hH (by decide) hz rfl hle
  refine va_callv (va_runS (As := [.ref (zad G.2.2.2 13 0), .int (-1)]) (rest := []) ⟨hx, hb, hml, hown, hts⟩ (cz_J7_fill_53178 l G 16 F6 13 0 13 20 (-1) (by rfl) (by decide) (fun _ => rfl)) (va_cwS 2 hts gX5_init_J7_fill_53178 rfl rfl rfl (by decide +kernel) ⟨Nat.le_of_ble_eq_true rfl, Nat.le_of_ble_eq_true rfl⟩) ⟨fun a U g mk h => ⟨h.1, zD_blind h.2⟩, fun U hU hW => ⟨rfl, zD_at hK hG hZ hH hzn hS hU hW⟩⟩ rfl rfl hl.1 rfl (lv_room (Nat.le_of_ble_eq_true rfl)) dX5_init_32 ⟨Nat.le_of_ble_eq_true rfl, Nat.le_of_ble_eq_true rfl⟩) hS (fun _ _ h => h) (fun _ h => h) (fun F8 t H locs ht hvm q9 hB1 hzz hk hS => ?_)
  have q := q F8 q9
  have hH : zH G 16 F8 H := zH_to ht hB1
  refine W.cs (cells' := 3) (slots' := 45) rfl rfl ?_
  exact W.vret hx hb hr (fun t ht hW => ⟨⟨F8, rfl, q, zH_at ht hH⟩, hS.F ht⟩) hS.2.2 dX5_init_35
abbrev rz_X3_init : Room := { frames := 1, cells := 3, slots := 180, locals := 20 }
set_option maxHeartbeats 4000000 in
set_option maxRecDepth 100000 in
theorem cz_X3_init (l : Launch) (G : GPz) (F : GF) (K : GF → Prop) : Met l yX3_init wsX3_init rz_X3_init (va_Pc [.ref (zad G.2.2.2 16 0)] (fun U => zD G 17 F U ∧ PZ_X3_init F K)) (zQv G 20 K) 3 180 (gA (zg G)) := by
  refine Met.ofW (cc := cX3_init) (maxL := 1) (ret := none) (by decide) rfl ?_
  intro p e s m args below meth c s₁ Bd hml hv
  obtain ⟨rfl, ⟨⟨hK, hG, hZ⟩, hH, hz⟩, q⟩ := hv
  have hx := Bd.exec
  have hb := Bd.bytes
  have hr := Bd.returns
  have hts := atoms_spec (ws := wsX3_init) Bd.pre
  have hown : s.vm.findClass RX3 = some m.cls := findClass_of_methodNamed Bd.named
  have hlocks := Bd.notSynchronized
  have hin : meth.name = "<init>" := (name_of_methodNamed Bd.named Bd.method).1
  have hS : va_S (gA (zg G)) s.heap s.heap [] := va_S.rf
  have hl := lv_entry [.ref (zad G.2.2.2 16 0)] (n := 1) (Nat.le_of_ble_eq_true rfl)
  rw [lg_entry_eq]
  generalize (lg_sl [.ref (zad G.2.2.2 16 0)] ++ List.replicate (1 - (lg_sl [.ref (zad G.2.2.2 16 0)]).length) Slot.unset).toArray = ls at hl ⊢
  have hl : lv_has ls 1 [(0, .ref (zad G.2.2.2 16 0))] := hl
  unfold PZ_X3_init at q
  refine lv_aload_n hx hb dX3_init_0 rfl (lv_at hl 0 rfl) ?_
  refine W.objInit hx hb hown (hts (.methodLink RX3 3 objectInit) (List.mem_of_getElem? (i := 1) rfl)) (hts (.instanceMethod objectInit) (List.mem_of_getElem? (i := 2) rfl)) (hts (.code objectInit ⟨#[0xb1]⟩ 1 none) (List.mem_of_getElem? (i := 3) rfl)) rfl (by rw [hml]; exact hl.1) rfl dX3_init_1 (Nat.le_of_ble_eq_true rfl) (Nat.le_of_ble_eq_true rfl) ?_
  refine W.eq (g2 := F0 m 4 ls []) rfl ?_
  refine lv_aload_n hx hb dX3_init_4 rfl (lv_at hl 0 rfl) ?_
  refine lv_bipush (v := 60) hx hb dX3_init_5 (by decide) ?_
  obtain ⟨h1, q⟩ := q
  refine z_newa (atype := .int) (ty := .int) (N' := 60) (a0 := (60, .inl (zdef 17))) hx hb (hts (.arrayClass .int) (List.mem_of_getElem? (i := 4) rfl)) rfl hK hH hS (n0 := 17) hz rfl (by decide) 17 0 2 (by rfl) (by rw [h1]; rfl) rfl (fun _ h => by cases h) (fun _ => rfl) (by decide) (by decide) (Nat.le_of_ble_eq_true rfl) (Nat.le_of_ble_eq_true rfl) (Nat.le_of_ble_eq_true rfl) dX3_init_7 (fun H hH hS => ?_)
  refine z_putF (ci := 7) (v := .ref (zad G.2.2.2 17 0)) (C := RX3) (T := TX3) (N := 4) hx hb hts (fun _ h => (List.mem_cons_of_mem _ (List.mem_append_right _ h))) tyX3 tyX3_ok nmX3 hown hK hH hS 16 0 16 (by rfl) rfl rfl 0 (by decide) (hts (.fieldLink RX3 9 "BallotFoundry$Envelopes" "people" "[I") (List.mem_of_getElem? (i := 5) rfl)) (fun _ h => h) rfl hin rfl (ty := tyX3 0) (by decide +kernel) rfl rfl (Nat.le_of_ble_eq_true rfl) 1 rfl dX3_init_9 (fun H locs hH hS => ?_)
  obtain ⟨F2, eF2⟩ : ∃ z, z = fs F 16 0 0 1 := ⟨_, rfl⟩
  have q := q F2 eF2
  rw [← eF2] at hH
  refine lv_aload_n hx hb dX3_init_12 rfl (lv_at hl 0 rfl) ?_
  refine lv_bipush (v := 60) hx hb dX3_init_13 (by decide) ?_
  obtain ⟨h3, q⟩ := q
  refine z_newa (atype := .int) (ty := .int) (N' := 60) (a0 := (60, .inl (zdef 18))) hx hb (hts (.arrayClass .int) (List.mem_of_getElem? (i := 4) rfl)) rfl hK hH hS (n0 := 17) hz rfl (by decide) 18 0 2 (by rfl) (by rw [h3]; rfl) rfl (fun _ h => by cases h) (fun _ => rfl) (by decide) (by decide) (Nat.le_of_ble_eq_true rfl) (Nat.le_of_ble_eq_true rfl) (Nat.le_of_ble_eq_true rfl) dX3_init_15 (fun H hH hS => ?_)
  refine z_putF (ci := 7) (v := .ref (zad G.2.2.2 18 0)) (C := RX3) (T := TX3) (N := 4) hx hb hts (fun _ h => (List.mem_cons_of_mem _ (List.mem_append_right _ h))) tyX3 tyX3_ok nmX3 hown hK hH hS 16 0 16 (by rfl) rfl rfl 1 (by decide) (hts (.fieldLink RX3 15 "BallotFoundry$Envelopes" "ballots" "[I") (List.mem_of_getElem? (i := 6) rfl)) (fun _ h => h) rfl hin rfl (ty := tyX3 1) (by decide +kernel) rfl rfl (Nat.le_of_ble_eq_true rfl) 1 rfl dX3_init_17 (fun H locs hH hS => ?_)
  obtain ⟨F4, eF4⟩ : ∃ z, z = fs F2 16 0 1 1 := ⟨_, rfl⟩
  have q := q F4 eF4
  rw [← eF4] at hH
  refine lv_aload_n hx hb dX3_init_20 rfl (lv_at hl 0 rfl) ?_
  refine lv_bipush (v := 60) hx hb dX3_init_21 (by decide) ?_
  obtain ⟨h5, q⟩ := q
  refine z_newa (atype := .int) (ty := .int) (N' := 60) (a0 := (60, .inl (zdef 19))) hx hb (hts (.arrayClass .int) (List.mem_of_getElem? (i := 4) rfl)) rfl hK hH hS (n0 := 17) hz rfl (by decide) 19 0 2 (by rfl) (by rw [h5]; rfl) rfl (fun _ h => by cases h) (fun _ => rfl) (by decide) (by decide) (Nat.le_of_ble_eq_true rfl) (Nat.le_of_ble_eq_true rfl) (Nat.le_of_ble_eq_true rfl) dX3_init_23 (fun H hH hS => ?_)
  refine z_putF (ci := 7) (v := .ref (zad G.2.2.2 19 0)) (C := RX3) (T := TX3) (N := 4) hx hb hts (fun _ h => (List.mem_cons_of_mem _ (List.mem_append_right _ h))) tyX3 tyX3_ok nmX3 hown hK hH hS 16 0 16 (by rfl) rfl rfl 2 (by decide) (hts (.fieldLink RX3 18 "BallotFoundry$Envelopes" "states" "[I") (List.mem_of_getElem? (i := 7) rfl)) (fun _ h => h) rfl hin rfl (ty := tyX3 2) (by decide +kernel) rfl rfl (Nat.le_of_ble_eq_true rfl) 1 rfl dX3_init_25 (fun H locs hH hS => ?_)
  obtain ⟨F6, eF6⟩ : ∃ z, z = fs F4 16 0 2 1 := ⟨_, rfl⟩
  have q := q F6 eF6
  rw [← eF6] at hH
  refine lv_aload_n hx hb dX3_init_28 rfl (lv_at hl 0 rfl) ?_
  refine lv_iconst (v := 0) hx hb dX3_init_29 (by decide) ?_
  refine z_put (ci := 7) (v := .int 0) (C := RX3) (T := TX3) (N := 4) hx hb hts (fun _ h => (List.mem_cons_of_mem _ (List.mem_append_right _ h))) tyX3 tyX3_ok nmX3 hown hK hH hS 16 0 16 (by rfl) rfl rfl 3 (by decide) (hts (.fieldLink RX3 21 "BallotFoundry$Envelopes" "size" "I") (List.mem_of_getElem? (i := 8) rfl)) (fun _ h => h) rfl (ty := .int) (by decide +kernel) rfl rfl (Nat.le_of_ble_eq_true rfl) 0 rfl dX3_init_30 (fun H locs hH hS => ?_)
  obtain ⟨F7, eF7⟩ : ∃ z, z = fs F6 16 0 3 0 := ⟨_, rfl⟩
  have q := q F7 eF7
  rw [← eF7] at hH
  refine W.cs (cells' := 3) (slots' := 180) rfl rfl ?_
  exact W.vret hx hb hr (fun t ht hW => ⟨⟨F7, rfl, q, zH_at ht hH⟩, hS.F ht⟩) hS.2.2 dX3_init_33
abbrev rz_J5_init_d00df : Room := { frames := 1, cells := 1, slots := 16, locals := 20 }
set_option maxHeartbeats 4000000 in
set_option maxRecDepth 100000 in
theorem cz_J5_init_d00df (l : Launch) (G : GPz) (F : GF) (p1 : Int32) (K : GF → Prop) : Met l yJ5_init_d00df wsJ5_init_d00df rz_J5_init_d00df (va_Pc [.ref (zad G.2.2.2 25 0), .int p1] (fun U => zD G 26 F U ∧ PZ_J5_init_d00df F p1 K)) (zQv G 27 K) 1 16 (gA (zg G)) := by
  refine Met.ofW (cc := cJ5_init_d00df) (maxL := 2) (ret := none) (by decide) rfl ?_
  intro p e s m args below meth c s₁ Bd hml hv
  obtain ⟨rfl, ⟨⟨hK, hG, hZ⟩, hH, hz⟩, q⟩ := hv
  have hx := Bd.exec
  have hb := Bd.bytes
  have hr := Bd.returns
  have hts := atoms_spec (ws := wsJ5_init_d00df) Bd.pre
  have hown : s.vm.findClass RJ5 = some m.cls := findClass_of_methodNamed Bd.named
  have hlocks := Bd.notSynchronized
  have hin : meth.name = "<init>" := (name_of_methodNamed Bd.named Bd.method).1
  have hS : va_S (gA (zg G)) s.heap s.heap [] := va_S.rf
  have hl := lv_entry [.ref (zad G.2.2.2 25 0), .int p1] (n := 2) (Nat.le_of_ble_eq_true rfl)
  rw [lg_entry_eq]
  generalize (lg_sl [.ref (zad G.2.2.2 25 0), .int p1] ++ List.replicate (2 - (lg_sl [.ref (zad G.2.2.2 25 0), .int p1]).length) Slot.unset).toArray = ls at hl ⊢
  have hl : lv_has ls 2 [(0, .ref (zad G.2.2.2 25 0)), (1, .int p1)] := hl
  unfold PZ_J5_init_d00df at q
  refine lv_aload_n hx hb dJ5_init_d00df_0 rfl (lv_at hl 0 rfl) ?_
  refine W.objInit hx hb hown (hts (.methodLink RJ5 3 objectInit) (List.mem_of_getElem? (i := 1) rfl)) (hts (.instanceMethod objectInit) (List.mem_of_getElem? (i := 2) rfl)) (hts (.code objectInit ⟨#[0xb1]⟩ 1 none) (List.mem_of_getElem? (i := 3) rfl)) rfl (by rw [hml]; exact hl.1) rfl dJ5_init_d00df_1 (Nat.le_of_ble_eq_true rfl) (Nat.le_of_ble_eq_true rfl) ?_
  refine W.eq (g2 := F0 m 4 ls []) rfl ?_
  refine va_gets hx hb hG.2.2.2.2.2.2.1 hS hown (hts (.fieldLink RJ5 18 "java/lang/String" "COMPACT_STRINGS" "Z") (List.mem_of_getElem? (i := 4) rfl)) (fun _ h => h) dJ5_init_d00df_4 ?_
  refine lv_if_eq (tgt := 25) hx hb dJ5_init_d00df_7 (by decide) (fun c1 => absurd c1 (by decide)) (fun _ => ?_)
  refine lv_aload_n hx hb dJ5_init_d00df_10 rfl (lv_at hl 0 rfl) ?_
  refine lv_iload_n hx hb dJ5_init_d00df_11 rfl (lv_at hl 1 rfl) ?_
  obtain ⟨h1, q⟩ := q
  obtain ⟨h2, q⟩ := q
  refine z_newa (atype := .byte) (ty := .byte) (N' := 16) (a0 := (16, .inl (zdef 26))) hx hb (hts (.arrayClass .byte) (List.mem_of_getElem? (i := 5) rfl)) rfl hK hH hS (n0 := 26) hz rfl (by decide) 26 0 0 (by rfl) (by rw [h1]; rfl) rfl (fun _ h => by cases h) (fun _ => rfl) (by rw [h2]; decide) (by rw [h2]; decide) (Nat.le_of_ble_eq_true rfl) (Nat.le_of_ble_eq_true rfl) (Nat.le_of_ble_eq_true rfl) dJ5_init_d00df_12 (fun H hH hS => ?_)
  refine z_put (ci := 1) (v := .ref (zad G.2.2.2 26 0)) (C := RJ4) (T := TJ4) (N := 4) hx hb hts (fun _ h => (List.mem_cons_of_mem _ (List.mem_append_right _ h))) tyJ4 tyJ4_ok nmJ4 hown hK hH hS 25 0 25 (by rfl) rfl rfl 0 (by decide) (hts (.fieldLink RJ5 15 "java/lang/AbstractStringBuilder" "value" "[B") (List.mem_of_getElem? (i := 6) rfl)) (fun _ h => h) rfl (ty := tyJ4 0) (by decide +kernel) rfl rfl (Nat.le_of_ble_eq_true rfl) 1 rfl dJ5_init_d00df_14 (fun H locs hH hS => ?_)
  obtain ⟨F3, eF3⟩ : ∃ z, z = fs F 25 0 0 1 := ⟨_, rfl⟩
  have q := q F3 eF3
  rw [← eF3] at hH
  refine lv_aload_n hx hb dJ5_init_d00df_17 rfl (lv_at hl 0 rfl) ?_
  refine lv_iconst (v := 0) hx hb dJ5_init_d00df_18 (by decide) ?_
  refine z_put (ci := 1) (v := .int 0) (C := RJ4) (T := TJ4) (N := 4) hx hb hts (fun _ h => (List.mem_cons_of_mem _ (List.mem_append_right _ h))) tyJ4 tyJ4_ok nmJ4 hown hK hH hS 25 0 25 (by rfl) rfl rfl 1 (by decide) (hts (.fieldLink RJ5 22 "java/lang/AbstractStringBuilder" "coder" "B") (List.mem_of_getElem? (i := 7) rfl)) (fun _ h => h) rfl (ty := .byte) (by decide +kernel) rfl rfl (Nat.le_of_ble_eq_true rfl) 0 rfl dJ5_init_d00df_19 (fun H locs hH hS => ?_)
  obtain ⟨F4, eF4⟩ : ∃ z, z = fs F3 25 0 1 0 := ⟨_, rfl⟩
  have q := q F4 eF4
  rw [← eF4] at hH
  refine lv_goto (tgt := 38) hx hb dJ5_init_d00df_22 (by decide) ?_
  refine W.cs (cells' := 1) (slots' := 16) rfl rfl ?_
  exact W.vret hx hb hr (fun t ht hW => ⟨⟨F4, rfl, q, zH_at ht hH⟩, hS.F ht⟩) hS.2.2 dJ5_init_d00df_38
abbrev rz_J4_init_da8c8 : Room := { frames := 2, cells := 1, slots := 16, locals := 41 }
set_option maxHeartbeats 4000000 in
set_option maxRecDepth 100000 in
theorem cz_J4_init_da8c8 (l : Launch) (G : GPz) (F : GF) (K : GF → Prop) : Met l yJ4_init_da8c8 wsJ4_init_da8c8 rz_J4_init_da8c8 (va_Pc [.ref (zad G.2.2.2 25 0)] (fun U => zD G 26 F U ∧ PZ_J4_init_da8c8 F K)) (zQv G 27 K) 1 16 (gA (zg G)) := by
  refine Met.ofW (cc := cJ4_init_da8c8) (maxL := 1) (ret := none) (by decide) rfl ?_
  intro p e s m args below meth c s₁ Bd hml hv
  obtain ⟨rfl, ⟨⟨hK, hG, hZ⟩, hH, hz⟩, q⟩ := hv
  have hx := Bd.exec
  have hb := Bd.bytes
  have hr := Bd.returns
  have hts := atoms_spec (ws := wsJ4_init_da8c8) Bd.pre
  have hown : s.vm.findClass RJ4 = some m.cls := findClass_of_methodNamed Bd.named
  have hlocks := Bd.notSynchronized
  have hin : meth.name = "<init>" := (name_of_methodNamed Bd.named Bd.method).1
  have hS : va_S (gA (zg G)) s.heap s.heap [] := va_S.rf
  have hl := lv_entry [.ref (zad G.2.2.2 25 0)] (n := 1) (Nat.le_of_ble_eq_true rfl)
  rw [lg_entry_eq]
  generalize (lg_sl [.ref (zad G.2.2.2 25 0)] ++ List.replicate (1 - (lg_sl [.ref (zad G.2.2.2 25 0)]).length) Slot.unset).toArray = ls at hl ⊢
  have hl : lv_has ls 1 [(0, .ref (zad G.2.2.2 25 0))] := hl
  unfold PZ_J4_init_da8c8 at q
  refine lv_aload_n hx hb dJ4_init_da8c8_0 rfl (lv_at hl 0 rfl) ?_
  refine lv_bipush (v := 16) hx hb dJ4_init_da8c8_1 (by decide) ?_
  refine W.sz (fun hle => ?_)
  have hzn : s.heap.size = G.2.2.2 + 26 := zsize (n0 := 26) hH (by decide) hz rfl hle
  refine va_callv (va_runI (As := [.int 16]) (rest := []) ⟨hx, hb, hml, hown, hts⟩ (cz_J5_init_d00df l G F 16 _) (cwI 1 hts gJ4_init_da8c8_J5_init_d00df rfl rfl rfl (hts (.initialized RJ5) (List.mem_of_getElem? (i := 3) rfl)) (hts (.methodLink RJ4 1 yJ5_init_d00df) (List.mem_of_getElem? (i := 1) rfl)) (hts (.instanceMethod yJ5_init_d00df) (List.mem_of_getElem? (i := 2) rfl)) rfl (by decide +kernel) ⟨Nat.le_of_ble_eq_true rfl, Nat.le_of_ble_eq_true rfl⟩) ⟨fun a U g mk h => ⟨h.1, zD_blind h.2.1, h.2.2⟩, fun U hU hW => ⟨rfl, zD_at hK hG hZ hH hzn hS hU hW, q⟩⟩ rfl rfl hl.1 rfl (lv_room (Nat.le_of_ble_eq_true rfl)) dJ4_init_da8c8_3 ⟨Nat.le_of_ble_eq_true rfl, Nat.le_of_ble_eq_true rfl⟩) hS (fun _ _ h => h) (fun _ h => h) (fun F1 t H locs ht hvm q hB1 hzz hk hS => ?_)
  have hH : zH G 27 F1 H := zH_to ht hB1
  refine W.cs (cells' := 1) (slots' := 16) rfl rfl ?_
  exact W.vret hx hb hr (fun t ht hW => ⟨⟨F1, rfl, q, zH_at ht hH⟩, hS.F ht⟩) hS.2.2 dJ4_init_da8c8_6
abbrev rz_X0_init : Room := { frames := 3, cells := 5, slots := 1736, locals := 61 }
set_option maxHeartbeats 4000000 in
set_option maxRecDepth 100000 in
theorem cz_X0_init (l : Launch) (G : GPz) (F : GF) (K : GF → Prop) : Met l yX0_init wsX0_init rz_X0_init (va_Pc [.ref (zad G.2.2.2 21 0)] (fun U => zD G 22 F U ∧ PZ_X0_init F K)) (zQv G 27 K) 5 1736 (gA (zg G)) := by
  refine Met.ofW (cc := cX0_init) (maxL := 1) (ret := none) (by decide) rfl ?_
  intro p e s m args below meth c s₁ Bd hml hv
  obtain ⟨rfl, ⟨⟨hK, hG, hZ⟩, hH, hz⟩, q⟩ := hv
  have hx := Bd.exec
  have hb := Bd.bytes
  have hr := Bd.returns
  have hts := atoms_spec (ws := wsX0_init) Bd.pre
  have hown : s.vm.findClass RX0 = some m.cls := findClass_of_methodNamed Bd.named
  have hlocks := Bd.notSynchronized
  have hin : meth.name = "<init>" := (name_of_methodNamed Bd.named Bd.method).1
  have hS : va_S (gA (zg G)) s.heap s.heap [] := va_S.rf
  have hl := lv_entry [.ref (zad G.2.2.2 21 0)] (n := 1) (Nat.le_of_ble_eq_true rfl)
  rw [lg_entry_eq]
  generalize (lg_sl [.ref (zad G.2.2.2 21 0)] ++ List.replicate (1 - (lg_sl [.ref (zad G.2.2.2 21 0)]).length) Slot.unset).toArray = ls at hl ⊢
  have hl : lv_has ls 1 [(0, .ref (zad G.2.2.2 21 0))] := hl
  unfold PZ_X0_init at q
  refine lv_aload_n hx hb dX0_init_0 rfl (lv_at hl 0 rfl) ?_
  refine W.objInit hx hb hown (hts (.methodLink RX0 3 objectInit) (List.mem_of_getElem? (i := 1) rfl)) (hts (.instanceMethod objectInit) (List.mem_of_getElem? (i := 2) rfl)) (hts (.code objectInit ⟨#[0xb1]⟩ 1 none) (List.mem_of_getElem? (i := 3) rfl)) rfl (by rw [hml]; exact hl.1) rfl dX0_init_1 (Nat.le_of_ble_eq_true rfl) (Nat.le_of_ble_eq_true rfl) ?_
  refine W.eq (g2 := F0 m 4 ls []) rfl ?_
  refine lv_aload_n hx hb dX0_init_4 rfl (lv_at hl 0 rfl) ?_
  refine lv_sipush (v := 572) hx hb dX0_init_5 (by decide) ?_
  obtain ⟨h1, q⟩ := q
  refine z_newa (atype := .int) (ty := .int) (N' := 572) (a0 := (572, .inl (zdef 22))) hx hb (hts (.arrayClass .int) (List.mem_of_getElem? (i := 4) rfl)) rfl hK hH hS (n0 := 22) hz rfl (by decide) 22 0 2 (by rfl) (by rw [h1]; rfl) rfl (fun _ h => by cases h) (fun _ => rfl) (by decide) (by decide) (Nat.le_of_ble_eq_true rfl) (Nat.le_of_ble_eq_true rfl) (Nat.le_of_ble_eq_true rfl) dX0_init_8 (fun H hH hS => ?_)
  refine z_putF (ci := 4) (v := .ref (zad G.2.2.2 22 0)) (C := RX0) (T := TX0) (N := 5) hx hb hts (fun _ h => (List.mem_cons_of_mem _ (List.mem_append_left _ (List.mem_append_right _ h)))) tyX0 tyX0_ok nmX0 hown hK hH hS 21 0 21 (by rfl) rfl rfl 0 (by decide) (hts (.fieldLink RX0 9 "BallotFoundry$Book" "days" "[I") (List.mem_of_getElem? (i := 5) rfl)) (fun _ h => h) rfl hin rfl (ty := tyX0 0) (by decide +kernel) rfl rfl (Nat.le_of_ble_eq_true rfl) 1 rfl dX0_init_10 (fun H locs hH hS => ?_)
  obtain ⟨F2, eF2⟩ : ∃ z, z = fs F 21 0 0 1 := ⟨_, rfl⟩
  have q := q F2 eF2
  rw [← eF2] at hH
  refine lv_aload_n hx hb dX0_init_13 rfl (lv_at hl 0 rfl) ?_
  refine lv_sipush (v := 572) hx hb dX0_init_14 (by decide) ?_
  obtain ⟨h3, q⟩ := q
  refine z_newa (atype := .char) (ty := .char) (N' := 572) (a0 := (572, .inl (zdef 23))) hx hb (hts (.arrayClass .char) (List.mem_of_getElem? (i := 6) rfl)) rfl hK hH hS (n0 := 22) hz rfl (by decide) 23 0 1 (by rfl) (by rw [h3]; rfl) rfl (fun _ h => by cases h) (fun _ => rfl) (by decide) (by decide) (Nat.le_of_ble_eq_true rfl) (Nat.le_of_ble_eq_true rfl) (Nat.le_of_ble_eq_true rfl) dX0_init_17 (fun H hH hS => ?_)
  refine z_putF (ci := 4) (v := .ref (zad G.2.2.2 23 0)) (C := RX0) (T := TX0) (N := 5) hx hb hts (fun _ h => (List.mem_cons_of_mem _ (List.mem_append_left _ (List.mem_append_right _ h)))) tyX0 tyX0_ok nmX0 hown hK hH hS 21 0 21 (by rfl) rfl rfl 1 (by decide) (hts (.fieldLink RX0 15 "BallotFoundry$Book" "signs" "[C") (List.mem_of_getElem? (i := 7) rfl)) (fun _ h => h) rfl hin rfl (ty := tyX0 1) (by decide +kernel) rfl rfl (Nat.le_of_ble_eq_true rfl) 1 rfl dX0_init_19 (fun H locs hH hS => ?_)
  obtain ⟨F4, eF4⟩ : ∃ z, z = fs F2 21 0 1 1 := ⟨_, rfl⟩
  have q := q F4 eF4
  rw [← eF4] at hH
  refine lv_aload_n hx hb dX0_init_22 rfl (lv_at hl 0 rfl) ?_
  refine lv_sipush (v := 572) hx hb dX0_init_23 (by decide) ?_
  obtain ⟨h5, q⟩ := q
  refine z_newa (atype := .int) (ty := .int) (N' := 572) (a0 := (572, .inl (zdef 24))) hx hb (hts (.arrayClass .int) (List.mem_of_getElem? (i := 4) rfl)) rfl hK hH hS (n0 := 22) hz rfl (by decide) 24 0 2 (by rfl) (by rw [h5]; rfl) rfl (fun _ h => by cases h) (fun _ => rfl) (by decide) (by decide) (Nat.le_of_ble_eq_true rfl) (Nat.le_of_ble_eq_true rfl) (Nat.le_of_ble_eq_true rfl) dX0_init_26 (fun H hH hS => ?_)
  refine z_putF (ci := 4) (v := .ref (zad G.2.2.2 24 0)) (C := RX0) (T := TX0) (N := 5) hx hb hts (fun _ h => (List.mem_cons_of_mem _ (List.mem_append_left _ (List.mem_append_right _ h)))) tyX0 tyX0_ok nmX0 hown hK hH hS 21 0 21 (by rfl) rfl rfl 2 (by decide) (hts (.fieldLink RX0 19 "BallotFoundry$Book" "numbers" "[I") (List.mem_of_getElem? (i := 8) rfl)) (fun _ h => h) rfl hin rfl (ty := tyX0 2) (by decide +kernel) rfl rfl (Nat.le_of_ble_eq_true rfl) 1 rfl dX0_init_28 (fun H locs hH hS => ?_)
  obtain ⟨F6, eF6⟩ : ∃ z, z = fs F4 21 0 2 1 := ⟨_, rfl⟩
  have q := q F6 eF6
  rw [← eF6] at hH
  refine lv_aload_n hx hb dX0_init_31 rfl (lv_at hl 0 rfl) ?_
  obtain ⟨h7, q⟩ := q
  refine z_new (ci := 1) (C := RJ4) (T := TJ4) (N := 4) (fs0 := [.null, .int 0, .int 0, .int 0]) hx hb hts (fun _ h => (List.mem_cons_of_mem _ (List.mem_append_right _ h))) tyJ4 tyJ4_ok hown (hts (.classLink RX0 22 RJ4) (List.mem_of_getElem? (i := 9) rfl)) (hts (.instantiable RJ4 4) (List.mem_of_getElem? (i := 10) rfl)) (hts (.initialized RJ4) (List.mem_of_getElem? (i := 11) rfl)) hK hH hS (n0 := 22) hz rfl (by decide) 25 0 (by rfl) (by rw [h7]; rfl) rfl (by decide +kernel) (Nat.le_of_ble_eq_true rfl) (Nat.le_of_ble_eq_true rfl) dX0_init_32 (fun H hH hS => ?_)
  refine lv_dup hx hb dX0_init_35 rfl ?_
  refine W.sz (fun hle => ?_)
  have hzn : H.size = G.2.2.2 + 26 := zsize (n0 := 22) hH (by decide) hz rfl hle
  refine va_callv (va_runI (As := []) (rest := [.ref (zad G.2.2.2 25 0), .ref (zad G.2.2.2 21 0)]) ⟨hx, hb, hml, hown, hts⟩ (cz_J4_init_da8c8 l G F6 _) (cwI 0 hts gX0_init_J4_init_da8c8 rfl rfl rfl (hts (.initialized RJ4) (List.mem_of_getElem? (i := 11) rfl)) (hts (.methodLink RX0 24 yJ4_init_da8c8) (List.mem_of_getElem? (i := 14) rfl)) (hts (.instanceMethod yJ4_init_da8c8) (List.mem_of_getElem? (i := 15) rfl)) rfl (by decide +kernel) ⟨Nat.le_of_ble_eq_true rfl, Nat.le_of_ble_eq_true rfl⟩) ⟨fun a U g mk h => ⟨h.1, zD_blind h.2.1, h.2.2⟩, fun U hU hW => ⟨rfl, zD_at hK hG hZ hH hzn hS hU hW, q⟩⟩ rfl rfl hl.1 rfl (lv_room (Nat.le_of_ble_eq_true rfl)) dX0_init_36 ⟨Nat.le_of_ble_eq_true rfl, Nat.le_of_ble_eq_true rfl⟩) hS (fun _ _ h => h) (fun _ h => h) (fun F8 t H locs ht hvm q hB1 hzz hk hS => ?_)
  have hH : zH G 27 F8 H := zH_to ht hB1
  refine z_putF (ci := 4) (v := .ref (zad G.2.2.2 25 0)) (C := RX0) (T := TX0) (N := 5) hx hb hts (fun _ h => (List.mem_cons_of_mem _ (List.mem_append_left _ (List.mem_append_right _ h)))) tyX0 tyX0_ok nmX0 hown hK hH hS 21 0 21 (by rfl) rfl rfl 3 (by decide) (hts (.fieldLink RX0 25 "BallotFoundry$Book" "text" "Ljava/lang/StringBuilder;") (List.mem_of_getElem? (i := 12) rfl)) (fun _ h => h) rfl hin rfl (ty := tyX0 3) (by decide +kernel) rfl rfl (Nat.le_of_ble_eq_true rfl) 1 rfl dX0_init_39 (fun H locs hH hS => ?_)
  obtain ⟨F9, eF9⟩ : ∃ z, z = fs F8 21 0 3 1 := ⟨_, rfl⟩
  have q := q F9 eF9
  rw [← eF9] at hH
  refine lv_aload_n hx hb dX0_init_42 rfl (lv_at hl 0 rfl) ?_
  refine lv_iconst (v := 0) hx hb dX0_init_43 (by decide) ?_
  refine z_put (ci := 4) (v := .int 0) (C := RX0) (T := TX0) (N := 5) hx hb hts (fun _ h => (List.mem_cons_of_mem _ (List.mem_append_left _ (List.mem_append_right _ h)))) tyX0 tyX0_ok nmX0 hown hK hH hS 21 0 21 (by rfl) rfl rfl 4 (by decide) (hts (.fieldLink RX0 29 "BallotFoundry$Book" "size" "I") (List.mem_of_getElem? (i := 13) rfl)) (fun _ h => h) rfl (ty := .int) (by decide +kernel) rfl rfl (Nat.le_of_ble_eq_true rfl) 0 rfl dX0_init_44 (fun H locs hH hS => ?_)
  obtain ⟨F10, eF10⟩ : ∃ z, z = fs F9 21 0 4 0 := ⟨_, rfl⟩
  have q := q F10 eF10
  rw [← eF10] at hH
  refine W.cs (cells' := 5) (slots' := 1736) rfl rfl ?_
  exact W.vret hx hb hr (fun t ht hW => ⟨⟨F10, rfl, q, zH_at ht hH⟩, hS.F ht⟩) hS.2.2 dX0_init_47
abbrev rz_X1_init_0 : Room := { frames := 1, cells := 11, slots := 84, locals := 20 }
set_option maxHeartbeats 4000000 in
set_option maxRecDepth 100000 in
theorem cz_X1_init_0 (l : Launch) (G : GPz) (F : GF) (K : GF → Prop) : Met l yX1_init wsX1_init rz_X1_init_0 (va_Pc [.ref (zad G.2.2.2 28 0)] (fun U => zD G 28 F U ∧ PZ_X1_init_0 F K)) (zQv G 39 K) 11 84 (gA (zg G)) := by
  refine Met.ofW (cc := cX1_init) (maxL := 1) (ret := none) (by decide) rfl ?_
  intro p e s m args below meth c s₁ Bd hml hv
  obtain ⟨rfl, ⟨⟨hK, hG, hZ⟩, hH, hz⟩, q⟩ := hv
  have hx := Bd.exec
  have hb := Bd.bytes
  have hr := Bd.returns
  have hts := atoms_spec (ws := wsX1_init) Bd.pre
  have hown : s.vm.findClass RX1 = some m.cls := findClass_of_methodNamed Bd.named
  have hlocks := Bd.notSynchronized
  have hin : meth.name = "<init>" := (name_of_methodNamed Bd.named Bd.method).1
  have hS : va_S (gA (zg G)) s.heap s.heap [] := va_S.rf
  have hl := lv_entry [.ref (zad G.2.2.2 28 0)] (n := 1) (Nat.le_of_ble_eq_true rfl)
  rw [lg_entry_eq]
  generalize (lg_sl [.ref (zad G.2.2.2 28 0)] ++ List.replicate (1 - (lg_sl [.ref (zad G.2.2.2 28 0)]).length) Slot.unset).toArray = ls at hl ⊢
  have hl : lv_has ls 1 [(0, .ref (zad G.2.2.2 28 0))] := hl
  unfold PZ_X1_init_0 at q
  refine lv_aload_n hx hb dX1_init_0 rfl (lv_at hl 0 rfl) ?_
  refine W.objInit hx hb hown (hts (.methodLink RX1 3 objectInit) (List.mem_of_getElem? (i := 1) rfl)) (hts (.instanceMethod objectInit) (List.mem_of_getElem? (i := 2) rfl)) (hts (.code objectInit ⟨#[0xb1]⟩ 1 none) (List.mem_of_getElem? (i := 3) rfl)) rfl (by rw [hml]; exact hl.1) rfl dX1_init_1 (Nat.le_of_ble_eq_true rfl) (Nat.le_of_ble_eq_true rfl) ?_
  refine W.eq (g2 := F0 m 4 ls []) rfl ?_
  refine lv_aload_n hx hb dX1_init_4 rfl (lv_at hl 0 rfl) ?_
  refine lv_bipush (v := 20) hx hb dX1_init_5 (by decide) ?_
  obtain ⟨h1, q⟩ := q
  refine z_newa (atype := .int) (ty := .int) (N' := 20) (a0 := (20, .inl (zdef 29))) hx hb (hts (.arrayClass .int) (List.mem_of_getElem? (i := 4) rfl)) rfl hK hH hS (n0 := 28) hz rfl (by decide) 29 0 2 (by rfl) (by rw [h1]; rfl) rfl (fun _ h => by cases h) (fun _ => rfl) (by decide) (by decide) (Nat.le_of_ble_eq_true rfl) (Nat.le_of_ble_eq_true rfl) (Nat.le_of_ble_eq_true rfl) dX1_init_7 (fun H hH hS => ?_)
  refine z_putF (ci := 5) (v := .ref (zad G.2.2.2 29 0)) (C := RX1) (T := TX1) (N := 6) hx hb hts (fun _ h => (List.mem_cons_of_mem _ (List.mem_append_right _ h))) tyX1 tyX1_ok nmX1 hown hK hH hS 28 0 27 (by rfl) rfl rfl 0 (by decide) (hts (.fieldLink RX1 9 "BallotFoundry$Box" "ballots" "[I") (List.mem_of_getElem? (i := 5) rfl)) (fun _ h => h) rfl hin rfl (ty := tyX1 0) (by decide +kernel) rfl rfl (Nat.le_of_ble_eq_true rfl) 1 rfl dX1_init_9 (fun H locs hH hS => ?_)
  obtain ⟨F2, eF2⟩ : ∃ z, z = fs F 28 0 0 1 := ⟨_, rfl⟩
  have q := q F2 eF2
  rw [← eF2] at hH
  refine lv_aload_n hx hb dX1_init_12 rfl (lv_at hl 0 rfl) ?_
  refine lv_iconst (v := 0) hx hb dX1_init_13 (by decide) ?_
  refine z_put (ci := 5) (v := .int 0) (C := RX1) (T := TX1) (N := 6) hx hb hts (fun _ h => (List.mem_cons_of_mem _ (List.mem_append_right _ h))) tyX1 tyX1_ok nmX1 hown hK hH hS 28 0 27 (by rfl) rfl rfl 1 (by decide) (hts (.fieldLink RX1 15 "BallotFoundry$Box" "size" "I") (List.mem_of_getElem? (i := 6) rfl)) (fun _ h => h) rfl (ty := .int) (by decide +kernel) rfl rfl (Nat.le_of_ble_eq_true rfl) 0 rfl dX1_init_14 (fun H locs hH hS => ?_)
  obtain ⟨F3, eF3⟩ : ∃ z, z = fs F2 28 0 1 0 := ⟨_, rfl⟩
  have q := q F3 eF3
  rw [← eF3] at hH
  refine lv_aload_n hx hb dX1_init_17 rfl (lv_at hl 0 rfl) ?_
  refine lv_bipush (v := 8) hx hb dX1_init_18 (by decide) ?_
  obtain ⟨h4, q⟩ := q
  refine z_newa (atype := .int) (ty := .int) (N' := 8) (a0 := (8, .inl (zdef 30))) hx hb (hts (.arrayClass .int) (List.mem_of_getElem? (i := 4) rfl)) rfl hK hH hS (n0 := 28) hz rfl (by decide) 30 0 2 (by rfl) (by rw [h4]; rfl) rfl (fun _ h => by cases h) (fun _ => rfl) (by decide) (by decide) (Nat.le_of_ble_eq_true rfl) (Nat.le_of_ble_eq_true rfl) (Nat.le_of_ble_eq_true rfl) dX1_init_20 (fun H hH hS => ?_)
  refine z_putF (ci := 5) (v := .ref (zad G.2.2.2 30 0)) (C := RX1) (T := TX1) (N := 6) hx hb hts (fun _ h => (List.mem_cons_of_mem _ (List.mem_append_right _ h))) tyX1 tyX1_ok nmX1 hown hK hH hS 28 0 27 (by rfl) rfl rfl 2 (by decide) (hts (.fieldLink RX1 19 "BallotFoundry$Box" "clerks" "[I") (List.mem_of_getElem? (i := 7) rfl)) (fun _ h => h) rfl hin rfl (ty := tyX1 2) (by decide +kernel) rfl rfl (Nat.le_of_ble_eq_true rfl) 1 rfl dX1_init_22 (fun H locs hH hS => ?_)
  obtain ⟨F5, eF5⟩ : ∃ z, z = fs F3 28 0 2 1 := ⟨_, rfl⟩
  have q := q F5 eF5
  rw [← eF5] at hH
  refine lv_aload_n hx hb dX1_init_25 rfl (lv_at hl 0 rfl) ?_
  refine lv_bipush (v := 8) hx hb dX1_init_26 (by decide) ?_
  refine lv_bipush (v := 6) hx hb dX1_init_28 (by decide) ?_
  obtain ⟨h6, q⟩ := q
  refine z_mna hx hb hown (hts (.classLink RX1 22 "[[I") (List.mem_of_getElem? (i := 8) rfl)) hZ.2.2 (hts (.arrayClass .int) (List.mem_of_getElem? (i := 4) rfl)) hK hH hS (n0 := 28) hz rfl 0 (by decide) rfl h6.1 h6.2 (by decide +kernel) (Nat.le_of_ble_eq_true rfl) (Nat.le_of_ble_eq_true rfl) dX1_init_30 (fun H hH hS => ?_)
  obtain ⟨F7, eF7⟩ : ∃ z, z = ffill F5 31 0 8 1 := ⟨_, rfl⟩
  have q := q F7 eF7
  rw [← eF7] at hH
  refine z_putF (ci := 5) (v := .ref (zad G.2.2.2 31 0)) (C := RX1) (T := TX1) (N := 6) hx hb hts (fun _ h => (List.mem_cons_of_mem _ (List.mem_append_right _ h))) tyX1 tyX1_ok nmX1 hown hK hH hS 28 0 27 (by rfl) rfl rfl 3 (by decide) (hts (.fieldLink RX1 24 "BallotFoundry$Box" "numbers" "[[I") (List.mem_of_getElem? (i := 9) rfl)) (fun _ h => h) rfl hin rfl (ty := tyX1 3) (by decide +kernel) rfl rfl (Nat.le_of_ble_eq_true rfl) 1 rfl dX1_init_34 (fun H locs hH hS => ?_)
  obtain ⟨F8, eF8⟩ : ∃ z, z = fs F7 28 0 3 1 := ⟨_, rfl⟩
  have q := q F8 eF8
  rw [← eF8] at hH
  refine lv_aload_n hx hb dX1_init_37 rfl (lv_at hl 0 rfl) ?_
  refine lv_iconst (v := 0) hx hb dX1_init_38 (by decide) ?_
  refine z_put (ci := 5) (v := .int 0) (C := RX1) (T := TX1) (N := 6) hx hb hts (fun _ h => (List.mem_cons_of_mem _ (List.mem_append_right _ h))) tyX1 tyX1_ok nmX1 hown hK hH hS 28 0 27 (by rfl) rfl rfl 4 (by decide) (hts (.fieldLink RX1 27 "BallotFoundry$Box" "counts" "I") (List.mem_of_getElem? (i := 10) rfl)) (fun _ h => h) rfl (ty := .int) (by decide +kernel) rfl rfl (Nat.le_of_ble_eq_true rfl) 0 rfl dX1_init_39 (fun H locs hH hS => ?_)
  obtain ⟨F9, eF9⟩ : ∃ z, z = fs F8 28 0 4 0 := ⟨_, rfl⟩
  have q := q F9 eF9
  rw [← eF9] at hH
  refine lv_aload_n hx hb dX1_init_42 rfl (lv_at hl 0 rfl) ?_
  refine lv_iconst (v := (-1)) hx hb dX1_init_43 (by decide) ?_
  refine z_put (ci := 5) (v := .int (-1)) (C := RX1) (T := TX1) (N := 6) hx hb hts (fun _ h => (List.mem_cons_of_mem _ (List.mem_append_right _ h))) tyX1 tyX1_ok nmX1 hown hK hH hS 28 0 27 (by rfl) rfl rfl 5 (by decide) (hts (.fieldLink RX1 30 "BallotFoundry$Box" "settledBy" "I") (List.mem_of_getElem? (i := 11) rfl)) (fun _ h => h) rfl (ty := .int) (by decide +kernel) rfl rfl (Nat.le_of_ble_eq_true rfl) (-1) rfl dX1_init_44 (fun H locs hH hS => ?_)
  obtain ⟨F10, eF10⟩ : ∃ z, z = fs F9 28 0 5 (-1) := ⟨_, rfl⟩
  have q := q F10 eF10
  rw [← eF10] at hH
  refine W.cs (cells' := 11) (slots' := 84) rfl rfl ?_
  exact W.vret hx hb hr (fun t ht hW => ⟨⟨F10, rfl, q, zH_at ht hH⟩, hS.F ht⟩) hS.2.2 dX1_init_47
abbrev rz_X1_init_1 : Room := { frames := 1, cells := 11, slots := 84, locals := 20 }
set_option maxHeartbeats 4000000 in
set_option maxRecDepth 100000 in
theorem cz_X1_init_1 (l : Launch) (G : GPz) (F : GF) (K : GF → Prop) : Met l yX1_init wsX1_init rz_X1_init_1 (va_Pc [.ref (zad G.2.2.2 28 1)] (fun U => zD G 40 F U ∧ PZ_X1_init_1 F K)) (zQv G 51 K) 11 84 (gA (zg G)) := by
  refine Met.ofW (cc := cX1_init) (maxL := 1) (ret := none) (by decide) rfl ?_
  intro p e s m args below meth c s₁ Bd hml hv
  obtain ⟨rfl, ⟨⟨hK, hG, hZ⟩, hH, hz⟩, q⟩ := hv
  have hx := Bd.exec
  have hb := Bd.bytes
  have hr := Bd.returns
  have hts := atoms_spec (ws := wsX1_init) Bd.pre
  have hown : s.vm.findClass RX1 = some m.cls := findClass_of_methodNamed Bd.named
  have hlocks := Bd.notSynchronized
  have hin : meth.name = "<init>" := (name_of_methodNamed Bd.named Bd.method).1
  have hS : va_S (gA (zg G)) s.heap s.heap [] := va_S.rf
  have hl := lv_entry [.ref (zad G.2.2.2 28 1)] (n := 1) (Nat.le_of_ble_eq_true rfl)
  rw [lg_entry_eq]
  generalize (lg_sl [.ref (zad G.2.2.2 28 1)] ++ List.replicate (1 - (lg_sl [.ref (zad G.2.2.2 28 1)]).length) Slot.unset).toArray = ls at hl ⊢
  have hl : lv_has ls 1 [(0, .ref (zad G.2.2.2 28 1))] := hl
  unfold PZ_X1_init_1 at q
  refine lv_aload_n hx hb dX1_init_0 rfl (lv_at hl 0 rfl) ?_
  refine W.objInit hx hb hown (hts (.methodLink RX1 3 objectInit) (List.mem_of_getElem? (i := 1) rfl)) (hts (.instanceMethod objectInit) (List.mem_of_getElem? (i := 2) rfl)) (hts (.code objectInit ⟨#[0xb1]⟩ 1 none) (List.mem_of_getElem? (i := 3) rfl)) rfl (by rw [hml]; exact hl.1) rfl dX1_init_1 (Nat.le_of_ble_eq_true rfl) (Nat.le_of_ble_eq_true rfl) ?_
  refine W.eq (g2 := F0 m 4 ls []) rfl ?_
  refine lv_aload_n hx hb dX1_init_4 rfl (lv_at hl 0 rfl) ?_
  refine lv_bipush (v := 20) hx hb dX1_init_5 (by decide) ?_
  obtain ⟨h1, q⟩ := q
  refine z_newa (atype := .int) (ty := .int) (N' := 20) (a0 := (20, .inl (zdef 29))) hx hb (hts (.arrayClass .int) (List.mem_of_getElem? (i := 4) rfl)) rfl hK hH hS (n0 := 40) hz rfl (by decide) 29 1 2 (by rfl) (by rw [h1]; rfl) rfl (fun _ h => by cases h) (fun _ => rfl) (by decide) (by decide) (Nat.le_of_ble_eq_true rfl) (Nat.le_of_ble_eq_true rfl) (Nat.le_of_ble_eq_true rfl) dX1_init_7 (fun H hH hS => ?_)
  refine z_putF (ci := 5) (v := .ref (zad G.2.2.2 29 1)) (C := RX1) (T := TX1) (N := 6) hx hb hts (fun _ h => (List.mem_cons_of_mem _ (List.mem_append_right _ h))) tyX1 tyX1_ok nmX1 hown hK hH hS 28 1 39 (by rfl) rfl rfl 0 (by decide) (hts (.fieldLink RX1 9 "BallotFoundry$Box" "ballots" "[I") (List.mem_of_getElem? (i := 5) rfl)) (fun _ h => h) rfl hin rfl (ty := tyX1 0) (by decide +kernel) rfl rfl (Nat.le_of_ble_eq_true rfl) 1 rfl dX1_init_9 (fun H locs hH hS => ?_)
  obtain ⟨F2, eF2⟩ : ∃ z, z = fs F 28 1 0 1 := ⟨_, rfl⟩
  have q := q F2 eF2
  rw [← eF2] at hH
  refine lv_aload_n hx hb dX1_init_12 rfl (lv_at hl 0 rfl) ?_
  refine lv_iconst (v := 0) hx hb dX1_init_13 (by decide) ?_
  refine z_put (ci := 5) (v := .int 0) (C := RX1) (T := TX1) (N := 6) hx hb hts (fun _ h => (List.mem_cons_of_mem _ (List.mem_append_right _ h))) tyX1 tyX1_ok nmX1 hown hK hH hS 28 1 39 (by rfl) rfl rfl 1 (by decide) (hts (.fieldLink RX1 15 "BallotFoundry$Box" "size" "I") (List.mem_of_getElem? (i := 6) rfl)) (fun _ h => h) rfl (ty := .int) (by decide +kernel) rfl rfl (Nat.le_of_ble_eq_true rfl) 0 rfl dX1_init_14 (fun H locs hH hS => ?_)
  obtain ⟨F3, eF3⟩ : ∃ z, z = fs F2 28 1 1 0 := ⟨_, rfl⟩
  have q := q F3 eF3
  rw [← eF3] at hH
  refine lv_aload_n hx hb dX1_init_17 rfl (lv_at hl 0 rfl) ?_
  refine lv_bipush (v := 8) hx hb dX1_init_18 (by decide) ?_
  obtain ⟨h4, q⟩ := q
  refine z_newa (atype := .int) (ty := .int) (N' := 8) (a0 := (8, .inl (zdef 30))) hx hb (hts (.arrayClass .int) (List.mem_of_getElem? (i := 4) rfl)) rfl hK hH hS (n0 := 40) hz rfl (by decide) 30 1 2 (by rfl) (by rw [h4]; rfl) rfl (fun _ h => by cases h) (fun _ => rfl) (by decide) (by decide) (Nat.le_of_ble_eq_true rfl) (Nat.le_of_ble_eq_true rfl) (Nat.le_of_ble_eq_true rfl) dX1_init_20 (fun H hH hS => ?_)
  refine z_putF (ci := 5) (v := .ref (zad G.2.2.2 30 1)) (C := RX1) (T := TX1) (N := 6) hx hb hts (fun _ h => (List.mem_cons_of_mem _ (List.mem_append_right _ h))) tyX1 tyX1_ok nmX1 hown hK hH hS 28 1 39 (by rfl) rfl rfl 2 (by decide) (hts (.fieldLink RX1 19 "BallotFoundry$Box" "clerks" "[I") (List.mem_of_getElem? (i := 7) rfl)) (fun _ h => h) rfl hin rfl (ty := tyX1 2) (by decide +kernel) rfl rfl (Nat.le_of_ble_eq_true rfl) 1 rfl dX1_init_22 (fun H locs hH hS => ?_)
  obtain ⟨F5, eF5⟩ : ∃ z, z = fs F3 28 1 2 1 := ⟨_, rfl⟩
  have q := q F5 eF5
  rw [← eF5] at hH
  refine lv_aload_n hx hb dX1_init_25 rfl (lv_at hl 0 rfl) ?_
  refine lv_bipush (v := 8) hx hb dX1_init_26 (by decide) ?_
  refine lv_bipush (v := 6) hx hb dX1_init_28 (by decide) ?_
  obtain ⟨h6, q⟩ := q
  refine z_mna hx hb hown (hts (.classLink RX1 22 "[[I") (List.mem_of_getElem? (i := 8) rfl)) hZ.2.2 (hts (.arrayClass .int) (List.mem_of_getElem? (i := 4) rfl)) hK hH hS (n0 := 40) hz rfl 1 (by decide) rfl h6.1 h6.2 (by decide +kernel) (Nat.le_of_ble_eq_true rfl) (Nat.le_of_ble_eq_true rfl) dX1_init_30 (fun H hH hS => ?_)
  obtain ⟨F7, eF7⟩ : ∃ z, z = ffill F5 31 1 8 1 := ⟨_, rfl⟩
  have q := q F7 eF7
  rw [← eF7] at hH
  refine z_putF (ci := 5) (v := .ref (zad G.2.2.2 31 1)) (C := RX1) (T := TX1) (N := 6) hx hb hts (fun _ h => (List.mem_cons_of_mem _ (List.mem_append_right _ h))) tyX1 tyX1_ok nmX1 hown hK hH hS 28 1 39 (by rfl) rfl rfl 3 (by decide) (hts (.fieldLink RX1 24 "BallotFoundry$Box" "numbers" "[[I") (List.mem_of_getElem? (i := 9) rfl)) (fun _ h => h) rfl hin rfl (ty := tyX1 3) (by decide +kernel) rfl rfl (Nat.le_of_ble_eq_true rfl) 1 rfl dX1_init_34 (fun H locs hH hS => ?_)
  obtain ⟨F8, eF8⟩ : ∃ z, z = fs F7 28 1 3 1 := ⟨_, rfl⟩
  have q := q F8 eF8
  rw [← eF8] at hH
  refine lv_aload_n hx hb dX1_init_37 rfl (lv_at hl 0 rfl) ?_
  refine lv_iconst (v := 0) hx hb dX1_init_38 (by decide) ?_
  refine z_put (ci := 5) (v := .int 0) (C := RX1) (T := TX1) (N := 6) hx hb hts (fun _ h => (List.mem_cons_of_mem _ (List.mem_append_right _ h))) tyX1 tyX1_ok nmX1 hown hK hH hS 28 1 39 (by rfl) rfl rfl 4 (by decide) (hts (.fieldLink RX1 27 "BallotFoundry$Box" "counts" "I") (List.mem_of_getElem? (i := 10) rfl)) (fun _ h => h) rfl (ty := .int) (by decide +kernel) rfl rfl (Nat.le_of_ble_eq_true rfl) 0 rfl dX1_init_39 (fun H locs hH hS => ?_)
  obtain ⟨F9, eF9⟩ : ∃ z, z = fs F8 28 1 4 0 := ⟨_, rfl⟩
  have q := q F9 eF9
  rw [← eF9] at hH
  refine lv_aload_n hx hb dX1_init_42 rfl (lv_at hl 0 rfl) ?_
  refine lv_iconst (v := (-1)) hx hb dX1_init_43 (by decide) ?_
  refine z_put (ci := 5) (v := .int (-1)) (C := RX1) (T := TX1) (N := 6) hx hb hts (fun _ h => (List.mem_cons_of_mem _ (List.mem_append_right _ h))) tyX1 tyX1_ok nmX1 hown hK hH hS 28 1 39 (by rfl) rfl rfl 5 (by decide) (hts (.fieldLink RX1 30 "BallotFoundry$Box" "settledBy" "I") (List.mem_of_getElem? (i := 11) rfl)) (fun _ h => h) rfl (ty := .int) (by decide +kernel) rfl rfl (Nat.le_of_ble_eq_true rfl) (-1) rfl dX1_init_44 (fun H locs hH hS => ?_)
  obtain ⟨F10, eF10⟩ : ∃ z, z = fs F9 28 1 5 (-1) := ⟨_, rfl⟩
  have q := q F10 eF10
  rw [← eF10] at hH
  refine W.cs (cells' := 11) (slots' := 84) rfl rfl ?_
  exact W.vret hx hb hr (fun t ht hW => ⟨⟨F10, rfl, q, zH_at ht hH⟩, hS.F ht⟩) hS.2.2 dX1_init_47
abbrev rz_X1_init_2 : Room := { frames := 1, cells := 11, slots := 84, locals := 20 }
set_option maxHeartbeats 4000000 in
set_option maxRecDepth 100000 in
theorem cz_X1_init_2 (l : Launch) (G : GPz) (F : GF) (K : GF → Prop) : Met l yX1_init wsX1_init rz_X1_init_2 (va_Pc [.ref (zad G.2.2.2 28 2)] (fun U => zD G 52 F U ∧ PZ_X1_init_2 F K)) (zQv G 63 K) 11 84 (gA (zg G)) := by
  refine Met.ofW (cc := cX1_init) (maxL := 1) (ret := none) (by decide) rfl ?_
  intro p e s m args below meth c s₁ Bd hml hv
  obtain ⟨rfl, ⟨⟨hK, hG, hZ⟩, hH, hz⟩, q⟩ := hv
  have hx := Bd.exec
  have hb := Bd.bytes
  have hr := Bd.returns
  have hts := atoms_spec (ws := wsX1_init) Bd.pre
  have hown : s.vm.findClass RX1 = some m.cls := findClass_of_methodNamed Bd.named
  have hlocks := Bd.notSynchronized
  have hin : meth.name = "<init>" := (name_of_methodNamed Bd.named Bd.method).1
  have hS : va_S (gA (zg G)) s.heap s.heap [] := va_S.rf
  have hl := lv_entry [.ref (zad G.2.2.2 28 2)] (n := 1) (Nat.le_of_ble_eq_true rfl)
  rw [lg_entry_eq]
  generalize (lg_sl [.ref (zad G.2.2.2 28 2)] ++ List.replicate (1 - (lg_sl [.ref (zad G.2.2.2 28 2)]).length) Slot.unset).toArray = ls at hl ⊢
  have hl : lv_has ls 1 [(0, .ref (zad G.2.2.2 28 2))] := hl
  unfold PZ_X1_init_2 at q
  refine lv_aload_n hx hb dX1_init_0 rfl (lv_at hl 0 rfl) ?_
  refine W.objInit hx hb hown (hts (.methodLink RX1 3 objectInit) (List.mem_of_getElem? (i := 1) rfl)) (hts (.instanceMethod objectInit) (List.mem_of_getElem? (i := 2) rfl)) (hts (.code objectInit ⟨#[0xb1]⟩ 1 none) (List.mem_of_getElem? (i := 3) rfl)) rfl (by rw [hml]; exact hl.1) rfl dX1_init_1 (Nat.le_of_ble_eq_true rfl) (Nat.le_of_ble_eq_true rfl) ?_
  refine W.eq (g2 := F0 m 4 ls []) rfl ?_
  refine lv_aload_n hx hb dX1_init_4 rfl (lv_at hl 0 rfl) ?_
  refine lv_bipush (v := 20) hx hb dX1_init_5 (by decide) ?_
  obtain ⟨h1, q⟩ := q
  refine z_newa (atype := .int) (ty := .int) (N' := 20) (a0 := (20, .inl (zdef 29))) hx hb (hts (.arrayClass .int) (List.mem_of_getElem? (i := 4) rfl)) rfl hK hH hS (n0 := 52) hz rfl (by decide) 29 2 2 (by rfl) (by rw [h1]; rfl) rfl (fun _ h => by cases h) (fun _ => rfl) (by decide) (by decide) (Nat.le_of_ble_eq_true rfl) (Nat.le_of_ble_eq_true rfl) (Nat.le_of_ble_eq_true rfl) dX1_init_7 (fun H hH hS => ?_)
  refine z_putF (ci := 5) (v := .ref (zad G.2.2.2 29 2)) (C := RX1) (T := TX1) (N := 6) hx hb hts (fun _ h => (List.mem_cons_of_mem _ (List.mem_append_right _ h))) tyX1 tyX1_ok nmX1 hown hK hH hS 28 2 51 (by rfl) rfl rfl 0 (by decide) (hts (.fieldLink RX1 9 "BallotFoundry$Box" "ballots" "[I") (List.mem_of_getElem? (i := 5) rfl)) (fun _ h => h) rfl hin rfl (ty := tyX1 0) (by decide +kernel) rfl rfl (Nat.le_of_ble_eq_true rfl) 1 rfl dX1_init_9 (fun H locs hH hS => ?_)
  obtain ⟨F2, eF2⟩ : ∃ z, z = fs F 28 2 0 1 := ⟨_, rfl⟩
  have q := q F2 eF2
  rw [← eF2] at hH
  refine lv_aload_n hx hb dX1_init_12 rfl (lv_at hl 0 rfl) ?_
  refine lv_iconst (v := 0) hx hb dX1_init_13 (by decide) ?_
  refine z_put (ci := 5) (v := .int 0) (C := RX1) (T := TX1) (N := 6) hx hb hts (fun _ h => (List.mem_cons_of_mem _ (List.mem_append_right _ h))) tyX1 tyX1_ok nmX1 hown hK hH hS 28 2 51 (by rfl) rfl rfl 1 (by decide) (hts (.fieldLink RX1 15 "BallotFoundry$Box" "size" "I") (List.mem_of_getElem? (i := 6) rfl)) (fun _ h => h) rfl (ty := .int) (by decide +kernel) rfl rfl (Nat.le_of_ble_eq_true rfl) 0 rfl dX1_init_14 (fun H locs hH hS => ?_)
  obtain ⟨F3, eF3⟩ : ∃ z, z = fs F2 28 2 1 0 := ⟨_, rfl⟩
  have q := q F3 eF3
  rw [← eF3] at hH
  refine lv_aload_n hx hb dX1_init_17 rfl (lv_at hl 0 rfl) ?_
  refine lv_bipush (v := 8) hx hb dX1_init_18 (by decide) ?_
  obtain ⟨h4, q⟩ := q
  refine z_newa (atype := .int) (ty := .int) (N' := 8) (a0 := (8, .inl (zdef 30))) hx hb (hts (.arrayClass .int) (List.mem_of_getElem? (i := 4) rfl)) rfl hK hH hS (n0 := 52) hz rfl (by decide) 30 2 2 (by rfl) (by rw [h4]; rfl) rfl (fun _ h => by cases h) (fun _ => rfl) (by decide) (by decide) (Nat.le_of_ble_eq_true rfl) (Nat.le_of_ble_eq_true rfl) (Nat.le_of_ble_eq_true rfl) dX1_init_20 (fun H hH hS => ?_)
  refine z_putF (ci := 5) (v := .ref (zad G.2.2.2 30 2)) (C := RX1) (T := TX1) (N := 6) hx hb hts (fun _ h => (List.mem_cons_of_mem _ (List.mem_append_right _ h))) tyX1 tyX1_ok nmX1 hown hK hH hS 28 2 51 (by rfl) rfl rfl 2 (by decide) (hts (.fieldLink RX1 19 "BallotFoundry$Box" "clerks" "[I") (List.mem_of_getElem? (i := 7) rfl)) (fun _ h => h) rfl hin rfl (ty := tyX1 2) (by decide +kernel) rfl rfl (Nat.le_of_ble_eq_true rfl) 1 rfl dX1_init_22 (fun H locs hH hS => ?_)
  obtain ⟨F5, eF5⟩ : ∃ z, z = fs F3 28 2 2 1 := ⟨_, rfl⟩
  have q := q F5 eF5
  rw [← eF5] at hH
  refine lv_aload_n hx hb dX1_init_25 rfl (lv_at hl 0 rfl) ?_
  refine lv_bipush (v := 8) hx hb dX1_init_26 (by decide) ?_
  refine lv_bipush (v := 6) hx hb dX1_init_28 (by decide) ?_
  obtain ⟨h6, q⟩ := q
  refine z_mna hx hb hown (hts (.classLink RX1 22 "[[I") (List.mem_of_getElem? (i := 8) rfl)) hZ.2.2 (hts (.arrayClass .int) (List.mem_of_getElem? (i := 4) rfl)) hK hH hS (n0 := 52) hz rfl 2 (by decide) rfl h6.1 h6.2 (by decide +kernel) (Nat.le_of_ble_eq_true rfl) (Nat.le_of_ble_eq_true rfl) dX1_init_30 (fun H hH hS => ?_)
  obtain ⟨F7, eF7⟩ : ∃ z, z = ffill F5 31 2 8 1 := ⟨_, rfl⟩
  have q := q F7 eF7
  rw [← eF7] at hH
  refine z_putF (ci := 5) (v := .ref (zad G.2.2.2 31 2)) (C := RX1) (T := TX1) (N := 6) hx hb hts (fun _ h => (List.mem_cons_of_mem _ (List.mem_append_right _ h))) tyX1 tyX1_ok nmX1 hown hK hH hS 28 2 51 (by rfl) rfl rfl 3 (by decide) (hts (.fieldLink RX1 24 "BallotFoundry$Box" "numbers" "[[I") (List.mem_of_getElem? (i := 9) rfl)) (fun _ h => h) rfl hin rfl (ty := tyX1 3) (by decide +kernel) rfl rfl (Nat.le_of_ble_eq_true rfl) 1 rfl dX1_init_34 (fun H locs hH hS => ?_)
  obtain ⟨F8, eF8⟩ : ∃ z, z = fs F7 28 2 3 1 := ⟨_, rfl⟩
  have q := q F8 eF8
  rw [← eF8] at hH
  refine lv_aload_n hx hb dX1_init_37 rfl (lv_at hl 0 rfl) ?_
  refine lv_iconst (v := 0) hx hb dX1_init_38 (by decide) ?_
  refine z_put (ci := 5) (v := .int 0) (C := RX1) (T := TX1) (N := 6) hx hb hts (fun _ h => (List.mem_cons_of_mem _ (List.mem_append_right _ h))) tyX1 tyX1_ok nmX1 hown hK hH hS 28 2 51 (by rfl) rfl rfl 4 (by decide) (hts (.fieldLink RX1 27 "BallotFoundry$Box" "counts" "I") (List.mem_of_getElem? (i := 10) rfl)) (fun _ h => h) rfl (ty := .int) (by decide +kernel) rfl rfl (Nat.le_of_ble_eq_true rfl) 0 rfl dX1_init_39 (fun H locs hH hS => ?_)
  obtain ⟨F9, eF9⟩ : ∃ z, z = fs F8 28 2 4 0 := ⟨_, rfl⟩
  have q := q F9 eF9
  rw [← eF9] at hH
  refine lv_aload_n hx hb dX1_init_42 rfl (lv_at hl 0 rfl) ?_
  refine lv_iconst (v := (-1)) hx hb dX1_init_43 (by decide) ?_
  refine z_put (ci := 5) (v := .int (-1)) (C := RX1) (T := TX1) (N := 6) hx hb hts (fun _ h => (List.mem_cons_of_mem _ (List.mem_append_right _ h))) tyX1 tyX1_ok nmX1 hown hK hH hS 28 2 51 (by rfl) rfl rfl 5 (by decide) (hts (.fieldLink RX1 30 "BallotFoundry$Box" "settledBy" "I") (List.mem_of_getElem? (i := 11) rfl)) (fun _ h => h) rfl (ty := .int) (by decide +kernel) rfl rfl (Nat.le_of_ble_eq_true rfl) (-1) rfl dX1_init_44 (fun H locs hH hS => ?_)
  obtain ⟨F10, eF10⟩ : ∃ z, z = fs F9 28 2 5 (-1) := ⟨_, rfl⟩
  have q := q F10 eF10
  rw [← eF10] at hH
  refine W.cs (cells' := 11) (slots' := 84) rfl rfl ?_
  exact W.vret hx hb hr (fun t ht hW => ⟨⟨F10, rfl, q, zH_at ht hH⟩, hS.F ht⟩) hS.2.2 dX1_init_47
abbrev rz_X1_init_3 : Room := { frames := 1, cells := 11, slots := 84, locals := 20 }
set_option maxHeartbeats 4000000 in
set_option maxRecDepth 100000 in
theorem cz_X1_init_3 (l : Launch) (G : GPz) (F : GF) (K : GF → Prop) : Met l yX1_init wsX1_init rz_X1_init_3 (va_Pc [.ref (zad G.2.2.2 28 3)] (fun U => zD G 64 F U ∧ PZ_X1_init_3 F K)) (zQv G 75 K) 11 84 (gA (zg G)) := by
  refine Met.ofW (cc := cX1_init) (maxL := 1) (ret := none) (by decide) rfl ?_
  intro p e s m args below meth c s₁ Bd hml hv
  obtain ⟨rfl, ⟨⟨hK, hG, hZ⟩, hH, hz⟩, q⟩ := hv
  have hx := Bd.exec
  have hb := Bd.bytes
  have hr := Bd.returns
  have hts := atoms_spec (ws := wsX1_init) Bd.pre
  have hown : s.vm.findClass RX1 = some m.cls := findClass_of_methodNamed Bd.named
  have hlocks := Bd.notSynchronized
  have hin : meth.name = "<init>" := (name_of_methodNamed Bd.named Bd.method).1
  have hS : va_S (gA (zg G)) s.heap s.heap [] := va_S.rf
  have hl := lv_entry [.ref (zad G.2.2.2 28 3)] (n := 1) (Nat.le_of_ble_eq_true rfl)
  rw [lg_entry_eq]
  generalize (lg_sl [.ref (zad G.2.2.2 28 3)] ++ List.replicate (1 - (lg_sl [.ref (zad G.2.2.2 28 3)]).length) Slot.unset).toArray = ls at hl ⊢
  have hl : lv_has ls 1 [(0, .ref (zad G.2.2.2 28 3))] := hl
  unfold PZ_X1_init_3 at q
  refine lv_aload_n hx hb dX1_init_0 rfl (lv_at hl 0 rfl) ?_
  refine W.objInit hx hb hown (hts (.methodLink RX1 3 objectInit) (List.mem_of_getElem? (i := 1) rfl)) (hts (.instanceMethod objectInit) (List.mem_of_getElem? (i := 2) rfl)) (hts (.code objectInit ⟨#[0xb1]⟩ 1 none) (List.mem_of_getElem? (i := 3) rfl)) rfl (by rw [hml]; exact hl.1) rfl dX1_init_1 (Nat.le_of_ble_eq_true rfl) (Nat.le_of_ble_eq_true rfl) ?_
  refine W.eq (g2 := F0 m 4 ls []) rfl ?_
  refine lv_aload_n hx hb dX1_init_4 rfl (lv_at hl 0 rfl) ?_
  refine lv_bipush (v := 20) hx hb dX1_init_5 (by decide) ?_
  obtain ⟨h1, q⟩ := q
  refine z_newa (atype := .int) (ty := .int) (N' := 20) (a0 := (20, .inl (zdef 29))) hx hb (hts (.arrayClass .int) (List.mem_of_getElem? (i := 4) rfl)) rfl hK hH hS (n0 := 64) hz rfl (by decide) 29 3 2 (by rfl) (by rw [h1]; rfl) rfl (fun _ h => by cases h) (fun _ => rfl) (by decide) (by decide) (Nat.le_of_ble_eq_true rfl) (Nat.le_of_ble_eq_true rfl) (Nat.le_of_ble_eq_true rfl) dX1_init_7 (fun H hH hS => ?_)
  refine z_putF (ci := 5) (v := .ref (zad G.2.2.2 29 3)) (C := RX1) (T := TX1) (N := 6) hx hb hts (fun _ h => (List.mem_cons_of_mem _ (List.mem_append_right _ h))) tyX1 tyX1_ok nmX1 hown hK hH hS 28 3 63 (by rfl) rfl rfl 0 (by decide) (hts (.fieldLink RX1 9 "BallotFoundry$Box" "ballots" "[I") (List.mem_of_getElem? (i := 5) rfl)) (fun _ h => h) rfl hin rfl (ty := tyX1 0) (by decide +kernel) rfl rfl (Nat.le_of_ble_eq_true rfl) 1 rfl dX1_init_9 (fun H locs hH hS => ?_)
  obtain ⟨F2, eF2⟩ : ∃ z, z = fs F 28 3 0 1 := ⟨_, rfl⟩
  have q := q F2 eF2
  rw [← eF2] at hH
  refine lv_aload_n hx hb dX1_init_12 rfl (lv_at hl 0 rfl) ?_
  refine lv_iconst (v := 0) hx hb dX1_init_13 (by decide) ?_
  refine z_put (ci := 5) (v := .int 0) (C := RX1) (T := TX1) (N := 6) hx hb hts (fun _ h => (List.mem_cons_of_mem _ (List.mem_append_right _ h))) tyX1 tyX1_ok nmX1 hown hK hH hS 28 3 63 (by rfl) rfl rfl 1 (by decide) (hts (.fieldLink RX1 15 "BallotFoundry$Box" "size" "I") (List.mem_of_getElem? (i := 6) rfl)) (fun _ h => h) rfl (ty := .int) (by decide +kernel) rfl rfl (Nat.le_of_ble_eq_true rfl) 0 rfl dX1_init_14 (fun H locs hH hS => ?_)
  obtain ⟨F3, eF3⟩ : ∃ z, z = fs F2 28 3 1 0 := ⟨_, rfl⟩
  have q := q F3 eF3
  rw [← eF3] at hH
  refine lv_aload_n hx hb dX1_init_17 rfl (lv_at hl 0 rfl) ?_
  refine lv_bipush (v := 8) hx hb dX1_init_18 (by decide) ?_
  obtain ⟨h4, q⟩ := q
  refine z_newa (atype := .int) (ty := .int) (N' := 8) (a0 := (8, .inl (zdef 30))) hx hb (hts (.arrayClass .int) (List.mem_of_getElem? (i := 4) rfl)) rfl hK hH hS (n0 := 64) hz rfl (by decide) 30 3 2 (by rfl) (by rw [h4]; rfl) rfl (fun _ h => by cases h) (fun _ => rfl) (by decide) (by decide) (Nat.le_of_ble_eq_true rfl) (Nat.le_of_ble_eq_true rfl) (Nat.le_of_ble_eq_true rfl) dX1_init_20 (fun H hH hS => ?_)
  refine z_putF (ci := 5) (v := .ref (zad G.2.2.2 30 3)) (C := RX1) (T := TX1) (N := 6) hx hb hts (fun _ h => (List.mem_cons_of_mem _ (List.mem_append_right _ h))) tyX1 tyX1_ok nmX1 hown hK hH hS 28 3 63 (by rfl) rfl rfl 2 (by decide) (hts (.fieldLink RX1 19 "BallotFoundry$Box" "clerks" "[I") (List.mem_of_getElem? (i := 7) rfl)) (fun _ h => h) rfl hin rfl (ty := tyX1 2) (by decide +kernel) rfl rfl (Nat.le_of_ble_eq_true rfl) 1 rfl dX1_init_22 (fun H locs hH hS => ?_)
  obtain ⟨F5, eF5⟩ : ∃ z, z = fs F3 28 3 2 1 := ⟨_, rfl⟩
  have q := q F5 eF5
  rw [← eF5] at hH
  refine lv_aload_n hx hb dX1_init_25 rfl (lv_at hl 0 rfl) ?_
  refine lv_bipush (v := 8) hx hb dX1_init_26 (by decide) ?_
  refine lv_bipush (v := 6) hx hb dX1_init_28 (by decide) ?_
  obtain ⟨h6, q⟩ := q
  refine z_mna hx hb hown (hts (.classLink RX1 22 "[[I") (List.mem_of_getElem? (i := 8) rfl)) hZ.2.2 (hts (.arrayClass .int) (List.mem_of_getElem? (i := 4) rfl)) hK hH hS (n0 := 64) hz rfl 3 (by decide) rfl h6.1 h6.2 (by decide +kernel) (Nat.le_of_ble_eq_true rfl) (Nat.le_of_ble_eq_true rfl) dX1_init_30 (fun H hH hS => ?_)
  obtain ⟨F7, eF7⟩ : ∃ z, z = ffill F5 31 3 8 1 := ⟨_, rfl⟩
  have q := q F7 eF7
  rw [← eF7] at hH
  refine z_putF (ci := 5) (v := .ref (zad G.2.2.2 31 3)) (C := RX1) (T := TX1) (N := 6) hx hb hts (fun _ h => (List.mem_cons_of_mem _ (List.mem_append_right _ h))) tyX1 tyX1_ok nmX1 hown hK hH hS 28 3 63 (by rfl) rfl rfl 3 (by decide) (hts (.fieldLink RX1 24 "BallotFoundry$Box" "numbers" "[[I") (List.mem_of_getElem? (i := 9) rfl)) (fun _ h => h) rfl hin rfl (ty := tyX1 3) (by decide +kernel) rfl rfl (Nat.le_of_ble_eq_true rfl) 1 rfl dX1_init_34 (fun H locs hH hS => ?_)
  obtain ⟨F8, eF8⟩ : ∃ z, z = fs F7 28 3 3 1 := ⟨_, rfl⟩
  have q := q F8 eF8
  rw [← eF8] at hH
  refine lv_aload_n hx hb dX1_init_37 rfl (lv_at hl 0 rfl) ?_
  refine lv_iconst (v := 0) hx hb dX1_init_38 (by decide) ?_
  refine z_put (ci := 5) (v := .int 0) (C := RX1) (T := TX1) (N := 6) hx hb hts (fun _ h => (List.mem_cons_of_mem _ (List.mem_append_right _ h))) tyX1 tyX1_ok nmX1 hown hK hH hS 28 3 63 (by rfl) rfl rfl 4 (by decide) (hts (.fieldLink RX1 27 "BallotFoundry$Box" "counts" "I") (List.mem_of_getElem? (i := 10) rfl)) (fun _ h => h) rfl (ty := .int) (by decide +kernel) rfl rfl (Nat.le_of_ble_eq_true rfl) 0 rfl dX1_init_39 (fun H locs hH hS => ?_)
  obtain ⟨F9, eF9⟩ : ∃ z, z = fs F8 28 3 4 0 := ⟨_, rfl⟩
  have q := q F9 eF9
  rw [← eF9] at hH
  refine lv_aload_n hx hb dX1_init_42 rfl (lv_at hl 0 rfl) ?_
  refine lv_iconst (v := (-1)) hx hb dX1_init_43 (by decide) ?_
  refine z_put (ci := 5) (v := .int (-1)) (C := RX1) (T := TX1) (N := 6) hx hb hts (fun _ h => (List.mem_cons_of_mem _ (List.mem_append_right _ h))) tyX1 tyX1_ok nmX1 hown hK hH hS 28 3 63 (by rfl) rfl rfl 5 (by decide) (hts (.fieldLink RX1 30 "BallotFoundry$Box" "settledBy" "I") (List.mem_of_getElem? (i := 11) rfl)) (fun _ h => h) rfl (ty := .int) (by decide +kernel) rfl rfl (Nat.le_of_ble_eq_true rfl) (-1) rfl dX1_init_44 (fun H locs hH hS => ?_)
  obtain ⟨F10, eF10⟩ : ∃ z, z = fs F9 28 3 5 (-1) := ⟨_, rfl⟩
  have q := q F10 eF10
  rw [← eF10] at hH
  refine W.cs (cells' := 11) (slots' := 84) rfl rfl ?_
  exact W.vret hx hb hr (fun t ht hW => ⟨⟨F10, rfl, q, zH_at ht hH⟩, hS.F ht⟩) hS.2.2 dX1_init_47
