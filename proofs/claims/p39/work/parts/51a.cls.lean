abbrev rm_X8_init : Room := { frames := 1, cells := 0, slots := 0, locals := 20 }
abbrev q_X8_init (G : GP) (ad : Nat → Nat → Nat) (K : GF → Prop) (below : List Frame) (args : Array Value) (s : State) : State → Prop := MQ below (gQv G ad K) args s 0 0 (gA G)
set_option maxHeartbeats 4000000 in
set_option maxRecDepth 100000 in
theorem c_X8_init (l : Launch) (G : GP) (ad : Nat → Nat → Nat) (F : GF) (i0 : Nat) (p1 : Int32) (p2 : Int32) (p3 : Int32) (hi0 : i0 < gcn F) (K : GF → Prop) : Met l yX8_init wsX8_init rm_X8_init (va_Pc [.ref (ad 39 i0), .int p1, .int p2, gst ad p3] (fun U => gD G ad F U ∧ P_X8_init F i0 p1 p2 p3 K)) (gQv G ad K) 0 0 (gA G) := by
  refine Met.ofW (cc := cX8_init) (maxL := 4) (ret := none) (by decide) rfl ?_
  intro p e s m args below meth c s₁ Bd hml hv
  obtain ⟨rfl, ⟨hK, hG, hB, hH⟩, q⟩ := hv
  have hx := Bd.exec
  have hb := Bd.bytes
  have hr := Bd.returns
  have hts := atoms_spec (ws := wsX8_init) Bd.pre
  have hown : s.vm.findClass RX8 = some m.cls := findClass_of_methodNamed Bd.named
  have hlocks := Bd.notSynchronized
  have hin : meth.name = "<init>" := (name_of_methodNamed Bd.named Bd.method).1
  have hS : va_S (gA G) s.heap s.heap [] := va_S.rf
  have hl := lv_entry [.ref (ad 39 i0), .int p1, .int p2, gst ad p3] (n := 4) (by rcases gst_or ad p3 with h | ⟨t, h⟩ <;> rw [h] <;> exact Nat.le_of_ble_eq_true rfl)
  rw [lg_entry_eq]
  generalize (lg_sl [.ref (ad 39 i0), .int p1, .int p2, gst ad p3] ++ List.replicate (4 - (lg_sl [.ref (ad 39 i0), .int p1, .int p2, gst ad p3]).length) Slot.unset).toArray = ls at hl ⊢
  have hl : lv_has ls 4 [(0, .ref (ad 39 i0)), (1, .int p1), (2, .int p2), (3, gst ad p3)] := hl
  unfold P_X8_init at q
  refine lv_aload_n hx hb dX8_init_0 rfl (lv_at hl 0 rfl) ?_
  refine W.objInit hx hb hown (hts (.methodLink RX8 1 objectInit) (List.mem_of_getElem? (i := 1) rfl)) (hts (.instanceMethod objectInit) (List.mem_of_getElem? (i := 2) rfl)) (hts (.code objectInit ⟨#[0xb1]⟩ 1 none) (List.mem_of_getElem? (i := 3) rfl)) rfl (by rw [hml]; exact hl.1) rfl dX8_init_1 (Nat.le_of_ble_eq_true rfl) (Nat.le_of_ble_eq_true rfl) ?_
  refine W.eq (g2 := F0 m 4 ls []) rfl ?_
  refine lv_aload_n hx hb dX8_init_4 rfl (lv_at hl 0 rfl) ?_
  refine lv_iload_n hx hb dX8_init_5 rfl (lv_at hl 1 rfl) ?_
  refine g_putF (ci := 12) (v := .int p1) (C := RX8) (T := TX8) (N := 3) hx hb hts (fun _ h => (List.mem_cons_of_mem _ (List.mem_append_right _ h))) tyX8 tyX8_ok nmX8 hown hK hH hS 39 i0 (by decide) hi0 (by decide) rfl rfl 0 (by decide) (hts (.fieldLink RX8 7 "BallotFoundry$Stay" "day" "I") (List.mem_of_getElem? (i := 4) rfl)) (fun _ h => h) rfl hin rfl (ty := .int) (by decide +kernel) rfl rfl (Nat.le_of_ble_eq_true rfl) p1 rfl dX8_init_6 (fun H locs hH hS => ?_)
  obtain ⟨F1, eF1⟩ : ∃ z, z = fs F 39 i0 0 p1 := ⟨_, rfl⟩
  have q := q F1 eF1
  rw [← eF1] at hH
  refine lv_aload_n hx hb dX8_init_9 rfl (lv_at hl 0 rfl) ?_
  refine lv_iload_n hx hb dX8_init_10 rfl (lv_at hl 2 rfl) ?_
  refine g_putF (ci := 12) (v := .int p2) (C := RX8) (T := TX8) (N := 3) hx hb hts (fun _ h => (List.mem_cons_of_mem _ (List.mem_append_right _ h))) tyX8 tyX8_ok nmX8 hown hK hH hS 39 i0 (by decide) (by rw [eF1, gcn_fs (by decide)]; exact hi0) (by decide) rfl rfl 1 (by decide) (hts (.fieldLink RX8 13 "BallotFoundry$Stay" "crossing" "I") (List.mem_of_getElem? (i := 5) rfl)) (fun _ h => h) rfl hin rfl (ty := .int) (by decide +kernel) rfl rfl (Nat.le_of_ble_eq_true rfl) p2 rfl dX8_init_11 (fun H locs hH hS => ?_)
  obtain ⟨F2, eF2⟩ : ∃ z, z = fs F1 39 i0 1 p2 := ⟨_, rfl⟩
  have q := q F2 eF2
  rw [← eF2] at hH
  refine lv_aload_n hx hb dX8_init_14 rfl (lv_at hl 0 rfl) ?_
  refine g_aload_n hx hb dX8_init_15 rfl (lv_at hl 3 rfl) ?_
  refine g_putF (ci := 12) (v := gst ad p3) (C := RX8) (T := TX8) (N := 3) hx hb hts (fun _ h => (List.mem_cons_of_mem _ (List.mem_append_right _ h))) tyX8 tyX8_ok nmX8 hown hK hH hS 39 i0 (by decide) (by rw [eF2, gcn_fs (by decide), eF1, gcn_fs (by decide)]; exact hi0) (by decide) rfl rfl 2 (by decide) (hts (.fieldLink RX8 16 "BallotFoundry$Stay" "earlier" "LBallotFoundry$Stay;") (List.mem_of_getElem? (i := 6) rfl)) (fun _ h => h) rfl hin rfl (ty := .object "BallotFoundry$Stay") (by decide +kernel) gst_nar gst_fit (Nat.le_of_ble_eq_true rfl) p3 rfl dX8_init_16 (fun H locs hH hS => ?_)
  obtain ⟨F3, eF3⟩ : ∃ z, z = fs F2 39 i0 2 p3 := ⟨_, rfl⟩
  have q := q F3 eF3
  rw [← eF3] at hH
  exact (W.vret hx hb hr (fun t ht hW => ⟨⟨F3, rfl, q, gH_at ht hH⟩, hS.F ht⟩) hS.2.2 dX8_init_19)
abbrev rm_X10_needCrossing : Room := { frames := 6, cells := 1, slots := 6, locals := 90 }
abbrev q_X10_needCrossing (G : GP) (ad : Nat → Nat → Nat) (K : GF → Prop) (X : String → GF → Prop) (below : List Frame) (args : Array Value) (s : State) : State → Prop := vx_MQ below (gQv G ad K) (gX G ad X) args s 1 6 (gA G)
set_option maxHeartbeats 4000000 in
set_option maxRecDepth 100000 in
theorem c_X10_needCrossing (l : Launch) (hfl : l.stackTraces = false) (G : GP) (ad : Nat → Nat → Nat) (F : GF) (p0 : Int32) (K : GF → Prop) (X : String → GF → Prop) : vx_Met l yX10_needCrossing wsX10_needCrossing rm_X10_needCrossing (va_Pc [.int p0] (fun U => gD G ad F U ∧ P_X10_needCrossing F p0 K X)) (gQv G ad K) (gX G ad X) 1 6 (gA G) := by
  refine vx_ofW (cc := cX10_needCrossing) (maxL := 1) (ret := none) (by decide) rfl ?_
  intro p e s m args below meth c s₁ Bd hml hno hv
  obtain ⟨rfl, ⟨hK, hG, hB, hH⟩, q⟩ := hv
  have hx := Bd.exec
  have hb := Bd.bytes
  have hr := Bd.returns
  have hts := atoms_spec (ws := wsX10_needCrossing) Bd.pre
  have hown : s.vm.findClass RX10 = some m.cls := findClass_of_methodNamed Bd.named
  have hlocks := Bd.notSynchronized
  have hS : va_S (gA G) s.heap s.heap [] := va_S.rf
  have hl := lv_entry [.int p0] (n := 1) (Nat.le_of_ble_eq_true rfl)
  rw [lg_entry_eq]
  generalize (lg_sl [.int p0] ++ List.replicate (1 - (lg_sl [.int p0]).length) Slot.unset).toArray = ls at hl ⊢
  have hl : lv_has ls 1 [(0, .int p0)] := hl
  unfold P_X10_needCrossing at q
  refine lv_iload_n hx hb dX10_needCrossing_0 rfl (lv_at hl 0 rfl) ?_
  refine lv_if_lt (tgt := 10) hx hb dX10_needCrossing_1 (by decide) (fun c1 => ?_) (fun c1 => ?_)
  · have q := (if_pos c1).mp q
    exact g_throwW (text := "no such crossing") hx hb hfl hno hown hts hG hS (List.mem_of_getElem? (i := 0) rfl) (List.mem_of_getElem? (i := 0) rfl) (List.mem_of_getElem? (i := 1) rfl) (List.mem_of_getElem? (i := 2) rfl) (fun _ h => (List.mem_cons_of_mem _ (List.mem_append_right _ h))) (hl.1.trans hml.symm) hlocks dX10_needCrossing_10 dX10_needCrossing_13 dX10_needCrossing_14 dX10_needCrossing_17 dX10_needCrossing_20 (Nat.le_of_ble_eq_true rfl) (Nat.le_of_ble_eq_true rfl) (Nat.le_of_ble_eq_true rfl) (Nat.le_of_ble_eq_true rfl) (fun t hvm hz hk => ⟨F, trivial, ⟨q, gH_grow hH hz hk⟩, gF_grow hS hz hk⟩) hS.2.2 (Nat.le_of_ble_eq_true rfl) (Nat.le_of_ble_eq_true rfl)
  · have q := (if_neg c1).mp q
    refine lv_iload_n hx hb dX10_needCrossing_4 rfl (lv_at hl 0 rfl) ?_
    refine lv_bipush (v := 36) hx hb dX10_needCrossing_5 (by decide) ?_
    refine lv_icmp_lt (tgt := 21) hx hb dX10_needCrossing_7 (by decide) (fun c2 => ?_) (fun c2 => ?_)
    · have q := (if_pos c2).mp q
      refine W.widen (k := 1) (n := 6) (Nat.le_of_ble_eq_true rfl) (Nat.le_of_ble_eq_true rfl) ?_
      exact vx_ret (W.vret hx hb hr (fun t ht hW => ⟨⟨F, rfl, q, gH_at ht hH⟩, hS.F ht⟩) hS.2.2 dX10_needCrossing_21)
    · have q := (if_neg c2).mp q
      exact g_throwW (text := "no such crossing") hx hb hfl hno hown hts hG hS (List.mem_of_getElem? (i := 0) rfl) (List.mem_of_getElem? (i := 0) rfl) (List.mem_of_getElem? (i := 1) rfl) (List.mem_of_getElem? (i := 2) rfl) (fun _ h => (List.mem_cons_of_mem _ (List.mem_append_right _ h))) (hl.1.trans hml.symm) hlocks dX10_needCrossing_10 dX10_needCrossing_13 dX10_needCrossing_14 dX10_needCrossing_17 dX10_needCrossing_20 (Nat.le_of_ble_eq_true rfl) (Nat.le_of_ble_eq_true rfl) (Nat.le_of_ble_eq_true rfl) (Nat.le_of_ble_eq_true rfl) (fun t hvm hz hk => ⟨F, trivial, ⟨q, gH_grow hH hz hk⟩, gF_grow hS hz hk⟩) hS.2.2 (Nat.le_of_ble_eq_true rfl) (Nat.le_of_ble_eq_true rfl)
abbrev rm_X9_streetBetween : Room := { frames := 0, cells := 0, slots := 0, locals := 0 }
abbrev q_X9_streetBetween (G : GP) (ad : Nat → Nat → Nat) (K : Int32 → GF → Prop) (below : List Frame) (args : Array Value) (s : State) : State → Prop := MQ below (gQi G ad K) args s 0 0 (gA G)
set_option maxHeartbeats 4000000 in
set_option maxRecDepth 100000 in
theorem c_X9_streetBetween (l : Launch) (G : GP) (ad : Nat → Nat → Nat) (F : GF) (p0 : Int32) (p1 : Int32) (K : Int32 → GF → Prop) : Met l yX9_streetBetween wsX9_streetBetween rm_X9_streetBetween (va_Pc [.int p0, .int p1] (fun U => gD G ad F U ∧ P_X9_streetBetween F p0 p1 K)) (gQi G ad K) 0 0 (gA G) := by
  refine Met.ofW (cc := cX9_streetBetween) (maxL := 4) (ret := (some .int)) (by decide) rfl ?_
  intro p e s m args below meth c s₁ Bd hml hv
  obtain ⟨rfl, ⟨hK, hG, hB, hH⟩, q⟩ := hv
  have hx := Bd.exec
  have hb := Bd.bytes
  have hr := Bd.returns
  have hts := atoms_spec (ws := wsX9_streetBetween) Bd.pre
  have hown : s.vm.findClass RX9 = some m.cls := findClass_of_methodNamed Bd.named
  have hlocks := Bd.notSynchronized
  have hS : va_S (gA G) s.heap s.heap [] := va_S.rf
  have hl := lv_entry [.int p0, .int p1] (n := 4) (Nat.le_of_ble_eq_true rfl)
  rw [lg_entry_eq]
  generalize (lg_sl [.int p0, .int p1] ++ List.replicate (4 - (lg_sl [.int p0, .int p1]).length) Slot.unset).toArray = ls at hl ⊢
  have hl : lv_has ls 4 [(0, .int p0), (1, .int p1)] := hl
  show W p l e rm_X9_streetBetween s m ([.int p0, .int p1] : List Value).toArray below meth c s.heap [] 0 0 (q_X9_streetBetween G ad K below ([.int p0, .int p1] : List Value).toArray s) _
  have t_21 : ∀ (F : GF) (x2 : Int32) (s0 : Int32) (H : Heap) (locs : List Loc) (ls : Array Slot), gH G ad F H → va_S (gA G) s.heap H locs → lv_has ls 4 [(2, .int x2)] → (P_X9_streetBetween_21 K) F x2 s0 → W p l e rm_X9_streetBetween s m ([.int p0, .int p1] : List Value).toArray below meth c H locs 0 0 (q_X9_streetBetween G ad K below ([.int p0, .int p1] : List Value).toArray s) (F0 m 21 ls [.int s0]) := by
    intro F x2 s0 H locs ls hH hS hl q
    unfold P_X9_streetBetween_21 at q
    refine lv_istore_n (lv' := [(3, .int s0), (2, .int x2)]) hx hb dX9_streetBetween_21 rfl hl (by decide) rfl (fun ls hl => ?_)
    refine lv_iload_n hx hb dX9_streetBetween_22 rfl (lv_at hl 1 rfl) ?_
    refine lv_if_lt (tgt := 32) hx hb dX9_streetBetween_23 (by decide) (fun c3 => ?_) (fun c3 => ?_)
    · have q := (if_pos c3).mp q
      refine lv_iconst (v := (-1)) hx hb dX9_streetBetween_32 (by decide) ?_
      exact (W.iret (v := (-1)) hx hb hr (fun t ht hW => ⟨⟨(-1), F, rfl, q, gH_at ht hH⟩, hS.F ht⟩) hS.2.2 dX9_streetBetween_33)
    · have q := (if_neg c3).mp q
      refine lv_iload_n hx hb dX9_streetBetween_26 rfl (lv_at hl 0 rfl) ?_
      refine lv_bipush (v := 36) hx hb dX9_streetBetween_27 (by decide) ?_
      refine lv_icmp_lt (tgt := 34) hx hb dX9_streetBetween_29 (by decide) (fun c4 => ?_) (fun c4 => ?_)
      · have q := (if_pos c4).mp q
        refine lv_iload_n hx hb dX9_streetBetween_34 rfl (lv_at hl 0 rfl) ?_
        refine lv_iload_n hx hb dX9_streetBetween_35 rfl (lv_at hl 1 rfl) ?_
        refine lv_isub hx hb dX9_streetBetween_36 ?_
        refine lv_bipush (v := 6) hx hb dX9_streetBetween_37 (by decide) ?_
        refine lv_icmp_ne (tgt := 48) hx hb dX9_streetBetween_39 (by decide) (fun c5 => ?_) (fun c5 => ?_)
        · have q := (if_neg c5).mp q
          refine lv_iload_n hx hb dX9_streetBetween_48 rfl (lv_at hl 0 rfl) ?_
          refine lv_iload_n hx hb dX9_streetBetween_49 rfl (lv_at hl 1 rfl) ?_
          refine lv_isub hx hb dX9_streetBetween_50 ?_
          refine lv_iconst (v := 1) hx hb dX9_streetBetween_51 (by decide) ?_
          refine lv_icmp_ne (tgt := 66) hx hb dX9_streetBetween_52 (by decide) (fun c6 => ?_) (fun c6 => ?_)
          · have q := (if_neg c6).mp q
            refine lv_iconst (v := (-1)) hx hb dX9_streetBetween_66 (by decide) ?_
            exact (W.iret (v := (-1)) hx hb hr (fun t ht hW => ⟨⟨(-1), F, rfl, q, gH_at ht hH⟩, hS.F ht⟩) hS.2.2 dX9_streetBetween_67)
          · have q := (if_pos c6).mp q
            refine lv_iload_n hx hb dX9_streetBetween_55 rfl (lv_at hl 0 rfl) ?_
            refine lv_bipush (v := 6) hx hb dX9_streetBetween_56 (by decide) ?_
            refine lv_irem hx hb dX9_streetBetween_58 (by decide) ?_
            refine lv_if_eq (tgt := 66) hx hb dX9_streetBetween_59 (by decide) (fun c7 => ?_) (fun c7 => ?_)
            · have q := (if_pos c7).mp q
              refine lv_iconst (v := (-1)) hx hb dX9_streetBetween_66 (by decide) ?_
              exact (W.iret (v := (-1)) hx hb hr (fun t ht hW => ⟨⟨(-1), F, rfl, q, gH_at ht hH⟩, hS.F ht⟩) hS.2.2 dX9_streetBetween_67)
            · have q := (if_neg c7).mp q
              refine lv_iconst (v := 2) hx hb dX9_streetBetween_62 (by decide) ?_
              refine lv_iload_n hx hb dX9_streetBetween_63 rfl (lv_at hl 1 rfl) ?_
              refine lv_imul hx hb dX9_streetBetween_64 ?_
              exact (W.iret (v := (2 * x2)) hx hb hr (fun t ht hW => ⟨⟨(2 * x2), F, rfl, q, gH_at ht hH⟩, hS.F ht⟩) hS.2.2 dX9_streetBetween_65)
        · have q := (if_pos c5).mp q
          refine lv_iconst (v := 2) hx hb dX9_streetBetween_42 (by decide) ?_
          refine lv_iload_n hx hb dX9_streetBetween_43 rfl (lv_at hl 1 rfl) ?_
          refine lv_imul hx hb dX9_streetBetween_44 ?_
          refine lv_iconst (v := 1) hx hb dX9_streetBetween_45 (by decide) ?_
          refine lv_iadd hx hb dX9_streetBetween_46 ?_
          exact (W.iret (v := ((2 * x2) + 1)) hx hb hr (fun t ht hW => ⟨⟨((2 * x2) + 1), F, rfl, q, gH_at ht hH⟩, hS.F ht⟩) hS.2.2 dX9_streetBetween_47)
      · have q := (if_neg c4).mp q
        refine lv_iconst (v := (-1)) hx hb dX9_streetBetween_32 (by decide) ?_
        exact (W.iret (v := (-1)) hx hb hr (fun t ht hW => ⟨⟨(-1), F, rfl, q, gH_at ht hH⟩, hS.F ht⟩) hS.2.2 dX9_streetBetween_33)
  have t_10 : ∀ (F : GF) (x0 : Int32) (x1 : Int32) (s0 : Int32) (H : Heap) (locs : List Loc) (ls : Array Slot), gH G ad F H → va_S (gA G) s.heap H locs → lv_has ls 4 [(0, .int x0), (1, .int x1)] → (P_X9_streetBetween_10 K) F x0 x1 s0 → W p l e rm_X9_streetBetween s m ([.int p0, .int p1] : List Value).toArray below meth c H locs 0 0 (q_X9_streetBetween G ad K below ([.int p0, .int p1] : List Value).toArray s) (F0 m 10 ls [.int s0]) := by
    intro F x0 x1 s0 H locs ls hH hS hl q
    unfold P_X9_streetBetween_10 at q
    refine lv_istore_n (lv' := [(2, .int s0), (0, .int x0), (1, .int x1)]) hx hb dX9_streetBetween_10 rfl hl (by decide) rfl (fun ls hl => ?_)
    refine lv_iload_n hx hb dX9_streetBetween_11 rfl (lv_at hl 1 rfl) ?_
    refine lv_iload_n hx hb dX9_streetBetween_12 rfl (lv_at hl 2 rfl) ?_
    refine lv_icmp_ge (tgt := 20) hx hb dX9_streetBetween_13 (by decide) (fun c2 => ?_) (fun c2 => ?_)
    · have q := (if_pos c2).mp q
      refine lv_iload_n hx hb dX9_streetBetween_20 rfl (lv_at hl 1 rfl) ?_
      exact t_21 F s0 x0 _ _ _ hH hS (lv_sub hl [0] rfl) q
    · have q := (if_neg c2).mp q
      refine lv_iload_n hx hb dX9_streetBetween_16 rfl (lv_at hl 2 rfl) ?_
      refine lv_goto (tgt := 21) hx hb dX9_streetBetween_17 (by decide) ?_
      exact t_21 F s0 x1 _ _ _ hH hS (lv_sub hl [0] rfl) q
  unfold P_X9_streetBetween at q
  refine lv_iload_n hx hb dX9_streetBetween_0 rfl (lv_at hl 0 rfl) ?_
  refine lv_iload_n hx hb dX9_streetBetween_1 rfl (lv_at hl 1 rfl) ?_
  refine lv_icmp_ge (tgt := 9) hx hb dX9_streetBetween_2 (by decide) (fun c1 => ?_) (fun c1 => ?_)
  · have q := (if_pos c1).mp q
    refine lv_iload_n hx hb dX9_streetBetween_9 rfl (lv_at hl 1 rfl) ?_
    exact t_10 F p0 p1 p1 _ _ _ hH hS (lv_sub hl [0, 1] rfl) q
  · have q := (if_neg c1).mp q
    refine lv_iload_n hx hb dX9_streetBetween_5 rfl (lv_at hl 0 rfl) ?_
    refine lv_goto (tgt := 10) hx hb dX9_streetBetween_6 (by decide) ?_
    exact t_10 F p0 p1 p0 _ _ _ hH hS (lv_sub hl [0, 1] rfl) q
abbrev rm_X9_setBarred : Room := { frames := 0, cells := 0, slots := 0, locals := 0 }
abbrev q_X9_setBarred (G : GP) (ad : Nat → Nat → Nat) (K : Int32 → GF → Prop) (below : List Frame) (args : Array Value) (s : State) : State → Prop := MQ below (gQi G ad K) args s 0 0 (gA G)
set_option maxHeartbeats 4000000 in
set_option maxRecDepth 100000 in
theorem c_X9_setBarred (l : Launch) (G : GP) (ad : Nat → Nat → Nat) (F : GF) (p1 : Int32) (p2 : Int32) (K : Int32 → GF → Prop) : Met l yX9_setBarred wsX9_setBarred rm_X9_setBarred (va_Pc [.ref (ad 1 0), .int p1, .int p2] (fun U => gD G ad F U ∧ P_X9_setBarred F p1 p2 K)) (gQi G ad K) 0 0 (gA G) := by
  refine Met.ofW (cc := cX9_setBarred) (maxL := 4) (ret := (some .boolean)) (by decide) rfl ?_
  intro p e s m args below meth c s₁ Bd hml hv
  obtain ⟨rfl, ⟨hK, hG, hB, hH⟩, q⟩ := hv
  have hx := Bd.exec
  have hb := Bd.bytes
  have hr := Bd.returns
  have hts := atoms_spec (ws := wsX9_setBarred) Bd.pre
  have hown : s.vm.findClass RX9 = some m.cls := findClass_of_methodNamed Bd.named
  have hlocks := Bd.notSynchronized
  have hS : va_S (gA G) s.heap s.heap [] := va_S.rf
  have hl := lv_entry [.ref (ad 1 0), .int p1, .int p2] (n := 4) (Nat.le_of_ble_eq_true rfl)
  rw [lg_entry_eq]
  generalize (lg_sl [.ref (ad 1 0), .int p1, .int p2] ++ List.replicate (4 - (lg_sl [.ref (ad 1 0), .int p1, .int p2]).length) Slot.unset).toArray = ls at hl ⊢
  have hl : lv_has ls 4 [(0, .ref (ad 1 0)), (1, .int p1), (2, .int p2)] := hl
  unfold P_X9_setBarred at q
  refine lv_iload_n hx hb dX9_setBarred_0 rfl (lv_at hl 1 rfl) ?_
  refine lv_if_lt (tgt := 13) hx hb dX9_setBarred_1 (by decide) (fun c1 => ?_) (fun c1 => ?_)
  · have q := (if_pos c1).mp q
    refine lv_iconst (v := 0) hx hb dX9_setBarred_13 (by decide) ?_
    exact (W.zret (v := 0) hx hb hr rfl (fun t ht hW => ⟨⟨0, F, rfl, q, gH_at ht hH⟩, hS.F ht⟩) hS.2.2 dX9_setBarred_14)
  · have q := (if_neg c1).mp q
    refine lv_iload_n hx hb dX9_setBarred_4 rfl (lv_at hl 1 rfl) ?_
    refine lv_aload_n hx hb dX9_setBarred_5 rfl (lv_at hl 0 rfl) ?_
    refine g_get (ci := 13) (v := .ref (ad 2 0)) (C := RX9) (T := TX9) (N := 3) hx hb hts (fun _ h => (List.mem_cons_of_mem _ (List.mem_append_left _ (List.mem_append_right _ h)))) hown hK hH 1 0 (by decide) Nat.zero_lt_one rfl rfl 0 (by decide) (hts (.fieldLink RX9 9 "BallotFoundry$Town" "barred" "[Z") (List.mem_of_getElem? (i := 1) rfl)) (fun _ h => h) rfl dX9_setBarred_6 ?_
    refine g_alen (v := 72) hx hb hK hH 2 0 (by decide) Nat.zero_lt_one 3 rfl rfl (by decide) dX9_setBarred_9 ?_
    refine lv_icmp_lt (tgt := 15) hx hb dX9_setBarred_10 (by decide) (fun c2 => ?_) (fun c2 => ?_)
    · have q := (if_pos c2).mp q
      refine lv_aload_n hx hb dX9_setBarred_15 rfl (lv_at hl 0 rfl) ?_
      refine g_get (ci := 13) (v := .ref (ad 2 0)) (C := RX9) (T := TX9) (N := 3) hx hb hts (fun _ h => (List.mem_cons_of_mem _ (List.mem_append_left _ (List.mem_append_right _ h)))) hown hK hH 1 0 (by decide) Nat.zero_lt_one rfl rfl 0 (by decide) (hts (.fieldLink RX9 9 "BallotFoundry$Town" "barred" "[Z") (List.mem_of_getElem? (i := 1) rfl)) (fun _ h => h) rfl dX9_setBarred_16 ?_
      refine lv_iload_n hx hb dX9_setBarred_19 rfl (lv_at hl 1 rfl) ?_
      obtain ⟨h3, q⟩ := q
      refine g_zald hx hb hK hH 2 0 (by decide) Nat.zero_lt_one 72 rfl h3 dX9_setBarred_20 ?_
      refine lv_istore_n (lv' := [(3, .int (F 2 0 p1.toNatClampNeg)), (0, .ref (ad 1 0)), (1, .int p1), (2, .int p2)]) hx hb dX9_setBarred_21 rfl hl (by decide) rfl (fun ls hl => ?_)
      refine lv_aload_n hx hb dX9_setBarred_22 rfl (lv_at hl 1 rfl) ?_
      refine g_get (ci := 13) (v := .ref (ad 2 0)) (C := RX9) (T := TX9) (N := 3) hx hb hts (fun _ h => (List.mem_cons_of_mem _ (List.mem_append_left _ (List.mem_append_right _ h)))) hown hK hH 1 0 (by decide) Nat.zero_lt_one rfl rfl 0 (by decide) (hts (.fieldLink RX9 9 "BallotFoundry$Town" "barred" "[Z") (List.mem_of_getElem? (i := 1) rfl)) (fun _ h => h) rfl dX9_setBarred_23 ?_
      refine lv_iload_n hx hb dX9_setBarred_26 rfl (lv_at hl 2 rfl) ?_
      refine lv_iload_n hx hb dX9_setBarred_27 rfl (lv_at hl 3 rfl) ?_
      obtain ⟨h4, q⟩ := q
      obtain ⟨h6, q⟩ := q
      refine g_zast hx hb hK hH hS 2 0 (by decide) Nat.zero_lt_one (by decide) 72 (fun _ => rfl) h4 dX9_setBarred_28 (fun H locs hH hS => ?_)
      rw [gz_vp h6] at hH
      obtain ⟨F5, eF5⟩ : ∃ z, z = fs F 2 0 p1.toNatClampNeg p2 := ⟨_, rfl⟩
      have q := q F5 eF5
      rw [← eF5] at hH
      refine lv_iload_n hx hb dX9_setBarred_29 rfl (lv_at hl 0 rfl) ?_
      obtain ⟨h7, q⟩ := q
      exact (W.zret (v := (F 2 0 p1.toNatClampNeg)) hx hb hr (gz_nar h7) (fun t ht hW => ⟨⟨(F 2 0 p1.toNatClampNeg), F5, rfl, q, gH_at ht hH⟩, hS.F ht⟩) hS.2.2 dX9_setBarred_30)
    · have q := (if_neg c2).mp q
      refine lv_iconst (v := 0) hx hb dX9_setBarred_13 (by decide) ?_
      exact (W.zret (v := 0) hx hb hr rfl (fun t ht hW => ⟨⟨0, F, rfl, q, gH_at ht hH⟩, hS.F ht⟩) hS.2.2 dX9_setBarred_14)
abbrev rm_X10_bar : Room := { frames := 7, cells := 3, slots := 18, locals := 110 }
abbrev q_X10_bar (G : GP) (ad : Nat → Nat → Nat) (K : Int32 → GF → Prop) (X : String → GF → Prop) (below : List Frame) (args : Array Value) (s : State) : State → Prop := vx_MQ below (gQi G ad K) (gX G ad X) args s 3 18 (gA G)
set_option maxHeartbeats 4000000 in
set_option maxRecDepth 100000 in
theorem c_X10_bar (l : Launch) (hfl : l.stackTraces = false) (G : GP) (ad : Nat → Nat → Nat) (F : GF) (p1 : Int32) (p2 : Int32) (p3 : Int32) (K : Int32 → GF → Prop) (X : String → GF → Prop) : vx_Met l yX10_bar wsX10_bar rm_X10_bar (va_Pc [.ref (ad 0 0), .int p1, .int p2, .int p3] (fun U => gD G ad F U ∧ P_X10_bar F p1 p2 p3 K X)) (gQi G ad K) (gX G ad X) 3 18 (gA G) := by
  refine vx_ofW (cc := cX10_bar) (maxL := 5) (ret := (some .boolean)) (by decide) rfl ?_
  intro p e s m args below meth c s₁ Bd hml hno hv
  obtain ⟨rfl, ⟨hK, hG, hB, hH⟩, q⟩ := hv
  have hx := Bd.exec
  have hb := Bd.bytes
  have hr := Bd.returns
  have hts := atoms_spec (ws := wsX10_bar) Bd.pre
  have hown : s.vm.findClass RX10 = some m.cls := findClass_of_methodNamed Bd.named
  have hlocks := Bd.notSynchronized
  have hS : va_S (gA G) s.heap s.heap [] := va_S.rf
  have hl := lv_entry [.ref (ad 0 0), .int p1, .int p2, .int p3] (n := 5) (Nat.le_of_ble_eq_true rfl)
  rw [lg_entry_eq]
  generalize (lg_sl [.ref (ad 0 0), .int p1, .int p2, .int p3] ++ List.replicate (5 - (lg_sl [.ref (ad 0 0), .int p1, .int p2, .int p3]).length) Slot.unset).toArray = ls at hl ⊢
  have hl : lv_has ls 5 [(0, .ref (ad 0 0)), (1, .int p1), (2, .int p2), (3, .int p3)] := hl
  unfold P_X10_bar at q
  refine lv_iload_n hx hb dX10_bar_0 rfl (lv_at hl 1 rfl) ?_
  refine vx_callv (vx_runS (As := [.int p1]) (rest := []) ⟨hx, hb, hml, hown, hts⟩ (c_X10_needCrossing l hfl G ad F p1 _ _) (va_cwS 1 hts gX10_bar_X10_needCrossing rfl rfl rfl (by decide +kernel) ⟨Nat.le_of_ble_eq_true rfl, Nat.le_of_ble_eq_true rfl⟩) ⟨fun a U g mk h => ⟨h.1, gD_blind h.2.1, h.2.2⟩, fun U hU hW => ⟨rfl, gD_at hK hG hB hH hS hU hW, q⟩⟩ rfl rfl hl.1 rfl (lv_room (Nat.le_of_ble_eq_true rfl)) dX10_bar_1 ⟨Nat.le_of_ble_eq_true rfl, Nat.le_of_ble_eq_true rfl⟩) hS (fun _ _ h => h) (fun _ h => h) (fun _ _ h => h) (fun E ce q9 u t H locs ht hvm _ hq hz hk hS hc9 hv9 hcl9 => vx_widen (Nat.le_of_ble_eq_true rfl) (Nat.le_of_ble_eq_true rfl) (vx_out (fun x hx => (hno x hx).elim) hlocks hc9 hv9 hcl9 (fun t1 ht1 hvm1 => ⟨u, trivial, ⟨hq.1, gH_at ht1 (gH_to ht hq.2)⟩, hS.F ht1⟩) hS.2.2 (Nat.le_refl _) (Nat.le_refl _))) (fun F2 t H locs ht hvm q hB1 hz hk hS => ?_)
  have hH : gH G ad F2 H := gH_to ht hB1
  refine lv_iload_n hx hb dX10_bar_4 rfl (lv_at hl 2 rfl) ?_
  refine vx_callv (vx_runS (As := [.int p2]) (rest := []) ⟨hx, hb, hml, hown, hts⟩ (c_X10_needCrossing l hfl G ad F2 p2 _ _) (va_cwS 1 hts gX10_bar_X10_needCrossing rfl rfl rfl (by decide +kernel) ⟨Nat.le_of_ble_eq_true rfl, Nat.le_of_ble_eq_true rfl⟩) ⟨fun a U g mk h => ⟨h.1, gD_blind h.2.1, h.2.2⟩, fun U hU hW => ⟨rfl, gD_at hK hG hB hH hS hU hW, q⟩⟩ rfl rfl hl.1 rfl (lv_room (Nat.le_of_ble_eq_true rfl)) dX10_bar_5 ⟨Nat.le_of_ble_eq_true rfl, Nat.le_of_ble_eq_true rfl⟩) hS (fun _ _ h => h) (fun _ h => h) (fun _ _ h => h) (fun E ce q9 u t H locs ht hvm _ hq hz hk hS hc9 hv9 hcl9 => vx_widen (Nat.le_of_ble_eq_true rfl) (Nat.le_of_ble_eq_true rfl) (vx_out (fun x hx => (hno x hx).elim) hlocks hc9 hv9 hcl9 (fun t1 ht1 hvm1 => ⟨u, trivial, ⟨hq.1, gH_at ht1 (gH_to ht hq.2)⟩, hS.F ht1⟩) hS.2.2 (Nat.le_refl _) (Nat.le_refl _))) (fun F4 t H locs ht hvm q hB1 hz hk hS => ?_)
  have hH : gH G ad F4 H := gH_to ht hB1
  refine lv_iload_n hx hb dX10_bar_8 rfl (lv_at hl 1 rfl) ?_
  refine lv_iload_n hx hb dX10_bar_9 rfl (lv_at hl 2 rfl) ?_
  refine va_calli (va_runS (As := [.int p1, .int p2]) (rest := []) ⟨hx, hb, hml, hown, hts⟩ (c_X9_streetBetween l G ad F4 p1 p2 _) (va_cwS 2 hts gX10_bar_X9_streetBetween rfl rfl rfl (by decide +kernel) ⟨Nat.le_of_ble_eq_true rfl, Nat.le_of_ble_eq_true rfl⟩) ⟨fun a U g mk h => ⟨h.1, gD_blind h.2.1, h.2.2⟩, fun U hU hW => ⟨rfl, gD_at hK hG hB hH hS hU hW, q⟩⟩ rfl rfl hl.1 rfl (lv_room (Nat.le_of_ble_eq_true rfl)) dX10_bar_10 ⟨Nat.le_of_ble_eq_true rfl, Nat.le_of_ble_eq_true rfl⟩) hS (fun _ _ h => h) (fun _ h => h) (fun r5 F6 t H locs ht hvm q hB1 hz hk hS => ?_)
  have hH : gH G ad F6 H := gH_to ht hB1
  refine lv_istore (lv' := [(4, .int r5), (0, .ref (ad 0 0)), (1, .int p1), (2, .int p2), (3, .int p3)]) hx hb dX10_bar_13 hl (by decide) rfl (fun ls hl => ?_)
  refine lv_iload hx hb dX10_bar_15 (lv_at hl 0 rfl) ?_
  refine lv_iconst (v := (-1)) hx hb dX10_bar_17 (by decide) ?_
  refine lv_icmp_ne (tgt := 31) hx hb dX10_bar_18 (by decide) (fun c7 => ?_) (fun c7 => ?_)
  · have q := (if_neg c7).mp q
    refine lv_aload_n hx hb dX10_bar_31 rfl (lv_at hl 1 rfl) ?_
    refine g_get (ci := 14) (v := .ref (ad 1 0)) (C := RX10) (T := TX10) (N := 8) hx hb hts (fun _ h => (List.mem_cons_of_mem _ (List.mem_append_left _ (List.mem_append_left _ (List.mem_append_left _ (List.mem_append_left _ (List.mem_append_right _ h))))))) hown hK hH 0 0 (by decide) Nat.zero_lt_one rfl rfl 0 (by decide) (hts (.fieldLink RX10 12 "BallotFoundry" "town" "LBallotFoundry$Town;") (List.mem_of_getElem? (i := 3) rfl)) (fun _ h => h) rfl dX10_bar_32 ?_
    refine lv_iload hx hb dX10_bar_35 (lv_at hl 0 rfl) ?_
    refine lv_iload_n hx hb dX10_bar_37 rfl (lv_at hl 4 rfl) ?_
    refine va_calli (va_runV (As := [.int r5, .int p3]) (rest := []) ⟨hx, hb, hml, hown, hts⟩ (c_X9_setBarred l G ad F6 r5 p3 _) (cwV 2 hts gX10_bar_X9_setBarred rfl rfl rfl (by decide +kernel) ⟨Nat.le_of_ble_eq_true rfl, Nat.le_of_ble_eq_true rfl⟩) ⟨fun a U g mk h => ⟨h.1, gD_blind h.2.1, h.2.2⟩, g_recv (C := RX9) (T := TX9) (N := 3) hK hH 1 0 (by decide) Nat.zero_lt_one rfl rfl, fun U hU hW => ⟨rfl, gD_at hK hG hB hH hS hU hW, q⟩⟩ rfl rfl hl.1 rfl (lv_room (Nat.le_of_ble_eq_true rfl)) dX10_bar_38 ⟨Nat.le_of_ble_eq_true rfl, Nat.le_of_ble_eq_true rfl⟩) hS (fun _ _ h => h) (fun _ h => h) (fun r8 F9 t H locs ht hvm q hB1 hz hk hS => ?_)
    have hH : gH G ad F9 H := gH_to ht hB1
    refine W.widen (k := 3) (n := 18) (Nat.le_of_ble_eq_true rfl) (Nat.le_of_ble_eq_true rfl) ?_
    obtain ⟨h10, q⟩ := q
    exact vx_ret (W.zret (v := r8) hx hb hr (gz_nar h10) (fun t ht hW => ⟨⟨r8, F9, rfl, q, gH_at ht hH⟩, hS.F ht⟩) hS.2.2 dX10_bar_41)
  · have q := (if_pos c7).mp q
    exact g_throw (text := "no street between the crossings") hx hb hfl hno hown hts hG hS (List.mem_of_getElem? (i := 1) rfl) (List.mem_of_getElem? (i := 1) rfl) (List.mem_of_getElem? (i := 1) rfl) (List.mem_of_getElem? (i := 2) rfl) (fun _ h => (List.mem_cons_of_mem _ (List.mem_append_left _ (List.mem_append_left _ (List.mem_append_right _ h))))) (hl.1.trans hml.symm) hlocks dX10_bar_21 dX10_bar_24 dX10_bar_25 dX10_bar_27 dX10_bar_30 (Nat.le_of_ble_eq_true rfl) (Nat.le_of_ble_eq_true rfl) (Nat.le_of_ble_eq_true rfl) (Nat.le_of_ble_eq_true rfl) (fun t hvm hz hk => ⟨F6, trivial, ⟨q, gH_grow hH hz hk⟩, gF_grow hS hz hk⟩) hS.2.2 (Nat.le_of_ble_eq_true rfl) (Nat.le_of_ble_eq_true rfl)
abbrev rm_X9_reach : Room := { frames := 1, cells := 0, slots := 0, locals := 23 }
abbrev q_X9_reach (G : GP) (ad : Nat → Nat → Nat) (K : Int32 → GF → Prop) (below : List Frame) (args : Array Value) (s : State) : State → Prop := MQ below (gQi G ad K) args s 0 0 (gA G)
set_option maxHeartbeats 4000000 in
set_option maxRecDepth 100000 in
theorem c_X9_reach (l : Launch) (G : GP) (ad : Nat → Nat → Nat) (F : GF) (p1 : Int32) (p2 : Int32) (p3 : Int32) (K : Int32 → GF → Prop) : Met l yX9_reach wsX9_reach rm_X9_reach (va_Pc [.ref (ad 1 0), .int p1, .int p2, .int p3] (fun U => gD G ad F U ∧ P_X9_reach F p1 p2 p3 K)) (gQi G ad K) 0 0 (gA G) := by
  refine Met.ofW (cc := cX9_reach) (maxL := 5) (ret := (some .int)) (by decide) rfl ?_
  intro p e s m args below meth c s₁ Bd hml hv
  obtain ⟨rfl, ⟨hK, hG, hB, hH⟩, q⟩ := hv
  have hx := Bd.exec
  have hb := Bd.bytes
  have hr := Bd.returns
  have hts := atoms_spec (ws := wsX9_reach) Bd.pre
  have hown : s.vm.findClass RX9 = some m.cls := findClass_of_methodNamed Bd.named
  have hlocks := Bd.notSynchronized
  have hS : va_S (gA G) s.heap s.heap [] := va_S.rf
  have hl := lv_entry [.ref (ad 1 0), .int p1, .int p2, .int p3] (n := 5) (Nat.le_of_ble_eq_true rfl)
  rw [lg_entry_eq]
  generalize (lg_sl [.ref (ad 1 0), .int p1, .int p2, .int p3] ++ List.replicate (5 - (lg_sl [.ref (ad 1 0), .int p1, .int p2, .int p3]).length) Slot.unset).toArray = ls at hl ⊢
  have hl : lv_has ls 5 [(0, .ref (ad 1 0)), (1, .int p1), (2, .int p2), (3, .int p3)] := hl
  unfold P_X9_reach at q
  refine lv_iload_n hx hb dX9_reach_0 rfl (lv_at hl 1 rfl) ?_
  refine lv_iload_n hx hb dX9_reach_1 rfl (lv_at hl 2 rfl) ?_
  refine va_calli (va_runS (As := [.int p1, .int p2]) (rest := []) ⟨hx, hb, hml, hown, hts⟩ (c_X9_streetBetween l G ad F p1 p2 _) (va_cwS 2 hts gX9_reach_X9_streetBetween rfl rfl rfl (by decide +kernel) ⟨Nat.le_of_ble_eq_true rfl, Nat.le_of_ble_eq_true rfl⟩) ⟨fun a U g mk h => ⟨h.1, gD_blind h.2.1, h.2.2⟩, fun U hU hW => ⟨rfl, gD_at hK hG hB hH hS hU hW, q⟩⟩ rfl rfl hl.1 rfl (lv_room (Nat.le_of_ble_eq_true rfl)) dX9_reach_2 ⟨Nat.le_of_ble_eq_true rfl, Nat.le_of_ble_eq_true rfl⟩) hS (fun _ _ h => h) (fun _ h => h) (fun r1 F2 t H locs ht hvm q hB1 hz hk hS => ?_)
  have hH : gH G ad F2 H := gH_to ht hB1
  refine lv_istore (lv' := [(4, .int r1), (0, .ref (ad 1 0)), (1, .int p1), (2, .int p2), (3, .int p3)]) hx hb dX9_reach_5 hl (by decide) rfl (fun ls hl => ?_)
  refine lv_iload hx hb dX9_reach_7 (lv_at hl 0 rfl) ?_
  refine lv_iconst (v := (-1)) hx hb dX9_reach_9 (by decide) ?_
  refine lv_icmp_eq (tgt := 39) hx hb dX9_reach_10 (by decide) (fun c3 => ?_) (fun c3 => ?_)
  · have q := (if_pos c3).mp q
    refine lv_iload_n hx hb dX9_reach_39 rfl (lv_at hl 4 rfl) ?_
    exact (W.iret (v := p3) hx hb hr (fun t ht hW => ⟨⟨p3, F2, rfl, q, gH_at ht hH⟩, hS.F ht⟩) hS.2.2 dX9_reach_40)
  · have q := (if_neg c3).mp q
    refine lv_aload_n hx hb dX9_reach_13 rfl (lv_at hl 1 rfl) ?_
    refine g_get (ci := 13) (v := .ref (ad 2 0)) (C := RX9) (T := TX9) (N := 3) hx hb hts (fun _ h => (List.mem_cons_of_mem _ (List.mem_append_left _ (List.mem_append_right _ h)))) hown hK hH 1 0 (by decide) Nat.zero_lt_one rfl rfl 0 (by decide) (hts (.fieldLink RX9 9 "BallotFoundry$Town" "barred" "[Z") (List.mem_of_getElem? (i := 1) rfl)) (fun _ h => h) rfl dX9_reach_14 ?_
    refine lv_iload hx hb dX9_reach_17 (lv_at hl 0 rfl) ?_
    obtain ⟨h4, q⟩ := q
    refine g_zald hx hb hK hH 2 0 (by decide) Nat.zero_lt_one 72 rfl h4 dX9_reach_19 ?_
    refine lv_if_ne (tgt := 39) hx hb dX9_reach_20 (by decide) (fun c5 => ?_) (fun c5 => ?_)
    · have q := (if_neg c5).mp q
      refine lv_iload_n hx hb dX9_reach_39 rfl (lv_at hl 4 rfl) ?_
      exact (W.iret (v := p3) hx hb hr (fun t ht hW => ⟨⟨p3, F2, rfl, q, gH_at ht hH⟩, hS.F ht⟩) hS.2.2 dX9_reach_40)
    · have q := (if_pos c5).mp q
      refine lv_aload_n hx hb dX9_reach_23 rfl (lv_at hl 1 rfl) ?_
      refine g_get (ci := 13) (v := .ref (ad 3 0)) (C := RX9) (T := TX9) (N := 3) hx hb hts (fun _ h => (List.mem_cons_of_mem _ (List.mem_append_left _ (List.mem_append_right _ h)))) hown hK hH 1 0 (by decide) Nat.zero_lt_one rfl rfl 1 (by decide) (hts (.fieldLink RX9 15 "BallotFoundry$Town" "measured" "[I") (List.mem_of_getElem? (i := 2) rfl)) (fun _ h => h) rfl dX9_reach_24 ?_
      refine lv_iload_n hx hb dX9_reach_27 rfl (lv_at hl 3 rfl) ?_
      obtain ⟨h6, q⟩ := q
      refine g_iald hx hb hK hH 3 0 (by decide) Nat.zero_lt_one 36 rfl h6 dX9_reach_28 ?_
      refine lv_iconst (v := (-1)) hx hb dX9_reach_29 (by decide) ?_
      refine lv_icmp_ne (tgt := 39) hx hb dX9_reach_30 (by decide) (fun c7 => ?_) (fun c7 => ?_)
      · have q := (if_neg c7).mp q
        refine lv_iload_n hx hb dX9_reach_39 rfl (lv_at hl 4 rfl) ?_
        exact (W.iret (v := p3) hx hb hr (fun t ht hW => ⟨⟨p3, F2, rfl, q, gH_at ht hH⟩, hS.F ht⟩) hS.2.2 dX9_reach_40)
      · have q := (if_pos c7).mp q
        refine lv_iload_n hx hb dX9_reach_33 rfl (lv_at hl 4 rfl) ?_
        refine lv_bipush (v := 36) hx hb dX9_reach_34 (by decide) ?_
        refine lv_icmp_lt (tgt := 41) hx hb dX9_reach_36 (by decide) (fun c8 => ?_) (fun c8 => ?_)
        · have q := (if_pos c8).mp q
          refine lv_aload_n hx hb dX9_reach_41 rfl (lv_at hl 1 rfl) ?_
          refine g_get (ci := 13) (v := .ref (ad 3 0)) (C := RX9) (T := TX9) (N := 3) hx hb hts (fun _ h => (List.mem_cons_of_mem _ (List.mem_append_left _ (List.mem_append_right _ h)))) hown hK hH 1 0 (by decide) Nat.zero_lt_one rfl rfl 1 (by decide) (hts (.fieldLink RX9 15 "BallotFoundry$Town" "measured" "[I") (List.mem_of_getElem? (i := 2) rfl)) (fun _ h => h) rfl dX9_reach_42 ?_
          refine lv_iload_n hx hb dX9_reach_45 rfl (lv_at hl 3 rfl) ?_
          refine lv_aload_n hx hb dX9_reach_46 rfl (lv_at hl 1 rfl) ?_
          refine g_get (ci := 13) (v := .ref (ad 3 0)) (C := RX9) (T := TX9) (N := 3) hx hb hts (fun _ h => (List.mem_cons_of_mem _ (List.mem_append_left _ (List.mem_append_right _ h)))) hown hK hH 1 0 (by decide) Nat.zero_lt_one rfl rfl 1 (by decide) (hts (.fieldLink RX9 15 "BallotFoundry$Town" "measured" "[I") (List.mem_of_getElem? (i := 2) rfl)) (fun _ h => h) rfl dX9_reach_47 ?_
          refine lv_iload_n hx hb dX9_reach_50 rfl (lv_at hl 2 rfl) ?_
          obtain ⟨h9, q⟩ := q
          refine g_iald hx hb hK hH 3 0 (by decide) Nat.zero_lt_one 36 rfl h9 dX9_reach_51 ?_
          refine lv_iconst (v := 1) hx hb dX9_reach_52 (by decide) ?_
          refine lv_iadd hx hb dX9_reach_53 ?_
          obtain ⟨h10, q⟩ := q
          refine g_iast hx hb hK hH hS 3 0 (by decide) Nat.zero_lt_one (by decide) 36 (fun _ => rfl) h10 dX9_reach_54 (fun H locs hH hS => ?_)
          obtain ⟨F11, eF11⟩ : ∃ z, z = fs F2 3 0 p2.toNatClampNeg ((F2 3 0 p1.toNatClampNeg) + 1) := ⟨_, rfl⟩
          have q := q F11 eF11
          rw [← eF11] at hH
          refine lv_aload_n hx hb dX9_reach_55 rfl (lv_at hl 1 rfl) ?_
          refine g_get (ci := 13) (v := .ref (ad 4 0)) (C := RX9) (T := TX9) (N := 3) hx hb hts (fun _ h => (List.mem_cons_of_mem _ (List.mem_append_left _ (List.mem_append_right _ h)))) hown hK hH 1 0 (by decide) Nat.zero_lt_one rfl rfl 2 (by decide) (hts (.fieldLink RX9 19 "BallotFoundry$Town" "reached" "[I") (List.mem_of_getElem? (i := 3) rfl)) (fun _ h => h) rfl dX9_reach_56 ?_
          refine lv_iload_n hx hb dX9_reach_59 rfl (lv_at hl 4 rfl) ?_
          refine lv_iload_n hx hb dX9_reach_60 rfl (lv_at hl 3 rfl) ?_
          obtain ⟨h12, q⟩ := q
          refine g_iast hx hb hK hH hS 4 0 (by decide) Nat.zero_lt_one (by decide) 36 (fun _ => rfl) h12 dX9_reach_61 (fun H locs hH hS => ?_)
          obtain ⟨F13, eF13⟩ : ∃ z, z = fs F11 4 0 p3.toNatClampNeg p2 := ⟨_, rfl⟩
          have q := q F13 eF13
          rw [← eF13] at hH
          refine lv_iload_n hx hb dX9_reach_62 rfl (lv_at hl 4 rfl) ?_
          refine lv_iconst (v := 1) hx hb dX9_reach_63 (by decide) ?_
          refine lv_iadd hx hb dX9_reach_64 ?_
          exact (W.iret (v := (p3 + 1)) hx hb hr (fun t ht hW => ⟨⟨(p3 + 1), F13, rfl, q, gH_at ht hH⟩, hS.F ht⟩) hS.2.2 dX9_reach_65)
        · have q := (if_neg c8).mp q
          refine lv_iload_n hx hb dX9_reach_39 rfl (lv_at hl 4 rfl) ?_
          exact (W.iret (v := p3) hx hb hr (fun t ht hW => ⟨⟨p3, F2, rfl, q, gH_at ht hH⟩, hS.F ht⟩) hS.2.2 dX9_reach_40)
abbrev rm_X9_measureFrom : Room := { frames := 2, cells := 0, slots := 0, locals := 47 }
abbrev q_X9_measureFrom (G : GP) (ad : Nat → Nat → Nat) (K : GF → Prop) (below : List Frame) (args : Array Value) (s : State) : State → Prop := MQ below (gQv G ad K) args s 0 0 (gA G)
set_option maxHeartbeats 4000000 in
set_option maxRecDepth 100000 in
theorem c_X9_measureFrom (l : Launch) (G : GP) (ad : Nat → Nat → Nat) (F : GF) (p1 : Int32) (K : GF → Prop) : Met l yX9_measureFrom wsX9_measureFrom rm_X9_measureFrom (va_Pc [.ref (ad 1 0), .int p1] (fun U => gD G ad F U ∧ P_X9_measureFrom F p1 K)) (gQv G ad K) 0 0 (gA G) := by
  refine Met.ofW (cc := cX9_measureFrom) (maxL := 5) (ret := none) (by decide) rfl ?_
  intro p e s m args below meth c s₁ Bd hml hv
  obtain ⟨rfl, ⟨hK, hG, hB, hH⟩, q⟩ := hv
  have hx := Bd.exec
  have hb := Bd.bytes
  have hr := Bd.returns
  have hts := atoms_spec (ws := wsX9_measureFrom) Bd.pre
  have hown : s.vm.findClass RX9 = some m.cls := findClass_of_methodNamed Bd.named
  have hlocks := Bd.notSynchronized
  have hS : va_S (gA G) s.heap s.heap [] := va_S.rf
  have hl := lv_entry [.ref (ad 1 0), .int p1] (n := 5) (Nat.le_of_ble_eq_true rfl)
  rw [lg_entry_eq]
  generalize (lg_sl [.ref (ad 1 0), .int p1] ++ List.replicate (5 - (lg_sl [.ref (ad 1 0), .int p1]).length) Slot.unset).toArray = ls at hl ⊢
  have hl : lv_has ls 5 [(0, .ref (ad 1 0)), (1, .int p1)] := hl
  show W p l e rm_X9_measureFrom s m ([.ref (ad 1 0), .int p1] : List Value).toArray below meth c s.heap [] 0 0 (q_X9_measureFrom G ad K below ([.ref (ad 1 0), .int p1] : List Value).toArray s) _
  have t_37 : ∀ n : Nat, ∀ (F : GF) (x2 : Int32) (x3 : Int32) (H : Heap) (locs : List Loc) (ls : Array Slot), gH G ad F H → va_S (gA G) s.heap H locs → lv_has ls 5 [(0, .ref (ad 1 0)), (2, .int x2), (3, .int x3)] → (P_X9_measureFrom_37 K n) F x2 x3 → W p l e rm_X9_measureFrom s m ([.ref (ad 1 0), .int p1] : List Value).toArray below meth c H locs 0 0 (q_X9_measureFrom G ad K below ([.ref (ad 1 0), .int p1] : List Value).toArray s) (F0 m 37 ls []) := by
    intro n
    induction n with
    | zero =>
      intro F x2 x3 H locs ls hH hS hl q
      exact False.elim q
    | succ n ih =>
      intro F x2 x3 H locs ls hH hS hl q
      rw [P_X9_measureFrom_37] at q
      refine lv_iload_n hx hb dX9_measureFrom_37 rfl (lv_at hl 2 rfl) ?_
      refine lv_iload_n hx hb dX9_measureFrom_38 rfl (lv_at hl 1 rfl) ?_
      refine lv_icmp_ge (tgt := 112) hx hb dX9_measureFrom_39 (by decide) (fun c9 => ?_) (fun c9 => ?_)
      · have q := (if_pos c9).mp q
        exact (W.vret hx hb hr (fun t ht hW => ⟨⟨F, rfl, q, gH_at ht hH⟩, hS.F ht⟩) hS.2.2 dX9_measureFrom_112)
      · have q := (if_neg c9).mp q
        refine lv_iload_n hx hb dX9_measureFrom_42 rfl (lv_at hl 2 rfl) ?_
        refine lv_bipush (v := 36) hx hb dX9_measureFrom_43 (by decide) ?_
        refine lv_icmp_ge (tgt := 112) hx hb dX9_measureFrom_45 (by decide) (fun c10 => ?_) (fun c10 => ?_)
        · have q := (if_pos c10).mp q
          exact (W.vret hx hb hr (fun t ht hW => ⟨⟨F, rfl, q, gH_at ht hH⟩, hS.F ht⟩) hS.2.2 dX9_measureFrom_112)
        · have q := (if_neg c10).mp q
          refine lv_aload_n hx hb dX9_measureFrom_48 rfl (lv_at hl 0 rfl) ?_
          refine g_get (ci := 13) (v := .ref (ad 4 0)) (C := RX9) (T := TX9) (N := 3) hx hb hts (fun _ h => (List.mem_cons_of_mem _ (List.mem_append_left _ (List.mem_append_right _ h)))) hown hK hH 1 0 (by decide) Nat.zero_lt_one rfl rfl 2 (by decide) (hts (.fieldLink RX9 19 "BallotFoundry$Town" "reached" "[I") (List.mem_of_getElem? (i := 2) rfl)) (fun _ h => h) rfl dX9_measureFrom_49 ?_
          refine lv_iload_n hx hb dX9_measureFrom_52 rfl (lv_at hl 2 rfl) ?_
          obtain ⟨h11, q⟩ := q
          refine g_iald hx hb hK hH 4 0 (by decide) Nat.zero_lt_one 36 rfl h11 dX9_measureFrom_53 ?_
          refine lv_istore (lv' := [(4, .int (F 4 0 x3.toNatClampNeg)), (0, .ref (ad 1 0)), (2, .int x2), (3, .int x3)]) hx hb dX9_measureFrom_54 hl (by decide) rfl (fun ls hl => ?_)
          refine lv_aload_n hx hb dX9_measureFrom_56 rfl (lv_at hl 1 rfl) ?_
          refine lv_iload hx hb dX9_measureFrom_57 (lv_at hl 0 rfl) ?_
          refine lv_iload hx hb dX9_measureFrom_59 (lv_at hl 0 rfl) ?_
          refine lv_bipush (v := 6) hx hb dX9_measureFrom_61 (by decide) ?_
          refine lv_isub hx hb dX9_measureFrom_63 ?_
          refine lv_iload_n hx hb dX9_measureFrom_64 rfl (lv_at hl 2 rfl) ?_
          refine va_calli (va_runV (As := [.int (F 4 0 x3.toNatClampNeg), .int ((F 4 0 x3.toNatClampNeg) - 6), .int x2]) (rest := []) ⟨hx, hb, hml, hown, hts⟩ (c_X9_reach l G ad F (F 4 0 x3.toNatClampNeg) ((F 4 0 x3.toNatClampNeg) - 6) x2 _) (cwV 3 hts gX9_measureFrom_X9_reach rfl rfl rfl (by decide +kernel) ⟨Nat.le_of_ble_eq_true rfl, Nat.le_of_ble_eq_true rfl⟩) ⟨fun a U g mk h => ⟨h.1, gD_blind h.2.1, h.2.2⟩, g_recv (C := RX9) (T := TX9) (N := 3) hK hH 1 0 (by decide) Nat.zero_lt_one rfl rfl, fun U hU hW => ⟨rfl, gD_at hK hG hB hH hS hU hW, q⟩⟩ rfl rfl hl.1 rfl (lv_room (Nat.le_of_ble_eq_true rfl)) dX9_measureFrom_65 ⟨Nat.le_of_ble_eq_true rfl, Nat.le_of_ble_eq_true rfl⟩) hS (fun _ _ h => h) (fun _ h => h) (fun r12 F13 t H locs ht hvm q hB1 hz hk hS => ?_)
          have hH : gH G ad F13 H := gH_to ht hB1
          refine lv_istore_n (lv' := [(2, .int r12), (4, .int (F 4 0 x3.toNatClampNeg)), (0, .ref (ad 1 0)), (3, .int x3)]) hx hb dX9_measureFrom_68 rfl hl (by decide) rfl (fun ls hl => ?_)
          refine lv_aload_n hx hb dX9_measureFrom_69 rfl (lv_at hl 2 rfl) ?_
          refine lv_iload hx hb dX9_measureFrom_70 (lv_at hl 1 rfl) ?_
          refine lv_iload hx hb dX9_measureFrom_72 (lv_at hl 1 rfl) ?_
          refine lv_iconst (v := 1) hx hb dX9_measureFrom_74 (by decide) ?_
          refine lv_isub hx hb dX9_measureFrom_75 ?_
          refine lv_iload_n hx hb dX9_measureFrom_76 rfl (lv_at hl 0 rfl) ?_
          refine va_calli (va_runV (As := [.int (F 4 0 x3.toNatClampNeg), .int ((F 4 0 x3.toNatClampNeg) - 1), .int r12]) (rest := []) ⟨hx, hb, hml, hown, hts⟩ (c_X9_reach l G ad F13 (F 4 0 x3.toNatClampNeg) ((F 4 0 x3.toNatClampNeg) - 1) r12 _) (cwV 3 hts gX9_measureFrom_X9_reach rfl rfl rfl (by decide +kernel) ⟨Nat.le_of_ble_eq_true rfl, Nat.le_of_ble_eq_true rfl⟩) ⟨fun a U g mk h => ⟨h.1, gD_blind h.2.1, h.2.2⟩, g_recv (C := RX9) (T := TX9) (N := 3) hK hH 1 0 (by decide) Nat.zero_lt_one rfl rfl, fun U hU hW => ⟨rfl, gD_at hK hG hB hH hS hU hW, q⟩⟩ rfl rfl hl.1 rfl (lv_room (Nat.le_of_ble_eq_true rfl)) dX9_measureFrom_77 ⟨Nat.le_of_ble_eq_true rfl, Nat.le_of_ble_eq_true rfl⟩) hS (fun _ _ h => h) (fun _ h => h) (fun r14 F15 t H locs ht hvm q hB1 hz hk hS => ?_)
          have hH : gH G ad F15 H := gH_to ht hB1
          refine lv_istore_n (lv' := [(2, .int r14), (4, .int (F 4 0 x3.toNatClampNeg)), (0, .ref (ad 1 0)), (3, .int x3)]) hx hb dX9_measureFrom_80 rfl hl (by decide) rfl (fun ls hl => ?_)
          refine lv_aload_n hx hb dX9_measureFrom_81 rfl (lv_at hl 2 rfl) ?_
          refine lv_iload hx hb dX9_measureFrom_82 (lv_at hl 1 rfl) ?_
          refine lv_iload hx hb dX9_measureFrom_84 (lv_at hl 1 rfl) ?_
          refine lv_iconst (v := 1) hx hb dX9_measureFrom_86 (by decide) ?_
          refine lv_iadd hx hb dX9_measureFrom_87 ?_
          refine lv_iload_n hx hb dX9_measureFrom_88 rfl (lv_at hl 0 rfl) ?_
          refine va_calli (va_runV (As := [.int (F 4 0 x3.toNatClampNeg), .int ((F 4 0 x3.toNatClampNeg) + 1), .int r14]) (rest := []) ⟨hx, hb, hml, hown, hts⟩ (c_X9_reach l G ad F15 (F 4 0 x3.toNatClampNeg) ((F 4 0 x3.toNatClampNeg) + 1) r14 _) (cwV 3 hts gX9_measureFrom_X9_reach rfl rfl rfl (by decide +kernel) ⟨Nat.le_of_ble_eq_true rfl, Nat.le_of_ble_eq_true rfl⟩) ⟨fun a U g mk h => ⟨h.1, gD_blind h.2.1, h.2.2⟩, g_recv (C := RX9) (T := TX9) (N := 3) hK hH 1 0 (by decide) Nat.zero_lt_one rfl rfl, fun U hU hW => ⟨rfl, gD_at hK hG hB hH hS hU hW, q⟩⟩ rfl rfl hl.1 rfl (lv_room (Nat.le_of_ble_eq_true rfl)) dX9_measureFrom_89 ⟨Nat.le_of_ble_eq_true rfl, Nat.le_of_ble_eq_true rfl⟩) hS (fun _ _ h => h) (fun _ h => h) (fun r16 F17 t H locs ht hvm q hB1 hz hk hS => ?_)
          have hH : gH G ad F17 H := gH_to ht hB1
          refine lv_istore_n (lv' := [(2, .int r16), (4, .int (F 4 0 x3.toNatClampNeg)), (0, .ref (ad 1 0)), (3, .int x3)]) hx hb dX9_measureFrom_92 rfl hl (by decide) rfl (fun ls hl => ?_)
          refine lv_aload_n hx hb dX9_measureFrom_93 rfl (lv_at hl 2 rfl) ?_
          refine lv_iload hx hb dX9_measureFrom_94 (lv_at hl 1 rfl) ?_
          refine lv_iload hx hb dX9_measureFrom_96 (lv_at hl 1 rfl) ?_
          refine lv_bipush (v := 6) hx hb dX9_measureFrom_98 (by decide) ?_
          refine lv_iadd hx hb dX9_measureFrom_100 ?_
          refine lv_iload_n hx hb dX9_measureFrom_101 rfl (lv_at hl 0 rfl) ?_
          refine va_calli (va_runV (As := [.int (F 4 0 x3.toNatClampNeg), .int ((F 4 0 x3.toNatClampNeg) + 6), .int r16]) (rest := []) ⟨hx, hb, hml, hown, hts⟩ (c_X9_reach l G ad F17 (F 4 0 x3.toNatClampNeg) ((F 4 0 x3.toNatClampNeg) + 6) r16 _) (cwV 3 hts gX9_measureFrom_X9_reach rfl rfl rfl (by decide +kernel) ⟨Nat.le_of_ble_eq_true rfl, Nat.le_of_ble_eq_true rfl⟩) ⟨fun a U g mk h => ⟨h.1, gD_blind h.2.1, h.2.2⟩, g_recv (C := RX9) (T := TX9) (N := 3) hK hH 1 0 (by decide) Nat.zero_lt_one rfl rfl, fun U hU hW => ⟨rfl, gD_at hK hG hB hH hS hU hW, q⟩⟩ rfl rfl hl.1 rfl (lv_room (Nat.le_of_ble_eq_true rfl)) dX9_measureFrom_102 ⟨Nat.le_of_ble_eq_true rfl, Nat.le_of_ble_eq_true rfl⟩) hS (fun _ _ h => h) (fun _ h => h) (fun r18 F19 t H locs ht hvm q hB1 hz hk hS => ?_)
          have hH : gH G ad F19 H := gH_to ht hB1
          refine lv_istore_n (lv' := [(2, .int r18), (4, .int (F 4 0 x3.toNatClampNeg)), (0, .ref (ad 1 0)), (3, .int x3)]) hx hb dX9_measureFrom_105 rfl hl (by decide) rfl (fun ls hl => ?_)
          refine lv_iinc (v := x3 + 1) (lv' := [(3, .int (x3 + 1)), (2, .int r18), (4, .int (F 4 0 x3.toNatClampNeg)), (0, .ref (ad 1 0))]) hx hb dX9_measureFrom_106 hl (k := 3) rfl rfl (by decide) rfl (fun ls hl => ?_)
          refine lv_goto (tgt := 37) hx hb dX9_measureFrom_109 (by decide) ?_
          exact ih F19 r18 (x3 + 1) _ _ _ hH hS (lv_sub hl [3, 1, 0] rfl) q
  unfold P_X9_measureFrom at q
  refine lv_aload_n hx hb dX9_measureFrom_0 rfl (lv_at hl 0 rfl) ?_
  refine g_get (ci := 13) (v := .ref (ad 3 0)) (C := RX9) (T := TX9) (N := 3) hx hb hts (fun _ h => (List.mem_cons_of_mem _ (List.mem_append_left _ (List.mem_append_right _ h)))) hown hK hH 1 0 (by decide) Nat.zero_lt_one rfl rfl 1 (by decide) (hts (.fieldLink RX9 15 "BallotFoundry$Town" "measured" "[I") (List.mem_of_getElem? (i := 1) rfl)) (fun _ h => h) rfl dX9_measureFrom_1 ?_
  refine lv_iconst (v := (-1)) hx hb dX9_measureFrom_4 (by decide) ?_
  refine va_callv (va_runS (As := [.ref (ad 3 0), .int (-1)]) (rest := []) ⟨hx, hb, hml, hown, hts⟩ (c_J7_fill_53178 l G ad F 3 0 36 (-1) (by decide) Nat.zero_lt_one (by decide) (by decide) (fun _ => rfl)) (va_cwS 2 hts gX9_measureFrom_J7_fill_53178 rfl rfl rfl (by decide +kernel) ⟨Nat.le_of_ble_eq_true rfl, Nat.le_of_ble_eq_true rfl⟩) ⟨fun a U g mk h => ⟨h.1, gD_blind h.2.1, h.2.2⟩, fun U hU hW => ⟨rfl, gD_at hK hG hB hH hS hU hW, trivial⟩⟩ rfl rfl hl.1 rfl (lv_room (Nat.le_of_ble_eq_true rfl)) dX9_measureFrom_5 ⟨Nat.le_of_ble_eq_true rfl, Nat.le_of_ble_eq_true rfl⟩) hS (fun _ _ h => h) (fun _ h => h) (fun F2 t H locs ht hvm q9 hB1 hz hk hS => ?_)
  have q := q F2 q9
  have hH : gH G ad F2 H := gH_to ht hB1
  refine lv_iload_n hx hb dX9_measureFrom_8 rfl (lv_at hl 1 rfl) ?_
  refine lv_if_lt (tgt := 18) hx hb dX9_measureFrom_9 (by decide) (fun c3 => ?_) (fun c3 => ?_)
  · have q := (if_pos c3).mp q
    exact (W.vret hx hb hr (fun t ht hW => ⟨⟨F2, rfl, q, gH_at ht hH⟩, hS.F ht⟩) hS.2.2 dX9_measureFrom_18)
  · have q := (if_neg c3).mp q
    refine lv_iload_n hx hb dX9_measureFrom_12 rfl (lv_at hl 1 rfl) ?_
    refine lv_bipush (v := 36) hx hb dX9_measureFrom_13 (by decide) ?_
    refine lv_icmp_lt (tgt := 19) hx hb dX9_measureFrom_15 (by decide) (fun c4 => ?_) (fun c4 => ?_)
    · have q := (if_pos c4).mp q
      refine lv_aload_n hx hb dX9_measureFrom_19 rfl (lv_at hl 0 rfl) ?_
      refine g_get (ci := 13) (v := .ref (ad 3 0)) (C := RX9) (T := TX9) (N := 3) hx hb hts (fun _ h => (List.mem_cons_of_mem _ (List.mem_append_left _ (List.mem_append_right _ h)))) hown hK hH 1 0 (by decide) Nat.zero_lt_one rfl rfl 1 (by decide) (hts (.fieldLink RX9 15 "BallotFoundry$Town" "measured" "[I") (List.mem_of_getElem? (i := 1) rfl)) (fun _ h => h) rfl dX9_measureFrom_20 ?_
      refine lv_iload_n hx hb dX9_measureFrom_23 rfl (lv_at hl 1 rfl) ?_
      refine lv_iconst (v := 0) hx hb dX9_measureFrom_24 (by decide) ?_
      obtain ⟨h5, q⟩ := q
      refine g_iast hx hb hK hH hS 3 0 (by decide) Nat.zero_lt_one (by decide) 36 (fun _ => rfl) h5 dX9_measureFrom_25 (fun H locs hH hS => ?_)
      obtain ⟨F6, eF6⟩ : ∃ z, z = fs F2 3 0 p1.toNatClampNeg 0 := ⟨_, rfl⟩
      have q := q F6 eF6
      rw [← eF6] at hH
      refine lv_aload_n hx hb dX9_measureFrom_26 rfl (lv_at hl 0 rfl) ?_
      refine g_get (ci := 13) (v := .ref (ad 4 0)) (C := RX9) (T := TX9) (N := 3) hx hb hts (fun _ h => (List.mem_cons_of_mem _ (List.mem_append_left _ (List.mem_append_right _ h)))) hown hK hH 1 0 (by decide) Nat.zero_lt_one rfl rfl 2 (by decide) (hts (.fieldLink RX9 19 "BallotFoundry$Town" "reached" "[I") (List.mem_of_getElem? (i := 2) rfl)) (fun _ h => h) rfl dX9_measureFrom_27 ?_
      refine lv_iconst (v := 0) hx hb dX9_measureFrom_30 (by decide) ?_
      refine lv_iload_n hx hb dX9_measureFrom_31 rfl (lv_at hl 1 rfl) ?_
      obtain ⟨h7, q⟩ := q
      refine g_iast hx hb hK hH hS 4 0 (by decide) Nat.zero_lt_one (by decide) 36 (fun _ => rfl) h7 dX9_measureFrom_32 (fun H locs hH hS => ?_)
      obtain ⟨F8, eF8⟩ : ∃ z, z = fs F6 4 0 (0 : Int32).toNatClampNeg p1 := ⟨_, rfl⟩
      have q := q F8 eF8
      rw [← eF8] at hH
      refine lv_iconst (v := 1) hx hb dX9_measureFrom_33 (by decide) ?_
      refine lv_istore_n (lv' := [(2, .int 1), (0, .ref (ad 1 0)), (1, .int p1)]) hx hb dX9_measureFrom_34 rfl hl (by decide) rfl (fun ls hl => ?_)
      refine lv_iconst (v := 0) hx hb dX9_measureFrom_35 (by decide) ?_
      refine lv_istore_n (lv' := [(3, .int 0), (2, .int 1), (0, .ref (ad 1 0)), (1, .int p1)]) hx hb dX9_measureFrom_36 rfl hl (by decide) rfl (fun ls hl => ?_)
      obtain ⟨nn, q⟩ := q
      exact t_37 nn F8 1 0 _ _ _ hH hS (lv_sub hl [2, 1, 0] rfl) q
    · have q := (if_neg c4).mp q
      exact (W.vret hx hb hr (fun t ht hW => ⟨⟨F2, rfl, q, gH_at ht hH⟩, hS.F ht⟩) hS.2.2 dX9_measureFrom_18)
abbrev rm_X9_measuredTo : Room := { frames := 0, cells := 0, slots := 0, locals := 0 }
abbrev q_X9_measuredTo (G : GP) (ad : Nat → Nat → Nat) (K : Int32 → GF → Prop) (below : List Frame) (args : Array Value) (s : State) : State → Prop := MQ below (gQi G ad K) args s 0 0 (gA G)
set_option maxHeartbeats 4000000 in
set_option maxRecDepth 100000 in
theorem c_X9_measuredTo (l : Launch) (G : GP) (ad : Nat → Nat → Nat) (F : GF) (p1 : Int32) (K : Int32 → GF → Prop) : Met l yX9_measuredTo wsX9_measuredTo rm_X9_measuredTo (va_Pc [.ref (ad 1 0), .int p1] (fun U => gD G ad F U ∧ P_X9_measuredTo F p1 K)) (gQi G ad K) 0 0 (gA G) := by
  refine Met.ofW (cc := cX9_measuredTo) (maxL := 2) (ret := (some .int)) (by decide) rfl ?_
  intro p e s m args below meth c s₁ Bd hml hv
  obtain ⟨rfl, ⟨hK, hG, hB, hH⟩, q⟩ := hv
  have hx := Bd.exec
  have hb := Bd.bytes
  have hr := Bd.returns
  have hts := atoms_spec (ws := wsX9_measuredTo) Bd.pre
  have hown : s.vm.findClass RX9 = some m.cls := findClass_of_methodNamed Bd.named
  have hlocks := Bd.notSynchronized
  have hS : va_S (gA G) s.heap s.heap [] := va_S.rf
  have hl := lv_entry [.ref (ad 1 0), .int p1] (n := 2) (Nat.le_of_ble_eq_true rfl)
  rw [lg_entry_eq]
  generalize (lg_sl [.ref (ad 1 0), .int p1] ++ List.replicate (2 - (lg_sl [.ref (ad 1 0), .int p1]).length) Slot.unset).toArray = ls at hl ⊢
  have hl : lv_has ls 2 [(0, .ref (ad 1 0)), (1, .int p1)] := hl
  unfold P_X9_measuredTo at q
  refine lv_iload_n hx hb dX9_measuredTo_0 rfl (lv_at hl 1 rfl) ?_
  refine lv_if_lt (tgt := 10) hx hb dX9_measuredTo_1 (by decide) (fun c1 => ?_) (fun c1 => ?_)
  · have q := (if_pos c1).mp q
    refine lv_iconst (v := (-1)) hx hb dX9_measuredTo_10 (by decide) ?_
    exact (W.iret (v := (-1)) hx hb hr (fun t ht hW => ⟨⟨(-1), F, rfl, q, gH_at ht hH⟩, hS.F ht⟩) hS.2.2 dX9_measuredTo_11)
  · have q := (if_neg c1).mp q
    refine lv_iload_n hx hb dX9_measuredTo_4 rfl (lv_at hl 1 rfl) ?_
    refine lv_bipush (v := 36) hx hb dX9_measuredTo_5 (by decide) ?_
    refine lv_icmp_lt (tgt := 12) hx hb dX9_measuredTo_7 (by decide) (fun c2 => ?_) (fun c2 => ?_)
    · have q := (if_pos c2).mp q
      refine lv_aload_n hx hb dX9_measuredTo_12 rfl (lv_at hl 0 rfl) ?_
      refine g_get (ci := 13) (v := .ref (ad 3 0)) (C := RX9) (T := TX9) (N := 3) hx hb hts (fun _ h => (List.mem_cons_of_mem _ (List.mem_append_left _ (List.mem_append_right _ h)))) hown hK hH 1 0 (by decide) Nat.zero_lt_one rfl rfl 1 (by decide) (hts (.fieldLink RX9 15 "BallotFoundry$Town" "measured" "[I") (List.mem_of_getElem? (i := 1) rfl)) (fun _ h => h) rfl dX9_measuredTo_13 ?_
      refine lv_iload_n hx hb dX9_measuredTo_16 rfl (lv_at hl 1 rfl) ?_
      obtain ⟨h3, q⟩ := q
      refine g_iald hx hb hK hH 3 0 (by decide) Nat.zero_lt_one 36 rfl h3 dX9_measuredTo_17 ?_
      exact (W.iret (v := (F 3 0 p1.toNatClampNeg)) hx hb hr (fun t ht hW => ⟨⟨(F 3 0 p1.toNatClampNeg), F, rfl, q, gH_at ht hH⟩, hS.F ht⟩) hS.2.2 dX9_measuredTo_18)
    · have q := (if_neg c2).mp q
      refine lv_iconst (v := (-1)) hx hb dX9_measuredTo_10 (by decide) ?_
      exact (W.iret (v := (-1)) hx hb hr (fun t ht hW => ⟨⟨(-1), F, rfl, q, gH_at ht hH⟩, hS.F ht⟩) hS.2.2 dX9_measuredTo_11)
abbrev rm_X10_way : Room := { frames := 7, cells := 2, slots := 12, locals := 110 }
abbrev q_X10_way (G : GP) (ad : Nat → Nat → Nat) (K : Int32 → GF → Prop) (X : String → GF → Prop) (below : List Frame) (args : Array Value) (s : State) : State → Prop := vx_MQ below (gQi G ad K) (gX G ad X) args s 2 12 (gA G)
set_option maxHeartbeats 4000000 in
set_option maxRecDepth 100000 in
theorem c_X10_way (l : Launch) (hfl : l.stackTraces = false) (G : GP) (ad : Nat → Nat → Nat) (F : GF) (p1 : Int32) (p2 : Int32) (K : Int32 → GF → Prop) (X : String → GF → Prop) : vx_Met l yX10_way wsX10_way rm_X10_way (va_Pc [.ref (ad 0 0), .int p1, .int p2] (fun U => gD G ad F U ∧ P_X10_way F p1 p2 K X)) (gQi G ad K) (gX G ad X) 2 12 (gA G) := by
  refine vx_ofW (cc := cX10_way) (maxL := 3) (ret := (some .int)) (by decide) rfl ?_
  intro p e s m args below meth c s₁ Bd hml hno hv
  obtain ⟨rfl, ⟨hK, hG, hB, hH⟩, q⟩ := hv
  have hx := Bd.exec
  have hb := Bd.bytes
  have hr := Bd.returns
  have hts := atoms_spec (ws := wsX10_way) Bd.pre
  have hown : s.vm.findClass RX10 = some m.cls := findClass_of_methodNamed Bd.named
  have hlocks := Bd.notSynchronized
  have hS : va_S (gA G) s.heap s.heap [] := va_S.rf
  have hl := lv_entry [.ref (ad 0 0), .int p1, .int p2] (n := 3) (Nat.le_of_ble_eq_true rfl)
  rw [lg_entry_eq]
  generalize (lg_sl [.ref (ad 0 0), .int p1, .int p2] ++ List.replicate (3 - (lg_sl [.ref (ad 0 0), .int p1, .int p2]).length) Slot.unset).toArray = ls at hl ⊢
  have hl : lv_has ls 3 [(0, .ref (ad 0 0)), (1, .int p1), (2, .int p2)] := hl
  unfold P_X10_way at q
  refine lv_iload_n hx hb dX10_way_0 rfl (lv_at hl 1 rfl) ?_
  refine vx_callv (vx_runS (As := [.int p1]) (rest := []) ⟨hx, hb, hml, hown, hts⟩ (c_X10_needCrossing l hfl G ad F p1 _ _) (va_cwS 1 hts gX10_way_X10_needCrossing rfl rfl rfl (by decide +kernel) ⟨Nat.le_of_ble_eq_true rfl, Nat.le_of_ble_eq_true rfl⟩) ⟨fun a U g mk h => ⟨h.1, gD_blind h.2.1, h.2.2⟩, fun U hU hW => ⟨rfl, gD_at hK hG hB hH hS hU hW, q⟩⟩ rfl rfl hl.1 rfl (lv_room (Nat.le_of_ble_eq_true rfl)) dX10_way_1 ⟨Nat.le_of_ble_eq_true rfl, Nat.le_of_ble_eq_true rfl⟩) hS (fun _ _ h => h) (fun _ h => h) (fun _ _ h => h) (fun E ce q9 u t H locs ht hvm _ hq hz hk hS hc9 hv9 hcl9 => vx_widen (Nat.le_of_ble_eq_true rfl) (Nat.le_of_ble_eq_true rfl) (vx_out (fun x hx => (hno x hx).elim) hlocks hc9 hv9 hcl9 (fun t1 ht1 hvm1 => ⟨u, trivial, ⟨hq.1, gH_at ht1 (gH_to ht hq.2)⟩, hS.F ht1⟩) hS.2.2 (Nat.le_refl _) (Nat.le_refl _))) (fun F2 t H locs ht hvm q hB1 hz hk hS => ?_)
  have hH : gH G ad F2 H := gH_to ht hB1
  refine lv_iload_n hx hb dX10_way_4 rfl (lv_at hl 2 rfl) ?_
  refine vx_callv (vx_runS (As := [.int p2]) (rest := []) ⟨hx, hb, hml, hown, hts⟩ (c_X10_needCrossing l hfl G ad F2 p2 _ _) (va_cwS 1 hts gX10_way_X10_needCrossing rfl rfl rfl (by decide +kernel) ⟨Nat.le_of_ble_eq_true rfl, Nat.le_of_ble_eq_true rfl⟩) ⟨fun a U g mk h => ⟨h.1, gD_blind h.2.1, h.2.2⟩, fun U hU hW => ⟨rfl, gD_at hK hG hB hH hS hU hW, q⟩⟩ rfl rfl hl.1 rfl (lv_room (Nat.le_of_ble_eq_true rfl)) dX10_way_5 ⟨Nat.le_of_ble_eq_true rfl, Nat.le_of_ble_eq_true rfl⟩) hS (fun _ _ h => h) (fun _ h => h) (fun _ _ h => h) (fun E ce q9 u t H locs ht hvm _ hq hz hk hS hc9 hv9 hcl9 => vx_widen (Nat.le_of_ble_eq_true rfl) (Nat.le_of_ble_eq_true rfl) (vx_out (fun x hx => (hno x hx).elim) hlocks hc9 hv9 hcl9 (fun t1 ht1 hvm1 => ⟨u, trivial, ⟨hq.1, gH_at ht1 (gH_to ht hq.2)⟩, hS.F ht1⟩) hS.2.2 (Nat.le_refl _) (Nat.le_refl _))) (fun F4 t H locs ht hvm q hB1 hz hk hS => ?_)
  have hH : gH G ad F4 H := gH_to ht hB1
  refine lv_aload_n hx hb dX10_way_8 rfl (lv_at hl 0 rfl) ?_
  refine g_get (ci := 14) (v := .ref (ad 1 0)) (C := RX10) (T := TX10) (N := 8) hx hb hts (fun _ h => (List.mem_cons_of_mem _ (List.mem_append_left _ (List.mem_append_left _ (List.mem_append_left _ (List.mem_append_right _ h)))))) hown hK hH 0 0 (by decide) Nat.zero_lt_one rfl rfl 0 (by decide) (hts (.fieldLink RX10 12 "BallotFoundry" "town" "LBallotFoundry$Town;") (List.mem_of_getElem? (i := 1) rfl)) (fun _ h => h) rfl dX10_way_9 ?_
  refine lv_iload_n hx hb dX10_way_12 rfl (lv_at hl 1 rfl) ?_
  refine va_callv (va_runV (As := [.int p1]) (rest := []) ⟨hx, hb, hml, hown, hts⟩ (c_X9_measureFrom l G ad F4 p1 _) (cwV 1 hts gX10_way_X9_measureFrom rfl rfl rfl (by decide +kernel) ⟨Nat.le_of_ble_eq_true rfl, Nat.le_of_ble_eq_true rfl⟩) ⟨fun a U g mk h => ⟨h.1, gD_blind h.2.1, h.2.2⟩, g_recv (C := RX9) (T := TX9) (N := 3) hK hH 1 0 (by decide) Nat.zero_lt_one rfl rfl, fun U hU hW => ⟨rfl, gD_at hK hG hB hH hS hU hW, q⟩⟩ rfl rfl hl.1 rfl (lv_room (Nat.le_of_ble_eq_true rfl)) dX10_way_13 ⟨Nat.le_of_ble_eq_true rfl, Nat.le_of_ble_eq_true rfl⟩) hS (fun _ _ h => h) (fun _ h => h) (fun F6 t H locs ht hvm q hB1 hz hk hS => ?_)
  have hH : gH G ad F6 H := gH_to ht hB1
  refine lv_aload_n hx hb dX10_way_16 rfl (lv_at hl 0 rfl) ?_
  refine g_get (ci := 14) (v := .ref (ad 1 0)) (C := RX10) (T := TX10) (N := 8) hx hb hts (fun _ h => (List.mem_cons_of_mem _ (List.mem_append_left _ (List.mem_append_left _ (List.mem_append_left _ (List.mem_append_right _ h)))))) hown hK hH 0 0 (by decide) Nat.zero_lt_one rfl rfl 0 (by decide) (hts (.fieldLink RX10 12 "BallotFoundry" "town" "LBallotFoundry$Town;") (List.mem_of_getElem? (i := 1) rfl)) (fun _ h => h) rfl dX10_way_17 ?_
  refine lv_iload_n hx hb dX10_way_20 rfl (lv_at hl 2 rfl) ?_
  refine va_calli (va_runV (As := [.int p2]) (rest := []) ⟨hx, hb, hml, hown, hts⟩ (c_X9_measuredTo l G ad F6 p2 _) (cwV 1 hts gX10_way_X9_measuredTo rfl rfl rfl (by decide +kernel) ⟨Nat.le_of_ble_eq_true rfl, Nat.le_of_ble_eq_true rfl⟩) ⟨fun a U g mk h => ⟨h.1, gD_blind h.2.1, h.2.2⟩, g_recv (C := RX9) (T := TX9) (N := 3) hK hH 1 0 (by decide) Nat.zero_lt_one rfl rfl, fun U hU hW => ⟨rfl, gD_at hK hG hB hH hS hU hW, q⟩⟩ rfl rfl hl.1 rfl (lv_room (Nat.le_of_ble_eq_true rfl)) dX10_way_21 ⟨Nat.le_of_ble_eq_true rfl, Nat.le_of_ble_eq_true rfl⟩) hS (fun _ _ h => h) (fun _ h => h) (fun r7 F8 t H locs ht hvm q hB1 hz hk hS => ?_)
  have hH : gH G ad F8 H := gH_to ht hB1
  exact vx_ret (W.iret (v := r7) hx hb hr (fun t ht hW => ⟨⟨r7, F8, rfl, q, gH_at ht hH⟩, hS.F ht⟩) hS.2.2 dX10_way_24)
abbrev rm_X10_needRange : Room := { frames := 6, cells := 1, slots := 6, locals := 90 }
abbrev q_X10_needRange (G : GP) (ad : Nat → Nat → Nat) (K : GF → Prop) (X : String → GF → Prop) (below : List Frame) (args : Array Value) (s : State) : State → Prop := vx_MQ below (gQv G ad K) (gX G ad X) args s 1 6 (gA G)
set_option maxHeartbeats 4000000 in
set_option maxRecDepth 100000 in
theorem c_X10_needRange (l : Launch) (hfl : l.stackTraces = false) (G : GP) (ad : Nat → Nat → Nat) (F : GF) (p0 : Int32) (p1 : Int32) (p2 : Int32) (K : GF → Prop) (X : String → GF → Prop) : vx_Met l yX10_needRange wsX10_needRange rm_X10_needRange (va_Pc [.int p0, .int p1, .int p2] (fun U => gD G ad F U ∧ P_X10_needRange F p0 p1 p2 K X)) (gQv G ad K) (gX G ad X) 1 6 (gA G) := by
  refine vx_ofW (cc := cX10_needRange) (maxL := 3) (ret := none) (by decide) rfl ?_
  intro p e s m args below meth c s₁ Bd hml hno hv
  obtain ⟨rfl, ⟨hK, hG, hB, hH⟩, q⟩ := hv
  have hx := Bd.exec
  have hb := Bd.bytes
  have hr := Bd.returns
  have hts := atoms_spec (ws := wsX10_needRange) Bd.pre
  have hown : s.vm.findClass RX10 = some m.cls := findClass_of_methodNamed Bd.named
  have hlocks := Bd.notSynchronized
  have hS : va_S (gA G) s.heap s.heap [] := va_S.rf
  have hl := lv_entry [.int p0, .int p1, .int p2] (n := 3) (Nat.le_of_ble_eq_true rfl)
  rw [lg_entry_eq]
  generalize (lg_sl [.int p0, .int p1, .int p2] ++ List.replicate (3 - (lg_sl [.int p0, .int p1, .int p2]).length) Slot.unset).toArray = ls at hl ⊢
  have hl : lv_has ls 3 [(0, .int p0), (1, .int p1), (2, .int p2)] := hl
  unfold P_X10_needRange at q
  refine lv_iload_n hx hb dX10_needRange_0 rfl (lv_at hl 0 rfl) ?_
  refine lv_iload_n hx hb dX10_needRange_1 rfl (lv_at hl 1 rfl) ?_
  refine lv_icmp_lt (tgt := 10) hx hb dX10_needRange_2 (by decide) (fun c1 => ?_) (fun c1 => ?_)
  · have q := (if_pos c1).mp q
    exact g_throwW (text := "out of range") hx hb hfl hno hown hts hG hS (List.mem_of_getElem? (i := 1) rfl) (List.mem_of_getElem? (i := 2) rfl) (List.mem_of_getElem? (i := 1) rfl) (List.mem_of_getElem? (i := 2) rfl) (fun _ h => (List.mem_cons_of_mem _ (List.mem_append_right _ h))) (hl.1.trans hml.symm) hlocks dX10_needRange_10 dX10_needRange_13 dX10_needRange_14 dX10_needRange_17 dX10_needRange_20 (Nat.le_of_ble_eq_true rfl) (Nat.le_of_ble_eq_true rfl) (Nat.le_of_ble_eq_true rfl) (Nat.le_of_ble_eq_true rfl) (fun t hvm hz hk => ⟨F, trivial, ⟨q, gH_grow hH hz hk⟩, gF_grow hS hz hk⟩) hS.2.2 (Nat.le_of_ble_eq_true rfl) (Nat.le_of_ble_eq_true rfl)
  · have q := (if_neg c1).mp q
    refine lv_iload_n hx hb dX10_needRange_5 rfl (lv_at hl 0 rfl) ?_
    refine lv_iload_n hx hb dX10_needRange_6 rfl (lv_at hl 2 rfl) ?_
    refine lv_icmp_le (tgt := 21) hx hb dX10_needRange_7 (by decide) (fun c2 => ?_) (fun c2 => ?_)
    · have q := (if_pos c2).mp q
      refine W.widen (k := 1) (n := 6) (Nat.le_of_ble_eq_true rfl) (Nat.le_of_ble_eq_true rfl) ?_
      exact vx_ret (W.vret hx hb hr (fun t ht hW => ⟨⟨F, rfl, q, gH_at ht hH⟩, hS.F ht⟩) hS.2.2 dX10_needRange_21)
    · have q := (if_neg c2).mp q
      exact g_throwW (text := "out of range") hx hb hfl hno hown hts hG hS (List.mem_of_getElem? (i := 1) rfl) (List.mem_of_getElem? (i := 2) rfl) (List.mem_of_getElem? (i := 1) rfl) (List.mem_of_getElem? (i := 2) rfl) (fun _ h => (List.mem_cons_of_mem _ (List.mem_append_right _ h))) (hl.1.trans hml.symm) hlocks dX10_needRange_10 dX10_needRange_13 dX10_needRange_14 dX10_needRange_17 dX10_needRange_20 (Nat.le_of_ble_eq_true rfl) (Nat.le_of_ble_eq_true rfl) (Nat.le_of_ble_eq_true rfl) (Nat.le_of_ble_eq_true rfl) (fun t hvm hz hk => ⟨F, trivial, ⟨q, gH_grow hH hz hk⟩, gF_grow hS hz hk⟩) hS.2.2 (Nat.le_of_ble_eq_true rfl) (Nat.le_of_ble_eq_true rfl)
abbrev rm_X7_add : Room := { frames := 0, cells := 0, slots := 0, locals := 0 }
abbrev q_X7_add (G : GP) (ad : Nat → Nat → Nat) (K : Int32 → GF → Prop) (below : List Frame) (args : Array Value) (s : State) : State → Prop := MQ below (gQi G ad K) args s 0 0 (gA G)
set_option maxHeartbeats 4000000 in
set_option maxRecDepth 100000 in
theorem c_X7_add (l : Launch) (G : GP) (ad : Nat → Nat → Nat) (F : GF) (p1 : Int32) (p2 : Int32) (K : Int32 → GF → Prop) : Met l yX7_add wsX7_add rm_X7_add (va_Pc [.ref (ad 6 0), .int p1, .int p2] (fun U => gD G ad F U ∧ P_X7_add F p1 p2 K)) (gQi G ad K) 0 0 (gA G) := by
  refine Met.ofW (cc := cX7_add) (maxL := 3) (ret := (some .int)) (by decide) rfl ?_
  intro p e s m args below meth c s₁ Bd hml hv
  obtain ⟨rfl, ⟨hK, hG, hB, hH⟩, q⟩ := hv
  have hx := Bd.exec
  have hb := Bd.bytes
  have hr := Bd.returns
  have hts := atoms_spec (ws := wsX7_add) Bd.pre
  have hown : s.vm.findClass RX7 = some m.cls := findClass_of_methodNamed Bd.named
  have hlocks := Bd.notSynchronized
  have hS : va_S (gA G) s.heap s.heap [] := va_S.rf
  have hl := lv_entry [.ref (ad 6 0), .int p1, .int p2] (n := 3) (Nat.le_of_ble_eq_true rfl)
  rw [lg_entry_eq]
  generalize (lg_sl [.ref (ad 6 0), .int p1, .int p2] ++ List.replicate (3 - (lg_sl [.ref (ad 6 0), .int p1, .int p2]).length) Slot.unset).toArray = ls at hl ⊢
  have hl : lv_has ls 3 [(0, .ref (ad 6 0)), (1, .int p1), (2, .int p2)] := hl
  unfold P_X7_add at q
  refine lv_aload_n hx hb dX7_add_0 rfl (lv_at hl 0 rfl) ?_
  refine g_get (ci := 11) (v := .int (F 6 0 2)) (C := RX7) (T := TX7) (N := 3) hx hb hts (fun _ h => (List.mem_cons_of_mem _ (List.mem_append_left _ (List.mem_append_right _ h)))) hown hK hH 6 0 (by decide) Nat.zero_lt_one rfl rfl 2 (by decide) (hts (.fieldLink RX7 18 "BallotFoundry$Stations" "size" "I") (List.mem_of_getElem? (i := 1) rfl)) (fun _ h => h) rfl dX7_add_1 ?_
  refine lv_iconst (v := 5) hx hb dX7_add_4 (by decide) ?_
  refine lv_icmp_lt (tgt := 10) hx hb dX7_add_5 (by decide) (fun c1 => ?_) (fun c1 => ?_)
  · have q := (if_pos c1).mp q
    refine lv_aload_n hx hb dX7_add_10 rfl (lv_at hl 0 rfl) ?_
    refine g_get (ci := 11) (v := .ref (ad 7 0)) (C := RX7) (T := TX7) (N := 3) hx hb hts (fun _ h => (List.mem_cons_of_mem _ (List.mem_append_left _ (List.mem_append_right _ h)))) hown hK hH 6 0 (by decide) Nat.zero_lt_one rfl rfl 0 (by decide) (hts (.fieldLink RX7 9 "BallotFoundry$Stations" "crossings" "[I") (List.mem_of_getElem? (i := 2) rfl)) (fun _ h => h) rfl dX7_add_11 ?_
    refine lv_aload_n hx hb dX7_add_14 rfl (lv_at hl 0 rfl) ?_
    refine g_get (ci := 11) (v := .int (F 6 0 2)) (C := RX7) (T := TX7) (N := 3) hx hb hts (fun _ h => (List.mem_cons_of_mem _ (List.mem_append_left _ (List.mem_append_right _ h)))) hown hK hH 6 0 (by decide) Nat.zero_lt_one rfl rfl 2 (by decide) (hts (.fieldLink RX7 18 "BallotFoundry$Stations" "size" "I") (List.mem_of_getElem? (i := 1) rfl)) (fun _ h => h) rfl dX7_add_15 ?_
    refine lv_iload_n hx hb dX7_add_18 rfl (lv_at hl 1 rfl) ?_
    obtain ⟨h2, q⟩ := q
    refine g_iast hx hb hK hH hS 7 0 (by decide) Nat.zero_lt_one (by decide) 5 (fun _ => rfl) h2 dX7_add_19 (fun H locs hH hS => ?_)
    obtain ⟨F3, eF3⟩ : ∃ z, z = fs F 7 0 (F 6 0 2).toNatClampNeg p1 := ⟨_, rfl⟩
    have q := q F3 eF3
    rw [← eF3] at hH
    refine lv_aload_n hx hb dX7_add_20 rfl (lv_at hl 0 rfl) ?_
    refine g_get (ci := 11) (v := .ref (ad 8 0)) (C := RX7) (T := TX7) (N := 3) hx hb hts (fun _ h => (List.mem_cons_of_mem _ (List.mem_append_left _ (List.mem_append_right _ h)))) hown hK hH 6 0 (by decide) Nat.zero_lt_one rfl rfl 1 (by decide) (hts (.fieldLink RX7 15 "BallotFoundry$Stations" "seats" "[I") (List.mem_of_getElem? (i := 3) rfl)) (fun _ h => h) rfl dX7_add_21 ?_
    refine lv_aload_n hx hb dX7_add_24 rfl (lv_at hl 0 rfl) ?_
    refine g_get (ci := 11) (v := .int (F3 6 0 2)) (C := RX7) (T := TX7) (N := 3) hx hb hts (fun _ h => (List.mem_cons_of_mem _ (List.mem_append_left _ (List.mem_append_right _ h)))) hown hK hH 6 0 (by decide) Nat.zero_lt_one rfl rfl 2 (by decide) (hts (.fieldLink RX7 18 "BallotFoundry$Stations" "size" "I") (List.mem_of_getElem? (i := 1) rfl)) (fun _ h => h) rfl dX7_add_25 ?_
    refine lv_iload_n hx hb dX7_add_28 rfl (lv_at hl 2 rfl) ?_
    obtain ⟨h4, q⟩ := q
    refine g_iast hx hb hK hH hS 8 0 (by decide) Nat.zero_lt_one (by decide) 5 (fun _ => rfl) h4 dX7_add_29 (fun H locs hH hS => ?_)
    obtain ⟨F5, eF5⟩ : ∃ z, z = fs F3 8 0 (F3 6 0 2).toNatClampNeg p2 := ⟨_, rfl⟩
    have q := q F5 eF5
    rw [← eF5] at hH
    refine lv_aload_n hx hb dX7_add_30 rfl (lv_at hl 0 rfl) ?_
    refine lv_dup hx hb dX7_add_31 rfl ?_
    refine g_get (ci := 11) (v := .int (F5 6 0 2)) (C := RX7) (T := TX7) (N := 3) hx hb hts (fun _ h => (List.mem_cons_of_mem _ (List.mem_append_left _ (List.mem_append_right _ h)))) hown hK hH 6 0 (by decide) Nat.zero_lt_one rfl rfl 2 (by decide) (hts (.fieldLink RX7 18 "BallotFoundry$Stations" "size" "I") (List.mem_of_getElem? (i := 1) rfl)) (fun _ h => h) rfl dX7_add_32 ?_
    refine lv_iconst (v := 1) hx hb dX7_add_35 (by decide) ?_
    refine lv_iadd hx hb dX7_add_36 ?_
    refine g_put (ci := 11) (v := .int ((F5 6 0 2) + 1)) (C := RX7) (T := TX7) (N := 3) hx hb hts (fun _ h => (List.mem_cons_of_mem _ (List.mem_append_left _ (List.mem_append_right _ h)))) tyX7 tyX7_ok nmX7 hown hK hH hS 6 0 (by decide) Nat.zero_lt_one (by decide) rfl rfl 2 (by decide) (hts (.fieldLink RX7 18 "BallotFoundry$Stations" "size" "I") (List.mem_of_getElem? (i := 1) rfl)) (fun _ h => h) rfl (ty := .int) (by decide +kernel) rfl rfl (Nat.le_of_ble_eq_true rfl) ((F5 6 0 2) + 1) rfl dX7_add_37 (fun H locs hH hS => ?_)
    obtain ⟨F6, eF6⟩ : ∃ z, z = fs F5 6 0 2 ((F5 6 0 2) + 1) := ⟨_, rfl⟩
    have q := q F6 eF6
    rw [← eF6] at hH
    refine lv_aload_n hx hb dX7_add_40 rfl (lv_at hl 0 rfl) ?_
    refine g_get (ci := 11) (v := .int (F6 6 0 2)) (C := RX7) (T := TX7) (N := 3) hx hb hts (fun _ h => (List.mem_cons_of_mem _ (List.mem_append_left _ (List.mem_append_right _ h)))) hown hK hH 6 0 (by decide) Nat.zero_lt_one rfl rfl 2 (by decide) (hts (.fieldLink RX7 18 "BallotFoundry$Stations" "size" "I") (List.mem_of_getElem? (i := 1) rfl)) (fun _ h => h) rfl dX7_add_41 ?_
    refine lv_iconst (v := 1) hx hb dX7_add_44 (by decide) ?_
    refine lv_isub hx hb dX7_add_45 ?_
    exact (W.iret (v := ((F6 6 0 2) - 1)) hx hb hr (fun t ht hW => ⟨⟨((F6 6 0 2) - 1), F6, rfl, q, gH_at ht hH⟩, hS.F ht⟩) hS.2.2 dX7_add_46)
  · have q := (if_neg c1).mp q
    refine lv_iconst (v := (-1)) hx hb dX7_add_8 (by decide) ?_
    exact (W.iret (v := (-1)) hx hb hr (fun t ht hW => ⟨⟨(-1), F, rfl, q, gH_at ht hH⟩, hS.F ht⟩) hS.2.2 dX7_add_9)
abbrev rm_X10_station : Room := { frames := 7, cells := 3, slots := 18, locals := 112 }
abbrev q_X10_station (G : GP) (ad : Nat → Nat → Nat) (K : Int32 → GF → Prop) (X : String → GF → Prop) (below : List Frame) (args : Array Value) (s : State) : State → Prop := vx_MQ below (gQi G ad K) (gX G ad X) args s 3 18 (gA G)
set_option maxHeartbeats 4000000 in
set_option maxRecDepth 100000 in
theorem c_X10_station (l : Launch) (hfl : l.stackTraces = false) (G : GP) (ad : Nat → Nat → Nat) (F : GF) (p1 : Int32) (p2 : Int32) (K : Int32 → GF → Prop) (X : String → GF → Prop) : vx_Met l yX10_station wsX10_station rm_X10_station (va_Pc [.ref (ad 0 0), .int p1, .int p2] (fun U => gD G ad F U ∧ P_X10_station F p1 p2 K X)) (gQi G ad K) (gX G ad X) 3 18 (gA G) := by
  refine vx_ofW (cc := cX10_station) (maxL := 3) (ret := (some .int)) (by decide) rfl ?_
  intro p e s m args below meth c s₁ Bd hml hno hv
  obtain ⟨rfl, ⟨hK, hG, hB, hH⟩, q⟩ := hv
  have hx := Bd.exec
  have hb := Bd.bytes
  have hr := Bd.returns
  have hts := atoms_spec (ws := wsX10_station) Bd.pre
  have hown : s.vm.findClass RX10 = some m.cls := findClass_of_methodNamed Bd.named
  have hlocks := Bd.notSynchronized
  have hS : va_S (gA G) s.heap s.heap [] := va_S.rf
  have hl := lv_entry [.ref (ad 0 0), .int p1, .int p2] (n := 3) (Nat.le_of_ble_eq_true rfl)
  rw [lg_entry_eq]
  generalize (lg_sl [.ref (ad 0 0), .int p1, .int p2] ++ List.replicate (3 - (lg_sl [.ref (ad 0 0), .int p1, .int p2]).length) Slot.unset).toArray = ls at hl ⊢
  have hl : lv_has ls 3 [(0, .ref (ad 0 0)), (1, .int p1), (2, .int p2)] := hl
  unfold P_X10_station at q
  refine lv_iload_n hx hb dX10_station_0 rfl (lv_at hl 1 rfl) ?_
  refine vx_callv (vx_runS (As := [.int p1]) (rest := []) ⟨hx, hb, hml, hown, hts⟩ (c_X10_needCrossing l hfl G ad F p1 _ _) (va_cwS 1 hts gX10_station_X10_needCrossing rfl rfl rfl (by decide +kernel) ⟨Nat.le_of_ble_eq_true rfl, Nat.le_of_ble_eq_true rfl⟩) ⟨fun a U g mk h => ⟨h.1, gD_blind h.2.1, h.2.2⟩, fun U hU hW => ⟨rfl, gD_at hK hG hB hH hS hU hW, q⟩⟩ rfl rfl hl.1 rfl (lv_room (Nat.le_of_ble_eq_true rfl)) dX10_station_1 ⟨Nat.le_of_ble_eq_true rfl, Nat.le_of_ble_eq_true rfl⟩) hS (fun _ _ h => h) (fun _ h => h) (fun _ _ h => h) (fun E ce q9 u t H locs ht hvm _ hq hz hk hS hc9 hv9 hcl9 => vx_widen (Nat.le_of_ble_eq_true rfl) (Nat.le_of_ble_eq_true rfl) (vx_out (fun x hx => (hno x hx).elim) hlocks hc9 hv9 hcl9 (fun t1 ht1 hvm1 => ⟨u, trivial, ⟨hq.1, gH_at ht1 (gH_to ht hq.2)⟩, hS.F ht1⟩) hS.2.2 (Nat.le_refl _) (Nat.le_refl _))) (fun F2 t H locs ht hvm q hB1 hz hk hS => ?_)
  have hH : gH G ad F2 H := gH_to ht hB1
  refine lv_iload_n hx hb dX10_station_4 rfl (lv_at hl 2 rfl) ?_
  refine lv_iconst (v := 0) hx hb dX10_station_5 (by decide) ?_
  refine lv_bipush (v := 20) hx hb dX10_station_6 (by decide) ?_
  refine vx_callv (vx_runS (As := [.int p2, .int 0, .int 20]) (rest := []) ⟨hx, hb, hml, hown, hts⟩ (c_X10_needRange l hfl G ad F2 p2 0 20 _ _) (va_cwS 3 hts gX10_station_X10_needRange rfl rfl rfl (by decide +kernel) ⟨Nat.le_of_ble_eq_true rfl, Nat.le_of_ble_eq_true rfl⟩) ⟨fun a U g mk h => ⟨h.1, gD_blind h.2.1, h.2.2⟩, fun U hU hW => ⟨rfl, gD_at hK hG hB hH hS hU hW, q⟩⟩ rfl rfl hl.1 rfl (lv_room (Nat.le_of_ble_eq_true rfl)) dX10_station_8 ⟨Nat.le_of_ble_eq_true rfl, Nat.le_of_ble_eq_true rfl⟩) hS (fun _ _ h => h) (fun _ h => h) (fun _ _ h => h) (fun E ce q9 u t H locs ht hvm _ hq hz hk hS hc9 hv9 hcl9 => vx_widen (Nat.le_of_ble_eq_true rfl) (Nat.le_of_ble_eq_true rfl) (vx_out (fun x hx => (hno x hx).elim) hlocks hc9 hv9 hcl9 (fun t1 ht1 hvm1 => ⟨u, trivial, ⟨hq.1, gH_at ht1 (gH_to ht hq.2)⟩, hS.F ht1⟩) hS.2.2 (Nat.le_refl _) (Nat.le_refl _))) (fun F4 t H locs ht hvm q hB1 hz hk hS => ?_)
  have hH : gH G ad F4 H := gH_to ht hB1
  refine lv_aload_n hx hb dX10_station_11 rfl (lv_at hl 0 rfl) ?_
  refine g_get (ci := 14) (v := .ref (ad 6 0)) (C := RX10) (T := TX10) (N := 8) hx hb hts (fun _ h => (List.mem_cons_of_mem _ (List.mem_append_left _ (List.mem_append_left _ (List.mem_append_left _ (List.mem_append_left _ (List.mem_append_left _ (List.mem_append_right _ h)))))))) hown hK hH 0 0 (by decide) Nat.zero_lt_one rfl rfl 3 (by decide) (hts (.fieldLink RX10 29 "BallotFoundry" "stations" "LBallotFoundry$Stations;") (List.mem_of_getElem? (i := 3) rfl)) (fun _ h => h) rfl dX10_station_12 ?_
  refine g_getN (ci := 11) (v := .int (F4 6 0 2)) (C := RX7) (T := TX7) (N := 3) hx hb hts (fun _ h => (List.mem_cons_of_mem _ (List.mem_append_left _ (List.mem_append_left _ (List.mem_append_left _ (List.mem_append_left _ (List.mem_append_right _ h))))))) hown hK hH 6 0 (by decide) Nat.zero_lt_one rfl rfl 2 (by decide) (va_Nw.use rfl (hG.1 ("BallotFoundry", 85, "BallotFoundry$Stations", "size", "I", "BallotFoundry") (List.mem_of_getElem? (i := 2) rfl))) (fun _ h => h) rfl dX10_station_15 ?_
  refine lv_iconst (v := 5) hx hb dX10_station_18 (by decide) ?_
  refine lv_icmp_lt (tgt := 32) hx hb dX10_station_19 (by decide) (fun c5 => ?_) (fun c5 => ?_)
  · have q := (if_pos c5).mp q
    refine lv_aload_n hx hb dX10_station_32 rfl (lv_at hl 0 rfl) ?_
    refine g_get (ci := 14) (v := .ref (ad 6 0)) (C := RX10) (T := TX10) (N := 8) hx hb hts (fun _ h => (List.mem_cons_of_mem _ (List.mem_append_left _ (List.mem_append_left _ (List.mem_append_left _ (List.mem_append_left _ (List.mem_append_left _ (List.mem_append_right _ h)))))))) hown hK hH 0 0 (by decide) Nat.zero_lt_one rfl rfl 3 (by decide) (hts (.fieldLink RX10 29 "BallotFoundry" "stations" "LBallotFoundry$Stations;") (List.mem_of_getElem? (i := 3) rfl)) (fun _ h => h) rfl dX10_station_33 ?_
    refine lv_iload_n hx hb dX10_station_36 rfl (lv_at hl 1 rfl) ?_
    refine lv_iload_n hx hb dX10_station_37 rfl (lv_at hl 2 rfl) ?_
    refine va_calli (va_runV (As := [.int p1, .int p2]) (rest := []) ⟨hx, hb, hml, hown, hts⟩ (c_X7_add l G ad F4 p1 p2 _) (cwV 2 hts gX10_station_X7_add rfl rfl rfl (by decide +kernel) ⟨Nat.le_of_ble_eq_true rfl, Nat.le_of_ble_eq_true rfl⟩) ⟨fun a U g mk h => ⟨h.1, gD_blind h.2.1, h.2.2⟩, g_recv (C := RX7) (T := TX7) (N := 3) hK hH 6 0 (by decide) Nat.zero_lt_one rfl rfl, fun U hU hW => ⟨rfl, gD_at hK hG hB hH hS hU hW, q⟩⟩ rfl rfl hl.1 rfl (lv_room (Nat.le_of_ble_eq_true rfl)) dX10_station_38 ⟨Nat.le_of_ble_eq_true rfl, Nat.le_of_ble_eq_true rfl⟩) hS (fun _ _ h => h) (fun _ h => h) (fun r6 F7 t H locs ht hvm q hB1 hz hk hS => ?_)
    have hH : gH G ad F7 H := gH_to ht hB1
    refine W.widen (k := 3) (n := 18) (Nat.le_of_ble_eq_true rfl) (Nat.le_of_ble_eq_true rfl) ?_
    exact vx_ret (W.iret (v := r6) hx hb hr (fun t ht hW => ⟨⟨r6, F7, rfl, q, gH_at ht hH⟩, hS.F ht⟩) hS.2.2 dX10_station_41)
  · have q := (if_neg c5).mp q
    exact g_throw (text := "no more stations") hx hb hfl hno hown hts hG hS (List.mem_of_getElem? (i := 2) rfl) (List.mem_of_getElem? (i := 3) rfl) (List.mem_of_getElem? (i := 1) rfl) (List.mem_of_getElem? (i := 2) rfl) (fun _ h => (List.mem_cons_of_mem _ (List.mem_append_left _ (List.mem_append_left _ (List.mem_append_left _ (List.mem_append_right _ h)))))) (hl.1.trans hml.symm) hlocks dX10_station_22 dX10_station_25 dX10_station_26 dX10_station_28 dX10_station_31 (Nat.le_of_ble_eq_true rfl) (Nat.le_of_ble_eq_true rfl) (Nat.le_of_ble_eq_true rfl) (Nat.le_of_ble_eq_true rfl) (fun t hvm hz hk => ⟨F4, trivial, ⟨q, gH_grow hH hz hk⟩, gF_grow hS hz hk⟩) hS.2.2 (Nat.le_of_ble_eq_true rfl) (Nat.le_of_ble_eq_true rfl)
abbrev rm_X10_needStation : Room := { frames := 6, cells := 1, slots := 6, locals := 90 }
abbrev q_X10_needStation (G : GP) (ad : Nat → Nat → Nat) (K : GF → Prop) (X : String → GF → Prop) (below : List Frame) (args : Array Value) (s : State) : State → Prop := vx_MQ below (gQv G ad K) (gX G ad X) args s 1 6 (gA G)
set_option maxHeartbeats 4000000 in
set_option maxRecDepth 100000 in
theorem c_X10_needStation (l : Launch) (hfl : l.stackTraces = false) (G : GP) (ad : Nat → Nat → Nat) (F : GF) (p1 : Int32) (K : GF → Prop) (X : String → GF → Prop) : vx_Met l yX10_needStation wsX10_needStation rm_X10_needStation (va_Pc [.ref (ad 0 0), .int p1] (fun U => gD G ad F U ∧ P_X10_needStation F p1 K X)) (gQv G ad K) (gX G ad X) 1 6 (gA G) := by
  refine vx_ofW (cc := cX10_needStation) (maxL := 2) (ret := none) (by decide) rfl ?_
  intro p e s m args below meth c s₁ Bd hml hno hv
  obtain ⟨rfl, ⟨hK, hG, hB, hH⟩, q⟩ := hv
  have hx := Bd.exec
  have hb := Bd.bytes
  have hr := Bd.returns
  have hts := atoms_spec (ws := wsX10_needStation) Bd.pre
  have hown : s.vm.findClass RX10 = some m.cls := findClass_of_methodNamed Bd.named
  have hlocks := Bd.notSynchronized
  have hS : va_S (gA G) s.heap s.heap [] := va_S.rf
  have hl := lv_entry [.ref (ad 0 0), .int p1] (n := 2) (Nat.le_of_ble_eq_true rfl)
  rw [lg_entry_eq]
  generalize (lg_sl [.ref (ad 0 0), .int p1] ++ List.replicate (2 - (lg_sl [.ref (ad 0 0), .int p1]).length) Slot.unset).toArray = ls at hl ⊢
  have hl : lv_has ls 2 [(0, .ref (ad 0 0)), (1, .int p1)] := hl
  unfold P_X10_needStation at q
  refine lv_iload_n hx hb dX10_needStation_0 rfl (lv_at hl 1 rfl) ?_
  refine lv_if_lt (tgt := 15) hx hb dX10_needStation_1 (by decide) (fun c1 => ?_) (fun c1 => ?_)
  · have q := (if_pos c1).mp q
    exact g_throwW (text := "no such station") hx hb hfl hno hown hts hG hS (List.mem_of_getElem? (i := 0) rfl) (List.mem_of_getElem? (i := 4) rfl) (List.mem_of_getElem? (i := 1) rfl) (List.mem_of_getElem? (i := 2) rfl) (fun _ h => (List.mem_cons_of_mem _ (List.mem_append_right _ h))) (hl.1.trans hml.symm) hlocks dX10_needStation_15 dX10_needStation_18 dX10_needStation_19 dX10_needStation_22 dX10_needStation_25 (Nat.le_of_ble_eq_true rfl) (Nat.le_of_ble_eq_true rfl) (Nat.le_of_ble_eq_true rfl) (Nat.le_of_ble_eq_true rfl) (fun t hvm hz hk => ⟨F, trivial, ⟨q, gH_grow hH hz hk⟩, gF_grow hS hz hk⟩) hS.2.2 (Nat.le_of_ble_eq_true rfl) (Nat.le_of_ble_eq_true rfl)
  · have q := (if_neg c1).mp q
    refine lv_iload_n hx hb dX10_needStation_4 rfl (lv_at hl 1 rfl) ?_
    refine lv_aload_n hx hb dX10_needStation_5 rfl (lv_at hl 0 rfl) ?_
    refine g_get (ci := 14) (v := .ref (ad 6 0)) (C := RX10) (T := TX10) (N := 8) hx hb hts (fun _ h => (List.mem_cons_of_mem _ (List.mem_append_left _ (List.mem_append_left _ (List.mem_append_right _ h))))) hown hK hH 0 0 (by decide) Nat.zero_lt_one rfl rfl 3 (by decide) (hts (.fieldLink RX10 29 "BallotFoundry" "stations" "LBallotFoundry$Stations;") (List.mem_of_getElem? (i := 3) rfl)) (fun _ h => h) rfl dX10_needStation_6 ?_
    refine g_getN (ci := 11) (v := .int (F 6 0 2)) (C := RX7) (T := TX7) (N := 3) hx hb hts (fun _ h => (List.mem_cons_of_mem _ (List.mem_append_left _ (List.mem_append_right _ h)))) hown hK hH 6 0 (by decide) Nat.zero_lt_one rfl rfl 2 (by decide) (va_Nw.use rfl (hG.1 ("BallotFoundry", 85, "BallotFoundry$Stations", "size", "I", "BallotFoundry") (List.mem_of_getElem? (i := 2) rfl))) (fun _ h => h) rfl dX10_needStation_9 ?_
    refine lv_icmp_lt (tgt := 26) hx hb dX10_needStation_12 (by decide) (fun c2 => ?_) (fun c2 => ?_)
    · have q := (if_pos c2).mp q
      refine W.widen (k := 1) (n := 6) (Nat.le_of_ble_eq_true rfl) (Nat.le_of_ble_eq_true rfl) ?_
      exact vx_ret (W.vret hx hb hr (fun t ht hW => ⟨⟨F, rfl, q, gH_at ht hH⟩, hS.F ht⟩) hS.2.2 dX10_needStation_26)
    · have q := (if_neg c2).mp q
      exact g_throwW (text := "no such station") hx hb hfl hno hown hts hG hS (List.mem_of_getElem? (i := 0) rfl) (List.mem_of_getElem? (i := 4) rfl) (List.mem_of_getElem? (i := 1) rfl) (List.mem_of_getElem? (i := 2) rfl) (fun _ h => (List.mem_cons_of_mem _ (List.mem_append_right _ h))) (hl.1.trans hml.symm) hlocks dX10_needStation_15 dX10_needStation_18 dX10_needStation_19 dX10_needStation_22 dX10_needStation_25 (Nat.le_of_ble_eq_true rfl) (Nat.le_of_ble_eq_true rfl) (Nat.le_of_ble_eq_true rfl) (Nat.le_of_ble_eq_true rfl) (fun t hvm hz hk => ⟨F, trivial, ⟨q, gH_grow hH hz hk⟩, gF_grow hS hz hk⟩) hS.2.2 (Nat.le_of_ble_eq_true rfl) (Nat.le_of_ble_eq_true rfl)
abbrev rm_X10_setSeats : Room := { frames := 7, cells := 2, slots := 12, locals := 112 }
abbrev q_X10_setSeats (G : GP) (ad : Nat → Nat → Nat) (K : Int32 → GF → Prop) (X : String → GF → Prop) (below : List Frame) (args : Array Value) (s : State) : State → Prop := vx_MQ below (gQi G ad K) (gX G ad X) args s 2 12 (gA G)
set_option maxHeartbeats 4000000 in
set_option maxRecDepth 100000 in
theorem c_X10_setSeats (l : Launch) (hfl : l.stackTraces = false) (G : GP) (ad : Nat → Nat → Nat) (F : GF) (p1 : Int32) (p2 : Int32) (K : Int32 → GF → Prop) (X : String → GF → Prop) : vx_Met l yX10_setSeats wsX10_setSeats rm_X10_setSeats (va_Pc [.ref (ad 0 0), .int p1, .int p2] (fun U => gD G ad F U ∧ P_X10_setSeats F p1 p2 K X)) (gQi G ad K) (gX G ad X) 2 12 (gA G) := by
  refine vx_ofW (cc := cX10_setSeats) (maxL := 4) (ret := (some .int)) (by decide) rfl ?_
  intro p e s m args below meth c s₁ Bd hml hno hv
  obtain ⟨rfl, ⟨hK, hG, hB, hH⟩, q⟩ := hv
  have hx := Bd.exec
  have hb := Bd.bytes
  have hr := Bd.returns
  have hts := atoms_spec (ws := wsX10_setSeats) Bd.pre
  have hown : s.vm.findClass RX10 = some m.cls := findClass_of_methodNamed Bd.named
  have hlocks := Bd.notSynchronized
  have hS : va_S (gA G) s.heap s.heap [] := va_S.rf
  have hl := lv_entry [.ref (ad 0 0), .int p1, .int p2] (n := 4) (Nat.le_of_ble_eq_true rfl)
  rw [lg_entry_eq]
  generalize (lg_sl [.ref (ad 0 0), .int p1, .int p2] ++ List.replicate (4 - (lg_sl [.ref (ad 0 0), .int p1, .int p2]).length) Slot.unset).toArray = ls at hl ⊢
  have hl : lv_has ls 4 [(0, .ref (ad 0 0)), (1, .int p1), (2, .int p2)] := hl
  unfold P_X10_setSeats at q
  refine lv_aload_n hx hb dX10_setSeats_0 rfl (lv_at hl 0 rfl) ?_
  refine lv_iload_n hx hb dX10_setSeats_1 rfl (lv_at hl 1 rfl) ?_
  refine vx_callv (vx_runV (As := [.int p1]) (rest := []) ⟨hx, hb, hml, hown, hts⟩ (c_X10_needStation l hfl G ad F p1 _ _) (cwV 1 hts gX10_setSeats_X10_needStation rfl rfl rfl (by decide +kernel) ⟨Nat.le_of_ble_eq_true rfl, Nat.le_of_ble_eq_true rfl⟩) ⟨fun a U g mk h => ⟨h.1, gD_blind h.2.1, h.2.2⟩, g_recv (C := RX10) (T := TX10) (N := 8) hK hH 0 0 (by decide) Nat.zero_lt_one rfl rfl, fun U hU hW => ⟨rfl, gD_at hK hG hB hH hS hU hW, q⟩⟩ rfl rfl hl.1 rfl (lv_room (Nat.le_of_ble_eq_true rfl)) dX10_setSeats_2 ⟨Nat.le_of_ble_eq_true rfl, Nat.le_of_ble_eq_true rfl⟩) hS (fun _ _ h => h) (fun _ h => h) (fun _ _ h => h) (fun E ce q9 u t H locs ht hvm _ hq hz hk hS hc9 hv9 hcl9 => vx_widen (Nat.le_of_ble_eq_true rfl) (Nat.le_of_ble_eq_true rfl) (vx_out (fun x hx => (hno x hx).elim) hlocks hc9 hv9 hcl9 (fun t1 ht1 hvm1 => ⟨u, trivial, ⟨hq.1, gH_at ht1 (gH_to ht hq.2)⟩, hS.F ht1⟩) hS.2.2 (Nat.le_refl _) (Nat.le_refl _))) (fun F2 t H locs ht hvm q hB1 hz hk hS => ?_)
  have hH : gH G ad F2 H := gH_to ht hB1
  refine lv_iload_n hx hb dX10_setSeats_5 rfl (lv_at hl 2 rfl) ?_
  refine lv_iconst (v := 0) hx hb dX10_setSeats_6 (by decide) ?_
  refine lv_bipush (v := 20) hx hb dX10_setSeats_7 (by decide) ?_
  refine vx_callv (vx_runS (As := [.int p2, .int 0, .int 20]) (rest := []) ⟨hx, hb, hml, hown, hts⟩ (c_X10_needRange l hfl G ad F2 p2 0 20 _ _) (va_cwS 3 hts gX10_setSeats_X10_needRange rfl rfl rfl (by decide +kernel) ⟨Nat.le_of_ble_eq_true rfl, Nat.le_of_ble_eq_true rfl⟩) ⟨fun a U g mk h => ⟨h.1, gD_blind h.2.1, h.2.2⟩, fun U hU hW => ⟨rfl, gD_at hK hG hB hH hS hU hW, q⟩⟩ rfl rfl hl.1 rfl (lv_room (Nat.le_of_ble_eq_true rfl)) dX10_setSeats_9 ⟨Nat.le_of_ble_eq_true rfl, Nat.le_of_ble_eq_true rfl⟩) hS (fun _ _ h => h) (fun _ h => h) (fun _ _ h => h) (fun E ce q9 u t H locs ht hvm _ hq hz hk hS hc9 hv9 hcl9 => vx_widen (Nat.le_of_ble_eq_true rfl) (Nat.le_of_ble_eq_true rfl) (vx_out (fun x hx => (hno x hx).elim) hlocks hc9 hv9 hcl9 (fun t1 ht1 hvm1 => ⟨u, trivial, ⟨hq.1, gH_at ht1 (gH_to ht hq.2)⟩, hS.F ht1⟩) hS.2.2 (Nat.le_refl _) (Nat.le_refl _))) (fun F4 t H locs ht hvm q hB1 hz hk hS => ?_)
  have hH : gH G ad F4 H := gH_to ht hB1
  refine lv_aload_n hx hb dX10_setSeats_12 rfl (lv_at hl 0 rfl) ?_
  refine g_get (ci := 14) (v := .ref (ad 6 0)) (C := RX10) (T := TX10) (N := 8) hx hb hts (fun _ h => (List.mem_cons_of_mem _ (List.mem_append_left _ (List.mem_append_left _ (List.mem_append_left _ (List.mem_append_left _ (List.mem_append_right _ h))))))) hown hK hH 0 0 (by decide) Nat.zero_lt_one rfl rfl 3 (by decide) (hts (.fieldLink RX10 29 "BallotFoundry" "stations" "LBallotFoundry$Stations;") (List.mem_of_getElem? (i := 1) rfl)) (fun _ h => h) rfl dX10_setSeats_13 ?_
  refine g_getN (ci := 11) (v := .ref (ad 8 0)) (C := RX7) (T := TX7) (N := 3) hx hb hts (fun _ h => (List.mem_cons_of_mem _ (List.mem_append_left _ (List.mem_append_left _ (List.mem_append_left _ (List.mem_append_right _ h)))))) hown hK hH 6 0 (by decide) Nat.zero_lt_one rfl rfl 1 (by decide) (va_Nw.use rfl (hG.1 ("BallotFoundry", 99, "BallotFoundry$Stations", "seats", "[I", "BallotFoundry") (List.mem_of_getElem? (i := 1) rfl))) (fun _ h => h) rfl dX10_setSeats_16 ?_
  refine lv_iload_n hx hb dX10_setSeats_19 rfl (lv_at hl 1 rfl) ?_
  obtain ⟨h5, q⟩ := q
  refine g_iald hx hb hK hH 8 0 (by decide) Nat.zero_lt_one 5 rfl h5 dX10_setSeats_20 ?_
  refine lv_istore_n (lv' := [(3, .int (F4 8 0 p1.toNatClampNeg)), (0, .ref (ad 0 0)), (1, .int p1), (2, .int p2)]) hx hb dX10_setSeats_21 rfl hl (by decide) rfl (fun ls hl => ?_)
  refine lv_aload_n hx hb dX10_setSeats_22 rfl (lv_at hl 1 rfl) ?_
  refine g_get (ci := 14) (v := .ref (ad 6 0)) (C := RX10) (T := TX10) (N := 8) hx hb hts (fun _ h => (List.mem_cons_of_mem _ (List.mem_append_left _ (List.mem_append_left _ (List.mem_append_left _ (List.mem_append_left _ (List.mem_append_right _ h))))))) hown hK hH 0 0 (by decide) Nat.zero_lt_one rfl rfl 3 (by decide) (hts (.fieldLink RX10 29 "BallotFoundry" "stations" "LBallotFoundry$Stations;") (List.mem_of_getElem? (i := 1) rfl)) (fun _ h => h) rfl dX10_setSeats_23 ?_
  refine g_getN (ci := 11) (v := .ref (ad 8 0)) (C := RX7) (T := TX7) (N := 3) hx hb hts (fun _ h => (List.mem_cons_of_mem _ (List.mem_append_left _ (List.mem_append_left _ (List.mem_append_left _ (List.mem_append_right _ h)))))) hown hK hH 6 0 (by decide) Nat.zero_lt_one rfl rfl 1 (by decide) (va_Nw.use rfl (hG.1 ("BallotFoundry", 99, "BallotFoundry$Stations", "seats", "[I", "BallotFoundry") (List.mem_of_getElem? (i := 1) rfl))) (fun _ h => h) rfl dX10_setSeats_26 ?_
  refine lv_iload_n hx hb dX10_setSeats_29 rfl (lv_at hl 2 rfl) ?_
  refine lv_iload_n hx hb dX10_setSeats_30 rfl (lv_at hl 3 rfl) ?_
  obtain ⟨h6, q⟩ := q
  refine g_iast hx hb hK hH hS 8 0 (by decide) Nat.zero_lt_one (by decide) 5 (fun _ => rfl) h6 dX10_setSeats_31 (fun H locs hH hS => ?_)
  obtain ⟨F7, eF7⟩ : ∃ z, z = fs F4 8 0 p1.toNatClampNeg p2 := ⟨_, rfl⟩
  have q := q F7 eF7
  rw [← eF7] at hH
  refine lv_iload_n hx hb dX10_setSeats_32 rfl (lv_at hl 0 rfl) ?_
  exact vx_ret (W.iret (v := (F4 8 0 p1.toNatClampNeg)) hx hb hr (fun t ht hW => ⟨⟨(F4 8 0 p1.toNatClampNeg), F7, rfl, q, gH_at ht hH⟩, hS.F ht⟩) hS.2.2 dX10_setSeats_33)
abbrev rm_X10_person : Room := { frames := 7, cells := 3, slots := 18, locals := 112 }
abbrev q_X10_person (G : GP) (ad : Nat → Nat → Nat) (K : Int32 → GF → Prop) (X : String → GF → Prop) (below : List Frame) (args : Array Value) (s : State) : State → Prop := vx_MQ below (gQa G ad K) (gX G ad X) args s 3 18 (gA G)
set_option maxHeartbeats 4000000 in
set_option maxRecDepth 100000 in
theorem c_X10_person (l : Launch) (hfl : l.stackTraces = false) (G : GP) (ad : Nat → Nat → Nat) (F : GF) (p1 : Int32) (p2 : Int32) (K : Int32 → GF → Prop) (X : String → GF → Prop) : vx_Met l yX10_person wsX10_person rm_X10_person (va_Pc [.ref (ad 0 0), .int p1, .int p2] (fun U => gD G ad F U ∧ P_X10_person F p1 p2 K X)) (gQa G ad K) (gX G ad X) 3 18 (gA G) := by
  refine vx_ofW (cc := cX10_person) (maxL := 4) (ret := (some .int)) (by decide) rfl ?_
  intro p e s m args below meth c s₁ Bd hml hno hv
  obtain ⟨rfl, ⟨hK, hG, hB, hH⟩, q⟩ := hv
  have hx := Bd.exec
  have hb := Bd.bytes
  have hr := Bd.returns
  have hts := atoms_spec (ws := wsX10_person) Bd.pre
  have hown : s.vm.findClass RX10 = some m.cls := findClass_of_methodNamed Bd.named
  have hlocks := Bd.notSynchronized
  have hS : va_S (gA G) s.heap s.heap [] := va_S.rf
  have hl := lv_entry [.ref (ad 0 0), .int p1, .int p2] (n := 4) (Nat.le_of_ble_eq_true rfl)
  rw [lg_entry_eq]
  generalize (lg_sl [.ref (ad 0 0), .int p1, .int p2] ++ List.replicate (4 - (lg_sl [.ref (ad 0 0), .int p1, .int p2]).length) Slot.unset).toArray = ls at hl ⊢
  have hl : lv_has ls 4 [(0, .ref (ad 0 0)), (1, .int p1), (2, .int p2)] := hl
  unfold P_X10_person at q
  refine lv_iload_n hx hb dX10_person_0 rfl (lv_at hl 1 rfl) ?_
  refine vx_callv (vx_runS (As := [.int p1]) (rest := []) ⟨hx, hb, hml, hown, hts⟩ (c_X10_needCrossing l hfl G ad F p1 _ _) (va_cwS 1 hts gX10_person_X10_needCrossing rfl rfl rfl (by decide +kernel) ⟨Nat.le_of_ble_eq_true rfl, Nat.le_of_ble_eq_true rfl⟩) ⟨fun a U g mk h => ⟨h.1, gD_blind h.2.1, h.2.2⟩, fun U hU hW => ⟨rfl, gD_at hK hG hB hH hS hU hW, q⟩⟩ rfl rfl hl.1 rfl (lv_room (Nat.le_of_ble_eq_true rfl)) dX10_person_1 ⟨Nat.le_of_ble_eq_true rfl, Nat.le_of_ble_eq_true rfl⟩) hS (fun _ _ h => h) (fun _ h => h) (fun _ _ h => h) (fun E ce q9 u t H locs ht hvm _ hq hz hk hS hc9 hv9 hcl9 => vx_widen (Nat.le_of_ble_eq_true rfl) (Nat.le_of_ble_eq_true rfl) (vx_out (fun x hx => (hno x hx).elim) hlocks hc9 hv9 hcl9 (fun t1 ht1 hvm1 => ⟨u, trivial, ⟨hq.1, gH_at ht1 (gH_to ht hq.2)⟩, hS.F ht1⟩) hS.2.2 (Nat.le_refl _) (Nat.le_refl _))) (fun F2 t H locs ht hvm q hB1 hz hk hS => ?_)
  have hH : gH G ad F2 H := gH_to ht hB1
  refine lv_iload_n hx hb dX10_person_4 rfl (lv_at hl 2 rfl) ?_
  refine lv_iconst (v := 0) hx hb dX10_person_5 (by decide) ?_
  refine lv_sipush (v := 2000) hx hb dX10_person_6 (by decide) ?_
  refine vx_callv (vx_runS (As := [.int p2, .int 0, .int 2000]) (rest := []) ⟨hx, hb, hml, hown, hts⟩ (c_X10_needRange l hfl G ad F2 p2 0 2000 _ _) (va_cwS 3 hts gX10_person_X10_needRange rfl rfl rfl (by decide +kernel) ⟨Nat.le_of_ble_eq_true rfl, Nat.le_of_ble_eq_true rfl⟩) ⟨fun a U g mk h => ⟨h.1, gD_blind h.2.1, h.2.2⟩, fun U hU hW => ⟨rfl, gD_at hK hG hB hH hS hU hW, q⟩⟩ rfl rfl hl.1 rfl (lv_room (Nat.le_of_ble_eq_true rfl)) dX10_person_9 ⟨Nat.le_of_ble_eq_true rfl, Nat.le_of_ble_eq_true rfl⟩) hS (fun _ _ h => h) (fun _ h => h) (fun _ _ h => h) (fun E ce q9 u t H locs ht hvm _ hq hz hk hS hc9 hv9 hcl9 => vx_widen (Nat.le_of_ble_eq_true rfl) (Nat.le_of_ble_eq_true rfl) (vx_out (fun x hx => (hno x hx).elim) hlocks hc9 hv9 hcl9 (fun t1 ht1 hvm1 => ⟨u, trivial, ⟨hq.1, gH_at ht1 (gH_to ht hq.2)⟩, hS.F ht1⟩) hS.2.2 (Nat.le_refl _) (Nat.le_refl _))) (fun F4 t H locs ht hvm q hB1 hz hk hS => ?_)
  have hH : gH G ad F4 H := gH_to ht hB1
  refine lv_aload_n hx hb dX10_person_12 rfl (lv_at hl 0 rfl) ?_
  refine g_get (ci := 14) (v := .int (F4 0 0 2)) (C := RX10) (T := TX10) (N := 8) hx hb hts (fun _ h => (List.mem_cons_of_mem _ (List.mem_append_left _ (List.mem_append_left _ (List.mem_append_left _ (List.mem_append_left _ (List.mem_append_left _ (List.mem_append_right _ h)))))))) hown hK hH 0 0 (by decide) Nat.zero_lt_one rfl rfl 2 (by decide) (hts (.fieldLink RX10 22 "BallotFoundry" "peopleHere" "I") (List.mem_of_getElem? (i := 3) rfl)) (fun _ h => h) rfl dX10_person_13 ?_
  refine lv_bipush (v := 20) hx hb dX10_person_16 (by decide) ?_
  refine lv_icmp_lt (tgt := 31) hx hb dX10_person_18 (by decide) (fun c5 => ?_) (fun c5 => ?_)
  · have q := (if_pos c5).mp q
    refine lv_aload_n hx hb dX10_person_31 rfl (lv_at hl 0 rfl) ?_
    refine g_get (ci := 14) (v := .int (F4 0 0 2)) (C := RX10) (T := TX10) (N := 8) hx hb hts (fun _ h => (List.mem_cons_of_mem _ (List.mem_append_left _ (List.mem_append_left _ (List.mem_append_left _ (List.mem_append_left _ (List.mem_append_left _ (List.mem_append_right _ h)))))))) hown hK hH 0 0 (by decide) Nat.zero_lt_one rfl rfl 2 (by decide) (hts (.fieldLink RX10 22 "BallotFoundry" "peopleHere" "I") (List.mem_of_getElem? (i := 3) rfl)) (fun _ h => h) rfl dX10_person_32 ?_
    refine lv_istore_n (lv' := [(3, .int (F4 0 0 2)), (0, .ref (ad 0 0)), (1, .int p1), (2, .int p2)]) hx hb dX10_person_35 rfl hl (by decide) rfl (fun ls hl => ?_)
    refine lv_aload_n hx hb dX10_person_36 rfl (lv_at hl 1 rfl) ?_
    refine g_get (ci := 14) (v := .ref (ad 5 0)) (C := RX10) (T := TX10) (N := 8) hx hb hts (fun _ h => (List.mem_cons_of_mem _ (List.mem_append_left _ (List.mem_append_left _ (List.mem_append_left _ (List.mem_append_left _ (List.mem_append_left _ (List.mem_append_right _ h)))))))) hown hK hH 0 0 (by decide) Nat.zero_lt_one rfl rfl 1 (by decide) (hts (.fieldLink RX10 18 "BallotFoundry" "people" "[LBallotFoundry$Person;") (List.mem_of_getElem? (i := 4) rfl)) (fun _ h => h) rfl dX10_person_37 ?_
    refine lv_iload_n hx hb dX10_person_40 rfl (lv_at hl 0 rfl) ?_
    obtain ⟨h6, q⟩ := q
    refine g_aald (a := ad 33 ((F4 0 0 2).toNatClampNeg)) hx hb hK hH 5 0 (by decide) Nat.zero_lt_one 5 20 rfl rfl h6 rfl dX10_person_41 ?_
    refine lv_iload_n hx hb dX10_person_42 rfl (lv_at hl 3 rfl) ?_
    refine g_putN (ci := 8) (v := .int p2) (C := RX4) (T := TX4) (N := 3) hx hb hts (fun _ h => (List.mem_cons_of_mem _ (List.mem_append_left _ (List.mem_append_left _ (List.mem_append_left _ (List.mem_append_left _ (List.mem_append_right _ h))))))) tyX4 tyX4_ok nmX4 hown hK hH hS 33 ((F4 0 0 2).toNatClampNeg) (by decide) (gin h6) (by decide) rfl rfl 0 (by decide) (va_Nw.use rfl (hG.1 ("BallotFoundry", 104, "BallotFoundry$Person", "age", "I", "BallotFoundry") (List.mem_of_getElem? (i := 29) rfl))) (fun _ h => h) rfl (ty := .int) (by decide +kernel) rfl rfl (Nat.le_of_ble_eq_true rfl) p2 rfl dX10_person_43 (fun H locs hH hS => ?_)
    obtain ⟨F7, eF7⟩ : ∃ z, z = fs F4 33 ((F4 0 0 2).toNatClampNeg) 0 p2 := ⟨_, rfl⟩
    have q := q F7 eF7
    rw [← eF7] at hH
    refine lv_aload_n hx hb dX10_person_46 rfl (lv_at hl 1 rfl) ?_
    refine g_get (ci := 14) (v := .ref (ad 5 0)) (C := RX10) (T := TX10) (N := 8) hx hb hts (fun _ h => (List.mem_cons_of_mem _ (List.mem_append_left _ (List.mem_append_left _ (List.mem_append_left _ (List.mem_append_left _ (List.mem_append_left _ (List.mem_append_right _ h)))))))) hown hK hH 0 0 (by decide) Nat.zero_lt_one rfl rfl 1 (by decide) (hts (.fieldLink RX10 18 "BallotFoundry" "people" "[LBallotFoundry$Person;") (List.mem_of_getElem? (i := 4) rfl)) (fun _ h => h) rfl dX10_person_47 ?_
    refine lv_iload_n hx hb dX10_person_50 rfl (lv_at hl 0 rfl) ?_
    obtain ⟨h8, q⟩ := q
    refine g_aald (a := ad 33 ((F4 0 0 2).toNatClampNeg)) hx hb hK hH 5 0 (by decide) Nat.zero_lt_one 5 20 rfl rfl h8 rfl dX10_person_51 ?_
    obtain ⟨h11, q⟩ := q
    refine g_newStay hx hb hts (fun _ h => (List.mem_cons_of_mem _ (List.mem_append_left _ (List.mem_append_left _ (List.mem_append_left _ (List.mem_append_right _ h)))))) hown (hts (.classLink RX10 107 RX8) (List.mem_of_getElem? (i := 5) rfl)) (hts (.instantiable RX8 3) (List.mem_of_getElem? (i := 6) rfl)) (hts (.initialized RX8) (List.mem_of_getElem? (i := 7) rfl)) hK hH hS hB h11.1 (by omega) (Nat.le_of_ble_eq_true rfl) (Nat.le_of_ble_eq_true rfl) dX10_person_52 (fun a10 H hH hS => ?_)
    obtain ⟨F9, eF9⟩ : ∃ z, z = fnew F7 := ⟨_, rfl⟩
    have q := q F9 eF9
    rw [← eF9] at hH
    have ha10 : a10 = (gad ad (gcn F7) a10) 39 (gcn F7) := (gad_self _ _ _).symm
    rw [ha10]
    have hna10 : gcn F7 < gcn F9 := by rw [eF9]; exact gcn_new h11.2
    have hma10 : gcn F7 < 2 ^ 31 := by omega
    refine lv_dup hx hb dX10_person_55 rfl ?_
    refine lv_aload_n hx hb dX10_person_56 rfl (lv_at hl 1 rfl) ?_
    refine g_get (ad := (gad ad (gcn F7) a10)) (ci := 14) (v := .int (F9 0 0 5)) (C := RX10) (T := TX10) (N := 8) hx hb hts (fun _ h => (List.mem_cons_of_mem _ (List.mem_append_left _ (List.mem_append_left _ (List.mem_append_left _ (List.mem_append_left _ (List.mem_append_left _ (List.mem_append_right _ h)))))))) hown hK hH 0 0 (by decide) Nat.zero_lt_one rfl rfl 5 (by decide) (hts (.fieldLink RX10 37 "BallotFoundry" "now" "I") (List.mem_of_getElem? (i := 8) rfl)) (fun _ h => h) rfl dX10_person_57 ?_
    refine lv_iload_n hx hb dX10_person_60 rfl (lv_at hl 2 rfl) ?_
    refine lv_null hx hb dX10_person_61 ?_
    refine va_callv (va_runI (As := [.int (F9 0 0 5), .int p1, gst (gad ad (gcn F7) a10) (-1)]) (rest := [.ref ((gad ad (gcn F7) a10) 39 (gcn F7)), .ref ((gad ad (gcn F7) a10) 33 ((F4 0 0 2).toNatClampNeg))]) ⟨hx, hb, hml, hown, hts⟩ (c_X8_init l G (gad ad (gcn F7) a10) F9 (gcn F7) (F9 0 0 5) p1 (-1) hna10 _) (cwI 3 hts gX10_person_X8_init rfl rfl rfl (hts (.initialized RX8) (List.mem_of_getElem? (i := 7) rfl)) (hts (.methodLink RX10 109 yX8_init) (List.mem_of_getElem? (i := 20) rfl)) (hts (.instanceMethod yX8_init) (List.mem_of_getElem? (i := 21) rfl)) rfl (by decide +kernel) ⟨Nat.le_of_ble_eq_true rfl, Nat.le_of_ble_eq_true rfl⟩) ⟨fun a U g mk h => ⟨h.1, gD_blind h.2.1, h.2.2⟩, fun U hU hW => ⟨rfl, gD_at hK hG hB hH hS hU hW, q⟩⟩ rfl rfl hl.1 rfl (lv_room (Nat.le_of_ble_eq_true rfl)) dX10_person_62 ⟨Nat.le_of_ble_eq_true rfl, Nat.le_of_ble_eq_true rfl⟩) hS (fun _ _ h => h) (fun _ h => h) (fun F12 t H locs ht hvm q hB1 hz hk hS => ?_)
    have hH : gH G (gad ad (gcn F7) a10) F12 H := gH_to ht hB1
    refine g_putN (ad := (gad ad (gcn F7) a10)) (ci := 8) (v := .ref ((gad ad (gcn F7) a10) 39 (gcn F7))) (C := RX4) (T := TX4) (N := 3) hx hb hts (fun _ h => (List.mem_cons_of_mem _ (List.mem_append_left _ (List.mem_append_left _ (List.mem_append_left _ (List.mem_append_left _ (List.mem_append_right _ h))))))) tyX4 tyX4_ok nmX4 hown hK hH hS 33 ((F4 0 0 2).toNatClampNeg) (by decide) (gin h8) (by decide) rfl rfl 1 (by decide) (va_Nw.use rfl (hG.1 ("BallotFoundry", 112, "BallotFoundry$Person", "latest", "LBallotFoundry$Stay;", "BallotFoundry") (List.mem_of_getElem? (i := 30) rfl))) (fun _ h => h) rfl (ty := .object "BallotFoundry$Stay") (by decide +kernel) rfl rfl (Nat.le_of_ble_eq_true rfl) (nI (gcn F7)) (gput_latest hma10) dX10_person_65 (fun H locs hH hS => ?_)
    obtain ⟨F13, eF13⟩ : ∃ z, z = fs F12 33 ((F4 0 0 2).toNatClampNeg) 1 (nI (gcn F7)) := ⟨_, rfl⟩
    have q := q F13 eF13
    rw [← eF13] at hH
    refine lv_aload_n hx hb dX10_person_68 rfl (lv_at hl 1 rfl) ?_
    refine lv_dup hx hb dX10_person_69 rfl ?_
    refine g_get (ad := (gad ad (gcn F7) a10)) (ci := 14) (v := .int (F13 0 0 2)) (C := RX10) (T := TX10) (N := 8) hx hb hts (fun _ h => (List.mem_cons_of_mem _ (List.mem_append_left _ (List.mem_append_left _ (List.mem_append_left _ (List.mem_append_left _ (List.mem_append_left _ (List.mem_append_right _ h)))))))) hown hK hH 0 0 (by decide) Nat.zero_lt_one rfl rfl 2 (by decide) (hts (.fieldLink RX10 22 "BallotFoundry" "peopleHere" "I") (List.mem_of_getElem? (i := 3) rfl)) (fun _ h => h) rfl dX10_person_70 ?_
    refine lv_iconst (v := 1) hx hb dX10_person_73 (by decide) ?_
    refine lv_iadd hx hb dX10_person_74 ?_
    refine g_put (ad := (gad ad (gcn F7) a10)) (ci := 14) (v := .int ((F13 0 0 2) + 1)) (C := RX10) (T := TX10) (N := 8) hx hb hts (fun _ h => (List.mem_cons_of_mem _ (List.mem_append_left _ (List.mem_append_left _ (List.mem_append_left _ (List.mem_append_left _ (List.mem_append_left _ (List.mem_append_right _ h)))))))) tyX10 tyX10_ok nmX10 hown hK hH hS 0 0 (by decide) Nat.zero_lt_one (by decide) rfl rfl 2 (by decide) (hts (.fieldLink RX10 22 "BallotFoundry" "peopleHere" "I") (List.mem_of_getElem? (i := 3) rfl)) (fun _ h => h) rfl (ty := .int) (by decide +kernel) rfl rfl (Nat.le_of_ble_eq_true rfl) ((F13 0 0 2) + 1) rfl dX10_person_75 (fun H locs hH hS => ?_)
    obtain ⟨F14, eF14⟩ : ∃ z, z = fs F13 0 0 2 ((F13 0 0 2) + 1) := ⟨_, rfl⟩
    have q := q F14 eF14
    rw [← eF14] at hH
    refine lv_iload_n hx hb dX10_person_78 rfl (lv_at hl 0 rfl) ?_
    refine W.widen (k := 3) (n := 18) (Nat.le_of_ble_eq_true rfl) (Nat.le_of_ble_eq_true rfl) ?_
    exact vx_ret (W.iret (v := (F4 0 0 2)) hx hb hr (fun t ht hW => ⟨⟨(F4 0 0 2), (F14, (gad ad (gcn F7) a10)), rfl, ⟨q, fun f i hf => gad_old hf⟩, gH_at ht hH⟩, hS.F ht⟩) hS.2.2 dX10_person_79)
  · have q := (if_neg c5).mp q
    exact g_throw (text := "no more people") hx hb hfl hno hown hts hG hS (List.mem_of_getElem? (i := 2) rfl) (List.mem_of_getElem? (i := 5) rfl) (List.mem_of_getElem? (i := 1) rfl) (List.mem_of_getElem? (i := 2) rfl) (fun _ h => (List.mem_cons_of_mem _ (List.mem_append_left _ (List.mem_append_left _ (List.mem_append_right _ h))))) (hl.1.trans hml.symm) hlocks dX10_person_21 dX10_person_24 dX10_person_25 dX10_person_27 dX10_person_30 (Nat.le_of_ble_eq_true rfl) (Nat.le_of_ble_eq_true rfl) (Nat.le_of_ble_eq_true rfl) (Nat.le_of_ble_eq_true rfl) (fun t hvm hz hk => ⟨F4, trivial, ⟨q, gH_grow hH hz hk⟩, gF_grow hS hz hk⟩) hS.2.2 (Nat.le_of_ble_eq_true rfl) (Nat.le_of_ble_eq_true rfl)
abbrev rm_X10_needPerson : Room := { frames := 6, cells := 1, slots := 6, locals := 90 }
abbrev q_X10_needPerson (G : GP) (ad : Nat → Nat → Nat) (K : GF → Prop) (X : String → GF → Prop) (below : List Frame) (args : Array Value) (s : State) : State → Prop := vx_MQ below (gQv G ad K) (gX G ad X) args s 1 6 (gA G)
set_option maxHeartbeats 4000000 in
set_option maxRecDepth 100000 in
theorem c_X10_needPerson (l : Launch) (hfl : l.stackTraces = false) (G : GP) (ad : Nat → Nat → Nat) (F : GF) (p1 : Int32) (K : GF → Prop) (X : String → GF → Prop) : vx_Met l yX10_needPerson wsX10_needPerson rm_X10_needPerson (va_Pc [.ref (ad 0 0), .int p1] (fun U => gD G ad F U ∧ P_X10_needPerson F p1 K X)) (gQv G ad K) (gX G ad X) 1 6 (gA G) := by
  refine vx_ofW (cc := cX10_needPerson) (maxL := 2) (ret := none) (by decide) rfl ?_
  intro p e s m args below meth c s₁ Bd hml hno hv
  obtain ⟨rfl, ⟨hK, hG, hB, hH⟩, q⟩ := hv
  have hx := Bd.exec
  have hb := Bd.bytes
  have hr := Bd.returns
  have hts := atoms_spec (ws := wsX10_needPerson) Bd.pre
  have hown : s.vm.findClass RX10 = some m.cls := findClass_of_methodNamed Bd.named
  have hlocks := Bd.notSynchronized
  have hS : va_S (gA G) s.heap s.heap [] := va_S.rf
  have hl := lv_entry [.ref (ad 0 0), .int p1] (n := 2) (Nat.le_of_ble_eq_true rfl)
  rw [lg_entry_eq]
  generalize (lg_sl [.ref (ad 0 0), .int p1] ++ List.replicate (2 - (lg_sl [.ref (ad 0 0), .int p1]).length) Slot.unset).toArray = ls at hl ⊢
  have hl : lv_has ls 2 [(0, .ref (ad 0 0)), (1, .int p1)] := hl
  unfold P_X10_needPerson at q
  refine lv_iload_n hx hb dX10_needPerson_0 rfl (lv_at hl 1 rfl) ?_
  refine lv_if_lt (tgt := 12) hx hb dX10_needPerson_1 (by decide) (fun c1 => ?_) (fun c1 => ?_)
  · have q := (if_pos c1).mp q
    exact g_throwW (text := "no such person") hx hb hfl hno hown hts hG hS (List.mem_of_getElem? (i := 0) rfl) (List.mem_of_getElem? (i := 6) rfl) (List.mem_of_getElem? (i := 1) rfl) (List.mem_of_getElem? (i := 2) rfl) (fun _ h => (List.mem_cons_of_mem _ (List.mem_append_right _ h))) (hl.1.trans hml.symm) hlocks dX10_needPerson_12 dX10_needPerson_15 dX10_needPerson_16 dX10_needPerson_19 dX10_needPerson_22 (Nat.le_of_ble_eq_true rfl) (Nat.le_of_ble_eq_true rfl) (Nat.le_of_ble_eq_true rfl) (Nat.le_of_ble_eq_true rfl) (fun t hvm hz hk => ⟨F, trivial, ⟨q, gH_grow hH hz hk⟩, gF_grow hS hz hk⟩) hS.2.2 (Nat.le_of_ble_eq_true rfl) (Nat.le_of_ble_eq_true rfl)
  · have q := (if_neg c1).mp q
    refine lv_iload_n hx hb dX10_needPerson_4 rfl (lv_at hl 1 rfl) ?_
    refine lv_aload_n hx hb dX10_needPerson_5 rfl (lv_at hl 0 rfl) ?_
    refine g_get (ci := 14) (v := .int (F 0 0 2)) (C := RX10) (T := TX10) (N := 8) hx hb hts (fun _ h => (List.mem_cons_of_mem _ (List.mem_append_left _ (List.mem_append_right _ h)))) hown hK hH 0 0 (by decide) Nat.zero_lt_one rfl rfl 2 (by decide) (hts (.fieldLink RX10 22 "BallotFoundry" "peopleHere" "I") (List.mem_of_getElem? (i := 3) rfl)) (fun _ h => h) rfl dX10_needPerson_6 ?_
    refine lv_icmp_lt (tgt := 23) hx hb dX10_needPerson_9 (by decide) (fun c2 => ?_) (fun c2 => ?_)
    · have q := (if_pos c2).mp q
      refine W.widen (k := 1) (n := 6) (Nat.le_of_ble_eq_true rfl) (Nat.le_of_ble_eq_true rfl) ?_
      exact vx_ret (W.vret hx hb hr (fun t ht hW => ⟨⟨F, rfl, q, gH_at ht hH⟩, hS.F ht⟩) hS.2.2 dX10_needPerson_23)
    · have q := (if_neg c2).mp q
      exact g_throwW (text := "no such person") hx hb hfl hno hown hts hG hS (List.mem_of_getElem? (i := 0) rfl) (List.mem_of_getElem? (i := 6) rfl) (List.mem_of_getElem? (i := 1) rfl) (List.mem_of_getElem? (i := 2) rfl) (fun _ h => (List.mem_cons_of_mem _ (List.mem_append_right _ h))) (hl.1.trans hml.symm) hlocks dX10_needPerson_12 dX10_needPerson_15 dX10_needPerson_16 dX10_needPerson_19 dX10_needPerson_22 (Nat.le_of_ble_eq_true rfl) (Nat.le_of_ble_eq_true rfl) (Nat.le_of_ble_eq_true rfl) (Nat.le_of_ble_eq_true rfl) (fun t hvm hz hk => ⟨F, trivial, ⟨q, gH_grow hH hz hk⟩, gF_grow hS hz hk⟩) hS.2.2 (Nat.le_of_ble_eq_true rfl) (Nat.le_of_ble_eq_true rfl)
abbrev rm_X10_personAt : Room := { frames := 7, cells := 1, slots := 6, locals := 111 }
abbrev q_X10_personAt (G : GP) (ad : Nat → Nat → Nat) (K : Nat → GF → Prop) (X : String → GF → Prop) (below : List Frame) (args : Array Value) (s : State) : State → Prop := vx_MQ below (gQr G ad 33 20 K) (gX G ad X) args s 1 6 (gA G)
set_option maxHeartbeats 4000000 in
set_option maxRecDepth 100000 in
theorem c_X10_personAt (l : Launch) (hfl : l.stackTraces = false) (G : GP) (ad : Nat → Nat → Nat) (F : GF) (p1 : Int32) (K : Nat → GF → Prop) (X : String → GF → Prop) : vx_Met l yX10_personAt wsX10_personAt rm_X10_personAt (va_Pc [.ref (ad 0 0), .int p1] (fun U => gD G ad F U ∧ P_X10_personAt F p1 K X)) (gQr G ad 33 20 K) (gX G ad X) 1 6 (gA G) := by
  refine vx_ofW (cc := cX10_personAt) (maxL := 2) (ret := (some (.object "BallotFoundry$Person"))) (by decide) rfl ?_
  intro p e s m args below meth c s₁ Bd hml hno hv
  obtain ⟨rfl, ⟨hK, hG, hB, hH⟩, q⟩ := hv
  have hx := Bd.exec
  have hb := Bd.bytes
  have hr := Bd.returns
  have hts := atoms_spec (ws := wsX10_personAt) Bd.pre
  have hown : s.vm.findClass RX10 = some m.cls := findClass_of_methodNamed Bd.named
  have hlocks := Bd.notSynchronized
  have hS : va_S (gA G) s.heap s.heap [] := va_S.rf
  have hl := lv_entry [.ref (ad 0 0), .int p1] (n := 2) (Nat.le_of_ble_eq_true rfl)
  rw [lg_entry_eq]
  generalize (lg_sl [.ref (ad 0 0), .int p1] ++ List.replicate (2 - (lg_sl [.ref (ad 0 0), .int p1]).length) Slot.unset).toArray = ls at hl ⊢
  have hl : lv_has ls 2 [(0, .ref (ad 0 0)), (1, .int p1)] := hl
  unfold P_X10_personAt at q
  refine lv_aload_n hx hb dX10_personAt_0 rfl (lv_at hl 0 rfl) ?_
  refine lv_iload_n hx hb dX10_personAt_1 rfl (lv_at hl 1 rfl) ?_
  refine vx_callv (vx_runV (As := [.int p1]) (rest := []) ⟨hx, hb, hml, hown, hts⟩ (c_X10_needPerson l hfl G ad F p1 _ _) (cwV 1 hts gX10_personAt_X10_needPerson rfl rfl rfl (by decide +kernel) ⟨Nat.le_of_ble_eq_true rfl, Nat.le_of_ble_eq_true rfl⟩) ⟨fun a U g mk h => ⟨h.1, gD_blind h.2.1, h.2.2⟩, g_recv (C := RX10) (T := TX10) (N := 8) hK hH 0 0 (by decide) Nat.zero_lt_one rfl rfl, fun U hU hW => ⟨rfl, gD_at hK hG hB hH hS hU hW, q⟩⟩ rfl rfl hl.1 rfl (lv_room (Nat.le_of_ble_eq_true rfl)) dX10_personAt_2 ⟨Nat.le_of_ble_eq_true rfl, Nat.le_of_ble_eq_true rfl⟩) hS (fun _ _ h => h) (fun _ h => h) (fun _ _ h => h) (fun E ce q9 u t H locs ht hvm _ hq hz hk hS hc9 hv9 hcl9 => vx_widen (Nat.le_of_ble_eq_true rfl) (Nat.le_of_ble_eq_true rfl) (vx_out (fun x hx => (hno x hx).elim) hlocks hc9 hv9 hcl9 (fun t1 ht1 hvm1 => ⟨u, trivial, ⟨hq.1, gH_at ht1 (gH_to ht hq.2)⟩, hS.F ht1⟩) hS.2.2 (Nat.le_refl _) (Nat.le_refl _))) (fun F2 t H locs ht hvm q hB1 hz hk hS => ?_)
  have hH : gH G ad F2 H := gH_to ht hB1
  refine lv_aload_n hx hb dX10_personAt_5 rfl (lv_at hl 0 rfl) ?_
  refine g_get (ci := 14) (v := .ref (ad 5 0)) (C := RX10) (T := TX10) (N := 8) hx hb hts (fun _ h => (List.mem_cons_of_mem _ (List.mem_append_left _ (List.mem_append_right _ h)))) hown hK hH 0 0 (by decide) Nat.zero_lt_one rfl rfl 1 (by decide) (hts (.fieldLink RX10 18 "BallotFoundry" "people" "[LBallotFoundry$Person;") (List.mem_of_getElem? (i := 1) rfl)) (fun _ h => h) rfl dX10_personAt_6 ?_
  refine lv_iload_n hx hb dX10_personAt_9 rfl (lv_at hl 1 rfl) ?_
  obtain ⟨h3, q⟩ := q
  refine g_aald (a := ad 33 (p1.toNatClampNeg)) hx hb hK hH 5 0 (by decide) Nat.zero_lt_one 5 20 rfl rfl h3 rfl dX10_personAt_10 ?_
  exact vx_ret (W.aret (v := .ref (ad 33 p1.toNatClampNeg)) hx hb hr (Or.inl ⟨_, rfl⟩) (Or.inr ⟨_, rfl⟩) (fun t ht hW => ⟨⟨some (ad 33 p1.toNatClampNeg), (p1.toNatClampNeg, F2), rfl, ⟨rfl, (gin h3), q⟩, gH_at ht hH⟩, hS.F ht⟩) hS.2.2 dX10_personAt_11)
abbrev rm_X10_needAlive : Room := { frames := 6, cells := 1, slots := 6, locals := 90 }
abbrev q_X10_needAlive (G : GP) (ad : Nat → Nat → Nat) (K : GF → Prop) (X : String → GF → Prop) (below : List Frame) (args : Array Value) (s : State) : State → Prop := vx_MQ below (gQv G ad K) (gX G ad X) args s 1 6 (gA G)
set_option maxHeartbeats 4000000 in
set_option maxRecDepth 100000 in
theorem c_X10_needAlive (l : Launch) (hfl : l.stackTraces = false) (G : GP) (ad : Nat → Nat → Nat) (F : GF) (i0 : Nat) (hi0 : i0 < 20) (K : GF → Prop) (X : String → GF → Prop) : vx_Met l yX10_needAlive wsX10_needAlive rm_X10_needAlive (va_Pc [.ref (ad 33 i0)] (fun U => gD G ad F U ∧ P_X10_needAlive F i0 K X)) (gQv G ad K) (gX G ad X) 1 6 (gA G) := by
  refine vx_ofW (cc := cX10_needAlive) (maxL := 1) (ret := none) (by decide) rfl ?_
  intro p e s m args below meth c s₁ Bd hml hno hv
  obtain ⟨rfl, ⟨hK, hG, hB, hH⟩, q⟩ := hv
  have hx := Bd.exec
  have hb := Bd.bytes
  have hr := Bd.returns
  have hts := atoms_spec (ws := wsX10_needAlive) Bd.pre
  have hown : s.vm.findClass RX10 = some m.cls := findClass_of_methodNamed Bd.named
  have hlocks := Bd.notSynchronized
  have hS : va_S (gA G) s.heap s.heap [] := va_S.rf
  have hl := lv_entry [.ref (ad 33 i0)] (n := 1) (Nat.le_of_ble_eq_true rfl)
  rw [lg_entry_eq]
  generalize (lg_sl [.ref (ad 33 i0)] ++ List.replicate (1 - (lg_sl [.ref (ad 33 i0)]).length) Slot.unset).toArray = ls at hl ⊢
  have hl : lv_has ls 1 [(0, .ref (ad 33 i0))] := hl
  unfold P_X10_needAlive at q
  refine lv_aload_n hx hb dX10_needAlive_0 rfl (lv_at hl 0 rfl) ?_
  refine g_getN (ci := 8) (v := .int (F 33 i0 2)) (C := RX4) (T := TX4) (N := 3) hx hb hts (fun _ h => (List.mem_cons_of_mem _ (List.mem_append_left _ (List.mem_append_right _ h)))) hown hK hH 33 i0 (by decide) hi0 rfl rfl 2 (by decide) (va_Nw.use rfl (hG.1 ("BallotFoundry", 127, "BallotFoundry$Person", "hasDied", "Z", "BallotFoundry") (List.mem_of_getElem? (i := 31) rfl))) (fun _ h => h) rfl dX10_needAlive_1 ?_
  refine lv_if_eq (tgt := 18) hx hb dX10_needAlive_4 (by decide) (fun c1 => ?_) (fun c1 => ?_)
  · have q := (if_pos c1).mp q
    refine W.widen (k := 1) (n := 6) (Nat.le_of_ble_eq_true rfl) (Nat.le_of_ble_eq_true rfl) ?_
    exact vx_ret (W.vret hx hb hr (fun t ht hW => ⟨⟨F, rfl, q, gH_at ht hH⟩, hS.F ht⟩) hS.2.2 dX10_needAlive_18)
  · have q := (if_neg c1).mp q
    exact g_throwW (text := "the person has died") hx hb hfl hno hown hts hG hS (List.mem_of_getElem? (i := 2) rfl) (List.mem_of_getElem? (i := 7) rfl) (List.mem_of_getElem? (i := 1) rfl) (List.mem_of_getElem? (i := 2) rfl) (fun _ h => (List.mem_cons_of_mem _ (List.mem_append_right _ h))) (hl.1.trans hml.symm) hlocks dX10_needAlive_7 dX10_needAlive_10 dX10_needAlive_11 dX10_needAlive_14 dX10_needAlive_17 (Nat.le_of_ble_eq_true rfl) (Nat.le_of_ble_eq_true rfl) (Nat.le_of_ble_eq_true rfl) (Nat.le_of_ble_eq_true rfl) (fun t hvm hz hk => ⟨F, trivial, ⟨q, gH_grow hH hz hk⟩, gF_grow hS hz hk⟩) hS.2.2 (Nat.le_of_ble_eq_true rfl) (Nat.le_of_ble_eq_true rfl)
abbrev rm_X4_crossingOn : Room := { frames := 0, cells := 0, slots := 0, locals := 0 }
abbrev q_X4_crossingOn (G : GP) (ad : Nat → Nat → Nat) (K : Int32 → GF → Prop) (below : List Frame) (args : Array Value) (s : State) : State → Prop := MQ below (gQi G ad K) args s 0 0 (gA G)
set_option maxHeartbeats 4000000 in
set_option maxRecDepth 100000 in
theorem c_X4_crossingOn (l : Launch) (G : GP) (ad : Nat → Nat → Nat) (F : GF) (i0 : Nat) (p1 : Int32) (hi0 : i0 < 20) (K : Int32 → GF → Prop) : Met l yX4_crossingOn wsX4_crossingOn rm_X4_crossingOn (va_Pc [.ref (ad 33 i0), .int p1] (fun U => gD G ad F U ∧ P_X4_crossingOn F i0 p1 K)) (gQi G ad K) 0 0 (gA G) := by
  refine Met.ofW (cc := cX4_crossingOn) (maxL := 3) (ret := (some .int)) (by decide) rfl ?_
  intro p e s m args below meth c s₁ Bd hml hv
  obtain ⟨rfl, ⟨hK, hG, hB, hH⟩, q⟩ := hv
  have hx := Bd.exec
  have hb := Bd.bytes
  have hr := Bd.returns
  have hts := atoms_spec (ws := wsX4_crossingOn) Bd.pre
  have hown : s.vm.findClass RX4 = some m.cls := findClass_of_methodNamed Bd.named
  have hlocks := Bd.notSynchronized
  have hS : va_S (gA G) s.heap s.heap [] := va_S.rf
  have hl := lv_entry [.ref (ad 33 i0), .int p1] (n := 3) (Nat.le_of_ble_eq_true rfl)
  rw [lg_entry_eq]
  generalize (lg_sl [.ref (ad 33 i0), .int p1] ++ List.replicate (3 - (lg_sl [.ref (ad 33 i0), .int p1]).length) Slot.unset).toArray = ls at hl ⊢
  have hl : lv_has ls 3 [(0, .ref (ad 33 i0)), (1, .int p1)] := hl
  show W p l e rm_X4_crossingOn s m ([.ref (ad 33 i0), .int p1] : List Value).toArray below meth c s.heap [] 0 0 (q_X4_crossingOn G ad K below ([.ref (ad 33 i0), .int p1] : List Value).toArray s) _
  have t_5 : ∀ n : Nat, ∀ (F : GF) (x1 : Int32) (x2 : Int32) (H : Heap) (locs : List Loc) (ls : Array Slot), gH G ad F H → va_S (gA G) s.heap H locs → lv_has ls 3 [(1, .int x1), (2, gst ad x2)] → (P_X4_crossingOn_5 i0 K n) F x1 x2 → W p l e rm_X4_crossingOn s m ([.ref (ad 33 i0), .int p1] : List Value).toArray below meth c H locs 0 0 (q_X4_crossingOn G ad K below ([.ref (ad 33 i0), .int p1] : List Value).toArray s) (F0 m 5 ls []) := by
    intro n
    induction n with
    | zero =>
      intro F x1 x2 H locs ls hH hS hl q
      exact False.elim q
    | succ n ih =>
      intro F x1 x2 H locs ls hH hS hl q
      rw [P_X4_crossingOn_5] at q
      refine g_aload_n hx hb dX4_crossingOn_5 rfl (lv_at hl 1 rfl) ?_
      refine g_ifnull (tgt := 30) hx hb dX4_crossingOn_6 (by decide) (fun c1 => ?_) (fun c1 => ?_)
      · have q := (if_pos c1).mp q
        refine lv_iconst (v := (-1)) hx hb dX4_crossingOn_30 (by decide) ?_
        exact (W.iret (v := (-1)) hx hb hr (fun t ht hW => ⟨⟨(-1), F, rfl, q, gH_at ht hH⟩, hS.F ht⟩) hS.2.2 dX4_crossingOn_31)
      · have q := (if_neg c1).mp q
        refine g_aload_n hx hb dX4_crossingOn_9 rfl (lv_at hl 1 rfl) ?_
        obtain ⟨h2, q⟩ := q
        rw [gst_ref h2.1]
        refine g_getN (ci := 12) (v := .int (F 39 x2.toNatClampNeg 0)) (C := RX8) (T := TX8) (N := 3) hx hb hts (fun _ h => (List.mem_cons_of_mem _ (List.mem_append_right _ h))) hown hK hH 39 x2.toNatClampNeg (by decide) h2.2 rfl rfl 0 (by decide) (va_Nw.use rfl (hG.1 ("BallotFoundry$Person", 23, "BallotFoundry$Stay", "day", "I", "BallotFoundry") (List.mem_of_getElem? (i := 32) rfl))) (fun _ h => h) rfl dX4_crossingOn_10 ?_
        refine lv_iload_n hx hb dX4_crossingOn_13 rfl (lv_at hl 0 rfl) ?_
        refine lv_icmp_gt (tgt := 22) hx hb dX4_crossingOn_14 (by decide) (fun c3 => ?_) (fun c3 => ?_)
        · have q := (if_pos c3).mp q
          refine g_aload_n hx hb dX4_crossingOn_22 rfl (lv_at hl 1 rfl) ?_
          obtain ⟨h4, q⟩ := q
          rw [gst_ref h4.1]
          refine g_getN (ci := 12) (v := gst ad (F 39 x2.toNatClampNeg 2)) (C := RX8) (T := TX8) (N := 3) hx hb hts (fun _ h => (List.mem_cons_of_mem _ (List.mem_append_right _ h))) hown hK hH 39 x2.toNatClampNeg (by decide) h4.2 rfl rfl 2 (by decide) (va_Nw.use rfl (hG.1 ("BallotFoundry$Person", 31, "BallotFoundry$Stay", "earlier", "LBallotFoundry$Stay;", "BallotFoundry") (List.mem_of_getElem? (i := 34) rfl))) (fun _ h => h) rfl dX4_crossingOn_23 ?_
          refine g_astore_n (lv' := [(2, gst ad (F 39 x2.toNatClampNeg 2)), (1, .int x1)]) hx hb dX4_crossingOn_26 rfl hl (by decide) rfl (fun ls hl => ?_)
          refine lv_goto (tgt := 5) hx hb dX4_crossingOn_27 (by decide) ?_
          exact ih F x1 (F 39 x2.toNatClampNeg 2) _ _ _ hH hS (lv_sub hl [1, 0] rfl) q
        · have q := (if_neg c3).mp q
          refine g_aload_n hx hb dX4_crossingOn_17 rfl (lv_at hl 1 rfl) ?_
          obtain ⟨h5, q⟩ := q
          rw [gst_ref h5.1]
          refine g_getN (ci := 12) (v := .int (F 39 x2.toNatClampNeg 1)) (C := RX8) (T := TX8) (N := 3) hx hb hts (fun _ h => (List.mem_cons_of_mem _ (List.mem_append_right _ h))) hown hK hH 39 x2.toNatClampNeg (by decide) h5.2 rfl rfl 1 (by decide) (va_Nw.use rfl (hG.1 ("BallotFoundry$Person", 28, "BallotFoundry$Stay", "crossing", "I", "BallotFoundry") (List.mem_of_getElem? (i := 33) rfl))) (fun _ h => h) rfl dX4_crossingOn_18 ?_
          exact (W.iret (v := (F 39 x2.toNatClampNeg 1)) hx hb hr (fun t ht hW => ⟨⟨(F 39 x2.toNatClampNeg 1), F, rfl, q, gH_at ht hH⟩, hS.F ht⟩) hS.2.2 dX4_crossingOn_21)
  unfold P_X4_crossingOn at q
  refine lv_aload_n hx hb dX4_crossingOn_0 rfl (lv_at hl 0 rfl) ?_
  refine g_get (ci := 8) (v := gst ad (F 33 i0 1)) (C := RX4) (T := TX4) (N := 3) hx hb hts (fun _ h => (List.mem_cons_of_mem _ (List.mem_append_left _ (List.mem_append_right _ h)))) hown hK hH 33 i0 (by decide) hi0 rfl rfl 1 (by decide) (hts (.fieldLink RX4 15 "BallotFoundry$Person" "latest" "LBallotFoundry$Stay;") (List.mem_of_getElem? (i := 1) rfl)) (fun _ h => h) rfl dX4_crossingOn_1 ?_
  refine g_astore_n (lv' := [(2, gst ad (F 33 i0 1)), (0, .ref (ad 33 i0)), (1, .int p1)]) hx hb dX4_crossingOn_4 rfl hl (by decide) rfl (fun ls hl => ?_)
  obtain ⟨nn, q⟩ := q
  exact t_5 nn F p1 (F 33 i0 1) _ _ _ hH hS (lv_sub hl [2, 0] rfl) q
abbrev rm_X10_move : Room := { frames := 8, cells := 4, slots := 21, locals := 132 }
abbrev q_X10_move (G : GP) (ad : Nat → Nat → Nat) (K : Int32 → GF → Prop) (X : String → GF → Prop) (below : List Frame) (args : Array Value) (s : State) : State → Prop := vx_MQ below (gQa G ad K) (gX G ad X) args s 4 21 (gA G)
set_option maxHeartbeats 4000000 in
set_option maxRecDepth 100000 in
theorem c_X10_move (l : Launch) (hfl : l.stackTraces = false) (G : GP) (ad : Nat → Nat → Nat) (F : GF) (p1 : Int32) (p2 : Int32) (K : Int32 → GF → Prop) (X : String → GF → Prop) : vx_Met l yX10_move wsX10_move rm_X10_move (va_Pc [.ref (ad 0 0), .int p1, .int p2] (fun U => gD G ad F U ∧ P_X10_move F p1 p2 K X)) (gQa G ad K) (gX G ad X) 4 21 (gA G) := by
  refine vx_ofW (cc := cX10_move) (maxL := 5) (ret := (some .int)) (by decide) rfl ?_
  intro p e s m args below meth c s₁ Bd hml hno hv
  obtain ⟨rfl, ⟨hK, hG, hB, hH⟩, q⟩ := hv
  have hx := Bd.exec
  have hb := Bd.bytes
  have hr := Bd.returns
  have hts := atoms_spec (ws := wsX10_move) Bd.pre
  have hown : s.vm.findClass RX10 = some m.cls := findClass_of_methodNamed Bd.named
  have hlocks := Bd.notSynchronized
  have hS : va_S (gA G) s.heap s.heap [] := va_S.rf
  have hl := lv_entry [.ref (ad 0 0), .int p1, .int p2] (n := 5) (Nat.le_of_ble_eq_true rfl)
  rw [lg_entry_eq]
  generalize (lg_sl [.ref (ad 0 0), .int p1, .int p2] ++ List.replicate (5 - (lg_sl [.ref (ad 0 0), .int p1, .int p2]).length) Slot.unset).toArray = ls at hl ⊢
  have hl : lv_has ls 5 [(0, .ref (ad 0 0)), (1, .int p1), (2, .int p2)] := hl
  unfold P_X10_move at q
  refine lv_aload_n hx hb dX10_move_0 rfl (lv_at hl 0 rfl) ?_
  refine lv_iload_n hx hb dX10_move_1 rfl (lv_at hl 1 rfl) ?_
  refine vx_callq (vx_runV (As := [.int p1]) (rest := []) ⟨hx, hb, hml, hown, hts⟩ (c_X10_personAt l hfl G ad F p1 _ _) (cwV 1 hts gX10_move_X10_personAt rfl rfl rfl (by decide +kernel) ⟨Nat.le_of_ble_eq_true rfl, Nat.le_of_ble_eq_true rfl⟩) ⟨fun a U g mk h => ⟨h.1, gD_blind h.2.1, h.2.2⟩, g_recv (C := RX10) (T := TX10) (N := 8) hK hH 0 0 (by decide) Nat.zero_lt_one rfl rfl, fun U hU hW => ⟨rfl, gD_at hK hG hB hH hS hU hW, q⟩⟩ rfl rfl hl.1 rfl (lv_room (Nat.le_of_ble_eq_true rfl)) dX10_move_2 ⟨Nat.le_of_ble_eq_true rfl, Nat.le_of_ble_eq_true rfl⟩) hS (fun _ _ h => h) (fun _ h => h) (fun _ _ h => h) (fun E ce q9 u t H locs ht hvm _ hq hz hk hS hc9 hv9 hcl9 => vx_widen (Nat.le_of_ble_eq_true rfl) (Nat.le_of_ble_eq_true rfl) (vx_out (fun x hx => (hno x hx).elim) hlocks hc9 hv9 hcl9 (fun t1 ht1 hvm1 => ⟨u, trivial, ⟨hq.1, gH_at ht1 (gH_to ht hq.2)⟩, hS.F ht1⟩) hS.2.2 (Nat.le_refl _) (Nat.le_refl _))) (fun r1o r1u t H locs ht hvm q hB1 hz hk hS => ?_)
  obtain ⟨r1, F2⟩ := r1u
  obtain ⟨r1e, r1h, q⟩ := q
  subst r1e
  have hH : gH G ad F2 H := gH_to ht hB1
  show W p l e rm_X10_move s m ([.ref (ad 0 0), .int p1, .int p2] : List Value).toArray below meth c H locs _ _ _ (F0 m _ ls (.ref (ad 33 r1) :: []))
  refine lv_astore_n (lv' := [(3, .ref (ad 33 r1)), (0, .ref (ad 0 0)), (1, .int p1), (2, .int p2)]) hx hb dX10_move_5 rfl hl (by decide) rfl (fun ls hl => ?_)
  refine lv_iload_n hx hb dX10_move_6 rfl (lv_at hl 3 rfl) ?_
  refine vx_callv (vx_runS (As := [.int p2]) (rest := []) ⟨hx, hb, hml, hown, hts⟩ (c_X10_needCrossing l hfl G ad F2 p2 _ _) (va_cwS 1 hts gX10_move_X10_needCrossing rfl rfl rfl (by decide +kernel) ⟨Nat.le_of_ble_eq_true rfl, Nat.le_of_ble_eq_true rfl⟩) ⟨fun a U g mk h => ⟨h.1, gD_blind h.2.1, h.2.2⟩, fun U hU hW => ⟨rfl, gD_at hK hG hB hH hS hU hW, q⟩⟩ rfl rfl hl.1 rfl (lv_room (Nat.le_of_ble_eq_true rfl)) dX10_move_7 ⟨Nat.le_of_ble_eq_true rfl, Nat.le_of_ble_eq_true rfl⟩) hS (fun _ _ h => h) (fun _ h => h) (fun _ _ h => h) (fun E ce q9 u t H locs ht hvm _ hq hz hk hS hc9 hv9 hcl9 => vx_widen (Nat.le_of_ble_eq_true rfl) (Nat.le_of_ble_eq_true rfl) (vx_out (fun x hx => (hno x hx).elim) hlocks hc9 hv9 hcl9 (fun t1 ht1 hvm1 => ⟨u, trivial, ⟨hq.1, gH_at ht1 (gH_to ht hq.2)⟩, hS.F ht1⟩) hS.2.2 (Nat.le_refl _) (Nat.le_refl _))) (fun F4 t H locs ht hvm q hB1 hz hk hS => ?_)
  have hH : gH G ad F4 H := gH_to ht hB1
  refine lv_aload_n hx hb dX10_move_10 rfl (lv_at hl 0 rfl) ?_
  refine vx_callv (vx_runS (As := [.ref (ad 33 r1)]) (rest := []) ⟨hx, hb, hml, hown, hts⟩ (c_X10_needAlive l hfl G ad F4 r1 r1h _ _) (va_cwS 1 hts gX10_move_X10_needAlive rfl rfl rfl (by decide +kernel) ⟨Nat.le_of_ble_eq_true rfl, Nat.le_of_ble_eq_true rfl⟩) ⟨fun a U g mk h => ⟨h.1, gD_blind h.2.1, h.2.2⟩, fun U hU hW => ⟨rfl, gD_at hK hG hB hH hS hU hW, q⟩⟩ rfl rfl hl.1 rfl (lv_room (Nat.le_of_ble_eq_true rfl)) dX10_move_11 ⟨Nat.le_of_ble_eq_true rfl, Nat.le_of_ble_eq_true rfl⟩) hS (fun _ _ h => h) (fun _ h => h) (fun _ _ h => h) (fun E ce q9 u t H locs ht hvm _ hq hz hk hS hc9 hv9 hcl9 => vx_widen (Nat.le_of_ble_eq_true rfl) (Nat.le_of_ble_eq_true rfl) (vx_out (fun x hx => (hno x hx).elim) hlocks hc9 hv9 hcl9 (fun t1 ht1 hvm1 => ⟨u, trivial, ⟨hq.1, gH_at ht1 (gH_to ht hq.2)⟩, hS.F ht1⟩) hS.2.2 (Nat.le_refl _) (Nat.le_refl _))) (fun F6 t H locs ht hvm q hB1 hz hk hS => ?_)
  have hH : gH G ad F6 H := gH_to ht hB1
  refine lv_aload_n hx hb dX10_move_14 rfl (lv_at hl 0 rfl) ?_
  refine lv_aload_n hx hb dX10_move_15 rfl (lv_at hl 1 rfl) ?_
  refine g_get (ci := 14) (v := .int (F6 0 0 5)) (C := RX10) (T := TX10) (N := 8) hx hb hts (fun _ h => (List.mem_cons_of_mem _ (List.mem_append_left _ (List.mem_append_left _ (List.mem_append_left _ (List.mem_append_left _ (List.mem_append_right _ h))))))) hown hK hH 0 0 (by decide) Nat.zero_lt_one rfl rfl 5 (by decide) (hts (.fieldLink RX10 37 "BallotFoundry" "now" "I") (List.mem_of_getElem? (i := 1) rfl)) (fun _ h => h) rfl dX10_move_16 ?_
  refine va_calli (va_runV (As := [.int (F6 0 0 5)]) (rest := []) ⟨hx, hb, hml, hown, hts⟩ (c_X4_crossingOn l G ad F6 r1 (F6 0 0 5) r1h _) (cwV 1 hts gX10_move_X4_crossingOn rfl rfl rfl (by decide +kernel) ⟨Nat.le_of_ble_eq_true rfl, Nat.le_of_ble_eq_true rfl⟩) ⟨fun a U g mk h => ⟨h.1, gD_blind h.2.1, h.2.2⟩, g_recv (C := RX4) (T := TX4) (N := 3) hK hH 33 r1 (by decide) r1h rfl rfl, fun U hU hW => ⟨rfl, gD_at hK hG hB hH hS hU hW, q⟩⟩ rfl rfl hl.1 rfl (lv_room (Nat.le_of_ble_eq_true rfl)) dX10_move_19 ⟨Nat.le_of_ble_eq_true rfl, Nat.le_of_ble_eq_true rfl⟩) hS (fun _ _ h => h) (fun _ h => h) (fun r7 F8 t H locs ht hvm q hB1 hz hk hS => ?_)
  have hH : gH G ad F8 H := gH_to ht hB1
  refine lv_istore (lv' := [(4, .int r7), (3, .ref (ad 33 r1)), (0, .ref (ad 0 0)), (1, .int p1), (2, .int p2)]) hx hb dX10_move_22 hl (by decide) rfl (fun ls hl => ?_)
  refine lv_aload_n hx hb dX10_move_24 rfl (lv_at hl 1 rfl) ?_
  obtain ⟨h11, q⟩ := q
  refine g_newStay hx hb hts (fun _ h => (List.mem_cons_of_mem _ (List.mem_append_left _ (List.mem_append_left _ (List.mem_append_left _ (List.mem_append_right _ h)))))) hown (hts (.classLink RX10 107 RX8) (List.mem_of_getElem? (i := 2) rfl)) (hts (.instantiable RX8 3) (List.mem_of_getElem? (i := 3) rfl)) (hts (.initialized RX8) (List.mem_of_getElem? (i := 4) rfl)) hK hH hS hB h11.1 (by omega) (Nat.le_of_ble_eq_true rfl) (Nat.le_of_ble_eq_true rfl) dX10_move_25 (fun a10 H hH hS => ?_)
  obtain ⟨F9, eF9⟩ : ∃ z, z = fnew F8 := ⟨_, rfl⟩
  have q := q F9 eF9
  rw [← eF9] at hH
  have ha10 : a10 = (gad ad (gcn F8) a10) 39 (gcn F8) := (gad_self _ _ _).symm
  rw [ha10]
  have hna10 : gcn F8 < gcn F9 := by rw [eF9]; exact gcn_new h11.2
  have hma10 : gcn F8 < 2 ^ 31 := by omega
  refine lv_dup hx hb dX10_move_28 rfl ?_
  refine lv_aload_n hx hb dX10_move_29 rfl (lv_at hl 2 rfl) ?_
  refine g_get (ad := (gad ad (gcn F8) a10)) (ci := 14) (v := .int (F9 0 0 5)) (C := RX10) (T := TX10) (N := 8) hx hb hts (fun _ h => (List.mem_cons_of_mem _ (List.mem_append_left _ (List.mem_append_left _ (List.mem_append_left _ (List.mem_append_left _ (List.mem_append_right _ h))))))) hown hK hH 0 0 (by decide) Nat.zero_lt_one rfl rfl 5 (by decide) (hts (.fieldLink RX10 37 "BallotFoundry" "now" "I") (List.mem_of_getElem? (i := 1) rfl)) (fun _ h => h) rfl dX10_move_30 ?_
  refine lv_iload_n hx hb dX10_move_33 rfl (lv_at hl 4 rfl) ?_
  refine lv_aload_n hx hb dX10_move_34 rfl (lv_at hl 1 rfl) ?_
  refine g_getN (ad := (gad ad (gcn F8) a10)) (ci := 8) (v := gst (gad ad (gcn F8) a10) (F9 33 r1 1)) (C := RX4) (T := TX4) (N := 3) hx hb hts (fun _ h => (List.mem_cons_of_mem _ (List.mem_append_left _ (List.mem_append_left _ (List.mem_append_right _ h))))) hown hK hH 33 r1 (by decide) r1h rfl rfl 1 (by decide) (va_Nw.use rfl (hG.1 ("BallotFoundry", 112, "BallotFoundry$Person", "latest", "LBallotFoundry$Stay;", "BallotFoundry") (List.mem_of_getElem? (i := 30) rfl))) (fun _ h => h) rfl dX10_move_35 ?_
  refine va_callv (va_runI (As := [.int (F9 0 0 5), .int p2, gst (gad ad (gcn F8) a10) (F9 33 r1 1)]) (rest := [.ref ((gad ad (gcn F8) a10) 39 (gcn F8)), .ref ((gad ad (gcn F8) a10) 33 r1)]) ⟨hx, hb, hml, hown, hts⟩ (c_X8_init l G (gad ad (gcn F8) a10) F9 (gcn F8) (F9 0 0 5) p2 (F9 33 r1 1) hna10 _) (cwI 3 hts gX10_move_X8_init rfl rfl rfl (hts (.initialized RX8) (List.mem_of_getElem? (i := 4) rfl)) (hts (.methodLink RX10 109 yX8_init) (List.mem_of_getElem? (i := 32) rfl)) (hts (.instanceMethod yX8_init) (List.mem_of_getElem? (i := 33) rfl)) rfl (by decide +kernel) ⟨Nat.le_of_ble_eq_true rfl, Nat.le_of_ble_eq_true rfl⟩) ⟨fun a U g mk h => ⟨h.1, gD_blind h.2.1, h.2.2⟩, fun U hU hW => ⟨rfl, gD_at hK hG hB hH hS hU hW, q⟩⟩ rfl rfl hl.1 rfl (lv_room (Nat.le_of_ble_eq_true rfl)) dX10_move_38 ⟨Nat.le_of_ble_eq_true rfl, Nat.le_of_ble_eq_true rfl⟩) hS (fun _ _ h => h) (fun _ h => h) (fun F12 t H locs ht hvm q hB1 hz hk hS => ?_)
  have hH : gH G (gad ad (gcn F8) a10) F12 H := gH_to ht hB1
  refine g_putN (ad := (gad ad (gcn F8) a10)) (ci := 8) (v := .ref ((gad ad (gcn F8) a10) 39 (gcn F8))) (C := RX4) (T := TX4) (N := 3) hx hb hts (fun _ h => (List.mem_cons_of_mem _ (List.mem_append_left _ (List.mem_append_left _ (List.mem_append_right _ h))))) tyX4 tyX4_ok nmX4 hown hK hH hS 33 r1 (by decide) r1h (by decide) rfl rfl 1 (by decide) (va_Nw.use rfl (hG.1 ("BallotFoundry", 112, "BallotFoundry$Person", "latest", "LBallotFoundry$Stay;", "BallotFoundry") (List.mem_of_getElem? (i := 30) rfl))) (fun _ h => h) rfl (ty := .object "BallotFoundry$Stay") (by decide +kernel) rfl rfl (Nat.le_of_ble_eq_true rfl) (nI (gcn F8)) (gput_latest hma10) dX10_move_41 (fun H locs hH hS => ?_)
  obtain ⟨F13, eF13⟩ : ∃ z, z = fs F12 33 r1 1 (nI (gcn F8)) := ⟨_, rfl⟩
  have q := q F13 eF13
  rw [← eF13] at hH
  refine lv_iload hx hb dX10_move_44 (lv_at hl 0 rfl) ?_
  exact vx_ret (W.iret (v := r7) hx hb hr (fun t ht hW => ⟨⟨r7, (F13, (gad ad (gcn F8) a10)), rfl, ⟨q, fun f i hf => gad_old hf⟩, gH_at ht hH⟩, hS.F ht⟩) hS.2.2 dX10_move_46)
abbrev rm_X3_sealedOf : Room := { frames := 0, cells := 0, slots := 0, locals := 0 }
abbrev q_X3_sealedOf (G : GP) (ad : Nat → Nat → Nat) (K : Int32 → GF → Prop) (below : List Frame) (args : Array Value) (s : State) : State → Prop := MQ below (gQi G ad K) args s 0 0 (gA G)
set_option maxHeartbeats 4000000 in
set_option maxRecDepth 100000 in
theorem c_X3_sealedOf (l : Launch) (G : GP) (ad : Nat → Nat → Nat) (F : GF) (p1 : Int32) (K : Int32 → GF → Prop) : Met l yX3_sealedOf wsX3_sealedOf rm_X3_sealedOf (va_Pc [.ref (ad 16 0), .int p1] (fun U => gD G ad F U ∧ P_X3_sealedOf F p1 K)) (gQi G ad K) 0 0 (gA G) := by
  refine Met.ofW (cc := cX3_sealedOf) (maxL := 3) (ret := (some .int)) (by decide) rfl ?_
  intro p e s m args below meth c s₁ Bd hml hv
  obtain ⟨rfl, ⟨hK, hG, hB, hH⟩, q⟩ := hv
  have hx := Bd.exec
  have hb := Bd.bytes
  have hr := Bd.returns
  have hts := atoms_spec (ws := wsX3_sealedOf) Bd.pre
  have hown : s.vm.findClass RX3 = some m.cls := findClass_of_methodNamed Bd.named
  have hlocks := Bd.notSynchronized
  have hS : va_S (gA G) s.heap s.heap [] := va_S.rf
  have hl := lv_entry [.ref (ad 16 0), .int p1] (n := 3) (Nat.le_of_ble_eq_true rfl)
  rw [lg_entry_eq]
  generalize (lg_sl [.ref (ad 16 0), .int p1] ++ List.replicate (3 - (lg_sl [.ref (ad 16 0), .int p1]).length) Slot.unset).toArray = ls at hl ⊢
  have hl : lv_has ls 3 [(0, .ref (ad 16 0)), (1, .int p1)] := hl
  show W p l e rm_X3_sealedOf s m ([.ref (ad 16 0), .int p1] : List Value).toArray below meth c s.heap [] 0 0 (q_X3_sealedOf G ad K below ([.ref (ad 16 0), .int p1] : List Value).toArray s) _
  have t_31 : ∀ (k2 : GF → Int32 → Int32 → Prop), (∀ (F : GF) (x1 : Int32) (x2 : Int32) (H : Heap) (locs : List Loc) (ls : Array Slot), gH G ad F H → va_S (gA G) s.heap H locs → lv_has ls 3 [(0, .ref (ad 16 0)), (1, .int x1), (2, .int x2)] → k2 F x1 x2 → W p l e rm_X3_sealedOf s m ([.ref (ad 16 0), .int p1] : List Value).toArray below meth c H locs 0 0 (q_X3_sealedOf G ad K below ([.ref (ad 16 0), .int p1] : List Value).toArray s) (F0 m 2 ls [])) → ∀ (F : GF) (x1 : Int32) (x2 : Int32) (H : Heap) (locs : List Loc) (ls : Array Slot), gH G ad F H → va_S (gA G) s.heap H locs → lv_has ls 3 [(0, .ref (ad 16 0)), (1, .int x1), (2, .int x2)] → (P_X3_sealedOf_31 k2 K) F x1 x2 → W p l e rm_X3_sealedOf s m ([.ref (ad 16 0), .int p1] : List Value).toArray below meth c H locs 0 0 (q_X3_sealedOf G ad K below ([.ref (ad 16 0), .int p1] : List Value).toArray s) (F0 m 31 ls []) := by
    intro k2 hk2 F x1 x2 H locs ls hH hS hl q
    unfold P_X3_sealedOf_31 at q
    refine lv_iinc (v := x2 + 1) (lv' := [(2, .int (x2 + 1)), (0, .ref (ad 16 0)), (1, .int x1)]) hx hb dX3_sealedOf_31 hl (k := 2) rfl rfl (by decide) rfl (fun ls hl => ?_)
    refine lv_goto (tgt := 2) hx hb dX3_sealedOf_34 (by decide) ?_
    exact hk2 F x1 (x2 + 1) _ _ _ hH hS (lv_sub hl [1, 2, 0] rfl) q
  have t_2 : ∀ n : Nat, ∀ (F : GF) (x1 : Int32) (x2 : Int32) (H : Heap) (locs : List Loc) (ls : Array Slot), gH G ad F H → va_S (gA G) s.heap H locs → lv_has ls 3 [(0, .ref (ad 16 0)), (1, .int x1), (2, .int x2)] → (P_X3_sealedOf_2 K n) F x1 x2 → W p l e rm_X3_sealedOf s m ([.ref (ad 16 0), .int p1] : List Value).toArray below meth c H locs 0 0 (q_X3_sealedOf G ad K below ([.ref (ad 16 0), .int p1] : List Value).toArray s) (F0 m 2 ls []) := by
    intro n
    induction n with
    | zero =>
      intro F x1 x2 H locs ls hH hS hl q
      exact False.elim q
    | succ n ih =>
      intro F x1 x2 H locs ls hH hS hl q
      rw [P_X3_sealedOf_2] at q
      refine lv_iload_n hx hb dX3_sealedOf_2 rfl (lv_at hl 2 rfl) ?_
      refine lv_aload_n hx hb dX3_sealedOf_3 rfl (lv_at hl 0 rfl) ?_
      refine g_get (ci := 7) (v := .int (F 16 0 3)) (C := RX3) (T := TX3) (N := 4) hx hb hts (fun _ h => (List.mem_cons_of_mem _ (List.mem_append_left _ (List.mem_append_right _ h)))) hown hK hH 16 0 (by decide) Nat.zero_lt_one rfl rfl 3 (by decide) (hts (.fieldLink RX3 21 "BallotFoundry$Envelopes" "size" "I") (List.mem_of_getElem? (i := 1) rfl)) (fun _ h => h) rfl dX3_sealedOf_4 ?_
      refine lv_icmp_ge (tgt := 37) hx hb dX3_sealedOf_7 (by decide) (fun c1 => ?_) (fun c1 => ?_)
      · have q := (if_pos c1).mp q
        refine lv_iconst (v := (-1)) hx hb dX3_sealedOf_37 (by decide) ?_
        exact (W.iret (v := (-1)) hx hb hr (fun t ht hW => ⟨⟨(-1), F, rfl, q, gH_at ht hH⟩, hS.F ht⟩) hS.2.2 dX3_sealedOf_38)
      · have q := (if_neg c1).mp q
        refine lv_aload_n hx hb dX3_sealedOf_10 rfl (lv_at hl 0 rfl) ?_
        refine g_get (ci := 7) (v := .ref (ad 17 0)) (C := RX3) (T := TX3) (N := 4) hx hb hts (fun _ h => (List.mem_cons_of_mem _ (List.mem_append_left _ (List.mem_append_right _ h)))) hown hK hH 16 0 (by decide) Nat.zero_lt_one rfl rfl 0 (by decide) (hts (.fieldLink RX3 9 "BallotFoundry$Envelopes" "people" "[I") (List.mem_of_getElem? (i := 2) rfl)) (fun _ h => h) rfl dX3_sealedOf_11 ?_
        refine lv_iload_n hx hb dX3_sealedOf_14 rfl (lv_at hl 2 rfl) ?_
        obtain ⟨h2, q⟩ := q
        refine g_iald hx hb hK hH 17 0 (by decide) Nat.zero_lt_one 60 rfl h2 dX3_sealedOf_15 ?_
        refine lv_iload_n hx hb dX3_sealedOf_16 rfl (lv_at hl 1 rfl) ?_
        refine lv_icmp_ne (tgt := 31) hx hb dX3_sealedOf_17 (by decide) (fun c3 => ?_) (fun c3 => ?_)
        · have q := (if_neg c3).mp q
          exact t_31 (fun F a0 a1 => P_X3_sealedOf_2 K n F a0 a1) ih F x1 x2 _ _ _ hH hS (lv_sub hl [0, 1, 2] rfl) q
        · have q := (if_pos c3).mp q
          refine lv_aload_n hx hb dX3_sealedOf_20 rfl (lv_at hl 0 rfl) ?_
          refine g_get (ci := 7) (v := .ref (ad 19 0)) (C := RX3) (T := TX3) (N := 4) hx hb hts (fun _ h => (List.mem_cons_of_mem _ (List.mem_append_left _ (List.mem_append_right _ h)))) hown hK hH 16 0 (by decide) Nat.zero_lt_one rfl rfl 2 (by decide) (hts (.fieldLink RX3 18 "BallotFoundry$Envelopes" "states" "[I") (List.mem_of_getElem? (i := 3) rfl)) (fun _ h => h) rfl dX3_sealedOf_21 ?_
          refine lv_iload_n hx hb dX3_sealedOf_24 rfl (lv_at hl 2 rfl) ?_
          obtain ⟨h4, q⟩ := q
          refine g_iald hx hb hK hH 19 0 (by decide) Nat.zero_lt_one 60 rfl h4 dX3_sealedOf_25 ?_
          refine lv_if_ne (tgt := 31) hx hb dX3_sealedOf_26 (by decide) (fun c5 => ?_) (fun c5 => ?_)
          · have q := (if_neg c5).mp q
            exact t_31 (fun F a0 a1 => P_X3_sealedOf_2 K n F a0 a1) ih F x1 x2 _ _ _ hH hS (lv_sub hl [0, 1, 2] rfl) q
          · have q := (if_pos c5).mp q
            refine lv_iload_n hx hb dX3_sealedOf_29 rfl (lv_at hl 2 rfl) ?_
            exact (W.iret (v := x2) hx hb hr (fun t ht hW => ⟨⟨x2, F, rfl, q, gH_at ht hH⟩, hS.F ht⟩) hS.2.2 dX3_sealedOf_30)
  unfold P_X3_sealedOf at q
  refine lv_iconst (v := 0) hx hb dX3_sealedOf_0 (by decide) ?_
  refine lv_istore_n (lv' := [(2, .int 0), (0, .ref (ad 16 0)), (1, .int p1)]) hx hb dX3_sealedOf_1 rfl hl (by decide) rfl (fun ls hl => ?_)
  obtain ⟨nn, q⟩ := q
  exact t_2 nn F p1 0 _ _ _ hH hS (lv_sub hl [1, 2, 0] rfl) q
abbrev rm_X0_write : Room := { frames := 0, cells := 0, slots := 0, locals := 0 }
abbrev q_X0_write (G : GP) (ad : Nat → Nat → Nat) (K : GF → Prop) (below : List Frame) (args : Array Value) (s : State) : State → Prop := MQ below (gQv G ad K) args s 0 0 (gA G)
set_option maxHeartbeats 4000000 in
set_option maxRecDepth 100000 in
theorem c_X0_write (l : Launch) (G : GP) (ad : Nat → Nat → Nat) (F : GF) (p1 : Int32) (p2 : Int32) (p3 : Int32) (K : GF → Prop) : Met l yX0_write wsX0_write rm_X0_write (va_Pc [.ref (ad 21 0), .int p1, .int p2, .int p3] (fun U => gD G ad F U ∧ P_X0_write F p1 p2 p3 K)) (gQv G ad K) 0 0 (gA G) := by
  refine Met.ofW (cc := cX0_write) (maxL := 4) (ret := none) (by decide) rfl ?_
  intro p e s m args below meth c s₁ Bd hml hv
  obtain ⟨rfl, ⟨hK, hG, hB, hH⟩, q⟩ := hv
  have hx := Bd.exec
  have hb := Bd.bytes
  have hr := Bd.returns
  have hts := atoms_spec (ws := wsX0_write) Bd.pre
  have hown : s.vm.findClass RX0 = some m.cls := findClass_of_methodNamed Bd.named
  have hlocks := Bd.notSynchronized
  have hS : va_S (gA G) s.heap s.heap [] := va_S.rf
  have hl := lv_entry [.ref (ad 21 0), .int p1, .int p2, .int p3] (n := 4) (Nat.le_of_ble_eq_true rfl)
  rw [lg_entry_eq]
  generalize (lg_sl [.ref (ad 21 0), .int p1, .int p2, .int p3] ++ List.replicate (4 - (lg_sl [.ref (ad 21 0), .int p1, .int p2, .int p3]).length) Slot.unset).toArray = ls at hl ⊢
  have hl : lv_has ls 4 [(0, .ref (ad 21 0)), (1, .int p1), (2, .int p2), (3, .int p3)] := hl
  unfold P_X0_write at q
  refine lv_aload_n hx hb dX0_write_0 rfl (lv_at hl 0 rfl) ?_
  refine g_get (ci := 4) (v := .int (F 21 0 4)) (C := RX0) (T := TX0) (N := 5) hx hb hts (fun _ h => (List.mem_cons_of_mem _ (List.mem_append_left _ (List.mem_append_right _ h)))) hown hK hH 21 0 (by decide) Nat.zero_lt_one rfl rfl 4 (by decide) (hts (.fieldLink RX0 29 "BallotFoundry$Book" "size" "I") (List.mem_of_getElem? (i := 1) rfl)) (fun _ h => h) rfl dX0_write_1 ?_
  refine lv_sipush (v := 572) hx hb dX0_write_4 (by decide) ?_
  refine lv_icmp_lt (tgt := 11) hx hb dX0_write_7 (by decide) (fun c1 => ?_) (fun c1 => ?_)
  · have q := (if_pos c1).mp q
    refine lv_aload_n hx hb dX0_write_11 rfl (lv_at hl 0 rfl) ?_
    refine g_get (ci := 4) (v := .ref (ad 22 0)) (C := RX0) (T := TX0) (N := 5) hx hb hts (fun _ h => (List.mem_cons_of_mem _ (List.mem_append_left _ (List.mem_append_right _ h)))) hown hK hH 21 0 (by decide) Nat.zero_lt_one rfl rfl 0 (by decide) (hts (.fieldLink RX0 9 "BallotFoundry$Book" "days" "[I") (List.mem_of_getElem? (i := 2) rfl)) (fun _ h => h) rfl dX0_write_12 ?_
    refine lv_aload_n hx hb dX0_write_15 rfl (lv_at hl 0 rfl) ?_
    refine g_get (ci := 4) (v := .int (F 21 0 4)) (C := RX0) (T := TX0) (N := 5) hx hb hts (fun _ h => (List.mem_cons_of_mem _ (List.mem_append_left _ (List.mem_append_right _ h)))) hown hK hH 21 0 (by decide) Nat.zero_lt_one rfl rfl 4 (by decide) (hts (.fieldLink RX0 29 "BallotFoundry$Book" "size" "I") (List.mem_of_getElem? (i := 1) rfl)) (fun _ h => h) rfl dX0_write_16 ?_
    refine lv_iload_n hx hb dX0_write_19 rfl (lv_at hl 1 rfl) ?_
    obtain ⟨h2, q⟩ := q
    refine g_iast hx hb hK hH hS 22 0 (by decide) Nat.zero_lt_one (by decide) 572 (fun _ => rfl) h2 dX0_write_20 (fun H locs hH hS => ?_)
    obtain ⟨F3, eF3⟩ : ∃ z, z = fs F 22 0 (F 21 0 4).toNatClampNeg p1 := ⟨_, rfl⟩
    have q := q F3 eF3
    rw [← eF3] at hH
    refine lv_aload_n hx hb dX0_write_21 rfl (lv_at hl 0 rfl) ?_
    refine g_get (ci := 4) (v := .ref (ad 23 0)) (C := RX0) (T := TX0) (N := 5) hx hb hts (fun _ h => (List.mem_cons_of_mem _ (List.mem_append_left _ (List.mem_append_right _ h)))) hown hK hH 21 0 (by decide) Nat.zero_lt_one rfl rfl 1 (by decide) (hts (.fieldLink RX0 15 "BallotFoundry$Book" "signs" "[C") (List.mem_of_getElem? (i := 3) rfl)) (fun _ h => h) rfl dX0_write_22 ?_
    refine lv_aload_n hx hb dX0_write_25 rfl (lv_at hl 0 rfl) ?_
    refine g_get (ci := 4) (v := .int (F3 21 0 4)) (C := RX0) (T := TX0) (N := 5) hx hb hts (fun _ h => (List.mem_cons_of_mem _ (List.mem_append_left _ (List.mem_append_right _ h)))) hown hK hH 21 0 (by decide) Nat.zero_lt_one rfl rfl 4 (by decide) (hts (.fieldLink RX0 29 "BallotFoundry$Book" "size" "I") (List.mem_of_getElem? (i := 1) rfl)) (fun _ h => h) rfl dX0_write_26 ?_
    refine lv_iload_n hx hb dX0_write_29 rfl (lv_at hl 2 rfl) ?_
    obtain ⟨h4, q⟩ := q
    refine g_cast hx hb hK hH hS 23 0 (by decide) Nat.zero_lt_one (by decide) 572 (fun _ => rfl) h4 dX0_write_30 (fun H locs hH hS => ?_)
    obtain ⟨F5, eF5⟩ : ∃ z, z = fs F3 23 0 (F3 21 0 4).toNatClampNeg (vp_nar .char p2) := ⟨_, rfl⟩
    have q := q F5 eF5
    rw [← eF5] at hH
    refine lv_aload_n hx hb dX0_write_31 rfl (lv_at hl 0 rfl) ?_
    refine g_get (ci := 4) (v := .ref (ad 24 0)) (C := RX0) (T := TX0) (N := 5) hx hb hts (fun _ h => (List.mem_cons_of_mem _ (List.mem_append_left _ (List.mem_append_right _ h)))) hown hK hH 21 0 (by decide) Nat.zero_lt_one rfl rfl 2 (by decide) (hts (.fieldLink RX0 19 "BallotFoundry$Book" "numbers" "[I") (List.mem_of_getElem? (i := 4) rfl)) (fun _ h => h) rfl dX0_write_32 ?_
    refine lv_aload_n hx hb dX0_write_35 rfl (lv_at hl 0 rfl) ?_
    refine g_get (ci := 4) (v := .int (F5 21 0 4)) (C := RX0) (T := TX0) (N := 5) hx hb hts (fun _ h => (List.mem_cons_of_mem _ (List.mem_append_left _ (List.mem_append_right _ h)))) hown hK hH 21 0 (by decide) Nat.zero_lt_one rfl rfl 4 (by decide) (hts (.fieldLink RX0 29 "BallotFoundry$Book" "size" "I") (List.mem_of_getElem? (i := 1) rfl)) (fun _ h => h) rfl dX0_write_36 ?_
    refine lv_iload_n hx hb dX0_write_39 rfl (lv_at hl 3 rfl) ?_
    obtain ⟨h6, q⟩ := q
    refine g_iast hx hb hK hH hS 24 0 (by decide) Nat.zero_lt_one (by decide) 572 (fun _ => rfl) h6 dX0_write_40 (fun H locs hH hS => ?_)
    obtain ⟨F7, eF7⟩ : ∃ z, z = fs F5 24 0 (F5 21 0 4).toNatClampNeg p3 := ⟨_, rfl⟩
    have q := q F7 eF7
    rw [← eF7] at hH
    refine lv_aload_n hx hb dX0_write_41 rfl (lv_at hl 0 rfl) ?_
    refine lv_dup hx hb dX0_write_42 rfl ?_
    refine g_get (ci := 4) (v := .int (F7 21 0 4)) (C := RX0) (T := TX0) (N := 5) hx hb hts (fun _ h => (List.mem_cons_of_mem _ (List.mem_append_left _ (List.mem_append_right _ h)))) hown hK hH 21 0 (by decide) Nat.zero_lt_one rfl rfl 4 (by decide) (hts (.fieldLink RX0 29 "BallotFoundry$Book" "size" "I") (List.mem_of_getElem? (i := 1) rfl)) (fun _ h => h) rfl dX0_write_43 ?_
    refine lv_iconst (v := 1) hx hb dX0_write_46 (by decide) ?_
    refine lv_iadd hx hb dX0_write_47 ?_
    refine g_put (ci := 4) (v := .int ((F7 21 0 4) + 1)) (C := RX0) (T := TX0) (N := 5) hx hb hts (fun _ h => (List.mem_cons_of_mem _ (List.mem_append_left _ (List.mem_append_right _ h)))) tyX0 tyX0_ok nmX0 hown hK hH hS 21 0 (by decide) Nat.zero_lt_one (by decide) rfl rfl 4 (by decide) (hts (.fieldLink RX0 29 "BallotFoundry$Book" "size" "I") (List.mem_of_getElem? (i := 1) rfl)) (fun _ h => h) rfl (ty := .int) (by decide +kernel) rfl rfl (Nat.le_of_ble_eq_true rfl) ((F7 21 0 4) + 1) rfl dX0_write_48 (fun H locs hH hS => ?_)
    obtain ⟨F8, eF8⟩ : ∃ z, z = fs F7 21 0 4 ((F7 21 0 4) + 1) := ⟨_, rfl⟩
    have q := q F8 eF8
    rw [← eF8] at hH
    exact (W.vret hx hb hr (fun t ht hW => ⟨⟨F8, rfl, q, gH_at ht hH⟩, hS.F ht⟩) hS.2.2 dX0_write_51)
  · have q := (if_neg c1).mp q
    exact (W.vret hx hb hr (fun t ht hW => ⟨⟨F, rfl, q, gH_at ht hH⟩, hS.F ht⟩) hS.2.2 dX0_write_10)
abbrev rm_X10_voidEnvelopeOf : Room := { frames := 1, cells := 0, slots := 0, locals := 23 }
abbrev q_X10_voidEnvelopeOf (G : GP) (ad : Nat → Nat → Nat) (K : Int32 → GF → Prop) (below : List Frame) (args : Array Value) (s : State) : State → Prop := MQ below (gQi G ad K) args s 0 0 (gA G)
set_option maxHeartbeats 4000000 in
set_option maxRecDepth 100000 in
theorem c_X10_voidEnvelopeOf (l : Launch) (G : GP) (ad : Nat → Nat → Nat) (F : GF) (p1 : Int32) (K : Int32 → GF → Prop) : Met l yX10_voidEnvelopeOf wsX10_voidEnvelopeOf rm_X10_voidEnvelopeOf (va_Pc [.ref (ad 0 0), .int p1] (fun U => gD G ad F U ∧ P_X10_voidEnvelopeOf F p1 K)) (gQi G ad K) 0 0 (gA G) := by
  refine Met.ofW (cc := cX10_voidEnvelopeOf) (maxL := 3) (ret := (some .boolean)) (by decide) rfl ?_
  intro p e s m args below meth c s₁ Bd hml hv
  obtain ⟨rfl, ⟨hK, hG, hB, hH⟩, q⟩ := hv
  have hx := Bd.exec
  have hb := Bd.bytes
  have hr := Bd.returns
  have hts := atoms_spec (ws := wsX10_voidEnvelopeOf) Bd.pre
  have hown : s.vm.findClass RX10 = some m.cls := findClass_of_methodNamed Bd.named
  have hlocks := Bd.notSynchronized
  have hS : va_S (gA G) s.heap s.heap [] := va_S.rf
  have hl := lv_entry [.ref (ad 0 0), .int p1] (n := 3) (Nat.le_of_ble_eq_true rfl)
  rw [lg_entry_eq]
  generalize (lg_sl [.ref (ad 0 0), .int p1] ++ List.replicate (3 - (lg_sl [.ref (ad 0 0), .int p1]).length) Slot.unset).toArray = ls at hl ⊢
  have hl : lv_has ls 3 [(0, .ref (ad 0 0)), (1, .int p1)] := hl
  unfold P_X10_voidEnvelopeOf at q
  refine lv_aload_n hx hb dX10_voidEnvelopeOf_0 rfl (lv_at hl 0 rfl) ?_
  refine g_get (ci := 14) (v := .ref (ad 10 0)) (C := RX10) (T := TX10) (N := 8) hx hb hts (fun _ h => (List.mem_cons_of_mem _ (List.mem_append_left _ (List.mem_append_left _ (List.mem_append_left _ (List.mem_append_left _ (List.mem_append_right _ h))))))) hown hK hH 0 0 (by decide) Nat.zero_lt_one rfl rfl 6 (by decide) (hts (.fieldLink RX10 43 "BallotFoundry" "election" "LBallotFoundry$Election;") (List.mem_of_getElem? (i := 1) rfl)) (fun _ h => h) rfl dX10_voidEnvelopeOf_1 ?_
  refine g_getN (ci := 6) (v := .ref (ad 16 0)) (C := RX2) (T := TX2) (N := 10) hx hb hts (fun _ h => (List.mem_cons_of_mem _ (List.mem_append_left _ (List.mem_append_left _ (List.mem_append_left _ (List.mem_append_right _ h)))))) hown hK hH 10 0 (by decide) Nat.zero_lt_one rfl rfl 7 (by decide) (va_Nw.use rfl (hG.1 ("BallotFoundry", 185, "BallotFoundry$Election", "envelopes", "LBallotFoundry$Envelopes;", "BallotFoundry") (List.mem_of_getElem? (i := 23) rfl))) (fun _ h => h) rfl dX10_voidEnvelopeOf_4 ?_
  refine lv_iload_n hx hb dX10_voidEnvelopeOf_7 rfl (lv_at hl 1 rfl) ?_
  refine va_calli (va_runV (As := [.int p1]) (rest := []) ⟨hx, hb, hml, hown, hts⟩ (c_X3_sealedOf l G ad F p1 _) (cwV 1 hts gX10_voidEnvelopeOf_X3_sealedOf rfl rfl rfl (by decide +kernel) ⟨Nat.le_of_ble_eq_true rfl, Nat.le_of_ble_eq_true rfl⟩) ⟨fun a U g mk h => ⟨h.1, gD_blind h.2.1, h.2.2⟩, g_recv (C := RX3) (T := TX3) (N := 4) hK hH 16 0 (by decide) Nat.zero_lt_one rfl rfl, fun U hU hW => ⟨rfl, gD_at hK hG hB hH hS hU hW, q⟩⟩ rfl rfl hl.1 rfl (lv_room (Nat.le_of_ble_eq_true rfl)) dX10_voidEnvelopeOf_8 ⟨Nat.le_of_ble_eq_true rfl, Nat.le_of_ble_eq_true rfl⟩) hS (fun _ _ h => h) (fun _ h => h) (fun r1 F2 t H locs ht hvm q hB1 hz hk hS => ?_)
  have hH : gH G ad F2 H := gH_to ht hB1
  refine lv_istore_n (lv' := [(2, .int r1), (0, .ref (ad 0 0)), (1, .int p1)]) hx hb dX10_voidEnvelopeOf_11 rfl hl (by decide) rfl (fun ls hl => ?_)
  refine lv_iload_n hx hb dX10_voidEnvelopeOf_12 rfl (lv_at hl 0 rfl) ?_
  refine lv_iconst (v := (-1)) hx hb dX10_voidEnvelopeOf_13 (by decide) ?_
  refine lv_icmp_ne (tgt := 19) hx hb dX10_voidEnvelopeOf_14 (by decide) (fun c3 => ?_) (fun c3 => ?_)
  · have q := (if_neg c3).mp q
    refine lv_aload_n hx hb dX10_voidEnvelopeOf_19 rfl (lv_at hl 1 rfl) ?_
    refine g_get (ci := 14) (v := .ref (ad 10 0)) (C := RX10) (T := TX10) (N := 8) hx hb hts (fun _ h => (List.mem_cons_of_mem _ (List.mem_append_left _ (List.mem_append_left _ (List.mem_append_left _ (List.mem_append_left _ (List.mem_append_right _ h))))))) hown hK hH 0 0 (by decide) Nat.zero_lt_one rfl rfl 6 (by decide) (hts (.fieldLink RX10 43 "BallotFoundry" "election" "LBallotFoundry$Election;") (List.mem_of_getElem? (i := 1) rfl)) (fun _ h => h) rfl dX10_voidEnvelopeOf_20 ?_
    refine g_getN (ci := 6) (v := .ref (ad 16 0)) (C := RX2) (T := TX2) (N := 10) hx hb hts (fun _ h => (List.mem_cons_of_mem _ (List.mem_append_left _ (List.mem_append_left _ (List.mem_append_left _ (List.mem_append_right _ h)))))) hown hK hH 10 0 (by decide) Nat.zero_lt_one rfl rfl 7 (by decide) (va_Nw.use rfl (hG.1 ("BallotFoundry", 185, "BallotFoundry$Election", "envelopes", "LBallotFoundry$Envelopes;", "BallotFoundry") (List.mem_of_getElem? (i := 23) rfl))) (fun _ h => h) rfl dX10_voidEnvelopeOf_23 ?_
    refine g_getN (ci := 7) (v := .ref (ad 19 0)) (C := RX3) (T := TX3) (N := 4) hx hb hts (fun _ h => (List.mem_cons_of_mem _ (List.mem_append_left _ (List.mem_append_left _ (List.mem_append_right _ h))))) hown hK hH 16 0 (by decide) Nat.zero_lt_one rfl rfl 2 (by decide) (va_Nw.use rfl (hG.1 ("BallotFoundry", 236, "BallotFoundry$Envelopes", "states", "[I", "BallotFoundry") (List.mem_of_getElem? (i := 9) rfl))) (fun _ h => h) rfl dX10_voidEnvelopeOf_26 ?_
    refine lv_iload_n hx hb dX10_voidEnvelopeOf_29 rfl (lv_at hl 0 rfl) ?_
    refine lv_iconst (v := 1) hx hb dX10_voidEnvelopeOf_30 (by decide) ?_
    obtain ⟨h4, q⟩ := q
    refine g_iast hx hb hK hH hS 19 0 (by decide) Nat.zero_lt_one (by decide) 60 (fun _ => rfl) h4 dX10_voidEnvelopeOf_31 (fun H locs hH hS => ?_)
    obtain ⟨F5, eF5⟩ : ∃ z, z = fs F2 19 0 r1.toNatClampNeg 1 := ⟨_, rfl⟩
    have q := q F5 eF5
    rw [← eF5] at hH
    refine lv_aload_n hx hb dX10_voidEnvelopeOf_32 rfl (lv_at hl 1 rfl) ?_
    refine g_get (ci := 14) (v := .ref (ad 10 0)) (C := RX10) (T := TX10) (N := 8) hx hb hts (fun _ h => (List.mem_cons_of_mem _ (List.mem_append_left _ (List.mem_append_left _ (List.mem_append_left _ (List.mem_append_left _ (List.mem_append_right _ h))))))) hown hK hH 0 0 (by decide) Nat.zero_lt_one rfl rfl 6 (by decide) (hts (.fieldLink RX10 43 "BallotFoundry" "election" "LBallotFoundry$Election;") (List.mem_of_getElem? (i := 1) rfl)) (fun _ h => h) rfl dX10_voidEnvelopeOf_33 ?_
    refine g_getN (ci := 6) (v := .ref (ad 21 0)) (C := RX2) (T := TX2) (N := 10) hx hb hts (fun _ h => (List.mem_cons_of_mem _ (List.mem_append_left _ (List.mem_append_left _ (List.mem_append_left _ (List.mem_append_right _ h)))))) hown hK hH 10 0 (by decide) Nat.zero_lt_one rfl rfl 9 (by decide) (va_Nw.use rfl (hG.1 ("BallotFoundry", 194, "BallotFoundry$Election", "book", "LBallotFoundry$Book;", "BallotFoundry") (List.mem_of_getElem? (i := 25) rfl))) (fun _ h => h) rfl dX10_voidEnvelopeOf_36 ?_
    refine lv_aload_n hx hb dX10_voidEnvelopeOf_39 rfl (lv_at hl 1 rfl) ?_
    refine g_get (ci := 14) (v := .int (F5 0 0 5)) (C := RX10) (T := TX10) (N := 8) hx hb hts (fun _ h => (List.mem_cons_of_mem _ (List.mem_append_left _ (List.mem_append_left _ (List.mem_append_left _ (List.mem_append_left _ (List.mem_append_right _ h))))))) hown hK hH 0 0 (by decide) Nat.zero_lt_one rfl rfl 5 (by decide) (hts (.fieldLink RX10 37 "BallotFoundry" "now" "I") (List.mem_of_getElem? (i := 2) rfl)) (fun _ h => h) rfl dX10_voidEnvelopeOf_40 ?_
    refine lv_bipush (v := 120) hx hb dX10_voidEnvelopeOf_43 (by decide) ?_
    refine lv_iload_n hx hb dX10_voidEnvelopeOf_45 rfl (lv_at hl 2 rfl) ?_
    refine va_callv (va_runV (As := [.int (F5 0 0 5), .int 120, .int p1]) (rest := []) ⟨hx, hb, hml, hown, hts⟩ (c_X0_write l G ad F5 (F5 0 0 5) 120 p1 _) (cwV 3 hts gX10_voidEnvelopeOf_X0_write rfl rfl rfl (by decide +kernel) ⟨Nat.le_of_ble_eq_true rfl, Nat.le_of_ble_eq_true rfl⟩) ⟨fun a U g mk h => ⟨h.1, gD_blind h.2.1, h.2.2⟩, g_recv (C := RX0) (T := TX0) (N := 5) hK hH 21 0 (by decide) Nat.zero_lt_one rfl rfl, fun U hU hW => ⟨rfl, gD_at hK hG hB hH hS hU hW, q⟩⟩ rfl rfl hl.1 rfl (lv_room (Nat.le_of_ble_eq_true rfl)) dX10_voidEnvelopeOf_46 ⟨Nat.le_of_ble_eq_true rfl, Nat.le_of_ble_eq_true rfl⟩) hS (fun _ _ h => h) (fun _ h => h) (fun F7 t H locs ht hvm q hB1 hz hk hS => ?_)
    have hH : gH G ad F7 H := gH_to ht hB1
    refine lv_iconst (v := 1) hx hb dX10_voidEnvelopeOf_49 (by decide) ?_
    exact (W.zret (v := 1) hx hb hr rfl (fun t ht hW => ⟨⟨1, F7, rfl, q, gH_at ht hH⟩, hS.F ht⟩) hS.2.2 dX10_voidEnvelopeOf_50)
  · have q := (if_pos c3).mp q
    refine lv_iconst (v := 0) hx hb dX10_voidEnvelopeOf_17 (by decide) ?_
    exact (W.zret (v := 0) hx hb hr rfl (fun t ht hW => ⟨⟨0, F2, rfl, q, gH_at ht hH⟩, hS.F ht⟩) hS.2.2 dX10_voidEnvelopeOf_18)
abbrev rm_X10_die : Room := { frames := 8, cells := 2, slots := 12, locals := 132 }
abbrev q_X10_die (G : GP) (ad : Nat → Nat → Nat) (K : Int32 → GF → Prop) (X : String → GF → Prop) (below : List Frame) (args : Array Value) (s : State) : State → Prop := vx_MQ below (gQi G ad K) (gX G ad X) args s 2 12 (gA G)
set_option maxHeartbeats 4000000 in
set_option maxRecDepth 100000 in
theorem c_X10_die (l : Launch) (hfl : l.stackTraces = false) (G : GP) (ad : Nat → Nat → Nat) (F : GF) (p1 : Int32) (K : Int32 → GF → Prop) (X : String → GF → Prop) : vx_Met l yX10_die wsX10_die rm_X10_die (va_Pc [.ref (ad 0 0), .int p1] (fun U => gD G ad F U ∧ P_X10_die F p1 K X)) (gQi G ad K) (gX G ad X) 2 12 (gA G) := by
  refine vx_ofW (cc := cX10_die) (maxL := 3) (ret := (some .boolean)) (by decide) rfl ?_
  intro p e s m args below meth c s₁ Bd hml hno hv
  obtain ⟨rfl, ⟨hK, hG, hB, hH⟩, q⟩ := hv
  have hx := Bd.exec
  have hb := Bd.bytes
  have hr := Bd.returns
  have hts := atoms_spec (ws := wsX10_die) Bd.pre
  have hown : s.vm.findClass RX10 = some m.cls := findClass_of_methodNamed Bd.named
  have hlocks := Bd.notSynchronized
  have hS : va_S (gA G) s.heap s.heap [] := va_S.rf
  have hl := lv_entry [.ref (ad 0 0), .int p1] (n := 3) (Nat.le_of_ble_eq_true rfl)
  rw [lg_entry_eq]
  generalize (lg_sl [.ref (ad 0 0), .int p1] ++ List.replicate (3 - (lg_sl [.ref (ad 0 0), .int p1]).length) Slot.unset).toArray = ls at hl ⊢
  have hl : lv_has ls 3 [(0, .ref (ad 0 0)), (1, .int p1)] := hl
  unfold P_X10_die at q
  refine lv_aload_n hx hb dX10_die_0 rfl (lv_at hl 0 rfl) ?_
  refine lv_iload_n hx hb dX10_die_1 rfl (lv_at hl 1 rfl) ?_
  refine vx_callq (vx_runV (As := [.int p1]) (rest := []) ⟨hx, hb, hml, hown, hts⟩ (c_X10_personAt l hfl G ad F p1 _ _) (cwV 1 hts gX10_die_X10_personAt rfl rfl rfl (by decide +kernel) ⟨Nat.le_of_ble_eq_true rfl, Nat.le_of_ble_eq_true rfl⟩) ⟨fun a U g mk h => ⟨h.1, gD_blind h.2.1, h.2.2⟩, g_recv (C := RX10) (T := TX10) (N := 8) hK hH 0 0 (by decide) Nat.zero_lt_one rfl rfl, fun U hU hW => ⟨rfl, gD_at hK hG hB hH hS hU hW, q⟩⟩ rfl rfl hl.1 rfl (lv_room (Nat.le_of_ble_eq_true rfl)) dX10_die_2 ⟨Nat.le_of_ble_eq_true rfl, Nat.le_of_ble_eq_true rfl⟩) hS (fun _ _ h => h) (fun _ h => h) (fun _ _ h => h) (fun E ce q9 u t H locs ht hvm _ hq hz hk hS hc9 hv9 hcl9 => vx_widen (Nat.le_of_ble_eq_true rfl) (Nat.le_of_ble_eq_true rfl) (vx_out (fun x hx => (hno x hx).elim) hlocks hc9 hv9 hcl9 (fun t1 ht1 hvm1 => ⟨u, trivial, ⟨hq.1, gH_at ht1 (gH_to ht hq.2)⟩, hS.F ht1⟩) hS.2.2 (Nat.le_refl _) (Nat.le_refl _))) (fun r1o r1u t H locs ht hvm q hB1 hz hk hS => ?_)
  obtain ⟨r1, F2⟩ := r1u
  obtain ⟨r1e, r1h, q⟩ := q
  subst r1e
  have hH : gH G ad F2 H := gH_to ht hB1
  show W p l e rm_X10_die s m ([.ref (ad 0 0), .int p1] : List Value).toArray below meth c H locs _ _ _ (F0 m _ ls (.ref (ad 33 r1) :: []))
  refine lv_astore_n (lv' := [(2, .ref (ad 33 r1)), (0, .ref (ad 0 0)), (1, .int p1)]) hx hb dX10_die_5 rfl hl (by decide) rfl (fun ls hl => ?_)
  refine lv_aload_n hx hb dX10_die_6 rfl (lv_at hl 0 rfl) ?_
  refine vx_callv (vx_runS (As := [.ref (ad 33 r1)]) (rest := []) ⟨hx, hb, hml, hown, hts⟩ (c_X10_needAlive l hfl G ad F2 r1 r1h _ _) (va_cwS 1 hts gX10_die_X10_needAlive rfl rfl rfl (by decide +kernel) ⟨Nat.le_of_ble_eq_true rfl, Nat.le_of_ble_eq_true rfl⟩) ⟨fun a U g mk h => ⟨h.1, gD_blind h.2.1, h.2.2⟩, fun U hU hW => ⟨rfl, gD_at hK hG hB hH hS hU hW, q⟩⟩ rfl rfl hl.1 rfl (lv_room (Nat.le_of_ble_eq_true rfl)) dX10_die_7 ⟨Nat.le_of_ble_eq_true rfl, Nat.le_of_ble_eq_true rfl⟩) hS (fun _ _ h => h) (fun _ h => h) (fun _ _ h => h) (fun E ce q9 u t H locs ht hvm _ hq hz hk hS hc9 hv9 hcl9 => vx_widen (Nat.le_of_ble_eq_true rfl) (Nat.le_of_ble_eq_true rfl) (vx_out (fun x hx => (hno x hx).elim) hlocks hc9 hv9 hcl9 (fun t1 ht1 hvm1 => ⟨u, trivial, ⟨hq.1, gH_at ht1 (gH_to ht hq.2)⟩, hS.F ht1⟩) hS.2.2 (Nat.le_refl _) (Nat.le_refl _))) (fun F4 t H locs ht hvm q hB1 hz hk hS => ?_)
  have hH : gH G ad F4 H := gH_to ht hB1
  refine lv_aload_n hx hb dX10_die_10 rfl (lv_at hl 0 rfl) ?_
  refine lv_iconst (v := 1) hx hb dX10_die_11 (by decide) ?_
  refine g_putN (ci := 8) (v := .int 1) (C := RX4) (T := TX4) (N := 3) hx hb hts (fun _ h => (List.mem_cons_of_mem _ (List.mem_append_left _ (List.mem_append_left _ (List.mem_append_left _ (List.mem_append_left _ (List.mem_append_left _ (List.mem_append_left _ (List.mem_append_left _ (List.mem_append_right _ h)))))))))) tyX4 tyX4_ok nmX4 hown hK hH hS 33 r1 (by decide) r1h (by decide) rfl rfl 2 (by decide) (va_Nw.use rfl (hG.1 ("BallotFoundry", 127, "BallotFoundry$Person", "hasDied", "Z", "BallotFoundry") (List.mem_of_getElem? (i := 31) rfl))) (fun _ h => h) rfl (ty := .boolean) (by decide +kernel) rfl rfl (Nat.le_of_ble_eq_true rfl) 1 rfl dX10_die_12 (fun H locs hH hS => ?_)
  obtain ⟨F5, eF5⟩ : ∃ z, z = fs F4 33 r1 2 1 := ⟨_, rfl⟩
  have q := q F5 eF5
  rw [← eF5] at hH
  refine lv_aload_n hx hb dX10_die_15 rfl (lv_at hl 1 rfl) ?_
  refine lv_iload_n hx hb dX10_die_16 rfl (lv_at hl 2 rfl) ?_
  refine va_calli (va_runV (As := [.int p1]) (rest := []) ⟨hx, hb, hml, hown, hts⟩ (c_X10_voidEnvelopeOf l G ad F5 p1 _) (cwV 1 hts gX10_die_X10_voidEnvelopeOf rfl rfl rfl (by decide +kernel) ⟨Nat.le_of_ble_eq_true rfl, Nat.le_of_ble_eq_true rfl⟩) ⟨fun a U g mk h => ⟨h.1, gD_blind h.2.1, h.2.2⟩, g_recv (C := RX10) (T := TX10) (N := 8) hK hH 0 0 (by decide) Nat.zero_lt_one rfl rfl, fun U hU hW => ⟨rfl, gD_at hK hG hB hH hS hU hW, q⟩⟩ rfl rfl hl.1 rfl (lv_room (Nat.le_of_ble_eq_true rfl)) dX10_die_17 ⟨Nat.le_of_ble_eq_true rfl, Nat.le_of_ble_eq_true rfl⟩) hS (fun _ _ h => h) (fun _ h => h) (fun r6 F7 t H locs ht hvm q hB1 hz hk hS => ?_)
  have hH : gH G ad F7 H := gH_to ht hB1
  obtain ⟨h8, q⟩ := q
  exact vx_ret (W.zret (v := r6) hx hb hr (gz_nar h8) (fun t ht hW => ⟨⟨r6, F7, rfl, q, gH_at ht hH⟩, hS.F ht⟩) hS.2.2 dX10_die_20)
abbrev rm_X10_dwells : Room := { frames := 8, cells := 2, slots := 12, locals := 132 }
abbrev q_X10_dwells (G : GP) (ad : Nat → Nat → Nat) (K : Int32 → GF → Prop) (X : String → GF → Prop) (below : List Frame) (args : Array Value) (s : State) : State → Prop := vx_MQ below (gQi G ad K) (gX G ad X) args s 2 12 (gA G)
set_option maxHeartbeats 4000000 in
set_option maxRecDepth 100000 in
theorem c_X10_dwells (l : Launch) (hfl : l.stackTraces = false) (G : GP) (ad : Nat → Nat → Nat) (F : GF) (p1 : Int32) (p2 : Int32) (K : Int32 → GF → Prop) (X : String → GF → Prop) : vx_Met l yX10_dwells wsX10_dwells rm_X10_dwells (va_Pc [.ref (ad 0 0), .int p1, .int p2] (fun U => gD G ad F U ∧ P_X10_dwells F p1 p2 K X)) (gQi G ad K) (gX G ad X) 2 12 (gA G) := by
  refine vx_ofW (cc := cX10_dwells) (maxL := 4) (ret := (some .int)) (by decide) rfl ?_
  intro p e s m args below meth c s₁ Bd hml hno hv
  obtain ⟨rfl, ⟨hK, hG, hB, hH⟩, q⟩ := hv
  have hx := Bd.exec
  have hb := Bd.bytes
  have hr := Bd.returns
  have hts := atoms_spec (ws := wsX10_dwells) Bd.pre
  have hown : s.vm.findClass RX10 = some m.cls := findClass_of_methodNamed Bd.named
  have hlocks := Bd.notSynchronized
  have hS : va_S (gA G) s.heap s.heap [] := va_S.rf
  have hl := lv_entry [.ref (ad 0 0), .int p1, .int p2] (n := 4) (Nat.le_of_ble_eq_true rfl)
  rw [lg_entry_eq]
  generalize (lg_sl [.ref (ad 0 0), .int p1, .int p2] ++ List.replicate (4 - (lg_sl [.ref (ad 0 0), .int p1, .int p2]).length) Slot.unset).toArray = ls at hl ⊢
  have hl : lv_has ls 4 [(0, .ref (ad 0 0)), (1, .int p1), (2, .int p2)] := hl
  unfold P_X10_dwells at q
  refine lv_aload_n hx hb dX10_dwells_0 rfl (lv_at hl 0 rfl) ?_
  refine lv_iload_n hx hb dX10_dwells_1 rfl (lv_at hl 1 rfl) ?_
  refine vx_callq (vx_runV (As := [.int p1]) (rest := []) ⟨hx, hb, hml, hown, hts⟩ (c_X10_personAt l hfl G ad F p1 _ _) (cwV 1 hts gX10_dwells_X10_personAt rfl rfl rfl (by decide +kernel) ⟨Nat.le_of_ble_eq_true rfl, Nat.le_of_ble_eq_true rfl⟩) ⟨fun a U g mk h => ⟨h.1, gD_blind h.2.1, h.2.2⟩, g_recv (C := RX10) (T := TX10) (N := 8) hK hH 0 0 (by decide) Nat.zero_lt_one rfl rfl, fun U hU hW => ⟨rfl, gD_at hK hG hB hH hS hU hW, q⟩⟩ rfl rfl hl.1 rfl (lv_room (Nat.le_of_ble_eq_true rfl)) dX10_dwells_2 ⟨Nat.le_of_ble_eq_true rfl, Nat.le_of_ble_eq_true rfl⟩) hS (fun _ _ h => h) (fun _ h => h) (fun _ _ h => h) (fun E ce q9 u t H locs ht hvm _ hq hz hk hS hc9 hv9 hcl9 => vx_widen (Nat.le_of_ble_eq_true rfl) (Nat.le_of_ble_eq_true rfl) (vx_out (fun x hx => (hno x hx).elim) hlocks hc9 hv9 hcl9 (fun t1 ht1 hvm1 => ⟨u, trivial, ⟨hq.1, gH_at ht1 (gH_to ht hq.2)⟩, hS.F ht1⟩) hS.2.2 (Nat.le_refl _) (Nat.le_refl _))) (fun r1o r1u t H locs ht hvm q hB1 hz hk hS => ?_)
  obtain ⟨r1, F2⟩ := r1u
  obtain ⟨r1e, r1h, q⟩ := q
  subst r1e
  have hH : gH G ad F2 H := gH_to ht hB1
  show W p l e rm_X10_dwells s m ([.ref (ad 0 0), .int p1, .int p2] : List Value).toArray below meth c H locs _ _ _ (F0 m _ ls (.ref (ad 33 r1) :: []))
  refine lv_astore_n (lv' := [(3, .ref (ad 33 r1)), (0, .ref (ad 0 0)), (1, .int p1), (2, .int p2)]) hx hb dX10_dwells_5 rfl hl (by decide) rfl (fun ls hl => ?_)
  refine lv_iload_n hx hb dX10_dwells_6 rfl (lv_at hl 3 rfl) ?_
  refine lv_iconst (v := 0) hx hb dX10_dwells_7 (by decide) ?_
  refine lv_aload_n hx hb dX10_dwells_8 rfl (lv_at hl 1 rfl) ?_
  refine g_get (ci := 14) (v := .int (F2 0 0 5)) (C := RX10) (T := TX10) (N := 8) hx hb hts (fun _ h => (List.mem_cons_of_mem _ (List.mem_append_left _ (List.mem_append_left _ (List.mem_append_left _ (List.mem_append_left _ (List.mem_append_right _ h))))))) hown hK hH 0 0 (by decide) Nat.zero_lt_one rfl rfl 5 (by decide) (hts (.fieldLink RX10 37 "BallotFoundry" "now" "I") (List.mem_of_getElem? (i := 1) rfl)) (fun _ h => h) rfl dX10_dwells_9 ?_
  refine vx_callv (vx_runS (As := [.int p2, .int 0, .int (F2 0 0 5)]) (rest := []) ⟨hx, hb, hml, hown, hts⟩ (c_X10_needRange l hfl G ad F2 p2 0 (F2 0 0 5) _ _) (va_cwS 3 hts gX10_dwells_X10_needRange rfl rfl rfl (by decide +kernel) ⟨Nat.le_of_ble_eq_true rfl, Nat.le_of_ble_eq_true rfl⟩) ⟨fun a U g mk h => ⟨h.1, gD_blind h.2.1, h.2.2⟩, fun U hU hW => ⟨rfl, gD_at hK hG hB hH hS hU hW, q⟩⟩ rfl rfl hl.1 rfl (lv_room (Nat.le_of_ble_eq_true rfl)) dX10_dwells_12 ⟨Nat.le_of_ble_eq_true rfl, Nat.le_of_ble_eq_true rfl⟩) hS (fun _ _ h => h) (fun _ h => h) (fun _ _ h => h) (fun E ce q9 u t H locs ht hvm _ hq hz hk hS hc9 hv9 hcl9 => vx_widen (Nat.le_of_ble_eq_true rfl) (Nat.le_of_ble_eq_true rfl) (vx_out (fun x hx => (hno x hx).elim) hlocks hc9 hv9 hcl9 (fun t1 ht1 hvm1 => ⟨u, trivial, ⟨hq.1, gH_at ht1 (gH_to ht hq.2)⟩, hS.F ht1⟩) hS.2.2 (Nat.le_refl _) (Nat.le_refl _))) (fun F4 t H locs ht hvm q hB1 hz hk hS => ?_)
  have hH : gH G ad F4 H := gH_to ht hB1
  refine lv_aload_n hx hb dX10_dwells_15 rfl (lv_at hl 0 rfl) ?_
  refine lv_iload_n hx hb dX10_dwells_16 rfl (lv_at hl 3 rfl) ?_
  refine va_calli (va_runV (As := [.int p2]) (rest := []) ⟨hx, hb, hml, hown, hts⟩ (c_X4_crossingOn l G ad F4 r1 p2 r1h _) (cwV 1 hts gX10_dwells_X4_crossingOn rfl rfl rfl (by decide +kernel) ⟨Nat.le_of_ble_eq_true rfl, Nat.le_of_ble_eq_true rfl⟩) ⟨fun a U g mk h => ⟨h.1, gD_blind h.2.1, h.2.2⟩, g_recv (C := RX4) (T := TX4) (N := 3) hK hH 33 r1 (by decide) r1h rfl rfl, fun U hU hW => ⟨rfl, gD_at hK hG hB hH hS hU hW, q⟩⟩ rfl rfl hl.1 rfl (lv_room (Nat.le_of_ble_eq_true rfl)) dX10_dwells_17 ⟨Nat.le_of_ble_eq_true rfl, Nat.le_of_ble_eq_true rfl⟩) hS (fun _ _ h => h) (fun _ h => h) (fun r5 F6 t H locs ht hvm q hB1 hz hk hS => ?_)
  have hH : gH G ad F6 H := gH_to ht hB1
  exact vx_ret (W.iret (v := r5) hx hb hr (fun t ht hW => ⟨⟨r5, F6, rfl, q, gH_at ht hH⟩, hS.F ht⟩) hS.2.2 dX10_dwells_20)
