abbrev rm_X11_closes : Room := { frames := 1, cells := 0, slots := 0, locals := 23 }
abbrev q_X11_closes (G : GP) (ad : Nat → Nat → Nat) (K : GF → Prop) (below : List Frame) (args : Array Value) (s : State) : State → Prop := MQ below (gQv G ad K) args s 0 0 (gA G)
set_option maxHeartbeats 4000000 in
set_option maxRecDepth 100000 in
theorem c_X11_closes (l : Launch) (G : GP) (ad : Nat → Nat → Nat) (F : GF) (K : GF → Prop) : Met l yX11_closes wsX11_closes rm_X11_closes (va_Pc [.ref (ad 40 0)] (fun U => gD G ad F U ∧ P_X11_closes F K)) (gQv G ad K) 0 0 (gA G) := by
  refine Met.ofW (cc := cX11_closes) (maxL := 2) (ret := none) (by decide) rfl ?_
  intro p e s m args below meth c s₁ Bd hml hv
  obtain ⟨rfl, ⟨hK, hG, hB, hH⟩, q⟩ := hv
  have hx := Bd.exec
  have hb := Bd.bytes
  have hr := Bd.returns
  have hts := atoms_spec (ws := wsX11_closes) Bd.pre
  have hown : s.vm.findClass RX11 = some m.cls := findClass_of_methodNamed Bd.named
  have hlocks := Bd.notSynchronized
  have hS : va_S (gA G) s.heap s.heap [] := va_S.rf
  have hl := lv_entry [.ref (ad 40 0)] (n := 2) (Nat.le_of_ble_eq_true rfl)
  rw [lg_entry_eq]
  generalize (lg_sl [.ref (ad 40 0)] ++ List.replicate (2 - (lg_sl [.ref (ad 40 0)]).length) Slot.unset).toArray = ls at hl ⊢
  have hl : lv_has ls 2 [(0, .ref (ad 40 0))] := hl
  show W p l e rm_X11_closes s m ([.ref (ad 40 0)] : List Value).toArray below meth c s.heap [] 0 0 (q_X11_closes G ad K below ([.ref (ad 40 0)] : List Value).toArray s) _
  have t_64 : ∀ (k7 : GF → Int32 → Prop), (∀ (F : GF) (x1 : Int32) (H : Heap) (locs : List Loc) (ls : Array Slot), gH G ad F H → va_S (gA G) s.heap H locs → lv_has ls 2 [(0, .ref (ad 40 0)), (1, .int x1)] → k7 F x1 → W p l e rm_X11_closes s m ([.ref (ad 40 0)] : List Value).toArray below meth c H locs 0 0 (q_X11_closes G ad K below ([.ref (ad 40 0)] : List Value).toArray s) (F0 m 7 ls [])) → ∀ (F : GF) (x1 : Int32) (H : Heap) (locs : List Loc) (ls : Array Slot), gH G ad F H → va_S (gA G) s.heap H locs → lv_has ls 2 [(0, .ref (ad 40 0)), (1, .int x1)] → (P_X11_closes_64 k7 K) F x1 → W p l e rm_X11_closes s m ([.ref (ad 40 0)] : List Value).toArray below meth c H locs 0 0 (q_X11_closes G ad K below ([.ref (ad 40 0)] : List Value).toArray s) (F0 m 64 ls []) := by
    intro k7 hk7 F x1 H locs ls hH hS hl q
    unfold P_X11_closes_64 at q
    refine lv_iinc (v := x1 + 1) (lv' := [(1, .int (x1 + 1)), (0, .ref (ad 40 0))]) hx hb dX11_closes_64 hl (k := 1) rfl rfl (by decide) rfl (fun ls hl => ?_)
    refine lv_goto (tgt := 7) hx hb dX11_closes_67 (by decide) ?_
    exact hk7 F (x1 + 1) _ _ _ hH hS (lv_sub hl [1, 0] rfl) q
  have t_7 : ∀ n : Nat, ∀ (F : GF) (x1 : Int32) (H : Heap) (locs : List Loc) (ls : Array Slot), gH G ad F H → va_S (gA G) s.heap H locs → lv_has ls 2 [(0, .ref (ad 40 0)), (1, .int x1)] → (P_X11_closes_7 K n) F x1 → W p l e rm_X11_closes s m ([.ref (ad 40 0)] : List Value).toArray below meth c H locs 0 0 (q_X11_closes G ad K below ([.ref (ad 40 0)] : List Value).toArray s) (F0 m 7 ls []) := by
    intro n
    induction n with
    | zero =>
      intro F x1 H locs ls hH hS hl q
      exact False.elim q
    | succ n ih =>
      intro F x1 H locs ls hH hS hl q
      rw [P_X11_closes_7] at q
      refine lv_iload_n hx hb dX11_closes_7 rfl (lv_at hl 1 rfl) ?_
      refine lv_aload_n hx hb dX11_closes_8 rfl (lv_at hl 0 rfl) ?_
      refine g_get (ci := 15) (v := .int (F 40 0 26)) (C := RX11) (T := TX11) (N := 44) hx hb hts (fun _ h => (List.mem_cons_of_mem _ (List.mem_append_left _ (List.mem_append_right _ h)))) hown hK hH 40 0 (by decide) Nat.zero_lt_one rfl rfl 26 (by decide) (hts (.fieldLink RX11 165 "BallotFoundryModel" "envelopes" "I") (List.mem_of_getElem? (i := 2) rfl)) (fun _ h => h) rfl dX11_closes_9 ?_
      refine lv_icmp_ge (tgt := 70) hx hb dX11_closes_12 (by decide) (fun c2 => ?_) (fun c2 => ?_)
      · have q := (if_pos c2).mp q
        exact (W.vret hx hb hr (fun t ht hW => ⟨⟨F, rfl, q, gH_at ht hH⟩, hS.F ht⟩) hS.2.2 dX11_closes_70)
      · have q := (if_neg c2).mp q
        refine lv_aload_n hx hb dX11_closes_15 rfl (lv_at hl 0 rfl) ?_
        refine g_get (ci := 15) (v := .ref (ad 57 0)) (C := RX11) (T := TX11) (N := 44) hx hb hts (fun _ h => (List.mem_cons_of_mem _ (List.mem_append_left _ (List.mem_append_right _ h)))) hown hK hH 40 0 (by decide) Nat.zero_lt_one rfl rfl 25 (by decide) (hts (.fieldLink RX11 63 "BallotFoundryModel" "state" "[I") (List.mem_of_getElem? (i := 3) rfl)) (fun _ h => h) rfl dX11_closes_16 ?_
        refine lv_iload_n hx hb dX11_closes_19 rfl (lv_at hl 1 rfl) ?_
        obtain ⟨h3, q⟩ := q
        refine g_iald hx hb hK hH 57 0 (by decide) Nat.zero_lt_one 60 rfl h3 dX11_closes_20 ?_
        refine lv_if_ne (tgt := 64) hx hb dX11_closes_21 (by decide) (fun c4 => ?_) (fun c4 => ?_)
        · have q := (if_neg c4).mp q
          exact t_64 (fun F a0 => P_X11_closes_7 K n F a0) ih F x1 _ _ _ hH hS (lv_sub hl [0, 1] rfl) q
        · have q := (if_pos c4).mp q
          refine lv_aload_n hx hb dX11_closes_24 rfl (lv_at hl 0 rfl) ?_
          refine g_get (ci := 15) (v := .ref (ad 57 0)) (C := RX11) (T := TX11) (N := 44) hx hb hts (fun _ h => (List.mem_cons_of_mem _ (List.mem_append_left _ (List.mem_append_right _ h)))) hown hK hH 40 0 (by decide) Nat.zero_lt_one rfl rfl 25 (by decide) (hts (.fieldLink RX11 63 "BallotFoundryModel" "state" "[I") (List.mem_of_getElem? (i := 3) rfl)) (fun _ h => h) rfl dX11_closes_25 ?_
          refine lv_iload_n hx hb dX11_closes_28 rfl (lv_at hl 1 rfl) ?_
          refine lv_iconst (v := 2) hx hb dX11_closes_29 (by decide) ?_
          obtain ⟨h5, q⟩ := q
          refine g_iast hx hb hK hH hS 57 0 (by decide) Nat.zero_lt_one (by decide) 60 (fun _ => rfl) h5 dX11_closes_30 (fun H locs hH hS => ?_)
          obtain ⟨F6, eF6⟩ : ∃ z, z = fs F 57 0 x1.toNatClampNeg 2 := ⟨_, rfl⟩
          have q := q F6 eF6
          rw [← eF6] at hH
          refine lv_aload_n hx hb dX11_closes_31 rfl (lv_at hl 0 rfl) ?_
          refine lv_aload_n hx hb dX11_closes_32 rfl (lv_at hl 0 rfl) ?_
          refine g_get (ci := 15) (v := .ref (ad 55 0)) (C := RX11) (T := TX11) (N := 44) hx hb hts (fun _ h => (List.mem_cons_of_mem _ (List.mem_append_left _ (List.mem_append_right _ h)))) hown hK hH 40 0 (by decide) Nat.zero_lt_one rfl rfl 23 (by decide) (hts (.fieldLink RX11 57 "BallotFoundryModel" "envelopeOf" "[I") (List.mem_of_getElem? (i := 4) rfl)) (fun _ h => h) rfl dX11_closes_33 ?_
          refine lv_iload_n hx hb dX11_closes_36 rfl (lv_at hl 1 rfl) ?_
          obtain ⟨h7, q⟩ := q
          refine g_iald hx hb hK hH 55 0 (by decide) Nat.zero_lt_one 60 rfl h7 dX11_closes_37 ?_
          refine lv_aload_n hx hb dX11_closes_38 rfl (lv_at hl 0 rfl) ?_
          refine g_get (ci := 15) (v := .ref (ad 56 0)) (C := RX11) (T := TX11) (N := 44) hx hb hts (fun _ h => (List.mem_cons_of_mem _ (List.mem_append_left _ (List.mem_append_right _ h)))) hown hK hH 40 0 (by decide) Nat.zero_lt_one rfl rfl 24 (by decide) (hts (.fieldLink RX11 60 "BallotFoundryModel" "vote" "[I") (List.mem_of_getElem? (i := 5) rfl)) (fun _ h => h) rfl dX11_closes_39 ?_
          refine lv_iload_n hx hb dX11_closes_42 rfl (lv_at hl 1 rfl) ?_
          obtain ⟨h8, q⟩ := q
          refine g_iald hx hb hK hH 56 0 (by decide) Nat.zero_lt_one 60 rfl h8 dX11_closes_43 ?_
          refine va_calli (va_runV (As := [.int (F6 55 0 x1.toNatClampNeg), .int (F6 56 0 x1.toNatClampNeg)]) (rest := []) ⟨hx, hb, hml, hown, hts⟩ (c_X11_casts l G ad F6 (F6 55 0 x1.toNatClampNeg) (F6 56 0 x1.toNatClampNeg) _) (cwV 2 hts gX11_closes_X11_casts rfl rfl rfl (by decide +kernel) ⟨Nat.le_of_ble_eq_true rfl, Nat.le_of_ble_eq_true rfl⟩) ⟨fun a U g mk h => ⟨h.1, gD_blind h.2.1, h.2.2⟩, g_recv (C := RX11) (T := TX11) (N := 44) hK hH 40 0 (by decide) Nat.zero_lt_one rfl rfl, fun U hU hW => ⟨rfl, gD_at hK hG hB hH hS hU hW, q⟩⟩ rfl rfl hl.1 rfl (lv_room (Nat.le_of_ble_eq_true rfl)) dX11_closes_44 ⟨Nat.le_of_ble_eq_true rfl, Nat.le_of_ble_eq_true rfl⟩) hS (fun _ _ h => h) (fun _ h => h) (fun r9 F10 t H locs ht hvm q hB1 hz hk hS => ?_)
          have hH : gH G ad F10 H := gH_to ht hB1
          refine lv_pop hx hb dX11_closes_47 rfl ?_
          refine lv_aload_n hx hb dX11_closes_48 rfl (lv_at hl 0 rfl) ?_
          refine lv_aload_n hx hb dX11_closes_49 rfl (lv_at hl 0 rfl) ?_
          refine g_get (ci := 15) (v := .int (F10 40 0 15)) (C := RX11) (T := TX11) (N := 44) hx hb hts (fun _ h => (List.mem_cons_of_mem _ (List.mem_append_left _ (List.mem_append_right _ h)))) hown hK hH 40 0 (by decide) Nat.zero_lt_one rfl rfl 15 (by decide) (hts (.fieldLink RX11 181 "BallotFoundryModel" "day" "I") (List.mem_of_getElem? (i := 6) rfl)) (fun _ h => h) rfl dX11_closes_50 ?_
          refine lv_bipush (v := 115) hx hb dX11_closes_53 (by decide) ?_
          refine lv_aload_n hx hb dX11_closes_55 rfl (lv_at hl 0 rfl) ?_
          refine g_get (ci := 15) (v := .ref (ad 55 0)) (C := RX11) (T := TX11) (N := 44) hx hb hts (fun _ h => (List.mem_cons_of_mem _ (List.mem_append_left _ (List.mem_append_right _ h)))) hown hK hH 40 0 (by decide) Nat.zero_lt_one rfl rfl 23 (by decide) (hts (.fieldLink RX11 57 "BallotFoundryModel" "envelopeOf" "[I") (List.mem_of_getElem? (i := 4) rfl)) (fun _ h => h) rfl dX11_closes_56 ?_
          refine lv_iload_n hx hb dX11_closes_59 rfl (lv_at hl 1 rfl) ?_
          obtain ⟨h11, q⟩ := q
          refine g_iald hx hb hK hH 55 0 (by decide) Nat.zero_lt_one 60 rfl h11 dX11_closes_60 ?_
          refine va_callv (va_runV (As := [.int (F10 40 0 15), .int 115, .int (F10 55 0 x1.toNatClampNeg)]) (rest := []) ⟨hx, hb, hml, hown, hts⟩ (c_X11_notes l G ad F10 (F10 40 0 15) 115 (F10 55 0 x1.toNatClampNeg) _) (cwV 3 hts gX11_closes_X11_notes rfl rfl rfl (by decide +kernel) ⟨Nat.le_of_ble_eq_true rfl, Nat.le_of_ble_eq_true rfl⟩) ⟨fun a U g mk h => ⟨h.1, gD_blind h.2.1, h.2.2⟩, g_recv (C := RX11) (T := TX11) (N := 44) hK hH 40 0 (by decide) Nat.zero_lt_one rfl rfl, fun U hU hW => ⟨rfl, gD_at hK hG hB hH hS hU hW, q⟩⟩ rfl rfl hl.1 rfl (lv_room (Nat.le_of_ble_eq_true rfl)) dX11_closes_61 ⟨Nat.le_of_ble_eq_true rfl, Nat.le_of_ble_eq_true rfl⟩) hS (fun _ _ h => h) (fun _ h => h) (fun F13 t H locs ht hvm q hB1 hz hk hS => ?_)
          have hH : gH G ad F13 H := gH_to ht hB1
          exact t_64 (fun F a0 => P_X11_closes_7 K n F a0) ih F13 x1 _ _ _ hH hS (lv_sub hl [0, 1] rfl) q
  unfold P_X11_closes at q
  refine lv_aload_n hx hb dX11_closes_0 rfl (lv_at hl 0 rfl) ?_
  refine lv_iconst (v := 4) hx hb dX11_closes_1 (by decide) ?_
  refine g_put (ci := 15) (v := .int 4) (C := RX11) (T := TX11) (N := 44) hx hb hts (fun _ h => (List.mem_cons_of_mem _ (List.mem_append_left _ (List.mem_append_right _ h)))) tyX11 tyX11_ok nmX11 hown hK hH hS 40 0 (by decide) Nat.zero_lt_one (by decide) rfl rfl 14 (by decide) (hts (.fieldLink RX11 41 "BallotFoundryModel" "stage" "I") (List.mem_of_getElem? (i := 1) rfl)) (fun _ h => h) rfl (ty := .int) (by decide +kernel) rfl rfl (Nat.le_of_ble_eq_true rfl) 4 rfl dX11_closes_2 (fun H locs hH hS => ?_)
  obtain ⟨F1, eF1⟩ : ∃ z, z = fs F 40 0 14 4 := ⟨_, rfl⟩
  have q := q F1 eF1
  rw [← eF1] at hH
  refine lv_iconst (v := 0) hx hb dX11_closes_5 (by decide) ?_
  refine lv_istore_n (lv' := [(1, .int 0), (0, .ref (ad 40 0))]) hx hb dX11_closes_6 rfl hl (by decide) rfl (fun ls hl => ?_)
  obtain ⟨nn, q⟩ := q
  exact t_7 nn F1 0 _ _ _ hH hS (lv_sub hl [1, 0] rfl) q
abbrev rm_X11_advance : Room := { frames := 3, cells := 0, slots := 0, locals := 69 }
abbrev q_X11_advance (G : GP) (ad : Nat → Nat → Nat) (K : Int32 → GF → Prop) (below : List Frame) (args : Array Value) (s : State) : State → Prop := MQ below (gQi G ad K) args s 0 0 (gA G)
set_option maxHeartbeats 4000000 in
set_option maxRecDepth 100000 in
theorem c_X11_advance (l : Launch) (G : GP) (ad : Nat → Nat → Nat) (F : GF) (p1 : Int32) (K : Int32 → GF → Prop) : Met l yX11_advance wsX11_advance rm_X11_advance (va_Pc [.ref (ad 40 0), .int p1] (fun U => gD G ad F U ∧ P_X11_advance F p1 K)) (gQi G ad K) 0 0 (gA G) := by
  refine Met.ofW (cc := cX11_advance) (maxL := 4) (ret := (some .int)) (by decide) rfl ?_
  intro p e s m args below meth c s₁ Bd hml hv
  obtain ⟨rfl, ⟨hK, hG, hB, hH⟩, q⟩ := hv
  have hx := Bd.exec
  have hb := Bd.bytes
  have hr := Bd.returns
  have hts := atoms_spec (ws := wsX11_advance) Bd.pre
  have hown : s.vm.findClass RX11 = some m.cls := findClass_of_methodNamed Bd.named
  have hlocks := Bd.notSynchronized
  have hS : va_S (gA G) s.heap s.heap [] := va_S.rf
  have hl := lv_entry [.ref (ad 40 0), .int p1] (n := 4) (Nat.le_of_ble_eq_true rfl)
  rw [lg_entry_eq]
  generalize (lg_sl [.ref (ad 40 0), .int p1] ++ List.replicate (4 - (lg_sl [.ref (ad 40 0), .int p1]).length) Slot.unset).toArray = ls at hl ⊢
  have hl : lv_has ls 4 [(0, .ref (ad 40 0)), (1, .int p1)] := hl
  show W p l e rm_X11_advance s m ([.ref (ad 40 0), .int p1] : List Value).toArray below meth c s.heap [] 0 0 (q_X11_advance G ad K below ([.ref (ad 40 0), .int p1] : List Value).toArray s) _
  have t_124 : ∀ (k41 : GF → Int32 → Int32 → Prop), (∀ (F : GF) (x1 : Int32) (x3 : Int32) (H : Heap) (locs : List Loc) (ls : Array Slot), gH G ad F H → va_S (gA G) s.heap H locs → lv_has ls 4 [(0, .ref (ad 40 0)), (1, .int x1), (3, .int x3)] → k41 F x1 x3 → W p l e rm_X11_advance s m ([.ref (ad 40 0), .int p1] : List Value).toArray below meth c H locs 0 0 (q_X11_advance G ad K below ([.ref (ad 40 0), .int p1] : List Value).toArray s) (F0 m 41 ls [])) → ∀ (F : GF) (x1 : Int32) (x3 : Int32) (H : Heap) (locs : List Loc) (ls : Array Slot), gH G ad F H → va_S (gA G) s.heap H locs → lv_has ls 4 [(0, .ref (ad 40 0)), (1, .int x1), (3, .int x3)] → (P_X11_advance_124 k41 K) F x1 x3 → W p l e rm_X11_advance s m ([.ref (ad 40 0), .int p1] : List Value).toArray below meth c H locs 0 0 (q_X11_advance G ad K below ([.ref (ad 40 0), .int p1] : List Value).toArray s) (F0 m 124 ls []) := by
    intro k41 hk41 F x1 x3 H locs ls hH hS hl q
    unfold P_X11_advance_124 at q
    refine lv_iinc (v := x3 + 1) (lv' := [(3, .int (x3 + 1)), (0, .ref (ad 40 0)), (1, .int x1)]) hx hb dX11_advance_124 hl (k := 2) rfl rfl (by decide) rfl (fun ls hl => ?_)
    refine lv_goto (tgt := 41) hx hb dX11_advance_127 (by decide) ?_
    exact hk41 F x1 (x3 + 1) _ _ _ hH hS (lv_sub hl [1, 2, 0] rfl) q
  have t_112 : ∀ (k41 : GF → Int32 → Int32 → Prop), (∀ (F : GF) (x1 : Int32) (x3 : Int32) (H : Heap) (locs : List Loc) (ls : Array Slot), gH G ad F H → va_S (gA G) s.heap H locs → lv_has ls 4 [(0, .ref (ad 40 0)), (1, .int x1), (3, .int x3)] → k41 F x1 x3 → W p l e rm_X11_advance s m ([.ref (ad 40 0), .int p1] : List Value).toArray below meth c H locs 0 0 (q_X11_advance G ad K below ([.ref (ad 40 0), .int p1] : List Value).toArray s) (F0 m 41 ls [])) → ∀ (F : GF) (x1 : Int32) (x3 : Int32) (H : Heap) (locs : List Loc) (ls : Array Slot), gH G ad F H → va_S (gA G) s.heap H locs → lv_has ls 4 [(0, .ref (ad 40 0)), (1, .int x1), (3, .int x3)] → (P_X11_advance_112 k41 K) F x1 x3 → W p l e rm_X11_advance s m ([.ref (ad 40 0), .int p1] : List Value).toArray below meth c H locs 0 0 (q_X11_advance G ad K below ([.ref (ad 40 0), .int p1] : List Value).toArray s) (F0 m 112 ls []) := by
    intro k41 hk41 F x1 x3 H locs ls hH hS hl q
    unfold P_X11_advance_112 at q
    refine lv_aload_n hx hb dX11_advance_112 rfl (lv_at hl 0 rfl) ?_
    refine g_get (ci := 15) (v := .int (F 40 0 14)) (C := RX11) (T := TX11) (N := 44) hx hb hts (fun _ h => (List.mem_cons_of_mem _ (List.mem_append_left _ (List.mem_append_right _ h)))) hown hK hH 40 0 (by decide) Nat.zero_lt_one rfl rfl 14 (by decide) (hts (.fieldLink RX11 41 "BallotFoundryModel" "stage" "I") (List.mem_of_getElem? (i := 2) rfl)) (fun _ h => h) rfl dX11_advance_113 ?_
    refine lv_iconst (v := 3) hx hb dX11_advance_116 (by decide) ?_
    refine lv_icmp_ne (tgt := 124) hx hb dX11_advance_117 (by decide) (fun c11 => ?_) (fun c11 => ?_)
    · have q := (if_neg c11).mp q
      exact t_124 k41 hk41 F x1 x3 _ _ _ hH hS (lv_sub hl [0, 1, 2] rfl) q
    · have q := (if_pos c11).mp q
      refine lv_aload_n hx hb dX11_advance_120 rfl (lv_at hl 0 rfl) ?_
      refine va_callv (va_runV (As := []) (rest := []) ⟨hx, hb, hml, hown, hts⟩ (c_X11_closes l G ad F _) (cwV 0 hts gX11_advance_X11_closes rfl rfl rfl (by decide +kernel) ⟨Nat.le_of_ble_eq_true rfl, Nat.le_of_ble_eq_true rfl⟩) ⟨fun a U g mk h => ⟨h.1, gD_blind h.2.1, h.2.2⟩, g_recv (C := RX11) (T := TX11) (N := 44) hK hH 40 0 (by decide) Nat.zero_lt_one rfl rfl, fun U hU hW => ⟨rfl, gD_at hK hG hB hH hS hU hW, q⟩⟩ rfl rfl hl.1 rfl (lv_room (Nat.le_of_ble_eq_true rfl)) dX11_advance_121 ⟨Nat.le_of_ble_eq_true rfl, Nat.le_of_ble_eq_true rfl⟩) hS (fun _ _ h => h) (fun _ h => h) (fun F13 t H locs ht hvm q hB1 hz hk hS => ?_)
      have hH : gH G ad F13 H := gH_to ht hB1
      exact t_124 k41 hk41 F13 x1 x3 _ _ _ hH hS (lv_sub hl [0, 1, 2] rfl) q
  have t_85 : ∀ (k41 : GF → Int32 → Int32 → Prop), (∀ (F : GF) (x1 : Int32) (x3 : Int32) (H : Heap) (locs : List Loc) (ls : Array Slot), gH G ad F H → va_S (gA G) s.heap H locs → lv_has ls 4 [(0, .ref (ad 40 0)), (1, .int x1), (3, .int x3)] → k41 F x1 x3 → W p l e rm_X11_advance s m ([.ref (ad 40 0), .int p1] : List Value).toArray below meth c H locs 0 0 (q_X11_advance G ad K below ([.ref (ad 40 0), .int p1] : List Value).toArray s) (F0 m 41 ls [])) → ∀ (F : GF) (x1 : Int32) (x3 : Int32) (H : Heap) (locs : List Loc) (ls : Array Slot), gH G ad F H → va_S (gA G) s.heap H locs → lv_has ls 4 [(0, .ref (ad 40 0)), (1, .int x1), (3, .int x3)] → (P_X11_advance_85 k41 K) F x1 x3 → W p l e rm_X11_advance s m ([.ref (ad 40 0), .int p1] : List Value).toArray below meth c H locs 0 0 (q_X11_advance G ad K below ([.ref (ad 40 0), .int p1] : List Value).toArray s) (F0 m 85 ls []) := by
    intro k41 hk41 F x1 x3 H locs ls hH hS hl q
    unfold P_X11_advance_85 at q
    refine lv_aload_n hx hb dX11_advance_85 rfl (lv_at hl 0 rfl) ?_
    refine g_get (ci := 15) (v := .int (F 40 0 14)) (C := RX11) (T := TX11) (N := 44) hx hb hts (fun _ h => (List.mem_cons_of_mem _ (List.mem_append_left _ (List.mem_append_right _ h)))) hown hK hH 40 0 (by decide) Nat.zero_lt_one rfl rfl 14 (by decide) (hts (.fieldLink RX11 41 "BallotFoundryModel" "stage" "I") (List.mem_of_getElem? (i := 2) rfl)) (fun _ h => h) rfl dX11_advance_86 ?_
    refine lv_iconst (v := 2) hx hb dX11_advance_89 (by decide) ?_
    refine lv_icmp_ne (tgt := 112) hx hb dX11_advance_90 (by decide) (fun c10 => ?_) (fun c10 => ?_)
    · have q := (if_neg c10).mp q
      exact t_112 k41 hk41 F x1 x3 _ _ _ hH hS (lv_sub hl [0, 1, 2] rfl) q
    · have q := (if_pos c10).mp q
      refine lv_aload_n hx hb dX11_advance_93 rfl (lv_at hl 0 rfl) ?_
      refine g_get (ci := 15) (v := .int (F 40 0 0)) (C := RX11) (T := TX11) (N := 44) hx hb hts (fun _ h => (List.mem_cons_of_mem _ (List.mem_append_left _ (List.mem_append_right _ h)))) hown hK hH 40 0 (by decide) Nat.zero_lt_one rfl rfl 0 (by decide) (hts (.fieldLink RX11 149 "BallotFoundryModel" "today" "I") (List.mem_of_getElem? (i := 1) rfl)) (fun _ h => h) rfl dX11_advance_94 ?_
      refine lv_aload_n hx hb dX11_advance_97 rfl (lv_at hl 0 rfl) ?_
      refine g_get (ci := 15) (v := .int (F 40 0 15)) (C := RX11) (T := TX11) (N := 44) hx hb hts (fun _ h => (List.mem_cons_of_mem _ (List.mem_append_left _ (List.mem_append_right _ h)))) hown hK hH 40 0 (by decide) Nat.zero_lt_one rfl rfl 15 (by decide) (hts (.fieldLink RX11 181 "BallotFoundryModel" "day" "I") (List.mem_of_getElem? (i := 3) rfl)) (fun _ h => h) rfl dX11_advance_98 ?_
      refine lv_icmp_ne (tgt := 112) hx hb dX11_advance_101 (by decide) (fun c14 => ?_) (fun c14 => ?_)
      · have q := (if_neg c14).mp q
        exact t_112 k41 hk41 F x1 x3 _ _ _ hH hS (lv_sub hl [0, 1, 2] rfl) q
      · have q := (if_pos c14).mp q
        refine lv_aload_n hx hb dX11_advance_104 rfl (lv_at hl 0 rfl) ?_
        refine lv_iconst (v := 3) hx hb dX11_advance_105 (by decide) ?_
        refine g_put (ci := 15) (v := .int 3) (C := RX11) (T := TX11) (N := 44) hx hb hts (fun _ h => (List.mem_cons_of_mem _ (List.mem_append_left _ (List.mem_append_right _ h)))) tyX11 tyX11_ok nmX11 hown hK hH hS 40 0 (by decide) Nat.zero_lt_one (by decide) rfl rfl 14 (by decide) (hts (.fieldLink RX11 41 "BallotFoundryModel" "stage" "I") (List.mem_of_getElem? (i := 2) rfl)) (fun _ h => h) rfl (ty := .int) (by decide +kernel) rfl rfl (Nat.le_of_ble_eq_true rfl) 3 rfl dX11_advance_106 (fun H locs hH hS => ?_)
        obtain ⟨F15, eF15⟩ : ∃ z, z = fs F 40 0 14 3 := ⟨_, rfl⟩
        have q := q F15 eF15
        rw [← eF15] at hH
        refine lv_goto (tgt := 124) hx hb dX11_advance_109 (by decide) ?_
        exact t_124 k41 hk41 F15 x1 x3 _ _ _ hH hS (lv_sub hl [0, 1, 2] rfl) q
  have t_41 : ∀ n : Nat, ∀ (F : GF) (x1 : Int32) (x3 : Int32) (H : Heap) (locs : List Loc) (ls : Array Slot), gH G ad F H → va_S (gA G) s.heap H locs → lv_has ls 4 [(0, .ref (ad 40 0)), (1, .int x1), (3, .int x3)] → (P_X11_advance_41 K n) F x1 x3 → W p l e rm_X11_advance s m ([.ref (ad 40 0), .int p1] : List Value).toArray below meth c H locs 0 0 (q_X11_advance G ad K below ([.ref (ad 40 0), .int p1] : List Value).toArray s) (F0 m 41 ls []) := by
    intro n
    induction n with
    | zero =>
      intro F x1 x3 H locs ls hH hS hl q
      exact False.elim q
    | succ n ih =>
      intro F x1 x3 H locs ls hH hS hl q
      rw [P_X11_advance_41] at q
      refine lv_iload_n hx hb dX11_advance_41 rfl (lv_at hl 2 rfl) ?_
      refine lv_iload_n hx hb dX11_advance_42 rfl (lv_at hl 1 rfl) ?_
      refine lv_icmp_ge (tgt := 130) hx hb dX11_advance_43 (by decide) (fun c7 => ?_) (fun c7 => ?_)
      · have q := (if_pos c7).mp q
        refine lv_aload_n hx hb dX11_advance_130 rfl (lv_at hl 0 rfl) ?_
        refine g_get (ci := 15) (v := .int (F 40 0 0)) (C := RX11) (T := TX11) (N := 44) hx hb hts (fun _ h => (List.mem_cons_of_mem _ (List.mem_append_left _ (List.mem_append_right _ h)))) hown hK hH 40 0 (by decide) Nat.zero_lt_one rfl rfl 0 (by decide) (hts (.fieldLink RX11 149 "BallotFoundryModel" "today" "I") (List.mem_of_getElem? (i := 1) rfl)) (fun _ h => h) rfl dX11_advance_131 ?_
        exact (W.iret (v := (F 40 0 0)) hx hb hr (fun t ht hW => ⟨⟨(F 40 0 0), F, rfl, q, gH_at ht hH⟩, hS.F ht⟩) hS.2.2 dX11_advance_134)
      · have q := (if_neg c7).mp q
        refine lv_aload_n hx hb dX11_advance_46 rfl (lv_at hl 0 rfl) ?_
        refine lv_dup hx hb dX11_advance_47 rfl ?_
        refine g_get (ci := 15) (v := .int (F 40 0 0)) (C := RX11) (T := TX11) (N := 44) hx hb hts (fun _ h => (List.mem_cons_of_mem _ (List.mem_append_left _ (List.mem_append_right _ h)))) hown hK hH 40 0 (by decide) Nat.zero_lt_one rfl rfl 0 (by decide) (hts (.fieldLink RX11 149 "BallotFoundryModel" "today" "I") (List.mem_of_getElem? (i := 1) rfl)) (fun _ h => h) rfl dX11_advance_48 ?_
        refine lv_iconst (v := 1) hx hb dX11_advance_51 (by decide) ?_
        refine lv_iadd hx hb dX11_advance_52 ?_
        refine g_put (ci := 15) (v := .int ((F 40 0 0) + 1)) (C := RX11) (T := TX11) (N := 44) hx hb hts (fun _ h => (List.mem_cons_of_mem _ (List.mem_append_left _ (List.mem_append_right _ h)))) tyX11 tyX11_ok nmX11 hown hK hH hS 40 0 (by decide) Nat.zero_lt_one (by decide) rfl rfl 0 (by decide) (hts (.fieldLink RX11 149 "BallotFoundryModel" "today" "I") (List.mem_of_getElem? (i := 1) rfl)) (fun _ h => h) rfl (ty := .int) (by decide +kernel) rfl rfl (Nat.le_of_ble_eq_true rfl) ((F 40 0 0) + 1) rfl dX11_advance_53 (fun H locs hH hS => ?_)
        obtain ⟨F8, eF8⟩ : ∃ z, z = fs F 40 0 0 ((F 40 0 0) + 1) := ⟨_, rfl⟩
        have q := q F8 eF8
        rw [← eF8] at hH
        refine lv_aload_n hx hb dX11_advance_56 rfl (lv_at hl 0 rfl) ?_
        refine g_get (ci := 15) (v := .int (F8 40 0 14)) (C := RX11) (T := TX11) (N := 44) hx hb hts (fun _ h => (List.mem_cons_of_mem _ (List.mem_append_left _ (List.mem_append_right _ h)))) hown hK hH 40 0 (by decide) Nat.zero_lt_one rfl rfl 14 (by decide) (hts (.fieldLink RX11 41 "BallotFoundryModel" "stage" "I") (List.mem_of_getElem? (i := 2) rfl)) (fun _ h => h) rfl dX11_advance_57 ?_
        refine lv_iconst (v := 1) hx hb dX11_advance_60 (by decide) ?_
        refine lv_icmp_ne (tgt := 85) hx hb dX11_advance_61 (by decide) (fun c9 => ?_) (fun c9 => ?_)
        · have q := (if_neg c9).mp q
          exact t_85 (fun F a0 a1 => P_X11_advance_41 K n F a0 a1) ih F8 x1 x3 _ _ _ hH hS (lv_sub hl [0, 1, 2] rfl) q
        · have q := (if_pos c9).mp q
          refine lv_aload_n hx hb dX11_advance_64 rfl (lv_at hl 0 rfl) ?_
          refine g_get (ci := 15) (v := .int (F8 40 0 0)) (C := RX11) (T := TX11) (N := 44) hx hb hts (fun _ h => (List.mem_cons_of_mem _ (List.mem_append_left _ (List.mem_append_right _ h)))) hown hK hH 40 0 (by decide) Nat.zero_lt_one rfl rfl 0 (by decide) (hts (.fieldLink RX11 149 "BallotFoundryModel" "today" "I") (List.mem_of_getElem? (i := 1) rfl)) (fun _ h => h) rfl dX11_advance_65 ?_
          refine lv_aload_n hx hb dX11_advance_68 rfl (lv_at hl 0 rfl) ?_
          refine g_get (ci := 15) (v := .int (F8 40 0 15)) (C := RX11) (T := TX11) (N := 44) hx hb hts (fun _ h => (List.mem_cons_of_mem _ (List.mem_append_left _ (List.mem_append_right _ h)))) hown hK hH 40 0 (by decide) Nat.zero_lt_one rfl rfl 15 (by decide) (hts (.fieldLink RX11 181 "BallotFoundryModel" "day" "I") (List.mem_of_getElem? (i := 3) rfl)) (fun _ h => h) rfl dX11_advance_69 ?_
          refine lv_bipush (v := 6) hx hb dX11_advance_72 (by decide) ?_
          refine lv_isub hx hb dX11_advance_74 ?_
          refine lv_icmp_ne (tgt := 85) hx hb dX11_advance_75 (by decide) (fun c16 => ?_) (fun c16 => ?_)
          · have q := (if_neg c16).mp q
            exact t_85 (fun F a0 a1 => P_X11_advance_41 K n F a0 a1) ih F8 x1 x3 _ _ _ hH hS (lv_sub hl [0, 1, 2] rfl) q
          · have q := (if_pos c16).mp q
            refine lv_aload_n hx hb dX11_advance_78 rfl (lv_at hl 0 rfl) ?_
            refine va_callv (va_runV (As := []) (rest := []) ⟨hx, hb, hml, hown, hts⟩ (c_X11_makesRoll l G ad F8 _) (cwV 0 hts gX11_advance_X11_makesRoll rfl rfl rfl (by decide +kernel) ⟨Nat.le_of_ble_eq_true rfl, Nat.le_of_ble_eq_true rfl⟩) ⟨fun a U g mk h => ⟨h.1, gD_blind h.2.1, h.2.2⟩, g_recv (C := RX11) (T := TX11) (N := 44) hK hH 40 0 (by decide) Nat.zero_lt_one rfl rfl, fun U hU hW => ⟨rfl, gD_at hK hG hB hH hS hU hW, q⟩⟩ rfl rfl hl.1 rfl (lv_room (Nat.le_of_ble_eq_true rfl)) dX11_advance_79 ⟨Nat.le_of_ble_eq_true rfl, Nat.le_of_ble_eq_true rfl⟩) hS (fun _ _ h => h) (fun _ h => h) (fun F18 t H locs ht hvm q hB1 hz hk hS => ?_)
            have hH : gH G ad F18 H := gH_to ht hB1
            refine lv_goto (tgt := 124) hx hb dX11_advance_82 (by decide) ?_
            exact t_124 (fun F a0 a1 => P_X11_advance_41 K n F a0 a1) ih F18 x1 x3 _ _ _ hH hS (lv_sub hl [0, 1, 2] rfl) q
  have t_31 : ∀ (F : GF) (x1 : Int32) (s1 : Int32) (s2 : Int32) (H : Heap) (locs : List Loc) (ls : Array Slot), gH G ad F H → va_S (gA G) s.heap H locs → lv_has ls 4 [(0, .ref (ad 40 0)), (1, .int x1)] → (P_X11_advance_31 K) F x1 s1 s2 → W p l e rm_X11_advance s m ([.ref (ad 40 0), .int p1] : List Value).toArray below meth c H locs 0 0 (q_X11_advance G ad K below ([.ref (ad 40 0), .int p1] : List Value).toArray s) (F0 m 31 ls [.int s2, .int s1, .ref (ad 40 0)]) := by
    intro F x1 s1 s2 H locs ls hH hS hl q
    unfold P_X11_advance_31 at q
    refine va_calli (va_runV (As := [.int s1, .int s2]) (rest := []) ⟨hx, hb, hml, hown, hts⟩ (c_X11_asked_ l G ad F s1 s2 _) (cwV 2 hts gX11_advance_X11_asked_ rfl rfl rfl (by decide +kernel) ⟨Nat.le_of_ble_eq_true rfl, Nat.le_of_ble_eq_true rfl⟩) ⟨fun a U g mk h => ⟨h.1, gD_blind h.2.1, h.2.2⟩, g_recv (C := RX11) (T := TX11) (N := 44) hK hH 40 0 (by decide) Nat.zero_lt_one rfl rfl, fun U hU hW => ⟨rfl, gD_at hK hG hB hH hS hU hW, q⟩⟩ rfl rfl hl.1 rfl (lv_room (Nat.le_of_ble_eq_true rfl)) dX11_advance_31 ⟨Nat.le_of_ble_eq_true rfl, Nat.le_of_ble_eq_true rfl⟩) hS (fun _ _ h => h) (fun _ h => h) (fun r4 F5 t H locs ht hvm q hB1 hz hk hS => ?_)
    have hH : gH G ad F5 H := gH_to ht hB1
    refine lv_if_ne (tgt := 39) hx hb dX11_advance_34 (by decide) (fun c6 => ?_) (fun c6 => ?_)
    · have q := (if_neg c6).mp q
      refine lv_iconst (v := 0) hx hb dX11_advance_39 (by decide) ?_
      refine lv_istore_n (lv' := [(3, .int 0), (0, .ref (ad 40 0)), (1, .int x1)]) hx hb dX11_advance_40 rfl hl (by decide) rfl (fun ls hl => ?_)
      obtain ⟨nn, q⟩ := q
      exact t_41 nn F5 x1 0 _ _ _ hH hS (lv_sub hl [1, 2, 0] rfl) q
    · have q := (if_pos c6).mp q
      refine lv_iconst (v := 0) hx hb dX11_advance_37 (by decide) ?_
      exact (W.iret (v := 0) hx hb hr (fun t ht hW => ⟨⟨0, F5, rfl, q, gH_at ht hH⟩, hS.F ht⟩) hS.2.2 dX11_advance_38)
  have t_30 : ∀ (F : GF) (x1 : Int32) (s1 : Int32) (H : Heap) (locs : List Loc) (ls : Array Slot), gH G ad F H → va_S (gA G) s.heap H locs → lv_has ls 4 [(0, .ref (ad 40 0)), (1, .int x1)] → (P_X11_advance_30 K) F x1 s1 → W p l e rm_X11_advance s m ([.ref (ad 40 0), .int p1] : List Value).toArray below meth c H locs 0 0 (q_X11_advance G ad K below ([.ref (ad 40 0), .int p1] : List Value).toArray s) (F0 m 30 ls [.int s1, .ref (ad 40 0)]) := by
    intro F x1 s1 H locs ls hH hS hl q
    unfold P_X11_advance_30 at q
    refine lv_iconst (v := 0) hx hb dX11_advance_30 (by decide) ?_
    exact t_31 F x1 s1 0 _ _ _ hH hS (lv_sub hl [0, 1] rfl) q
  unfold P_X11_advance at q
  refine lv_iload_n hx hb dX11_advance_0 rfl (lv_at hl 1 rfl) ?_
  refine lv_iconst (v := 1) hx hb dX11_advance_1 (by decide) ?_
  refine lv_bipush (v := 100) hx hb dX11_advance_2 (by decide) ?_
  refine va_calli (va_runS (As := [.int p1, .int 1, .int 100]) (rest := []) ⟨hx, hb, hml, hown, hts⟩ (c_X11_in l G ad F p1 1 100 _) (va_cwS 3 hts gX11_advance_X11_in rfl rfl rfl (by decide +kernel) ⟨Nat.le_of_ble_eq_true rfl, Nat.le_of_ble_eq_true rfl⟩) ⟨fun a U g mk h => ⟨h.1, gD_blind h.2.1, h.2.2⟩, fun U hU hW => ⟨rfl, gD_at hK hG hB hH hS hU hW, q⟩⟩ rfl rfl hl.1 rfl (lv_room (Nat.le_of_ble_eq_true rfl)) dX11_advance_4 ⟨Nat.le_of_ble_eq_true rfl, Nat.le_of_ble_eq_true rfl⟩) hS (fun _ _ h => h) (fun _ h => h) (fun r1 F2 t H locs ht hvm q hB1 hz hk hS => ?_)
  have hH : gH G ad F2 H := gH_to ht hB1
  refine lv_istore_n (lv' := [(2, .int r1), (0, .ref (ad 40 0)), (1, .int p1)]) hx hb dX11_advance_7 rfl hl (by decide) rfl (fun ls hl => ?_)
  refine lv_aload_n hx hb dX11_advance_8 rfl (lv_at hl 1 rfl) ?_
  refine lv_iload_n hx hb dX11_advance_9 rfl (lv_at hl 0 rfl) ?_
  refine lv_iload_n hx hb dX11_advance_10 rfl (lv_at hl 0 rfl) ?_
  refine lv_if_eq (tgt := 30) hx hb dX11_advance_11 (by decide) (fun c3 => ?_) (fun c3 => ?_)
  · have q := (if_pos c3).mp q
    exact t_30 F2 p1 r1 _ _ _ hH hS (lv_sub hl [1, 2] rfl) q
  · have q := (if_neg c3).mp q
    refine lv_aload_n hx hb dX11_advance_14 rfl (lv_at hl 1 rfl) ?_
    refine g_get (ci := 15) (v := .int (F2 40 0 0)) (C := RX11) (T := TX11) (N := 44) hx hb hts (fun _ h => (List.mem_cons_of_mem _ (List.mem_append_left _ (List.mem_append_right _ h)))) hown hK hH 40 0 (by decide) Nat.zero_lt_one rfl rfl 0 (by decide) (hts (.fieldLink RX11 149 "BallotFoundryModel" "today" "I") (List.mem_of_getElem? (i := 1) rfl)) (fun _ h => h) rfl dX11_advance_15 ?_
    refine lv_iload_n hx hb dX11_advance_18 rfl (lv_at hl 2 rfl) ?_
    refine lv_iadd hx hb dX11_advance_19 ?_
    refine lv_sipush (v := 2100) hx hb dX11_advance_20 (by decide) ?_
    refine lv_icmp_gt (tgt := 30) hx hb dX11_advance_23 (by decide) (fun c19 => ?_) (fun c19 => ?_)
    · have q := (if_pos c19).mp q
      exact t_30 F2 p1 r1 _ _ _ hH hS (lv_sub hl [1, 2] rfl) q
    · have q := (if_neg c19).mp q
      refine lv_iconst (v := 1) hx hb dX11_advance_26 (by decide) ?_
      refine lv_goto (tgt := 31) hx hb dX11_advance_27 (by decide) ?_
      exact t_31 F2 p1 r1 1 _ _ _ hH hS (lv_sub hl [1, 2] rfl) q
abbrev rm_X11_today : Room := { frames := 1, cells := 0, slots := 0, locals := 21 }
abbrev q_X11_today (G : GP) (ad : Nat → Nat → Nat) (K : Int32 → GF → Prop) (below : List Frame) (args : Array Value) (s : State) : State → Prop := MQ below (gQi G ad K) args s 0 0 (gA G)
set_option maxHeartbeats 4000000 in
set_option maxRecDepth 100000 in
theorem c_X11_today (l : Launch) (G : GP) (ad : Nat → Nat → Nat) (F : GF) (K : Int32 → GF → Prop) : Met l yX11_today wsX11_today rm_X11_today (va_Pc [.ref (ad 40 0)] (fun U => gD G ad F U ∧ P_X11_today F K)) (gQi G ad K) 0 0 (gA G) := by
  refine Met.ofW (cc := cX11_today) (maxL := 1) (ret := (some .int)) (by decide) rfl ?_
  intro p e s m args below meth c s₁ Bd hml hv
  obtain ⟨rfl, ⟨hK, hG, hB, hH⟩, q⟩ := hv
  have hx := Bd.exec
  have hb := Bd.bytes
  have hr := Bd.returns
  have hts := atoms_spec (ws := wsX11_today) Bd.pre
  have hown : s.vm.findClass RX11 = some m.cls := findClass_of_methodNamed Bd.named
  have hlocks := Bd.notSynchronized
  have hS : va_S (gA G) s.heap s.heap [] := va_S.rf
  have hl := lv_entry [.ref (ad 40 0)] (n := 1) (Nat.le_of_ble_eq_true rfl)
  rw [lg_entry_eq]
  generalize (lg_sl [.ref (ad 40 0)] ++ List.replicate (1 - (lg_sl [.ref (ad 40 0)]).length) Slot.unset).toArray = ls at hl ⊢
  have hl : lv_has ls 1 [(0, .ref (ad 40 0))] := hl
  unfold P_X11_today at q
  refine lv_aload_n hx hb dX11_today_0 rfl (lv_at hl 0 rfl) ?_
  refine lv_aload_n hx hb dX11_today_1 rfl (lv_at hl 0 rfl) ?_
  refine g_get (ci := 15) (v := .int (F 40 0 0)) (C := RX11) (T := TX11) (N := 44) hx hb hts (fun _ h => (List.mem_cons_of_mem _ (List.mem_append_right _ h))) hown hK hH 40 0 (by decide) Nat.zero_lt_one rfl rfl 0 (by decide) (hts (.fieldLink RX11 149 "BallotFoundryModel" "today" "I") (List.mem_of_getElem? (i := 1) rfl)) (fun _ h => h) rfl dX11_today_2 ?_
  refine va_calli (va_runV (As := [.int (F 40 0 0)]) (rest := []) ⟨hx, hb, hml, hown, hts⟩ (c_X11_told l G ad F (F 40 0 0) _) (cwV 1 hts gX11_today_X11_told rfl rfl rfl (by decide +kernel) ⟨Nat.le_of_ble_eq_true rfl, Nat.le_of_ble_eq_true rfl⟩) ⟨fun a U g mk h => ⟨h.1, gD_blind h.2.1, h.2.2⟩, g_recv (C := RX11) (T := TX11) (N := 44) hK hH 40 0 (by decide) Nat.zero_lt_one rfl rfl, fun U hU hW => ⟨rfl, gD_at hK hG hB hH hS hU hW, q⟩⟩ rfl rfl hl.1 rfl (lv_room (Nat.le_of_ble_eq_true rfl)) dX11_today_5 ⟨Nat.le_of_ble_eq_true rfl, Nat.le_of_ble_eq_true rfl⟩) hS (fun _ _ h => h) (fun _ h => h) (fun r1 F2 t H locs ht hvm q hB1 hz hk hS => ?_)
  have hH : gH G ad F2 H := gH_to ht hB1
  exact (W.iret (v := r1) hx hb hr (fun t ht hW => ⟨⟨r1, F2, rfl, q, gH_at ht hH⟩, hS.F ht⟩) hS.2.2 dX11_today_8)
abbrev rm_X11_stage : Room := { frames := 1, cells := 0, slots := 0, locals := 21 }
abbrev q_X11_stage (G : GP) (ad : Nat → Nat → Nat) (K : Int32 → GF → Prop) (below : List Frame) (args : Array Value) (s : State) : State → Prop := MQ below (gQi G ad K) args s 0 0 (gA G)
set_option maxHeartbeats 4000000 in
set_option maxRecDepth 100000 in
theorem c_X11_stage (l : Launch) (G : GP) (ad : Nat → Nat → Nat) (F : GF) (K : Int32 → GF → Prop) : Met l yX11_stage wsX11_stage rm_X11_stage (va_Pc [.ref (ad 40 0)] (fun U => gD G ad F U ∧ P_X11_stage F K)) (gQi G ad K) 0 0 (gA G) := by
  refine Met.ofW (cc := cX11_stage) (maxL := 1) (ret := (some .int)) (by decide) rfl ?_
  intro p e s m args below meth c s₁ Bd hml hv
  obtain ⟨rfl, ⟨hK, hG, hB, hH⟩, q⟩ := hv
  have hx := Bd.exec
  have hb := Bd.bytes
  have hr := Bd.returns
  have hts := atoms_spec (ws := wsX11_stage) Bd.pre
  have hown : s.vm.findClass RX11 = some m.cls := findClass_of_methodNamed Bd.named
  have hlocks := Bd.notSynchronized
  have hS : va_S (gA G) s.heap s.heap [] := va_S.rf
  have hl := lv_entry [.ref (ad 40 0)] (n := 1) (Nat.le_of_ble_eq_true rfl)
  rw [lg_entry_eq]
  generalize (lg_sl [.ref (ad 40 0)] ++ List.replicate (1 - (lg_sl [.ref (ad 40 0)]).length) Slot.unset).toArray = ls at hl ⊢
  have hl : lv_has ls 1 [(0, .ref (ad 40 0))] := hl
  unfold P_X11_stage at q
  refine lv_aload_n hx hb dX11_stage_0 rfl (lv_at hl 0 rfl) ?_
  refine lv_aload_n hx hb dX11_stage_1 rfl (lv_at hl 0 rfl) ?_
  refine g_get (ci := 15) (v := .int (F 40 0 14)) (C := RX11) (T := TX11) (N := 44) hx hb hts (fun _ h => (List.mem_cons_of_mem _ (List.mem_append_right _ h))) hown hK hH 40 0 (by decide) Nat.zero_lt_one rfl rfl 14 (by decide) (hts (.fieldLink RX11 41 "BallotFoundryModel" "stage" "I") (List.mem_of_getElem? (i := 1) rfl)) (fun _ h => h) rfl dX11_stage_2 ?_
  refine va_calli (va_runV (As := [.int (F 40 0 14)]) (rest := []) ⟨hx, hb, hml, hown, hts⟩ (c_X11_told l G ad F (F 40 0 14) _) (cwV 1 hts gX11_stage_X11_told rfl rfl rfl (by decide +kernel) ⟨Nat.le_of_ble_eq_true rfl, Nat.le_of_ble_eq_true rfl⟩) ⟨fun a U g mk h => ⟨h.1, gD_blind h.2.1, h.2.2⟩, g_recv (C := RX11) (T := TX11) (N := 44) hK hH 40 0 (by decide) Nat.zero_lt_one rfl rfl, fun U hU hW => ⟨rfl, gD_at hK hG hB hH hS hU hW, q⟩⟩ rfl rfl hl.1 rfl (lv_room (Nat.le_of_ble_eq_true rfl)) dX11_stage_5 ⟨Nat.le_of_ble_eq_true rfl, Nat.le_of_ble_eq_true rfl⟩) hS (fun _ _ h => h) (fun _ h => h) (fun r1 F2 t H locs ht hvm q hB1 hz hk hS => ?_)
  have hH : gH G ad F2 H := gH_to ht hB1
  exact (W.iret (v := r1) hx hb hr (fun t ht hW => ⟨⟨r1, F2, rfl, q, gH_at ht hH⟩, hS.F ht⟩) hS.2.2 dX11_stage_8)
abbrev rm_X11_isOnRoll : Room := { frames := 2, cells := 0, slots := 0, locals := 43 }
abbrev q_X11_isOnRoll (G : GP) (ad : Nat → Nat → Nat) (K : Int32 → GF → Prop) (below : List Frame) (args : Array Value) (s : State) : State → Prop := MQ below (gQi G ad K) args s 0 0 (gA G)
set_option maxHeartbeats 4000000 in
set_option maxRecDepth 100000 in
theorem c_X11_isOnRoll (l : Launch) (G : GP) (ad : Nat → Nat → Nat) (F : GF) (p1 : Int32) (K : Int32 → GF → Prop) : Met l yX11_isOnRoll wsX11_isOnRoll rm_X11_isOnRoll (va_Pc [.ref (ad 40 0), .int p1] (fun U => gD G ad F U ∧ P_X11_isOnRoll F p1 K)) (gQi G ad K) 0 0 (gA G) := by
  refine Met.ofW (cc := cX11_isOnRoll) (maxL := 2) (ret := (some .boolean)) (by decide) rfl ?_
  intro p e s m args below meth c s₁ Bd hml hv
  obtain ⟨rfl, ⟨hK, hG, hB, hH⟩, q⟩ := hv
  have hx := Bd.exec
  have hb := Bd.bytes
  have hr := Bd.returns
  have hts := atoms_spec (ws := wsX11_isOnRoll) Bd.pre
  have hown : s.vm.findClass RX11 = some m.cls := findClass_of_methodNamed Bd.named
  have hlocks := Bd.notSynchronized
  have hS : va_S (gA G) s.heap s.heap [] := va_S.rf
  have hl := lv_entry [.ref (ad 40 0), .int p1] (n := 2) (Nat.le_of_ble_eq_true rfl)
  rw [lg_entry_eq]
  generalize (lg_sl [.ref (ad 40 0), .int p1] ++ List.replicate (2 - (lg_sl [.ref (ad 40 0), .int p1]).length) Slot.unset).toArray = ls at hl ⊢
  have hl : lv_has ls 2 [(0, .ref (ad 40 0)), (1, .int p1)] := hl
  unfold P_X11_isOnRoll at q
  refine lv_aload_n hx hb dX11_isOnRoll_0 rfl (lv_at hl 0 rfl) ?_
  refine lv_aload_n hx hb dX11_isOnRoll_1 rfl (lv_at hl 0 rfl) ?_
  refine lv_iload_n hx hb dX11_isOnRoll_2 rfl (lv_at hl 1 rfl) ?_
  refine va_calli (va_runV (As := [.int p1]) (rest := [.ref (ad 40 0)]) ⟨hx, hb, hml, hown, hts⟩ (c_X11_isPerson l G ad F p1 _) (cwV 1 hts gX11_isOnRoll_X11_isPerson rfl rfl rfl (by decide +kernel) ⟨Nat.le_of_ble_eq_true rfl, Nat.le_of_ble_eq_true rfl⟩) ⟨fun a U g mk h => ⟨h.1, gD_blind h.2.1, h.2.2⟩, g_recv (C := RX11) (T := TX11) (N := 44) hK hH 40 0 (by decide) Nat.zero_lt_one rfl rfl, fun U hU hW => ⟨rfl, gD_at hK hG hB hH hS hU hW, q⟩⟩ rfl rfl hl.1 rfl (lv_room (Nat.le_of_ble_eq_true rfl)) dX11_isOnRoll_3 ⟨Nat.le_of_ble_eq_true rfl, Nat.le_of_ble_eq_true rfl⟩) hS (fun _ _ h => h) (fun _ h => h) (fun r1 F2 t H locs ht hvm q hB1 hz hk hS => ?_)
  have hH : gH G ad F2 H := gH_to ht hB1
  refine va_calli (va_runV (As := [.int r1]) (rest := []) ⟨hx, hb, hml, hown, hts⟩ (c_X11_asked l G ad F2 r1 _) (cwV 1 hts gX11_isOnRoll_X11_asked rfl rfl rfl (by decide +kernel) ⟨Nat.le_of_ble_eq_true rfl, Nat.le_of_ble_eq_true rfl⟩) ⟨fun a U g mk h => ⟨h.1, gD_blind h.2.1, h.2.2⟩, g_recv (C := RX11) (T := TX11) (N := 44) hK hH 40 0 (by decide) Nat.zero_lt_one rfl rfl, fun U hU hW => ⟨rfl, gD_at hK hG hB hH hS hU hW, q⟩⟩ rfl rfl hl.1 rfl (lv_room (Nat.le_of_ble_eq_true rfl)) dX11_isOnRoll_6 ⟨Nat.le_of_ble_eq_true rfl, Nat.le_of_ble_eq_true rfl⟩) hS (fun _ _ h => h) (fun _ h => h) (fun r3 F4 t H locs ht hvm q hB1 hz hk hS => ?_)
  have hH : gH G ad F4 H := gH_to ht hB1
  refine lv_if_eq (tgt := 26) hx hb dX11_isOnRoll_9 (by decide) (fun c5 => ?_) (fun c5 => ?_)
  · have q := (if_pos c5).mp q
    refine lv_iconst (v := 0) hx hb dX11_isOnRoll_26 (by decide) ?_
    exact (W.zret (v := 0) hx hb hr rfl (fun t ht hW => ⟨⟨0, F4, rfl, q, gH_at ht hH⟩, hS.F ht⟩) hS.2.2 dX11_isOnRoll_27)
  · have q := (if_neg c5).mp q
    refine lv_aload_n hx hb dX11_isOnRoll_12 rfl (lv_at hl 0 rfl) ?_
    refine g_get (ci := 15) (v := .ref (ad 52 0)) (C := RX11) (T := TX11) (N := 44) hx hb hts (fun _ h => (List.mem_cons_of_mem _ (List.mem_append_left _ (List.mem_append_right _ h)))) hown hK hH 40 0 (by decide) Nat.zero_lt_one rfl rfl 20 (by decide) (hts (.fieldLink RX11 48 "BallotFoundryModel" "ownStation" "[I") (List.mem_of_getElem? (i := 1) rfl)) (fun _ h => h) rfl dX11_isOnRoll_13 ?_
    refine lv_iload_n hx hb dX11_isOnRoll_16 rfl (lv_at hl 1 rfl) ?_
    obtain ⟨h6, q⟩ := q
    refine g_iald hx hb hK hH 52 0 (by decide) Nat.zero_lt_one 20 rfl h6 dX11_isOnRoll_17 ?_
    refine lv_iconst (v := (-1)) hx hb dX11_isOnRoll_18 (by decide) ?_
    refine lv_icmp_eq (tgt := 26) hx hb dX11_isOnRoll_19 (by decide) (fun c7 => ?_) (fun c7 => ?_)
    · have q := (if_pos c7).mp q
      refine lv_iconst (v := 0) hx hb dX11_isOnRoll_26 (by decide) ?_
      exact (W.zret (v := 0) hx hb hr rfl (fun t ht hW => ⟨⟨0, F4, rfl, q, gH_at ht hH⟩, hS.F ht⟩) hS.2.2 dX11_isOnRoll_27)
    · have q := (if_neg c7).mp q
      refine lv_iconst (v := 1) hx hb dX11_isOnRoll_22 (by decide) ?_
      refine lv_goto (tgt := 27) hx hb dX11_isOnRoll_23 (by decide) ?_
      exact (W.zret (v := 1) hx hb hr rfl (fun t ht hW => ⟨⟨1, F4, rfl, q, gH_at ht hH⟩, hS.F ht⟩) hS.2.2 dX11_isOnRoll_27)
abbrev rm_X11_stationOf : Room := { frames := 2, cells := 0, slots := 0, locals := 43 }
abbrev q_X11_stationOf (G : GP) (ad : Nat → Nat → Nat) (K : Int32 → GF → Prop) (below : List Frame) (args : Array Value) (s : State) : State → Prop := MQ below (gQi G ad K) args s 0 0 (gA G)
set_option maxHeartbeats 4000000 in
set_option maxRecDepth 100000 in
theorem c_X11_stationOf (l : Launch) (G : GP) (ad : Nat → Nat → Nat) (F : GF) (p1 : Int32) (K : Int32 → GF → Prop) : Met l yX11_stationOf wsX11_stationOf rm_X11_stationOf (va_Pc [.ref (ad 40 0), .int p1] (fun U => gD G ad F U ∧ P_X11_stationOf F p1 K)) (gQi G ad K) 0 0 (gA G) := by
  refine Met.ofW (cc := cX11_stationOf) (maxL := 2) (ret := (some .int)) (by decide) rfl ?_
  intro p e s m args below meth c s₁ Bd hml hv
  obtain ⟨rfl, ⟨hK, hG, hB, hH⟩, q⟩ := hv
  have hx := Bd.exec
  have hb := Bd.bytes
  have hr := Bd.returns
  have hts := atoms_spec (ws := wsX11_stationOf) Bd.pre
  have hown : s.vm.findClass RX11 = some m.cls := findClass_of_methodNamed Bd.named
  have hlocks := Bd.notSynchronized
  have hS : va_S (gA G) s.heap s.heap [] := va_S.rf
  have hl := lv_entry [.ref (ad 40 0), .int p1] (n := 2) (Nat.le_of_ble_eq_true rfl)
  rw [lg_entry_eq]
  generalize (lg_sl [.ref (ad 40 0), .int p1] ++ List.replicate (2 - (lg_sl [.ref (ad 40 0), .int p1]).length) Slot.unset).toArray = ls at hl ⊢
  have hl : lv_has ls 2 [(0, .ref (ad 40 0)), (1, .int p1)] := hl
  unfold P_X11_stationOf at q
  refine lv_aload_n hx hb dX11_stationOf_0 rfl (lv_at hl 0 rfl) ?_
  refine lv_aload_n hx hb dX11_stationOf_1 rfl (lv_at hl 0 rfl) ?_
  refine lv_iload_n hx hb dX11_stationOf_2 rfl (lv_at hl 1 rfl) ?_
  refine va_calli (va_runV (As := [.int p1]) (rest := [.ref (ad 40 0)]) ⟨hx, hb, hml, hown, hts⟩ (c_X11_isPerson l G ad F p1 _) (cwV 1 hts gX11_stationOf_X11_isPerson rfl rfl rfl (by decide +kernel) ⟨Nat.le_of_ble_eq_true rfl, Nat.le_of_ble_eq_true rfl⟩) ⟨fun a U g mk h => ⟨h.1, gD_blind h.2.1, h.2.2⟩, g_recv (C := RX11) (T := TX11) (N := 44) hK hH 40 0 (by decide) Nat.zero_lt_one rfl rfl, fun U hU hW => ⟨rfl, gD_at hK hG hB hH hS hU hW, q⟩⟩ rfl rfl hl.1 rfl (lv_room (Nat.le_of_ble_eq_true rfl)) dX11_stationOf_3 ⟨Nat.le_of_ble_eq_true rfl, Nat.le_of_ble_eq_true rfl⟩) hS (fun _ _ h => h) (fun _ h => h) (fun r1 F2 t H locs ht hvm q hB1 hz hk hS => ?_)
  have hH : gH G ad F2 H := gH_to ht hB1
  refine va_calli (va_runV (As := [.int r1]) (rest := []) ⟨hx, hb, hml, hown, hts⟩ (c_X11_asked l G ad F2 r1 _) (cwV 1 hts gX11_stationOf_X11_asked rfl rfl rfl (by decide +kernel) ⟨Nat.le_of_ble_eq_true rfl, Nat.le_of_ble_eq_true rfl⟩) ⟨fun a U g mk h => ⟨h.1, gD_blind h.2.1, h.2.2⟩, g_recv (C := RX11) (T := TX11) (N := 44) hK hH 40 0 (by decide) Nat.zero_lt_one rfl rfl, fun U hU hW => ⟨rfl, gD_at hK hG hB hH hS hU hW, q⟩⟩ rfl rfl hl.1 rfl (lv_room (Nat.le_of_ble_eq_true rfl)) dX11_stationOf_6 ⟨Nat.le_of_ble_eq_true rfl, Nat.le_of_ble_eq_true rfl⟩) hS (fun _ _ h => h) (fun _ h => h) (fun r3 F4 t H locs ht hvm q hB1 hz hk hS => ?_)
  have hH : gH G ad F4 H := gH_to ht hB1
  refine lv_if_eq (tgt := 21) hx hb dX11_stationOf_9 (by decide) (fun c5 => ?_) (fun c5 => ?_)
  · have q := (if_pos c5).mp q
    refine lv_iconst (v := 0) hx hb dX11_stationOf_21 (by decide) ?_
    exact (W.iret (v := 0) hx hb hr (fun t ht hW => ⟨⟨0, F4, rfl, q, gH_at ht hH⟩, hS.F ht⟩) hS.2.2 dX11_stationOf_22)
  · have q := (if_neg c5).mp q
    refine lv_aload_n hx hb dX11_stationOf_12 rfl (lv_at hl 0 rfl) ?_
    refine g_get (ci := 15) (v := .ref (ad 52 0)) (C := RX11) (T := TX11) (N := 44) hx hb hts (fun _ h => (List.mem_cons_of_mem _ (List.mem_append_left _ (List.mem_append_right _ h)))) hown hK hH 40 0 (by decide) Nat.zero_lt_one rfl rfl 20 (by decide) (hts (.fieldLink RX11 48 "BallotFoundryModel" "ownStation" "[I") (List.mem_of_getElem? (i := 1) rfl)) (fun _ h => h) rfl dX11_stationOf_13 ?_
    refine lv_iload_n hx hb dX11_stationOf_16 rfl (lv_at hl 1 rfl) ?_
    obtain ⟨h6, q⟩ := q
    refine g_iald hx hb hK hH 52 0 (by decide) Nat.zero_lt_one 20 rfl h6 dX11_stationOf_17 ?_
    refine lv_goto (tgt := 22) hx hb dX11_stationOf_18 (by decide) ?_
    exact (W.iret (v := (F4 52 0 p1.toNatClampNeg)) hx hb hr (fun t ht hW => ⟨⟨(F4 52 0 p1.toNatClampNeg), F4, rfl, q, gH_at ht hH⟩, hS.F ht⟩) hS.2.2 dX11_stationOf_22)
abbrev rm_X11_peopleOf : Room := { frames := 2, cells := 0, slots := 0, locals := 43 }
abbrev q_X11_peopleOf (G : GP) (ad : Nat → Nat → Nat) (K : Int32 → GF → Prop) (below : List Frame) (args : Array Value) (s : State) : State → Prop := MQ below (gQi G ad K) args s 0 0 (gA G)
set_option maxHeartbeats 4000000 in
set_option maxRecDepth 100000 in
theorem c_X11_peopleOf (l : Launch) (G : GP) (ad : Nat → Nat → Nat) (F : GF) (p1 : Int32) (K : Int32 → GF → Prop) : Met l yX11_peopleOf wsX11_peopleOf rm_X11_peopleOf (va_Pc [.ref (ad 40 0), .int p1] (fun U => gD G ad F U ∧ P_X11_peopleOf F p1 K)) (gQi G ad K) 0 0 (gA G) := by
  refine Met.ofW (cc := cX11_peopleOf) (maxL := 2) (ret := (some .int)) (by decide) rfl ?_
  intro p e s m args below meth c s₁ Bd hml hv
  obtain ⟨rfl, ⟨hK, hG, hB, hH⟩, q⟩ := hv
  have hx := Bd.exec
  have hb := Bd.bytes
  have hr := Bd.returns
  have hts := atoms_spec (ws := wsX11_peopleOf) Bd.pre
  have hown : s.vm.findClass RX11 = some m.cls := findClass_of_methodNamed Bd.named
  have hlocks := Bd.notSynchronized
  have hS : va_S (gA G) s.heap s.heap [] := va_S.rf
  have hl := lv_entry [.ref (ad 40 0), .int p1] (n := 2) (Nat.le_of_ble_eq_true rfl)
  rw [lg_entry_eq]
  generalize (lg_sl [.ref (ad 40 0), .int p1] ++ List.replicate (2 - (lg_sl [.ref (ad 40 0), .int p1]).length) Slot.unset).toArray = ls at hl ⊢
  have hl : lv_has ls 2 [(0, .ref (ad 40 0)), (1, .int p1)] := hl
  unfold P_X11_peopleOf at q
  refine lv_aload_n hx hb dX11_peopleOf_0 rfl (lv_at hl 0 rfl) ?_
  refine lv_aload_n hx hb dX11_peopleOf_1 rfl (lv_at hl 0 rfl) ?_
  refine lv_iload_n hx hb dX11_peopleOf_2 rfl (lv_at hl 1 rfl) ?_
  refine va_calli (va_runV (As := [.int p1]) (rest := [.ref (ad 40 0)]) ⟨hx, hb, hml, hown, hts⟩ (c_X11_isStation l G ad F p1 _) (cwV 1 hts gX11_peopleOf_X11_isStation rfl rfl rfl (by decide +kernel) ⟨Nat.le_of_ble_eq_true rfl, Nat.le_of_ble_eq_true rfl⟩) ⟨fun a U g mk h => ⟨h.1, gD_blind h.2.1, h.2.2⟩, g_recv (C := RX11) (T := TX11) (N := 44) hK hH 40 0 (by decide) Nat.zero_lt_one rfl rfl, fun U hU hW => ⟨rfl, gD_at hK hG hB hH hS hU hW, q⟩⟩ rfl rfl hl.1 rfl (lv_room (Nat.le_of_ble_eq_true rfl)) dX11_peopleOf_3 ⟨Nat.le_of_ble_eq_true rfl, Nat.le_of_ble_eq_true rfl⟩) hS (fun _ _ h => h) (fun _ h => h) (fun r1 F2 t H locs ht hvm q hB1 hz hk hS => ?_)
  have hH : gH G ad F2 H := gH_to ht hB1
  refine va_calli (va_runV (As := [.int r1]) (rest := []) ⟨hx, hb, hml, hown, hts⟩ (c_X11_asked l G ad F2 r1 _) (cwV 1 hts gX11_peopleOf_X11_asked rfl rfl rfl (by decide +kernel) ⟨Nat.le_of_ble_eq_true rfl, Nat.le_of_ble_eq_true rfl⟩) ⟨fun a U g mk h => ⟨h.1, gD_blind h.2.1, h.2.2⟩, g_recv (C := RX11) (T := TX11) (N := 44) hK hH 40 0 (by decide) Nat.zero_lt_one rfl rfl, fun U hU hW => ⟨rfl, gD_at hK hG hB hH hS hU hW, q⟩⟩ rfl rfl hl.1 rfl (lv_room (Nat.le_of_ble_eq_true rfl)) dX11_peopleOf_6 ⟨Nat.le_of_ble_eq_true rfl, Nat.le_of_ble_eq_true rfl⟩) hS (fun _ _ h => h) (fun _ h => h) (fun r3 F4 t H locs ht hvm q hB1 hz hk hS => ?_)
  have hH : gH G ad F4 H := gH_to ht hB1
  refine lv_if_eq (tgt := 21) hx hb dX11_peopleOf_9 (by decide) (fun c5 => ?_) (fun c5 => ?_)
  · have q := (if_pos c5).mp q
    refine lv_iconst (v := 0) hx hb dX11_peopleOf_21 (by decide) ?_
    exact (W.iret (v := 0) hx hb hr (fun t ht hW => ⟨⟨0, F4, rfl, q, gH_at ht hH⟩, hS.F ht⟩) hS.2.2 dX11_peopleOf_22)
  · have q := (if_neg c5).mp q
    refine lv_aload_n hx hb dX11_peopleOf_12 rfl (lv_at hl 0 rfl) ?_
    refine g_get (ci := 15) (v := .ref (ad 53 0)) (C := RX11) (T := TX11) (N := 44) hx hb hts (fun _ h => (List.mem_cons_of_mem _ (List.mem_append_left _ (List.mem_append_right _ h)))) hown hK hH 40 0 (by decide) Nat.zero_lt_one rfl rfl 21 (by decide) (hts (.fieldLink RX11 51 "BallotFoundryModel" "crowd" "[I") (List.mem_of_getElem? (i := 1) rfl)) (fun _ h => h) rfl dX11_peopleOf_13 ?_
    refine lv_iload_n hx hb dX11_peopleOf_16 rfl (lv_at hl 1 rfl) ?_
    obtain ⟨h6, q⟩ := q
    refine g_iald hx hb hK hH 53 0 (by decide) Nat.zero_lt_one 5 rfl h6 dX11_peopleOf_17 ?_
    refine lv_goto (tgt := 22) hx hb dX11_peopleOf_18 (by decide) ?_
    exact (W.iret (v := (F4 53 0 p1.toNatClampNeg)) hx hb hr (fun t ht hW => ⟨⟨(F4 53 0 p1.toNatClampNeg), F4, rfl, q, gH_at ht hH⟩, hS.F ht⟩) hS.2.2 dX11_peopleOf_22)
abbrev rm_X11_canVote : Room := { frames := 0, cells := 0, slots := 0, locals := 0 }
abbrev q_X11_canVote (G : GP) (ad : Nat → Nat → Nat) (K : Int32 → GF → Prop) (below : List Frame) (args : Array Value) (s : State) : State → Prop := MQ below (gQi G ad K) args s 0 0 (gA G)
set_option maxHeartbeats 4000000 in
set_option maxRecDepth 100000 in
theorem c_X11_canVote (l : Launch) (G : GP) (ad : Nat → Nat → Nat) (F : GF) (p1 : Int32) (K : Int32 → GF → Prop) : Met l yX11_canVote wsX11_canVote rm_X11_canVote (va_Pc [.ref (ad 40 0), .int p1] (fun U => gD G ad F U ∧ P_X11_canVote F p1 K)) (gQi G ad K) 0 0 (gA G) := by
  refine Met.ofW (cc := cX11_canVote) (maxL := 2) (ret := (some .boolean)) (by decide) rfl ?_
  intro p e s m args below meth c s₁ Bd hml hv
  obtain ⟨rfl, ⟨hK, hG, hB, hH⟩, q⟩ := hv
  have hx := Bd.exec
  have hb := Bd.bytes
  have hr := Bd.returns
  have hts := atoms_spec (ws := wsX11_canVote) Bd.pre
  have hown : s.vm.findClass RX11 = some m.cls := findClass_of_methodNamed Bd.named
  have hlocks := Bd.notSynchronized
  have hS : va_S (gA G) s.heap s.heap [] := va_S.rf
  have hl := lv_entry [.ref (ad 40 0), .int p1] (n := 2) (Nat.le_of_ble_eq_true rfl)
  rw [lg_entry_eq]
  generalize (lg_sl [.ref (ad 40 0), .int p1] ++ List.replicate (2 - (lg_sl [.ref (ad 40 0), .int p1]).length) Slot.unset).toArray = ls at hl ⊢
  have hl : lv_has ls 2 [(0, .ref (ad 40 0)), (1, .int p1)] := hl
  unfold P_X11_canVote at q
  refine lv_aload_n hx hb dX11_canVote_0 rfl (lv_at hl 0 rfl) ?_
  refine g_get (ci := 15) (v := .ref (ad 52 0)) (C := RX11) (T := TX11) (N := 44) hx hb hts (fun _ h => (List.mem_cons_of_mem _ (List.mem_append_left _ (List.mem_append_right _ h)))) hown hK hH 40 0 (by decide) Nat.zero_lt_one rfl rfl 20 (by decide) (hts (.fieldLink RX11 48 "BallotFoundryModel" "ownStation" "[I") (List.mem_of_getElem? (i := 1) rfl)) (fun _ h => h) rfl dX11_canVote_1 ?_
  refine lv_iload_n hx hb dX11_canVote_4 rfl (lv_at hl 1 rfl) ?_
  obtain ⟨h1, q⟩ := q
  refine g_iald hx hb hK hH 52 0 (by decide) Nat.zero_lt_one 20 rfl h1 dX11_canVote_5 ?_
  refine lv_iconst (v := (-1)) hx hb dX11_canVote_6 (by decide) ?_
  refine lv_icmp_eq (tgt := 23) hx hb dX11_canVote_7 (by decide) (fun c2 => ?_) (fun c2 => ?_)
  · have q := (if_pos c2).mp q
    refine lv_iconst (v := 0) hx hb dX11_canVote_23 (by decide) ?_
    exact (W.zret (v := 0) hx hb hr rfl (fun t ht hW => ⟨⟨0, F, rfl, q, gH_at ht hH⟩, hS.F ht⟩) hS.2.2 dX11_canVote_24)
  · have q := (if_neg c2).mp q
    refine lv_aload_n hx hb dX11_canVote_10 rfl (lv_at hl 0 rfl) ?_
    refine g_get (ci := 15) (v := .ref (ad 47 0)) (C := RX11) (T := TX11) (N := 44) hx hb hts (fun _ h => (List.mem_cons_of_mem _ (List.mem_append_left _ (List.mem_append_right _ h)))) hown hK hH 40 0 (by decide) Nat.zero_lt_one rfl rfl 8 (by decide) (hts (.fieldLink RX11 29 "BallotFoundryModel" "died" "[Z") (List.mem_of_getElem? (i := 2) rfl)) (fun _ h => h) rfl dX11_canVote_11 ?_
    refine lv_iload_n hx hb dX11_canVote_14 rfl (lv_at hl 1 rfl) ?_
    obtain ⟨h3, q⟩ := q
    refine g_zald hx hb hK hH 47 0 (by decide) Nat.zero_lt_one 20 rfl h3 dX11_canVote_15 ?_
    refine lv_if_ne (tgt := 23) hx hb dX11_canVote_16 (by decide) (fun c4 => ?_) (fun c4 => ?_)
    · have q := (if_neg c4).mp q
      refine lv_iconst (v := 0) hx hb dX11_canVote_23 (by decide) ?_
      exact (W.zret (v := 0) hx hb hr rfl (fun t ht hW => ⟨⟨0, F, rfl, q, gH_at ht hH⟩, hS.F ht⟩) hS.2.2 dX11_canVote_24)
    · have q := (if_pos c4).mp q
      refine lv_iconst (v := 1) hx hb dX11_canVote_19 (by decide) ?_
      refine lv_goto (tgt := 24) hx hb dX11_canVote_20 (by decide) ?_
      exact (W.zret (v := 1) hx hb hr rfl (fun t ht hW => ⟨⟨1, F, rfl, q, gH_at ht hH⟩, hS.F ht⟩) hS.2.2 dX11_canVote_24)
abbrev rm_X11_early : Room := { frames := 2, cells := 0, slots := 0, locals := 45 }
abbrev q_X11_early (G : GP) (ad : Nat → Nat → Nat) (K : Int32 → GF → Prop) (below : List Frame) (args : Array Value) (s : State) : State → Prop := MQ below (gQi G ad K) args s 0 0 (gA G)
set_option maxHeartbeats 4000000 in
set_option maxRecDepth 100000 in
theorem c_X11_early (l : Launch) (G : GP) (ad : Nat → Nat → Nat) (F : GF) (p1 : Int32) (p2 : Int32) (K : Int32 → GF → Prop) : Met l yX11_early wsX11_early rm_X11_early (va_Pc [.ref (ad 40 0), .int p1, .int p2] (fun U => gD G ad F U ∧ P_X11_early F p1 p2 K)) (gQi G ad K) 0 0 (gA G) := by
  refine Met.ofW (cc := cX11_early) (maxL := 4) (ret := (some .int)) (by decide) rfl ?_
  intro p e s m args below meth c s₁ Bd hml hv
  obtain ⟨rfl, ⟨hK, hG, hB, hH⟩, q⟩ := hv
  have hx := Bd.exec
  have hb := Bd.bytes
  have hr := Bd.returns
  have hts := atoms_spec (ws := wsX11_early) Bd.pre
  have hown : s.vm.findClass RX11 = some m.cls := findClass_of_methodNamed Bd.named
  have hlocks := Bd.notSynchronized
  have hS : va_S (gA G) s.heap s.heap [] := va_S.rf
  have hl := lv_entry [.ref (ad 40 0), .int p1, .int p2] (n := 4) (Nat.le_of_ble_eq_true rfl)
  rw [lg_entry_eq]
  generalize (lg_sl [.ref (ad 40 0), .int p1, .int p2] ++ List.replicate (4 - (lg_sl [.ref (ad 40 0), .int p1, .int p2]).length) Slot.unset).toArray = ls at hl ⊢
  have hl : lv_has ls 4 [(0, .ref (ad 40 0)), (1, .int p1), (2, .int p2)] := hl
  show W p l e rm_X11_early s m ([.ref (ad 40 0), .int p1, .int p2] : List Value).toArray below meth c s.heap [] 0 0 (q_X11_early G ad K below ([.ref (ad 40 0), .int p1, .int p2] : List Value).toArray s) _
  have t_48 : ∀ (F : GF) (x1 : Int32) (x2 : Int32) (s1 : Int32) (s2 : Int32) (s3 : Int32) (H : Heap) (locs : List Loc) (ls : Array Slot), gH G ad F H → va_S (gA G) s.heap H locs → lv_has ls 4 [(0, .ref (ad 40 0)), (1, .int x1), (2, .int x2)] → (P_X11_early_48 K) F x1 x2 s1 s2 s3 → W p l e rm_X11_early s m ([.ref (ad 40 0), .int p1, .int p2] : List Value).toArray below meth c H locs 0 0 (q_X11_early G ad K below ([.ref (ad 40 0), .int p1, .int p2] : List Value).toArray s) (F0 m 48 ls [.int s3, .int s2, .int s1, .ref (ad 40 0)]) := by
    intro F x1 x2 s1 s2 s3 H locs ls hH hS hl q
    unfold P_X11_early_48 at q
    refine va_calli (va_runV (As := [.int s1, .int s2, .int s3]) (rest := []) ⟨hx, hb, hml, hown, hts⟩ (c_X11_asked__ l G ad F s1 s2 s3 _) (cwV 3 hts gX11_early_X11_asked__ rfl rfl rfl (by decide +kernel) ⟨Nat.le_of_ble_eq_true rfl, Nat.le_of_ble_eq_true rfl⟩) ⟨fun a U g mk h => ⟨h.1, gD_blind h.2.1, h.2.2⟩, g_recv (C := RX11) (T := TX11) (N := 44) hK hH 40 0 (by decide) Nat.zero_lt_one rfl rfl, fun U hU hW => ⟨rfl, gD_at hK hG hB hH hS hU hW, q⟩⟩ rfl rfl hl.1 rfl (lv_room (Nat.le_of_ble_eq_true rfl)) dX11_early_48 ⟨Nat.le_of_ble_eq_true rfl, Nat.le_of_ble_eq_true rfl⟩) hS (fun _ _ h => h) (fun _ h => h) (fun r6 F7 t H locs ht hvm q hB1 hz hk hS => ?_)
    have hH : gH G ad F7 H := gH_to ht hB1
    refine lv_if_ne (tgt := 56) hx hb dX11_early_51 (by decide) (fun c8 => ?_) (fun c8 => ?_)
    · have q := (if_neg c8).mp q
      refine lv_aload_n hx hb dX11_early_56 rfl (lv_at hl 0 rfl) ?_
      refine lv_iload_n hx hb dX11_early_57 rfl (lv_at hl 1 rfl) ?_
      refine va_calli (va_runV (As := [.int x1]) (rest := []) ⟨hx, hb, hml, hown, hts⟩ (c_X11_voids l G ad F7 x1 _) (cwV 1 hts gX11_early_X11_voids rfl rfl rfl (by decide +kernel) ⟨Nat.le_of_ble_eq_true rfl, Nat.le_of_ble_eq_true rfl⟩) ⟨fun a U g mk h => ⟨h.1, gD_blind h.2.1, h.2.2⟩, g_recv (C := RX11) (T := TX11) (N := 44) hK hH 40 0 (by decide) Nat.zero_lt_one rfl rfl, fun U hU hW => ⟨rfl, gD_at hK hG hB hH hS hU hW, q⟩⟩ rfl rfl hl.1 rfl (lv_room (Nat.le_of_ble_eq_true rfl)) dX11_early_58 ⟨Nat.le_of_ble_eq_true rfl, Nat.le_of_ble_eq_true rfl⟩) hS (fun _ _ h => h) (fun _ h => h) (fun r9 F10 t H locs ht hvm q hB1 hz hk hS => ?_)
      have hH : gH G ad F10 H := gH_to ht hB1
      refine lv_pop hx hb dX11_early_61 rfl ?_
      refine lv_aload_n hx hb dX11_early_62 rfl (lv_at hl 0 rfl) ?_
      refine g_get (ci := 15) (v := .ref (ad 55 0)) (C := RX11) (T := TX11) (N := 44) hx hb hts (fun _ h => (List.mem_cons_of_mem _ (List.mem_append_left _ (List.mem_append_right _ h)))) hown hK hH 40 0 (by decide) Nat.zero_lt_one rfl rfl 23 (by decide) (hts (.fieldLink RX11 57 "BallotFoundryModel" "envelopeOf" "[I") (List.mem_of_getElem? (i := 3) rfl)) (fun _ h => h) rfl dX11_early_63 ?_
      refine lv_aload_n hx hb dX11_early_66 rfl (lv_at hl 0 rfl) ?_
      refine g_get (ci := 15) (v := .int (F10 40 0 26)) (C := RX11) (T := TX11) (N := 44) hx hb hts (fun _ h => (List.mem_cons_of_mem _ (List.mem_append_left _ (List.mem_append_right _ h)))) hown hK hH 40 0 (by decide) Nat.zero_lt_one rfl rfl 26 (by decide) (hts (.fieldLink RX11 165 "BallotFoundryModel" "envelopes" "I") (List.mem_of_getElem? (i := 2) rfl)) (fun _ h => h) rfl dX11_early_67 ?_
      refine lv_iload_n hx hb dX11_early_70 rfl (lv_at hl 1 rfl) ?_
      obtain ⟨h11, q⟩ := q
      refine g_iast hx hb hK hH hS 55 0 (by decide) Nat.zero_lt_one (by decide) 60 (fun _ => rfl) h11 dX11_early_71 (fun H locs hH hS => ?_)
      obtain ⟨F12, eF12⟩ : ∃ z, z = fs F10 55 0 (F10 40 0 26).toNatClampNeg x1 := ⟨_, rfl⟩
      have q := q F12 eF12
      rw [← eF12] at hH
      refine lv_aload_n hx hb dX11_early_72 rfl (lv_at hl 0 rfl) ?_
      refine g_get (ci := 15) (v := .ref (ad 56 0)) (C := RX11) (T := TX11) (N := 44) hx hb hts (fun _ h => (List.mem_cons_of_mem _ (List.mem_append_left _ (List.mem_append_right _ h)))) hown hK hH 40 0 (by decide) Nat.zero_lt_one rfl rfl 24 (by decide) (hts (.fieldLink RX11 60 "BallotFoundryModel" "vote" "[I") (List.mem_of_getElem? (i := 4) rfl)) (fun _ h => h) rfl dX11_early_73 ?_
      refine lv_aload_n hx hb dX11_early_76 rfl (lv_at hl 0 rfl) ?_
      refine g_get (ci := 15) (v := .int (F12 40 0 26)) (C := RX11) (T := TX11) (N := 44) hx hb hts (fun _ h => (List.mem_cons_of_mem _ (List.mem_append_left _ (List.mem_append_right _ h)))) hown hK hH 40 0 (by decide) Nat.zero_lt_one rfl rfl 26 (by decide) (hts (.fieldLink RX11 165 "BallotFoundryModel" "envelopes" "I") (List.mem_of_getElem? (i := 2) rfl)) (fun _ h => h) rfl dX11_early_77 ?_
      refine lv_iload_n hx hb dX11_early_80 rfl (lv_at hl 2 rfl) ?_
      obtain ⟨h13, q⟩ := q
      refine g_iast hx hb hK hH hS 56 0 (by decide) Nat.zero_lt_one (by decide) 60 (fun _ => rfl) h13 dX11_early_81 (fun H locs hH hS => ?_)
      obtain ⟨F14, eF14⟩ : ∃ z, z = fs F12 56 0 (F12 40 0 26).toNatClampNeg x2 := ⟨_, rfl⟩
      have q := q F14 eF14
      rw [← eF14] at hH
      refine lv_aload_n hx hb dX11_early_82 rfl (lv_at hl 0 rfl) ?_
      refine g_get (ci := 15) (v := .ref (ad 57 0)) (C := RX11) (T := TX11) (N := 44) hx hb hts (fun _ h => (List.mem_cons_of_mem _ (List.mem_append_left _ (List.mem_append_right _ h)))) hown hK hH 40 0 (by decide) Nat.zero_lt_one rfl rfl 25 (by decide) (hts (.fieldLink RX11 63 "BallotFoundryModel" "state" "[I") (List.mem_of_getElem? (i := 5) rfl)) (fun _ h => h) rfl dX11_early_83 ?_
      refine lv_aload_n hx hb dX11_early_86 rfl (lv_at hl 0 rfl) ?_
      refine g_get (ci := 15) (v := .int (F14 40 0 26)) (C := RX11) (T := TX11) (N := 44) hx hb hts (fun _ h => (List.mem_cons_of_mem _ (List.mem_append_left _ (List.mem_append_right _ h)))) hown hK hH 40 0 (by decide) Nat.zero_lt_one rfl rfl 26 (by decide) (hts (.fieldLink RX11 165 "BallotFoundryModel" "envelopes" "I") (List.mem_of_getElem? (i := 2) rfl)) (fun _ h => h) rfl dX11_early_87 ?_
      refine lv_iconst (v := 0) hx hb dX11_early_90 (by decide) ?_
      obtain ⟨h15, q⟩ := q
      refine g_iast hx hb hK hH hS 57 0 (by decide) Nat.zero_lt_one (by decide) 60 (fun _ => rfl) h15 dX11_early_91 (fun H locs hH hS => ?_)
      obtain ⟨F16, eF16⟩ : ∃ z, z = fs F14 57 0 (F14 40 0 26).toNatClampNeg 0 := ⟨_, rfl⟩
      have q := q F16 eF16
      rw [← eF16] at hH
      refine lv_aload_n hx hb dX11_early_92 rfl (lv_at hl 0 rfl) ?_
      refine lv_dup hx hb dX11_early_93 rfl ?_
      refine g_get (ci := 15) (v := .int (F16 40 0 26)) (C := RX11) (T := TX11) (N := 44) hx hb hts (fun _ h => (List.mem_cons_of_mem _ (List.mem_append_left _ (List.mem_append_right _ h)))) hown hK hH 40 0 (by decide) Nat.zero_lt_one rfl rfl 26 (by decide) (hts (.fieldLink RX11 165 "BallotFoundryModel" "envelopes" "I") (List.mem_of_getElem? (i := 2) rfl)) (fun _ h => h) rfl dX11_early_94 ?_
      refine lv_iconst (v := 1) hx hb dX11_early_97 (by decide) ?_
      refine lv_iadd hx hb dX11_early_98 ?_
      refine g_put (ci := 15) (v := .int ((F16 40 0 26) + 1)) (C := RX11) (T := TX11) (N := 44) hx hb hts (fun _ h => (List.mem_cons_of_mem _ (List.mem_append_left _ (List.mem_append_right _ h)))) tyX11 tyX11_ok nmX11 hown hK hH hS 40 0 (by decide) Nat.zero_lt_one (by decide) rfl rfl 26 (by decide) (hts (.fieldLink RX11 165 "BallotFoundryModel" "envelopes" "I") (List.mem_of_getElem? (i := 2) rfl)) (fun _ h => h) rfl (ty := .int) (by decide +kernel) rfl rfl (Nat.le_of_ble_eq_true rfl) ((F16 40 0 26) + 1) rfl dX11_early_99 (fun H locs hH hS => ?_)
      obtain ⟨F17, eF17⟩ : ∃ z, z = fs F16 40 0 26 ((F16 40 0 26) + 1) := ⟨_, rfl⟩
      have q := q F17 eF17
      rw [← eF17] at hH
      refine lv_aload_n hx hb dX11_early_102 rfl (lv_at hl 0 rfl) ?_
      refine lv_aload_n hx hb dX11_early_103 rfl (lv_at hl 0 rfl) ?_
      refine g_get (ci := 15) (v := .int (F17 40 0 0)) (C := RX11) (T := TX11) (N := 44) hx hb hts (fun _ h => (List.mem_cons_of_mem _ (List.mem_append_left _ (List.mem_append_right _ h)))) hown hK hH 40 0 (by decide) Nat.zero_lt_one rfl rfl 0 (by decide) (hts (.fieldLink RX11 149 "BallotFoundryModel" "today" "I") (List.mem_of_getElem? (i := 6) rfl)) (fun _ h => h) rfl dX11_early_104 ?_
      refine lv_bipush (v := 101) hx hb dX11_early_107 (by decide) ?_
      refine lv_iload_n hx hb dX11_early_109 rfl (lv_at hl 1 rfl) ?_
      refine va_callv (va_runV (As := [.int (F17 40 0 0), .int 101, .int x1]) (rest := []) ⟨hx, hb, hml, hown, hts⟩ (c_X11_notes l G ad F17 (F17 40 0 0) 101 x1 _) (cwV 3 hts gX11_early_X11_notes rfl rfl rfl (by decide +kernel) ⟨Nat.le_of_ble_eq_true rfl, Nat.le_of_ble_eq_true rfl⟩) ⟨fun a U g mk h => ⟨h.1, gD_blind h.2.1, h.2.2⟩, g_recv (C := RX11) (T := TX11) (N := 44) hK hH 40 0 (by decide) Nat.zero_lt_one rfl rfl, fun U hU hW => ⟨rfl, gD_at hK hG hB hH hS hU hW, q⟩⟩ rfl rfl hl.1 rfl (lv_room (Nat.le_of_ble_eq_true rfl)) dX11_early_110 ⟨Nat.le_of_ble_eq_true rfl, Nat.le_of_ble_eq_true rfl⟩) hS (fun _ _ h => h) (fun _ h => h) (fun F19 t H locs ht hvm q hB1 hz hk hS => ?_)
      have hH : gH G ad F19 H := gH_to ht hB1
      refine lv_aload_n hx hb dX11_early_113 rfl (lv_at hl 0 rfl) ?_
      refine g_get (ci := 15) (v := .int (F19 40 0 26)) (C := RX11) (T := TX11) (N := 44) hx hb hts (fun _ h => (List.mem_cons_of_mem _ (List.mem_append_left _ (List.mem_append_right _ h)))) hown hK hH 40 0 (by decide) Nat.zero_lt_one rfl rfl 26 (by decide) (hts (.fieldLink RX11 165 "BallotFoundryModel" "envelopes" "I") (List.mem_of_getElem? (i := 2) rfl)) (fun _ h => h) rfl dX11_early_114 ?_
      refine lv_iconst (v := 1) hx hb dX11_early_117 (by decide) ?_
      refine lv_isub hx hb dX11_early_118 ?_
      exact (W.iret (v := ((F19 40 0 26) - 1)) hx hb hr (fun t ht hW => ⟨⟨((F19 40 0 26) - 1), F19, rfl, q, gH_at ht hH⟩, hS.F ht⟩) hS.2.2 dX11_early_119)
    · have q := (if_pos c8).mp q
      refine lv_iconst (v := 0) hx hb dX11_early_54 (by decide) ?_
      exact (W.iret (v := 0) hx hb hr (fun t ht hW => ⟨⟨0, F7, rfl, q, gH_at ht hH⟩, hS.F ht⟩) hS.2.2 dX11_early_55)
  have t_47 : ∀ (F : GF) (x1 : Int32) (x2 : Int32) (s1 : Int32) (s2 : Int32) (H : Heap) (locs : List Loc) (ls : Array Slot), gH G ad F H → va_S (gA G) s.heap H locs → lv_has ls 4 [(0, .ref (ad 40 0)), (1, .int x1), (2, .int x2)] → (P_X11_early_47 K) F x1 x2 s1 s2 → W p l e rm_X11_early s m ([.ref (ad 40 0), .int p1, .int p2] : List Value).toArray below meth c H locs 0 0 (q_X11_early G ad K below ([.ref (ad 40 0), .int p1, .int p2] : List Value).toArray s) (F0 m 47 ls [.int s2, .int s1, .ref (ad 40 0)]) := by
    intro F x1 x2 s1 s2 H locs ls hH hS hl q
    unfold P_X11_early_47 at q
    refine lv_iconst (v := 0) hx hb dX11_early_47 (by decide) ?_
    exact t_48 F x1 x2 s1 s2 0 _ _ _ hH hS (lv_sub hl [0, 1, 2] rfl) q
  unfold P_X11_early at q
  refine lv_aload_n hx hb dX11_early_0 rfl (lv_at hl 0 rfl) ?_
  refine lv_iload_n hx hb dX11_early_1 rfl (lv_at hl 1 rfl) ?_
  refine va_calli (va_runV (As := [.int p1]) (rest := []) ⟨hx, hb, hml, hown, hts⟩ (c_X11_isPerson l G ad F p1 _) (cwV 1 hts gX11_early_X11_isPerson rfl rfl rfl (by decide +kernel) ⟨Nat.le_of_ble_eq_true rfl, Nat.le_of_ble_eq_true rfl⟩) ⟨fun a U g mk h => ⟨h.1, gD_blind h.2.1, h.2.2⟩, g_recv (C := RX11) (T := TX11) (N := 44) hK hH 40 0 (by decide) Nat.zero_lt_one rfl rfl, fun U hU hW => ⟨rfl, gD_at hK hG hB hH hS hU hW, q⟩⟩ rfl rfl hl.1 rfl (lv_room (Nat.le_of_ble_eq_true rfl)) dX11_early_2 ⟨Nat.le_of_ble_eq_true rfl, Nat.le_of_ble_eq_true rfl⟩) hS (fun _ _ h => h) (fun _ h => h) (fun r1 F2 t H locs ht hvm q hB1 hz hk hS => ?_)
  have hH : gH G ad F2 H := gH_to ht hB1
  refine lv_istore_n (lv' := [(3, .int r1), (0, .ref (ad 40 0)), (1, .int p1), (2, .int p2)]) hx hb dX11_early_5 rfl hl (by decide) rfl (fun ls hl => ?_)
  refine lv_aload_n hx hb dX11_early_6 rfl (lv_at hl 1 rfl) ?_
  refine lv_iload_n hx hb dX11_early_7 rfl (lv_at hl 0 rfl) ?_
  refine lv_iload_n hx hb dX11_early_8 rfl (lv_at hl 3 rfl) ?_
  refine lv_iconst (v := 0) hx hb dX11_early_9 (by decide) ?_
  refine lv_iconst (v := 5) hx hb dX11_early_10 (by decide) ?_
  refine va_calli (va_runS (As := [.int p2, .int 0, .int 5]) (rest := [.int r1, .ref (ad 40 0)]) ⟨hx, hb, hml, hown, hts⟩ (c_X11_in l G ad F2 p2 0 5 _) (va_cwS 3 hts gX11_early_X11_in rfl rfl rfl (by decide +kernel) ⟨Nat.le_of_ble_eq_true rfl, Nat.le_of_ble_eq_true rfl⟩) ⟨fun a U g mk h => ⟨h.1, gD_blind h.2.1, h.2.2⟩, fun U hU hW => ⟨rfl, gD_at hK hG hB hH hS hU hW, q⟩⟩ rfl rfl hl.1 rfl (lv_room (Nat.le_of_ble_eq_true rfl)) dX11_early_11 ⟨Nat.le_of_ble_eq_true rfl, Nat.le_of_ble_eq_true rfl⟩) hS (fun _ _ h => h) (fun _ h => h) (fun r3 F4 t H locs ht hvm q hB1 hz hk hS => ?_)
  have hH : gH G ad F4 H := gH_to ht hB1
  refine lv_iload_n hx hb dX11_early_14 rfl (lv_at hl 0 rfl) ?_
  refine lv_if_eq (tgt := 47) hx hb dX11_early_15 (by decide) (fun c5 => ?_) (fun c5 => ?_)
  · have q := (if_pos c5).mp q
    exact t_47 F4 p1 p2 r1 r3 _ _ _ hH hS (lv_sub hl [1, 2, 3] rfl) q
  · have q := (if_neg c5).mp q
    refine lv_aload_n hx hb dX11_early_18 rfl (lv_at hl 1 rfl) ?_
    refine g_get (ci := 15) (v := .int (F4 40 0 14)) (C := RX11) (T := TX11) (N := 44) hx hb hts (fun _ h => (List.mem_cons_of_mem _ (List.mem_append_left _ (List.mem_append_right _ h)))) hown hK hH 40 0 (by decide) Nat.zero_lt_one rfl rfl 14 (by decide) (hts (.fieldLink RX11 41 "BallotFoundryModel" "stage" "I") (List.mem_of_getElem? (i := 1) rfl)) (fun _ h => h) rfl dX11_early_19 ?_
    refine lv_iconst (v := 2) hx hb dX11_early_22 (by decide) ?_
    refine lv_icmp_ne (tgt := 47) hx hb dX11_early_23 (by decide) (fun c20 => ?_) (fun c20 => ?_)
    · have q := (if_neg c20).mp q
      exact t_47 F4 p1 p2 r1 r3 _ _ _ hH hS (lv_sub hl [1, 2, 3] rfl) q
    · have q := (if_pos c20).mp q
      refine lv_aload_n hx hb dX11_early_26 rfl (lv_at hl 1 rfl) ?_
      refine lv_iload_n hx hb dX11_early_27 rfl (lv_at hl 2 rfl) ?_
      refine va_calli (va_runV (As := [.int p1]) (rest := [.int r3, .int r1, .ref (ad 40 0)]) ⟨hx, hb, hml, hown, hts⟩ (c_X11_canVote l G ad F4 p1 _) (cwV 1 hts gX11_early_X11_canVote rfl rfl rfl (by decide +kernel) ⟨Nat.le_of_ble_eq_true rfl, Nat.le_of_ble_eq_true rfl⟩) ⟨fun a U g mk h => ⟨h.1, gD_blind h.2.1, h.2.2⟩, g_recv (C := RX11) (T := TX11) (N := 44) hK hH 40 0 (by decide) Nat.zero_lt_one rfl rfl, fun U hU hW => ⟨rfl, gD_at hK hG hB hH hS hU hW, q⟩⟩ rfl rfl hl.1 rfl (lv_room (Nat.le_of_ble_eq_true rfl)) dX11_early_28 ⟨Nat.le_of_ble_eq_true rfl, Nat.le_of_ble_eq_true rfl⟩) hS (fun _ _ h => h) (fun _ h => h) (fun r21 F22 t H locs ht hvm q hB1 hz hk hS => ?_)
      have hH : gH G ad F22 H := gH_to ht hB1
      refine lv_if_eq (tgt := 47) hx hb dX11_early_31 (by decide) (fun c23 => ?_) (fun c23 => ?_)
      · have q := (if_pos c23).mp q
        exact t_47 F22 p1 p2 r1 r3 _ _ _ hH hS (lv_sub hl [1, 2, 3] rfl) q
      · have q := (if_neg c23).mp q
        refine lv_aload_n hx hb dX11_early_34 rfl (lv_at hl 1 rfl) ?_
        refine g_get (ci := 15) (v := .int (F22 40 0 26)) (C := RX11) (T := TX11) (N := 44) hx hb hts (fun _ h => (List.mem_cons_of_mem _ (List.mem_append_left _ (List.mem_append_right _ h)))) hown hK hH 40 0 (by decide) Nat.zero_lt_one rfl rfl 26 (by decide) (hts (.fieldLink RX11 165 "BallotFoundryModel" "envelopes" "I") (List.mem_of_getElem? (i := 2) rfl)) (fun _ h => h) rfl dX11_early_35 ?_
        refine lv_bipush (v := 60) hx hb dX11_early_38 (by decide) ?_
        refine lv_icmp_ge (tgt := 47) hx hb dX11_early_40 (by decide) (fun c24 => ?_) (fun c24 => ?_)
        · have q := (if_pos c24).mp q
          exact t_47 F22 p1 p2 r1 r3 _ _ _ hH hS (lv_sub hl [1, 2, 3] rfl) q
        · have q := (if_neg c24).mp q
          refine lv_iconst (v := 1) hx hb dX11_early_43 (by decide) ?_
          refine lv_goto (tgt := 48) hx hb dX11_early_44 (by decide) ?_
          exact t_48 F22 p1 p2 r1 r3 1 _ _ _ hH hS (lv_sub hl [1, 2, 3] rfl) q
abbrev rm_X11_vote : Room := { frames := 2, cells := 0, slots := 0, locals := 45 }
abbrev q_X11_vote (G : GP) (ad : Nat → Nat → Nat) (K : Int32 → GF → Prop) (below : List Frame) (args : Array Value) (s : State) : State → Prop := MQ below (gQi G ad K) args s 0 0 (gA G)
set_option maxHeartbeats 4000000 in
set_option maxRecDepth 100000 in
theorem c_X11_vote (l : Launch) (G : GP) (ad : Nat → Nat → Nat) (F : GF) (p1 : Int32) (p2 : Int32) (p3 : Int32) (K : Int32 → GF → Prop) : Met l yX11_vote wsX11_vote rm_X11_vote (va_Pc [.ref (ad 40 0), .int p1, .int p2, .int p3] (fun U => gD G ad F U ∧ P_X11_vote F p1 p2 p3 K)) (gQi G ad K) 0 0 (gA G) := by
  refine Met.ofW (cc := cX11_vote) (maxL := 5) (ret := (some .int)) (by decide) rfl ?_
  intro p e s m args below meth c s₁ Bd hml hv
  obtain ⟨rfl, ⟨hK, hG, hB, hH⟩, q⟩ := hv
  have hx := Bd.exec
  have hb := Bd.bytes
  have hr := Bd.returns
  have hts := atoms_spec (ws := wsX11_vote) Bd.pre
  have hown : s.vm.findClass RX11 = some m.cls := findClass_of_methodNamed Bd.named
  have hlocks := Bd.notSynchronized
  have hS : va_S (gA G) s.heap s.heap [] := va_S.rf
  have hl := lv_entry [.ref (ad 40 0), .int p1, .int p2, .int p3] (n := 5) (Nat.le_of_ble_eq_true rfl)
  rw [lg_entry_eq]
  generalize (lg_sl [.ref (ad 40 0), .int p1, .int p2, .int p3] ++ List.replicate (5 - (lg_sl [.ref (ad 40 0), .int p1, .int p2, .int p3]).length) Slot.unset).toArray = ls at hl ⊢
  have hl : lv_has ls 5 [(0, .ref (ad 40 0)), (1, .int p1), (2, .int p2), (3, .int p3)] := hl
  show W p l e rm_X11_vote s m ([.ref (ad 40 0), .int p1, .int p2, .int p3] : List Value).toArray below meth c s.heap [] 0 0 (q_X11_vote G ad K below ([.ref (ad 40 0), .int p1, .int p2, .int p3] : List Value).toArray s) _
  have t_77 : ∀ (F : GF) (x1 : Int32) (x3 : Int32) (s1 : Int32) (s2 : Int32) (s3 : Int32) (H : Heap) (locs : List Loc) (ls : Array Slot), gH G ad F H → va_S (gA G) s.heap H locs → lv_has ls 5 [(0, .ref (ad 40 0)), (1, .int x1), (3, .int x3)] → (P_X11_vote_77 K) F x1 x3 s1 s2 s3 → W p l e rm_X11_vote s m ([.ref (ad 40 0), .int p1, .int p2, .int p3] : List Value).toArray below meth c H locs 0 0 (q_X11_vote G ad K below ([.ref (ad 40 0), .int p1, .int p2, .int p3] : List Value).toArray s) (F0 m 77 ls [.int s3, .int s2, .int s1, .ref (ad 40 0)]) := by
    intro F x1 x3 s1 s2 s3 H locs ls hH hS hl q
    unfold P_X11_vote_77 at q
    refine va_calli (va_runV (As := [.int s1, .int s2, .int s3]) (rest := []) ⟨hx, hb, hml, hown, hts⟩ (c_X11_asked__ l G ad F s1 s2 s3 _) (cwV 3 hts gX11_vote_X11_asked__ rfl rfl rfl (by decide +kernel) ⟨Nat.le_of_ble_eq_true rfl, Nat.le_of_ble_eq_true rfl⟩) ⟨fun a U g mk h => ⟨h.1, gD_blind h.2.1, h.2.2⟩, g_recv (C := RX11) (T := TX11) (N := 44) hK hH 40 0 (by decide) Nat.zero_lt_one rfl rfl, fun U hU hW => ⟨rfl, gD_at hK hG hB hH hS hU hW, q⟩⟩ rfl rfl hl.1 rfl (lv_room (Nat.le_of_ble_eq_true rfl)) dX11_vote_77 ⟨Nat.le_of_ble_eq_true rfl, Nat.le_of_ble_eq_true rfl⟩) hS (fun _ _ h => h) (fun _ h => h) (fun r7 F8 t H locs ht hvm q hB1 hz hk hS => ?_)
    have hH : gH G ad F8 H := gH_to ht hB1
    refine lv_if_ne (tgt := 85) hx hb dX11_vote_80 (by decide) (fun c9 => ?_) (fun c9 => ?_)
    · have q := (if_neg c9).mp q
      refine lv_aload_n hx hb dX11_vote_85 rfl (lv_at hl 0 rfl) ?_
      refine lv_iload_n hx hb dX11_vote_86 rfl (lv_at hl 1 rfl) ?_
      refine va_calli (va_runV (As := [.int x1]) (rest := []) ⟨hx, hb, hml, hown, hts⟩ (c_X11_voids l G ad F8 x1 _) (cwV 1 hts gX11_vote_X11_voids rfl rfl rfl (by decide +kernel) ⟨Nat.le_of_ble_eq_true rfl, Nat.le_of_ble_eq_true rfl⟩) ⟨fun a U g mk h => ⟨h.1, gD_blind h.2.1, h.2.2⟩, g_recv (C := RX11) (T := TX11) (N := 44) hK hH 40 0 (by decide) Nat.zero_lt_one rfl rfl, fun U hU hW => ⟨rfl, gD_at hK hG hB hH hS hU hW, q⟩⟩ rfl rfl hl.1 rfl (lv_room (Nat.le_of_ble_eq_true rfl)) dX11_vote_87 ⟨Nat.le_of_ble_eq_true rfl, Nat.le_of_ble_eq_true rfl⟩) hS (fun _ _ h => h) (fun _ h => h) (fun r10 F11 t H locs ht hvm q hB1 hz hk hS => ?_)
      have hH : gH G ad F11 H := gH_to ht hB1
      refine lv_pop hx hb dX11_vote_90 rfl ?_
      refine lv_aload_n hx hb dX11_vote_91 rfl (lv_at hl 0 rfl) ?_
      refine lv_aload_n hx hb dX11_vote_92 rfl (lv_at hl 0 rfl) ?_
      refine g_get (ci := 15) (v := .int (F11 40 0 0)) (C := RX11) (T := TX11) (N := 44) hx hb hts (fun _ h => (List.mem_cons_of_mem _ (List.mem_append_left _ (List.mem_append_right _ h)))) hown hK hH 40 0 (by decide) Nat.zero_lt_one rfl rfl 0 (by decide) (hts (.fieldLink RX11 149 "BallotFoundryModel" "today" "I") (List.mem_of_getElem? (i := 4) rfl)) (fun _ h => h) rfl dX11_vote_93 ?_
      refine lv_bipush (v := 118) hx hb dX11_vote_96 (by decide) ?_
      refine lv_iload_n hx hb dX11_vote_98 rfl (lv_at hl 1 rfl) ?_
      refine va_callv (va_runV (As := [.int (F11 40 0 0), .int 118, .int x1]) (rest := []) ⟨hx, hb, hml, hown, hts⟩ (c_X11_notes l G ad F11 (F11 40 0 0) 118 x1 _) (cwV 3 hts gX11_vote_X11_notes rfl rfl rfl (by decide +kernel) ⟨Nat.le_of_ble_eq_true rfl, Nat.le_of_ble_eq_true rfl⟩) ⟨fun a U g mk h => ⟨h.1, gD_blind h.2.1, h.2.2⟩, g_recv (C := RX11) (T := TX11) (N := 44) hK hH 40 0 (by decide) Nat.zero_lt_one rfl rfl, fun U hU hW => ⟨rfl, gD_at hK hG hB hH hS hU hW, q⟩⟩ rfl rfl hl.1 rfl (lv_room (Nat.le_of_ble_eq_true rfl)) dX11_vote_99 ⟨Nat.le_of_ble_eq_true rfl, Nat.le_of_ble_eq_true rfl⟩) hS (fun _ _ h => h) (fun _ h => h) (fun F13 t H locs ht hvm q hB1 hz hk hS => ?_)
      have hH : gH G ad F13 H := gH_to ht hB1
      refine lv_aload_n hx hb dX11_vote_102 rfl (lv_at hl 0 rfl) ?_
      refine lv_iload_n hx hb dX11_vote_103 rfl (lv_at hl 1 rfl) ?_
      refine lv_iload_n hx hb dX11_vote_104 rfl (lv_at hl 2 rfl) ?_
      refine va_calli (va_runV (As := [.int x1, .int x3]) (rest := []) ⟨hx, hb, hml, hown, hts⟩ (c_X11_casts l G ad F13 x1 x3 _) (cwV 2 hts gX11_vote_X11_casts rfl rfl rfl (by decide +kernel) ⟨Nat.le_of_ble_eq_true rfl, Nat.le_of_ble_eq_true rfl⟩) ⟨fun a U g mk h => ⟨h.1, gD_blind h.2.1, h.2.2⟩, g_recv (C := RX11) (T := TX11) (N := 44) hK hH 40 0 (by decide) Nat.zero_lt_one rfl rfl, fun U hU hW => ⟨rfl, gD_at hK hG hB hH hS hU hW, q⟩⟩ rfl rfl hl.1 rfl (lv_room (Nat.le_of_ble_eq_true rfl)) dX11_vote_105 ⟨Nat.le_of_ble_eq_true rfl, Nat.le_of_ble_eq_true rfl⟩) hS (fun _ _ h => h) (fun _ h => h) (fun r14 F15 t H locs ht hvm q hB1 hz hk hS => ?_)
      have hH : gH G ad F15 H := gH_to ht hB1
      exact (W.iret (v := r14) hx hb hr (fun t ht hW => ⟨⟨r14, F15, rfl, q, gH_at ht hH⟩, hS.F ht⟩) hS.2.2 dX11_vote_108)
    · have q := (if_pos c9).mp q
      refine lv_iconst (v := 0) hx hb dX11_vote_83 (by decide) ?_
      exact (W.iret (v := 0) hx hb hr (fun t ht hW => ⟨⟨0, F8, rfl, q, gH_at ht hH⟩, hS.F ht⟩) hS.2.2 dX11_vote_84)
  have t_76 : ∀ (F : GF) (x1 : Int32) (x3 : Int32) (s1 : Int32) (s2 : Int32) (H : Heap) (locs : List Loc) (ls : Array Slot), gH G ad F H → va_S (gA G) s.heap H locs → lv_has ls 5 [(0, .ref (ad 40 0)), (1, .int x1), (3, .int x3)] → (P_X11_vote_76 K) F x1 x3 s1 s2 → W p l e rm_X11_vote s m ([.ref (ad 40 0), .int p1, .int p2, .int p3] : List Value).toArray below meth c H locs 0 0 (q_X11_vote G ad K below ([.ref (ad 40 0), .int p1, .int p2, .int p3] : List Value).toArray s) (F0 m 76 ls [.int s2, .int s1, .ref (ad 40 0)]) := by
    intro F x1 x3 s1 s2 H locs ls hH hS hl q
    unfold P_X11_vote_76 at q
    refine lv_iconst (v := 0) hx hb dX11_vote_76 (by decide) ?_
    exact t_77 F x1 x3 s1 s2 0 _ _ _ hH hS (lv_sub hl [0, 1, 2] rfl) q
  have t_21 : ∀ (F : GF) (x1 : Int32) (x2 : Int32) (x3 : Int32) (s0 : Int32) (H : Heap) (locs : List Loc) (ls : Array Slot), gH G ad F H → va_S (gA G) s.heap H locs → lv_has ls 5 [(0, .ref (ad 40 0)), (1, .int x1), (2, .int x2), (3, .int x3)] → (P_X11_vote_21 K) F x1 x2 x3 s0 → W p l e rm_X11_vote s m ([.ref (ad 40 0), .int p1, .int p2, .int p3] : List Value).toArray below meth c H locs 0 0 (q_X11_vote G ad K below ([.ref (ad 40 0), .int p1, .int p2, .int p3] : List Value).toArray s) (F0 m 21 ls [.int s0]) := by
    intro F x1 x2 x3 s0 H locs ls hH hS hl q
    unfold P_X11_vote_21 at q
    refine lv_istore (lv' := [(4, .int s0), (0, .ref (ad 40 0)), (1, .int x1), (2, .int x2), (3, .int x3)]) hx hb dX11_vote_21 hl (by decide) rfl (fun ls hl => ?_)
    refine lv_aload_n hx hb dX11_vote_23 rfl (lv_at hl 1 rfl) ?_
    refine lv_iload hx hb dX11_vote_24 (lv_at hl 0 rfl) ?_
    refine lv_iload_n hx hb dX11_vote_26 rfl (lv_at hl 4 rfl) ?_
    refine lv_iconst (v := 0) hx hb dX11_vote_27 (by decide) ?_
    refine lv_iconst (v := 5) hx hb dX11_vote_28 (by decide) ?_
    refine va_calli (va_runS (As := [.int x3, .int 0, .int 5]) (rest := [.int s0, .ref (ad 40 0)]) ⟨hx, hb, hml, hown, hts⟩ (c_X11_in l G ad F x3 0 5 _) (va_cwS 3 hts gX11_vote_X11_in rfl rfl rfl (by decide +kernel) ⟨Nat.le_of_ble_eq_true rfl, Nat.le_of_ble_eq_true rfl⟩) ⟨fun a U g mk h => ⟨h.1, gD_blind h.2.1, h.2.2⟩, fun U hU hW => ⟨rfl, gD_at hK hG hB hH hS hU hW, q⟩⟩ rfl rfl hl.1 rfl (lv_room (Nat.le_of_ble_eq_true rfl)) dX11_vote_29 ⟨Nat.le_of_ble_eq_true rfl, Nat.le_of_ble_eq_true rfl⟩) hS (fun _ _ h => h) (fun _ h => h) (fun r4 F5 t H locs ht hvm q hB1 hz hk hS => ?_)
    have hH : gH G ad F5 H := gH_to ht hB1
    refine lv_iload hx hb dX11_vote_32 (lv_at hl 0 rfl) ?_
    refine lv_if_eq (tgt := 76) hx hb dX11_vote_34 (by decide) (fun c6 => ?_) (fun c6 => ?_)
    · have q := (if_pos c6).mp q
      exact t_76 F5 x1 x3 s0 r4 _ _ _ hH hS (lv_sub hl [1, 2, 4] rfl) q
    · have q := (if_neg c6).mp q
      refine lv_aload_n hx hb dX11_vote_37 rfl (lv_at hl 1 rfl) ?_
      refine g_get (ci := 15) (v := .int (F5 40 0 14)) (C := RX11) (T := TX11) (N := 44) hx hb hts (fun _ h => (List.mem_cons_of_mem _ (List.mem_append_left _ (List.mem_append_right _ h)))) hown hK hH 40 0 (by decide) Nat.zero_lt_one rfl rfl 14 (by decide) (hts (.fieldLink RX11 41 "BallotFoundryModel" "stage" "I") (List.mem_of_getElem? (i := 1) rfl)) (fun _ h => h) rfl dX11_vote_38 ?_
      refine lv_iconst (v := 3) hx hb dX11_vote_41 (by decide) ?_
      refine lv_icmp_ne (tgt := 76) hx hb dX11_vote_42 (by decide) (fun c16 => ?_) (fun c16 => ?_)
      · have q := (if_neg c16).mp q
        exact t_76 F5 x1 x3 s0 r4 _ _ _ hH hS (lv_sub hl [1, 2, 4] rfl) q
      · have q := (if_pos c16).mp q
        refine lv_aload_n hx hb dX11_vote_45 rfl (lv_at hl 1 rfl) ?_
        refine lv_iload_n hx hb dX11_vote_46 rfl (lv_at hl 2 rfl) ?_
        refine va_calli (va_runV (As := [.int x1]) (rest := [.int r4, .int s0, .ref (ad 40 0)]) ⟨hx, hb, hml, hown, hts⟩ (c_X11_canVote l G ad F5 x1 _) (cwV 1 hts gX11_vote_X11_canVote rfl rfl rfl (by decide +kernel) ⟨Nat.le_of_ble_eq_true rfl, Nat.le_of_ble_eq_true rfl⟩) ⟨fun a U g mk h => ⟨h.1, gD_blind h.2.1, h.2.2⟩, g_recv (C := RX11) (T := TX11) (N := 44) hK hH 40 0 (by decide) Nat.zero_lt_one rfl rfl, fun U hU hW => ⟨rfl, gD_at hK hG hB hH hS hU hW, q⟩⟩ rfl rfl hl.1 rfl (lv_room (Nat.le_of_ble_eq_true rfl)) dX11_vote_47 ⟨Nat.le_of_ble_eq_true rfl, Nat.le_of_ble_eq_true rfl⟩) hS (fun _ _ h => h) (fun _ h => h) (fun r17 F18 t H locs ht hvm q hB1 hz hk hS => ?_)
        have hH : gH G ad F18 H := gH_to ht hB1
        refine lv_if_eq (tgt := 76) hx hb dX11_vote_50 (by decide) (fun c19 => ?_) (fun c19 => ?_)
        · have q := (if_pos c19).mp q
          exact t_76 F18 x1 x3 s0 r4 _ _ _ hH hS (lv_sub hl [1, 2, 4] rfl) q
        · have q := (if_neg c19).mp q
          refine lv_aload_n hx hb dX11_vote_53 rfl (lv_at hl 1 rfl) ?_
          refine g_get (ci := 15) (v := .ref (ad 54 0)) (C := RX11) (T := TX11) (N := 44) hx hb hts (fun _ h => (List.mem_cons_of_mem _ (List.mem_append_left _ (List.mem_append_right _ h)))) hown hK hH 40 0 (by decide) Nat.zero_lt_one rfl rfl 22 (by decide) (hts (.fieldLink RX11 54 "BallotFoundryModel" "voted" "[Z") (List.mem_of_getElem? (i := 2) rfl)) (fun _ h => h) rfl dX11_vote_54 ?_
          refine lv_iload_n hx hb dX11_vote_57 rfl (lv_at hl 2 rfl) ?_
          obtain ⟨h20, q⟩ := q
          refine g_zald hx hb hK hH 54 0 (by decide) Nat.zero_lt_one 20 rfl h20 dX11_vote_58 ?_
          refine lv_if_ne (tgt := 76) hx hb dX11_vote_59 (by decide) (fun c21 => ?_) (fun c21 => ?_)
          · have q := (if_neg c21).mp q
            exact t_76 F18 x1 x3 s0 r4 _ _ _ hH hS (lv_sub hl [1, 2, 4] rfl) q
          · have q := (if_pos c21).mp q
            refine lv_aload_n hx hb dX11_vote_62 rfl (lv_at hl 1 rfl) ?_
            refine g_get (ci := 15) (v := .ref (ad 52 0)) (C := RX11) (T := TX11) (N := 44) hx hb hts (fun _ h => (List.mem_cons_of_mem _ (List.mem_append_left _ (List.mem_append_right _ h)))) hown hK hH 40 0 (by decide) Nat.zero_lt_one rfl rfl 20 (by decide) (hts (.fieldLink RX11 48 "BallotFoundryModel" "ownStation" "[I") (List.mem_of_getElem? (i := 3) rfl)) (fun _ h => h) rfl dX11_vote_63 ?_
            refine lv_iload_n hx hb dX11_vote_66 rfl (lv_at hl 2 rfl) ?_
            obtain ⟨h22, q⟩ := q
            refine g_iald hx hb hK hH 52 0 (by decide) Nat.zero_lt_one 20 rfl h22 dX11_vote_67 ?_
            refine lv_iload_n hx hb dX11_vote_68 rfl (lv_at hl 3 rfl) ?_
            refine lv_icmp_ne (tgt := 76) hx hb dX11_vote_69 (by decide) (fun c23 => ?_) (fun c23 => ?_)
            · have q := (if_neg c23).mp q
              exact t_76 F18 x1 x3 s0 r4 _ _ _ hH hS (lv_sub hl [1, 2, 4] rfl) q
            · have q := (if_pos c23).mp q
              refine lv_iconst (v := 1) hx hb dX11_vote_72 (by decide) ?_
              refine lv_goto (tgt := 77) hx hb dX11_vote_73 (by decide) ?_
              exact t_77 F18 x1 x3 s0 r4 1 _ _ _ hH hS (lv_sub hl [1, 2, 4] rfl) q
  have t_20 : ∀ (F : GF) (x1 : Int32) (x2 : Int32) (x3 : Int32) (H : Heap) (locs : List Loc) (ls : Array Slot), gH G ad F H → va_S (gA G) s.heap H locs → lv_has ls 5 [(0, .ref (ad 40 0)), (1, .int x1), (2, .int x2), (3, .int x3)] → (P_X11_vote_20 K) F x1 x2 x3 → W p l e rm_X11_vote s m ([.ref (ad 40 0), .int p1, .int p2, .int p3] : List Value).toArray below meth c H locs 0 0 (q_X11_vote G ad K below ([.ref (ad 40 0), .int p1, .int p2, .int p3] : List Value).toArray s) (F0 m 20 ls []) := by
    intro F x1 x2 x3 H locs ls hH hS hl q
    unfold P_X11_vote_20 at q
    refine lv_iconst (v := 0) hx hb dX11_vote_20 (by decide) ?_
    exact t_21 F x1 x2 x3 0 _ _ _ hH hS (lv_sub hl [0, 1, 2, 3] rfl) q
  unfold P_X11_vote at q
  refine lv_aload_n hx hb dX11_vote_0 rfl (lv_at hl 0 rfl) ?_
  refine lv_iload_n hx hb dX11_vote_1 rfl (lv_at hl 1 rfl) ?_
  refine va_calli (va_runV (As := [.int p1]) (rest := []) ⟨hx, hb, hml, hown, hts⟩ (c_X11_isPerson l G ad F p1 _) (cwV 1 hts gX11_vote_X11_isPerson rfl rfl rfl (by decide +kernel) ⟨Nat.le_of_ble_eq_true rfl, Nat.le_of_ble_eq_true rfl⟩) ⟨fun a U g mk h => ⟨h.1, gD_blind h.2.1, h.2.2⟩, g_recv (C := RX11) (T := TX11) (N := 44) hK hH 40 0 (by decide) Nat.zero_lt_one rfl rfl, fun U hU hW => ⟨rfl, gD_at hK hG hB hH hS hU hW, q⟩⟩ rfl rfl hl.1 rfl (lv_room (Nat.le_of_ble_eq_true rfl)) dX11_vote_2 ⟨Nat.le_of_ble_eq_true rfl, Nat.le_of_ble_eq_true rfl⟩) hS (fun _ _ h => h) (fun _ h => h) (fun r1 F2 t H locs ht hvm q hB1 hz hk hS => ?_)
  have hH : gH G ad F2 H := gH_to ht hB1
  refine lv_if_eq (tgt := 20) hx hb dX11_vote_5 (by decide) (fun c3 => ?_) (fun c3 => ?_)
  · have q := (if_pos c3).mp q
    exact t_20 F2 p1 p2 p3 _ _ _ hH hS (lv_sub hl [0, 1, 2, 3] rfl) q
  · have q := (if_neg c3).mp q
    refine lv_aload_n hx hb dX11_vote_8 rfl (lv_at hl 0 rfl) ?_
    refine lv_iload_n hx hb dX11_vote_9 rfl (lv_at hl 2 rfl) ?_
    refine va_calli (va_runV (As := [.int p2]) (rest := []) ⟨hx, hb, hml, hown, hts⟩ (c_X11_isStation l G ad F2 p2 _) (cwV 1 hts gX11_vote_X11_isStation rfl rfl rfl (by decide +kernel) ⟨Nat.le_of_ble_eq_true rfl, Nat.le_of_ble_eq_true rfl⟩) ⟨fun a U g mk h => ⟨h.1, gD_blind h.2.1, h.2.2⟩, g_recv (C := RX11) (T := TX11) (N := 44) hK hH 40 0 (by decide) Nat.zero_lt_one rfl rfl, fun U hU hW => ⟨rfl, gD_at hK hG hB hH hS hU hW, q⟩⟩ rfl rfl hl.1 rfl (lv_room (Nat.le_of_ble_eq_true rfl)) dX11_vote_10 ⟨Nat.le_of_ble_eq_true rfl, Nat.le_of_ble_eq_true rfl⟩) hS (fun _ _ h => h) (fun _ h => h) (fun r24 F25 t H locs ht hvm q hB1 hz hk hS => ?_)
    have hH : gH G ad F25 H := gH_to ht hB1
    refine lv_if_eq (tgt := 20) hx hb dX11_vote_13 (by decide) (fun c26 => ?_) (fun c26 => ?_)
    · have q := (if_pos c26).mp q
      exact t_20 F25 p1 p2 p3 _ _ _ hH hS (lv_sub hl [0, 1, 2, 3] rfl) q
    · have q := (if_neg c26).mp q
      refine lv_iconst (v := 1) hx hb dX11_vote_16 (by decide) ?_
      refine lv_goto (tgt := 21) hx hb dX11_vote_17 (by decide) ?_
      exact t_21 F25 p1 p2 p3 1 _ _ _ hH hS (lv_sub hl [0, 1, 2, 3] rfl) q
abbrev rm_X11_open : Room := { frames := 2, cells := 0, slots := 0, locals := 43 }
abbrev q_X11_open (G : GP) (ad : Nat → Nat → Nat) (K : Int32 → GF → Prop) (below : List Frame) (args : Array Value) (s : State) : State → Prop := MQ below (gQi G ad K) args s 0 0 (gA G)
set_option maxHeartbeats 4000000 in
set_option maxRecDepth 100000 in
theorem c_X11_open (l : Launch) (G : GP) (ad : Nat → Nat → Nat) (F : GF) (p1 : Int32) (K : Int32 → GF → Prop) : Met l yX11_open wsX11_open rm_X11_open (va_Pc [.ref (ad 40 0), .int p1] (fun U => gD G ad F U ∧ P_X11_open F p1 K)) (gQi G ad K) 0 0 (gA G) := by
  refine Met.ofW (cc := cX11_open) (maxL := 4) (ret := (some .int)) (by decide) rfl ?_
  intro p e s m args below meth c s₁ Bd hml hv
  obtain ⟨rfl, ⟨hK, hG, hB, hH⟩, q⟩ := hv
  have hx := Bd.exec
  have hb := Bd.bytes
  have hr := Bd.returns
  have hts := atoms_spec (ws := wsX11_open) Bd.pre
  have hown : s.vm.findClass RX11 = some m.cls := findClass_of_methodNamed Bd.named
  have hlocks := Bd.notSynchronized
  have hS : va_S (gA G) s.heap s.heap [] := va_S.rf
  have hl := lv_entry [.ref (ad 40 0), .int p1] (n := 4) (Nat.le_of_ble_eq_true rfl)
  rw [lg_entry_eq]
  generalize (lg_sl [.ref (ad 40 0), .int p1] ++ List.replicate (4 - (lg_sl [.ref (ad 40 0), .int p1]).length) Slot.unset).toArray = ls at hl ⊢
  have hl : lv_has ls 4 [(0, .ref (ad 40 0)), (1, .int p1)] := hl
  show W p l e rm_X11_open s m ([.ref (ad 40 0), .int p1] : List Value).toArray below meth c s.heap [] 0 0 (q_X11_open G ad K below ([.ref (ad 40 0), .int p1] : List Value).toArray s) _
  have t_40 : ∀ (F : GF) (x1 : Int32) (x3 : Int32) (s1 : Int32) (s2 : Int32) (H : Heap) (locs : List Loc) (ls : Array Slot), gH G ad F H → va_S (gA G) s.heap H locs → lv_has ls 4 [(0, .ref (ad 40 0)), (1, .int x1), (3, .int x3)] → (P_X11_open_40 K) F x1 x3 s1 s2 → W p l e rm_X11_open s m ([.ref (ad 40 0), .int p1] : List Value).toArray below meth c H locs 0 0 (q_X11_open G ad K below ([.ref (ad 40 0), .int p1] : List Value).toArray s) (F0 m 40 ls [.int s2, .int s1, .ref (ad 40 0)]) := by
    intro F x1 x3 s1 s2 H locs ls hH hS hl q
    unfold P_X11_open_40 at q
    refine va_calli (va_runV (As := [.int s1, .int s2]) (rest := []) ⟨hx, hb, hml, hown, hts⟩ (c_X11_asked_ l G ad F s1 s2 _) (cwV 2 hts gX11_open_X11_asked_ rfl rfl rfl (by decide +kernel) ⟨Nat.le_of_ble_eq_true rfl, Nat.le_of_ble_eq_true rfl⟩) ⟨fun a U g mk h => ⟨h.1, gD_blind h.2.1, h.2.2⟩, g_recv (C := RX11) (T := TX11) (N := 44) hK hH 40 0 (by decide) Nat.zero_lt_one rfl rfl, fun U hU hW => ⟨rfl, gD_at hK hG hB hH hS hU hW, q⟩⟩ rfl rfl hl.1 rfl (lv_room (Nat.le_of_ble_eq_true rfl)) dX11_open_40 ⟨Nat.le_of_ble_eq_true rfl, Nat.le_of_ble_eq_true rfl⟩) hS (fun _ _ h => h) (fun _ h => h) (fun r5 F6 t H locs ht hvm q hB1 hz hk hS => ?_)
    have hH : gH G ad F6 H := gH_to ht hB1
    refine lv_if_ne (tgt := 48) hx hb dX11_open_43 (by decide) (fun c7 => ?_) (fun c7 => ?_)
    · have q := (if_neg c7).mp q
      refine lv_aload_n hx hb dX11_open_48 rfl (lv_at hl 0 rfl) ?_
      refine g_get (ci := 15) (v := .ref (ad 57 0)) (C := RX11) (T := TX11) (N := 44) hx hb hts (fun _ h => (List.mem_cons_of_mem _ (List.mem_append_left _ (List.mem_append_right _ h)))) hown hK hH 40 0 (by decide) Nat.zero_lt_one rfl rfl 25 (by decide) (hts (.fieldLink RX11 63 "BallotFoundryModel" "state" "[I") (List.mem_of_getElem? (i := 2) rfl)) (fun _ h => h) rfl dX11_open_49 ?_
      refine lv_iload_n hx hb dX11_open_52 rfl (lv_at hl 2 rfl) ?_
      refine lv_iconst (v := 2) hx hb dX11_open_53 (by decide) ?_
      obtain ⟨h8, q⟩ := q
      refine g_iast hx hb hK hH hS 57 0 (by decide) Nat.zero_lt_one (by decide) 60 (fun _ => rfl) h8 dX11_open_54 (fun H locs hH hS => ?_)
      obtain ⟨F9, eF9⟩ : ∃ z, z = fs F6 57 0 x3.toNatClampNeg 2 := ⟨_, rfl⟩
      have q := q F9 eF9
      rw [← eF9] at hH
      refine lv_aload_n hx hb dX11_open_55 rfl (lv_at hl 0 rfl) ?_
      refine lv_iload_n hx hb dX11_open_56 rfl (lv_at hl 1 rfl) ?_
      refine lv_aload_n hx hb dX11_open_57 rfl (lv_at hl 0 rfl) ?_
      refine g_get (ci := 15) (v := .ref (ad 56 0)) (C := RX11) (T := TX11) (N := 44) hx hb hts (fun _ h => (List.mem_cons_of_mem _ (List.mem_append_left _ (List.mem_append_right _ h)))) hown hK hH 40 0 (by decide) Nat.zero_lt_one rfl rfl 24 (by decide) (hts (.fieldLink RX11 60 "BallotFoundryModel" "vote" "[I") (List.mem_of_getElem? (i := 3) rfl)) (fun _ h => h) rfl dX11_open_58 ?_
      refine lv_iload_n hx hb dX11_open_61 rfl (lv_at hl 2 rfl) ?_
      obtain ⟨h10, q⟩ := q
      refine g_iald hx hb hK hH 56 0 (by decide) Nat.zero_lt_one 60 rfl h10 dX11_open_62 ?_
      refine va_calli (va_runV (As := [.int x1, .int (F9 56 0 x3.toNatClampNeg)]) (rest := []) ⟨hx, hb, hml, hown, hts⟩ (c_X11_casts l G ad F9 x1 (F9 56 0 x3.toNatClampNeg) _) (cwV 2 hts gX11_open_X11_casts rfl rfl rfl (by decide +kernel) ⟨Nat.le_of_ble_eq_true rfl, Nat.le_of_ble_eq_true rfl⟩) ⟨fun a U g mk h => ⟨h.1, gD_blind h.2.1, h.2.2⟩, g_recv (C := RX11) (T := TX11) (N := 44) hK hH 40 0 (by decide) Nat.zero_lt_one rfl rfl, fun U hU hW => ⟨rfl, gD_at hK hG hB hH hS hU hW, q⟩⟩ rfl rfl hl.1 rfl (lv_room (Nat.le_of_ble_eq_true rfl)) dX11_open_63 ⟨Nat.le_of_ble_eq_true rfl, Nat.le_of_ble_eq_true rfl⟩) hS (fun _ _ h => h) (fun _ h => h) (fun r11 F12 t H locs ht hvm q hB1 hz hk hS => ?_)
      have hH : gH G ad F12 H := gH_to ht hB1
      refine lv_pop hx hb dX11_open_66 rfl ?_
      refine lv_aload_n hx hb dX11_open_67 rfl (lv_at hl 0 rfl) ?_
      refine lv_aload_n hx hb dX11_open_68 rfl (lv_at hl 0 rfl) ?_
      refine g_get (ci := 15) (v := .int (F12 40 0 0)) (C := RX11) (T := TX11) (N := 44) hx hb hts (fun _ h => (List.mem_cons_of_mem _ (List.mem_append_left _ (List.mem_append_right _ h)))) hown hK hH 40 0 (by decide) Nat.zero_lt_one rfl rfl 0 (by decide) (hts (.fieldLink RX11 149 "BallotFoundryModel" "today" "I") (List.mem_of_getElem? (i := 4) rfl)) (fun _ h => h) rfl dX11_open_69 ?_
      refine lv_bipush (v := 111) hx hb dX11_open_72 (by decide) ?_
      refine lv_iload_n hx hb dX11_open_74 rfl (lv_at hl 1 rfl) ?_
      refine va_callv (va_runV (As := [.int (F12 40 0 0), .int 111, .int x1]) (rest := []) ⟨hx, hb, hml, hown, hts⟩ (c_X11_notes l G ad F12 (F12 40 0 0) 111 x1 _) (cwV 3 hts gX11_open_X11_notes rfl rfl rfl (by decide +kernel) ⟨Nat.le_of_ble_eq_true rfl, Nat.le_of_ble_eq_true rfl⟩) ⟨fun a U g mk h => ⟨h.1, gD_blind h.2.1, h.2.2⟩, g_recv (C := RX11) (T := TX11) (N := 44) hK hH 40 0 (by decide) Nat.zero_lt_one rfl rfl, fun U hU hW => ⟨rfl, gD_at hK hG hB hH hS hU hW, q⟩⟩ rfl rfl hl.1 rfl (lv_room (Nat.le_of_ble_eq_true rfl)) dX11_open_75 ⟨Nat.le_of_ble_eq_true rfl, Nat.le_of_ble_eq_true rfl⟩) hS (fun _ _ h => h) (fun _ h => h) (fun F14 t H locs ht hvm q hB1 hz hk hS => ?_)
      have hH : gH G ad F14 H := gH_to ht hB1
      refine lv_iload_n hx hb dX11_open_78 rfl (lv_at hl 2 rfl) ?_
      exact (W.iret (v := x3) hx hb hr (fun t ht hW => ⟨⟨x3, F14, rfl, q, gH_at ht hH⟩, hS.F ht⟩) hS.2.2 dX11_open_79)
    · have q := (if_pos c7).mp q
      refine lv_iconst (v := 0) hx hb dX11_open_46 (by decide) ?_
      exact (W.iret (v := 0) hx hb hr (fun t ht hW => ⟨⟨0, F6, rfl, q, gH_at ht hH⟩, hS.F ht⟩) hS.2.2 dX11_open_47)
  have t_27 : ∀ (F : GF) (x1 : Int32) (x2 : Int32) (s0 : Int32) (H : Heap) (locs : List Loc) (ls : Array Slot), gH G ad F H → va_S (gA G) s.heap H locs → lv_has ls 4 [(0, .ref (ad 40 0)), (1, .int x1), (2, .int x2)] → (P_X11_open_27 K) F x1 x2 s0 → W p l e rm_X11_open s m ([.ref (ad 40 0), .int p1] : List Value).toArray below meth c H locs 0 0 (q_X11_open G ad K below ([.ref (ad 40 0), .int p1] : List Value).toArray s) (F0 m 27 ls [.int s0]) := by
    intro F x1 x2 s0 H locs ls hH hS hl q
    unfold P_X11_open_27 at q
    refine lv_istore_n (lv' := [(3, .int s0), (0, .ref (ad 40 0)), (1, .int x1), (2, .int x2)]) hx hb dX11_open_27 rfl hl (by decide) rfl (fun ls hl => ?_)
    refine lv_aload_n hx hb dX11_open_28 rfl (lv_at hl 1 rfl) ?_
    refine lv_iload_n hx hb dX11_open_29 rfl (lv_at hl 3 rfl) ?_
    refine lv_iload_n hx hb dX11_open_30 rfl (lv_at hl 0 rfl) ?_
    refine lv_iconst (v := (-1)) hx hb dX11_open_31 (by decide) ?_
    refine lv_icmp_eq (tgt := 39) hx hb dX11_open_32 (by decide) (fun c4 => ?_) (fun c4 => ?_)
    · have q := (if_pos c4).mp q
      refine lv_iconst (v := 0) hx hb dX11_open_39 (by decide) ?_
      exact t_40 F x1 s0 x2 0 _ _ _ hH hS (lv_sub hl [1, 2, 0] rfl) q
    · have q := (if_neg c4).mp q
      refine lv_iconst (v := 1) hx hb dX11_open_35 (by decide) ?_
      refine lv_goto (tgt := 40) hx hb dX11_open_36 (by decide) ?_
      exact t_40 F x1 s0 x2 1 _ _ _ hH hS (lv_sub hl [1, 2, 0] rfl) q
  have t_26 : ∀ (F : GF) (x1 : Int32) (x2 : Int32) (H : Heap) (locs : List Loc) (ls : Array Slot), gH G ad F H → va_S (gA G) s.heap H locs → lv_has ls 4 [(0, .ref (ad 40 0)), (1, .int x1), (2, .int x2)] → (P_X11_open_26 K) F x1 x2 → W p l e rm_X11_open s m ([.ref (ad 40 0), .int p1] : List Value).toArray below meth c H locs 0 0 (q_X11_open G ad K below ([.ref (ad 40 0), .int p1] : List Value).toArray s) (F0 m 26 ls []) := by
    intro F x1 x2 H locs ls hH hS hl q
    unfold P_X11_open_26 at q
    refine lv_iconst (v := (-1)) hx hb dX11_open_26 (by decide) ?_
    exact t_27 F x1 x2 (-1) _ _ _ hH hS (lv_sub hl [0, 1, 2] rfl) q
  unfold P_X11_open at q
  refine lv_aload_n hx hb dX11_open_0 rfl (lv_at hl 0 rfl) ?_
  refine lv_iload_n hx hb dX11_open_1 rfl (lv_at hl 1 rfl) ?_
  refine va_calli (va_runV (As := [.int p1]) (rest := []) ⟨hx, hb, hml, hown, hts⟩ (c_X11_isPerson l G ad F p1 _) (cwV 1 hts gX11_open_X11_isPerson rfl rfl rfl (by decide +kernel) ⟨Nat.le_of_ble_eq_true rfl, Nat.le_of_ble_eq_true rfl⟩) ⟨fun a U g mk h => ⟨h.1, gD_blind h.2.1, h.2.2⟩, g_recv (C := RX11) (T := TX11) (N := 44) hK hH 40 0 (by decide) Nat.zero_lt_one rfl rfl, fun U hU hW => ⟨rfl, gD_at hK hG hB hH hS hU hW, q⟩⟩ rfl rfl hl.1 rfl (lv_room (Nat.le_of_ble_eq_true rfl)) dX11_open_2 ⟨Nat.le_of_ble_eq_true rfl, Nat.le_of_ble_eq_true rfl⟩) hS (fun _ _ h => h) (fun _ h => h) (fun r1 F2 t H locs ht hvm q hB1 hz hk hS => ?_)
  have hH : gH G ad F2 H := gH_to ht hB1
  refine lv_istore_n (lv' := [(2, .int r1), (0, .ref (ad 40 0)), (1, .int p1)]) hx hb dX11_open_5 rfl hl (by decide) rfl (fun ls hl => ?_)
  refine lv_iload_n hx hb dX11_open_6 rfl (lv_at hl 0 rfl) ?_
  refine lv_if_eq (tgt := 26) hx hb dX11_open_7 (by decide) (fun c3 => ?_) (fun c3 => ?_)
  · have q := (if_pos c3).mp q
    exact t_26 F2 p1 r1 _ _ _ hH hS (lv_sub hl [1, 2, 0] rfl) q
  · have q := (if_neg c3).mp q
    refine lv_aload_n hx hb dX11_open_10 rfl (lv_at hl 1 rfl) ?_
    refine g_get (ci := 15) (v := .int (F2 40 0 14)) (C := RX11) (T := TX11) (N := 44) hx hb hts (fun _ h => (List.mem_cons_of_mem _ (List.mem_append_left _ (List.mem_append_right _ h)))) hown hK hH 40 0 (by decide) Nat.zero_lt_one rfl rfl 14 (by decide) (hts (.fieldLink RX11 41 "BallotFoundryModel" "stage" "I") (List.mem_of_getElem? (i := 1) rfl)) (fun _ h => h) rfl dX11_open_11 ?_
    refine lv_iconst (v := 3) hx hb dX11_open_14 (by decide) ?_
    refine lv_icmp_ne (tgt := 26) hx hb dX11_open_15 (by decide) (fun c15 => ?_) (fun c15 => ?_)
    · have q := (if_neg c15).mp q
      exact t_26 F2 p1 r1 _ _ _ hH hS (lv_sub hl [1, 2, 0] rfl) q
    · have q := (if_pos c15).mp q
      refine lv_aload_n hx hb dX11_open_18 rfl (lv_at hl 1 rfl) ?_
      refine lv_iload_n hx hb dX11_open_19 rfl (lv_at hl 2 rfl) ?_
      refine va_calli (va_runV (As := [.int p1]) (rest := []) ⟨hx, hb, hml, hown, hts⟩ (c_X11_sealedOf l G ad F2 p1 _) (cwV 1 hts gX11_open_X11_sealedOf rfl rfl rfl (by decide +kernel) ⟨Nat.le_of_ble_eq_true rfl, Nat.le_of_ble_eq_true rfl⟩) ⟨fun a U g mk h => ⟨h.1, gD_blind h.2.1, h.2.2⟩, g_recv (C := RX11) (T := TX11) (N := 44) hK hH 40 0 (by decide) Nat.zero_lt_one rfl rfl, fun U hU hW => ⟨rfl, gD_at hK hG hB hH hS hU hW, q⟩⟩ rfl rfl hl.1 rfl (lv_room (Nat.le_of_ble_eq_true rfl)) dX11_open_20 ⟨Nat.le_of_ble_eq_true rfl, Nat.le_of_ble_eq_true rfl⟩) hS (fun _ _ h => h) (fun _ h => h) (fun r16 F17 t H locs ht hvm q hB1 hz hk hS => ?_)
      have hH : gH G ad F17 H := gH_to ht hB1
      refine lv_goto (tgt := 27) hx hb dX11_open_23 (by decide) ?_
      exact t_27 F17 p1 r1 r16 _ _ _ hH hS (lv_sub hl [1, 2, 0] rfl) q
abbrev rm_X11_envelopes : Room := { frames := 1, cells := 0, slots := 0, locals := 21 }
abbrev q_X11_envelopes (G : GP) (ad : Nat → Nat → Nat) (K : Int32 → GF → Prop) (below : List Frame) (args : Array Value) (s : State) : State → Prop := MQ below (gQi G ad K) args s 0 0 (gA G)
set_option maxHeartbeats 4000000 in
set_option maxRecDepth 100000 in
theorem c_X11_envelopes (l : Launch) (G : GP) (ad : Nat → Nat → Nat) (F : GF) (K : Int32 → GF → Prop) : Met l yX11_envelopes wsX11_envelopes rm_X11_envelopes (va_Pc [.ref (ad 40 0)] (fun U => gD G ad F U ∧ P_X11_envelopes F K)) (gQi G ad K) 0 0 (gA G) := by
  refine Met.ofW (cc := cX11_envelopes) (maxL := 1) (ret := (some .int)) (by decide) rfl ?_
  intro p e s m args below meth c s₁ Bd hml hv
  obtain ⟨rfl, ⟨hK, hG, hB, hH⟩, q⟩ := hv
  have hx := Bd.exec
  have hb := Bd.bytes
  have hr := Bd.returns
  have hts := atoms_spec (ws := wsX11_envelopes) Bd.pre
  have hown : s.vm.findClass RX11 = some m.cls := findClass_of_methodNamed Bd.named
  have hlocks := Bd.notSynchronized
  have hS : va_S (gA G) s.heap s.heap [] := va_S.rf
  have hl := lv_entry [.ref (ad 40 0)] (n := 1) (Nat.le_of_ble_eq_true rfl)
  rw [lg_entry_eq]
  generalize (lg_sl [.ref (ad 40 0)] ++ List.replicate (1 - (lg_sl [.ref (ad 40 0)]).length) Slot.unset).toArray = ls at hl ⊢
  have hl : lv_has ls 1 [(0, .ref (ad 40 0))] := hl
  unfold P_X11_envelopes at q
  refine lv_aload_n hx hb dX11_envelopes_0 rfl (lv_at hl 0 rfl) ?_
  refine lv_aload_n hx hb dX11_envelopes_1 rfl (lv_at hl 0 rfl) ?_
  refine g_get (ci := 15) (v := .int (F 40 0 26)) (C := RX11) (T := TX11) (N := 44) hx hb hts (fun _ h => (List.mem_cons_of_mem _ (List.mem_append_right _ h))) hown hK hH 40 0 (by decide) Nat.zero_lt_one rfl rfl 26 (by decide) (hts (.fieldLink RX11 165 "BallotFoundryModel" "envelopes" "I") (List.mem_of_getElem? (i := 1) rfl)) (fun _ h => h) rfl dX11_envelopes_2 ?_
  refine va_calli (va_runV (As := [.int (F 40 0 26)]) (rest := []) ⟨hx, hb, hml, hown, hts⟩ (c_X11_told l G ad F (F 40 0 26) _) (cwV 1 hts gX11_envelopes_X11_told rfl rfl rfl (by decide +kernel) ⟨Nat.le_of_ble_eq_true rfl, Nat.le_of_ble_eq_true rfl⟩) ⟨fun a U g mk h => ⟨h.1, gD_blind h.2.1, h.2.2⟩, g_recv (C := RX11) (T := TX11) (N := 44) hK hH 40 0 (by decide) Nat.zero_lt_one rfl rfl, fun U hU hW => ⟨rfl, gD_at hK hG hB hH hS hU hW, q⟩⟩ rfl rfl hl.1 rfl (lv_room (Nat.le_of_ble_eq_true rfl)) dX11_envelopes_5 ⟨Nat.le_of_ble_eq_true rfl, Nat.le_of_ble_eq_true rfl⟩) hS (fun _ _ h => h) (fun _ h => h) (fun r1 F2 t H locs ht hvm q hB1 hz hk hS => ?_)
  have hH : gH G ad F2 H := gH_to ht hB1
  exact (W.iret (v := r1) hx hb hr (fun t ht hW => ⟨⟨r1, F2, rfl, q, gH_at ht hH⟩, hS.F ht⟩) hS.2.2 dX11_envelopes_8)
abbrev rm_X11_stateOf : Room := { frames := 1, cells := 0, slots := 0, locals := 22 }
abbrev q_X11_stateOf (G : GP) (ad : Nat → Nat → Nat) (K : Int32 → GF → Prop) (below : List Frame) (args : Array Value) (s : State) : State → Prop := MQ below (gQi G ad K) args s 0 0 (gA G)
set_option maxHeartbeats 4000000 in
set_option maxRecDepth 100000 in
theorem c_X11_stateOf (l : Launch) (G : GP) (ad : Nat → Nat → Nat) (F : GF) (p1 : Int32) (K : Int32 → GF → Prop) : Met l yX11_stateOf wsX11_stateOf rm_X11_stateOf (va_Pc [.ref (ad 40 0), .int p1] (fun U => gD G ad F U ∧ P_X11_stateOf F p1 K)) (gQi G ad K) 0 0 (gA G) := by
  refine Met.ofW (cc := cX11_stateOf) (maxL := 2) (ret := (some .int)) (by decide) rfl ?_
  intro p e s m args below meth c s₁ Bd hml hv
  obtain ⟨rfl, ⟨hK, hG, hB, hH⟩, q⟩ := hv
  have hx := Bd.exec
  have hb := Bd.bytes
  have hr := Bd.returns
  have hts := atoms_spec (ws := wsX11_stateOf) Bd.pre
  have hown : s.vm.findClass RX11 = some m.cls := findClass_of_methodNamed Bd.named
  have hlocks := Bd.notSynchronized
  have hS : va_S (gA G) s.heap s.heap [] := va_S.rf
  have hl := lv_entry [.ref (ad 40 0), .int p1] (n := 2) (Nat.le_of_ble_eq_true rfl)
  rw [lg_entry_eq]
  generalize (lg_sl [.ref (ad 40 0), .int p1] ++ List.replicate (2 - (lg_sl [.ref (ad 40 0), .int p1]).length) Slot.unset).toArray = ls at hl ⊢
  have hl : lv_has ls 2 [(0, .ref (ad 40 0)), (1, .int p1)] := hl
  unfold P_X11_stateOf at q
  refine lv_aload_n hx hb dX11_stateOf_0 rfl (lv_at hl 0 rfl) ?_
  refine lv_iload_n hx hb dX11_stateOf_1 rfl (lv_at hl 1 rfl) ?_
  refine lv_iconst (v := 0) hx hb dX11_stateOf_2 (by decide) ?_
  refine lv_aload_n hx hb dX11_stateOf_3 rfl (lv_at hl 0 rfl) ?_
  refine g_get (ci := 15) (v := .int (F 40 0 26)) (C := RX11) (T := TX11) (N := 44) hx hb hts (fun _ h => (List.mem_cons_of_mem _ (List.mem_append_left _ (List.mem_append_right _ h)))) hown hK hH 40 0 (by decide) Nat.zero_lt_one rfl rfl 26 (by decide) (hts (.fieldLink RX11 165 "BallotFoundryModel" "envelopes" "I") (List.mem_of_getElem? (i := 1) rfl)) (fun _ h => h) rfl dX11_stateOf_4 ?_
  refine lv_iconst (v := 1) hx hb dX11_stateOf_7 (by decide) ?_
  refine lv_isub hx hb dX11_stateOf_8 ?_
  refine va_calli (va_runS (As := [.int p1, .int 0, .int ((F 40 0 26) - 1)]) (rest := [.ref (ad 40 0)]) ⟨hx, hb, hml, hown, hts⟩ (c_X11_in l G ad F p1 0 ((F 40 0 26) - 1) _) (va_cwS 3 hts gX11_stateOf_X11_in rfl rfl rfl (by decide +kernel) ⟨Nat.le_of_ble_eq_true rfl, Nat.le_of_ble_eq_true rfl⟩) ⟨fun a U g mk h => ⟨h.1, gD_blind h.2.1, h.2.2⟩, fun U hU hW => ⟨rfl, gD_at hK hG hB hH hS hU hW, q⟩⟩ rfl rfl hl.1 rfl (lv_room (Nat.le_of_ble_eq_true rfl)) dX11_stateOf_9 ⟨Nat.le_of_ble_eq_true rfl, Nat.le_of_ble_eq_true rfl⟩) hS (fun _ _ h => h) (fun _ h => h) (fun r1 F2 t H locs ht hvm q hB1 hz hk hS => ?_)
  have hH : gH G ad F2 H := gH_to ht hB1
  refine va_calli (va_runV (As := [.int r1]) (rest := []) ⟨hx, hb, hml, hown, hts⟩ (c_X11_asked l G ad F2 r1 _) (cwV 1 hts gX11_stateOf_X11_asked rfl rfl rfl (by decide +kernel) ⟨Nat.le_of_ble_eq_true rfl, Nat.le_of_ble_eq_true rfl⟩) ⟨fun a U g mk h => ⟨h.1, gD_blind h.2.1, h.2.2⟩, g_recv (C := RX11) (T := TX11) (N := 44) hK hH 40 0 (by decide) Nat.zero_lt_one rfl rfl, fun U hU hW => ⟨rfl, gD_at hK hG hB hH hS hU hW, q⟩⟩ rfl rfl hl.1 rfl (lv_room (Nat.le_of_ble_eq_true rfl)) dX11_stateOf_12 ⟨Nat.le_of_ble_eq_true rfl, Nat.le_of_ble_eq_true rfl⟩) hS (fun _ _ h => h) (fun _ h => h) (fun r3 F4 t H locs ht hvm q hB1 hz hk hS => ?_)
  have hH : gH G ad F4 H := gH_to ht hB1
  refine lv_if_eq (tgt := 27) hx hb dX11_stateOf_15 (by decide) (fun c5 => ?_) (fun c5 => ?_)
  · have q := (if_pos c5).mp q
    refine lv_iconst (v := 0) hx hb dX11_stateOf_27 (by decide) ?_
    exact (W.iret (v := 0) hx hb hr (fun t ht hW => ⟨⟨0, F4, rfl, q, gH_at ht hH⟩, hS.F ht⟩) hS.2.2 dX11_stateOf_28)
  · have q := (if_neg c5).mp q
    refine lv_aload_n hx hb dX11_stateOf_18 rfl (lv_at hl 0 rfl) ?_
    refine g_get (ci := 15) (v := .ref (ad 57 0)) (C := RX11) (T := TX11) (N := 44) hx hb hts (fun _ h => (List.mem_cons_of_mem _ (List.mem_append_left _ (List.mem_append_right _ h)))) hown hK hH 40 0 (by decide) Nat.zero_lt_one rfl rfl 25 (by decide) (hts (.fieldLink RX11 63 "BallotFoundryModel" "state" "[I") (List.mem_of_getElem? (i := 2) rfl)) (fun _ h => h) rfl dX11_stateOf_19 ?_
    refine lv_iload_n hx hb dX11_stateOf_22 rfl (lv_at hl 1 rfl) ?_
    obtain ⟨h6, q⟩ := q
    refine g_iald hx hb hK hH 57 0 (by decide) Nat.zero_lt_one 60 rfl h6 dX11_stateOf_23 ?_
    refine lv_goto (tgt := 28) hx hb dX11_stateOf_24 (by decide) ?_
    exact (W.iret (v := (F4 57 0 p1.toNatClampNeg)) hx hb hr (fun t ht hW => ⟨⟨(F4 57 0 p1.toNatClampNeg), F4, rfl, q, gH_at ht hH⟩, hS.F ht⟩) hS.2.2 dX11_stateOf_28)
abbrev rm_X11_personOf : Room := { frames := 1, cells := 0, slots := 0, locals := 22 }
abbrev q_X11_personOf (G : GP) (ad : Nat → Nat → Nat) (K : Int32 → GF → Prop) (below : List Frame) (args : Array Value) (s : State) : State → Prop := MQ below (gQi G ad K) args s 0 0 (gA G)
set_option maxHeartbeats 4000000 in
set_option maxRecDepth 100000 in
theorem c_X11_personOf (l : Launch) (G : GP) (ad : Nat → Nat → Nat) (F : GF) (p1 : Int32) (K : Int32 → GF → Prop) : Met l yX11_personOf wsX11_personOf rm_X11_personOf (va_Pc [.ref (ad 40 0), .int p1] (fun U => gD G ad F U ∧ P_X11_personOf F p1 K)) (gQi G ad K) 0 0 (gA G) := by
  refine Met.ofW (cc := cX11_personOf) (maxL := 2) (ret := (some .int)) (by decide) rfl ?_
  intro p e s m args below meth c s₁ Bd hml hv
  obtain ⟨rfl, ⟨hK, hG, hB, hH⟩, q⟩ := hv
  have hx := Bd.exec
  have hb := Bd.bytes
  have hr := Bd.returns
  have hts := atoms_spec (ws := wsX11_personOf) Bd.pre
  have hown : s.vm.findClass RX11 = some m.cls := findClass_of_methodNamed Bd.named
  have hlocks := Bd.notSynchronized
  have hS : va_S (gA G) s.heap s.heap [] := va_S.rf
  have hl := lv_entry [.ref (ad 40 0), .int p1] (n := 2) (Nat.le_of_ble_eq_true rfl)
  rw [lg_entry_eq]
  generalize (lg_sl [.ref (ad 40 0), .int p1] ++ List.replicate (2 - (lg_sl [.ref (ad 40 0), .int p1]).length) Slot.unset).toArray = ls at hl ⊢
  have hl : lv_has ls 2 [(0, .ref (ad 40 0)), (1, .int p1)] := hl
  unfold P_X11_personOf at q
  refine lv_aload_n hx hb dX11_personOf_0 rfl (lv_at hl 0 rfl) ?_
  refine lv_iload_n hx hb dX11_personOf_1 rfl (lv_at hl 1 rfl) ?_
  refine lv_iconst (v := 0) hx hb dX11_personOf_2 (by decide) ?_
  refine lv_aload_n hx hb dX11_personOf_3 rfl (lv_at hl 0 rfl) ?_
  refine g_get (ci := 15) (v := .int (F 40 0 26)) (C := RX11) (T := TX11) (N := 44) hx hb hts (fun _ h => (List.mem_cons_of_mem _ (List.mem_append_left _ (List.mem_append_right _ h)))) hown hK hH 40 0 (by decide) Nat.zero_lt_one rfl rfl 26 (by decide) (hts (.fieldLink RX11 165 "BallotFoundryModel" "envelopes" "I") (List.mem_of_getElem? (i := 1) rfl)) (fun _ h => h) rfl dX11_personOf_4 ?_
  refine lv_iconst (v := 1) hx hb dX11_personOf_7 (by decide) ?_
  refine lv_isub hx hb dX11_personOf_8 ?_
  refine va_calli (va_runS (As := [.int p1, .int 0, .int ((F 40 0 26) - 1)]) (rest := [.ref (ad 40 0)]) ⟨hx, hb, hml, hown, hts⟩ (c_X11_in l G ad F p1 0 ((F 40 0 26) - 1) _) (va_cwS 3 hts gX11_personOf_X11_in rfl rfl rfl (by decide +kernel) ⟨Nat.le_of_ble_eq_true rfl, Nat.le_of_ble_eq_true rfl⟩) ⟨fun a U g mk h => ⟨h.1, gD_blind h.2.1, h.2.2⟩, fun U hU hW => ⟨rfl, gD_at hK hG hB hH hS hU hW, q⟩⟩ rfl rfl hl.1 rfl (lv_room (Nat.le_of_ble_eq_true rfl)) dX11_personOf_9 ⟨Nat.le_of_ble_eq_true rfl, Nat.le_of_ble_eq_true rfl⟩) hS (fun _ _ h => h) (fun _ h => h) (fun r1 F2 t H locs ht hvm q hB1 hz hk hS => ?_)
  have hH : gH G ad F2 H := gH_to ht hB1
  refine va_calli (va_runV (As := [.int r1]) (rest := []) ⟨hx, hb, hml, hown, hts⟩ (c_X11_asked l G ad F2 r1 _) (cwV 1 hts gX11_personOf_X11_asked rfl rfl rfl (by decide +kernel) ⟨Nat.le_of_ble_eq_true rfl, Nat.le_of_ble_eq_true rfl⟩) ⟨fun a U g mk h => ⟨h.1, gD_blind h.2.1, h.2.2⟩, g_recv (C := RX11) (T := TX11) (N := 44) hK hH 40 0 (by decide) Nat.zero_lt_one rfl rfl, fun U hU hW => ⟨rfl, gD_at hK hG hB hH hS hU hW, q⟩⟩ rfl rfl hl.1 rfl (lv_room (Nat.le_of_ble_eq_true rfl)) dX11_personOf_12 ⟨Nat.le_of_ble_eq_true rfl, Nat.le_of_ble_eq_true rfl⟩) hS (fun _ _ h => h) (fun _ h => h) (fun r3 F4 t H locs ht hvm q hB1 hz hk hS => ?_)
  have hH : gH G ad F4 H := gH_to ht hB1
  refine lv_if_eq (tgt := 27) hx hb dX11_personOf_15 (by decide) (fun c5 => ?_) (fun c5 => ?_)
  · have q := (if_pos c5).mp q
    refine lv_iconst (v := 0) hx hb dX11_personOf_27 (by decide) ?_
    exact (W.iret (v := 0) hx hb hr (fun t ht hW => ⟨⟨0, F4, rfl, q, gH_at ht hH⟩, hS.F ht⟩) hS.2.2 dX11_personOf_28)
  · have q := (if_neg c5).mp q
    refine lv_aload_n hx hb dX11_personOf_18 rfl (lv_at hl 0 rfl) ?_
    refine g_get (ci := 15) (v := .ref (ad 55 0)) (C := RX11) (T := TX11) (N := 44) hx hb hts (fun _ h => (List.mem_cons_of_mem _ (List.mem_append_left _ (List.mem_append_right _ h)))) hown hK hH 40 0 (by decide) Nat.zero_lt_one rfl rfl 23 (by decide) (hts (.fieldLink RX11 57 "BallotFoundryModel" "envelopeOf" "[I") (List.mem_of_getElem? (i := 2) rfl)) (fun _ h => h) rfl dX11_personOf_19 ?_
    refine lv_iload_n hx hb dX11_personOf_22 rfl (lv_at hl 1 rfl) ?_
    obtain ⟨h6, q⟩ := q
    refine g_iald hx hb hK hH 55 0 (by decide) Nat.zero_lt_one 60 rfl h6 dX11_personOf_23 ?_
    refine lv_goto (tgt := 28) hx hb dX11_personOf_24 (by decide) ?_
    exact (W.iret (v := (F4 55 0 p1.toNatClampNeg)) hx hb hr (fun t ht hW => ⟨⟨(F4 55 0 p1.toNatClampNeg), F4, rfl, q, gH_at ht hH⟩, hS.F ht⟩) hS.2.2 dX11_personOf_28)
abbrev rm_X11_ballots : Room := { frames := 2, cells := 0, slots := 0, locals := 43 }
abbrev q_X11_ballots (G : GP) (ad : Nat → Nat → Nat) (K : Int32 → GF → Prop) (below : List Frame) (args : Array Value) (s : State) : State → Prop := MQ below (gQi G ad K) args s 0 0 (gA G)
set_option maxHeartbeats 4000000 in
set_option maxRecDepth 100000 in
theorem c_X11_ballots (l : Launch) (G : GP) (ad : Nat → Nat → Nat) (F : GF) (p1 : Int32) (K : Int32 → GF → Prop) : Met l yX11_ballots wsX11_ballots rm_X11_ballots (va_Pc [.ref (ad 40 0), .int p1] (fun U => gD G ad F U ∧ P_X11_ballots F p1 K)) (gQi G ad K) 0 0 (gA G) := by
  refine Met.ofW (cc := cX11_ballots) (maxL := 2) (ret := (some .int)) (by decide) rfl ?_
  intro p e s m args below meth c s₁ Bd hml hv
  obtain ⟨rfl, ⟨hK, hG, hB, hH⟩, q⟩ := hv
  have hx := Bd.exec
  have hb := Bd.bytes
  have hr := Bd.returns
  have hts := atoms_spec (ws := wsX11_ballots) Bd.pre
  have hown : s.vm.findClass RX11 = some m.cls := findClass_of_methodNamed Bd.named
  have hlocks := Bd.notSynchronized
  have hS : va_S (gA G) s.heap s.heap [] := va_S.rf
  have hl := lv_entry [.ref (ad 40 0), .int p1] (n := 2) (Nat.le_of_ble_eq_true rfl)
  rw [lg_entry_eq]
  generalize (lg_sl [.ref (ad 40 0), .int p1] ++ List.replicate (2 - (lg_sl [.ref (ad 40 0), .int p1]).length) Slot.unset).toArray = ls at hl ⊢
  have hl : lv_has ls 2 [(0, .ref (ad 40 0)), (1, .int p1)] := hl
  unfold P_X11_ballots at q
  refine lv_aload_n hx hb dX11_ballots_0 rfl (lv_at hl 0 rfl) ?_
  refine lv_aload_n hx hb dX11_ballots_1 rfl (lv_at hl 0 rfl) ?_
  refine lv_iload_n hx hb dX11_ballots_2 rfl (lv_at hl 1 rfl) ?_
  refine va_calli (va_runV (As := [.int p1]) (rest := [.ref (ad 40 0)]) ⟨hx, hb, hml, hown, hts⟩ (c_X11_isStation l G ad F p1 _) (cwV 1 hts gX11_ballots_X11_isStation rfl rfl rfl (by decide +kernel) ⟨Nat.le_of_ble_eq_true rfl, Nat.le_of_ble_eq_true rfl⟩) ⟨fun a U g mk h => ⟨h.1, gD_blind h.2.1, h.2.2⟩, g_recv (C := RX11) (T := TX11) (N := 44) hK hH 40 0 (by decide) Nat.zero_lt_one rfl rfl, fun U hU hW => ⟨rfl, gD_at hK hG hB hH hS hU hW, q⟩⟩ rfl rfl hl.1 rfl (lv_room (Nat.le_of_ble_eq_true rfl)) dX11_ballots_3 ⟨Nat.le_of_ble_eq_true rfl, Nat.le_of_ble_eq_true rfl⟩) hS (fun _ _ h => h) (fun _ h => h) (fun r1 F2 t H locs ht hvm q hB1 hz hk hS => ?_)
  have hH : gH G ad F2 H := gH_to ht hB1
  refine va_calli (va_runV (As := [.int r1]) (rest := []) ⟨hx, hb, hml, hown, hts⟩ (c_X11_asked l G ad F2 r1 _) (cwV 1 hts gX11_ballots_X11_asked rfl rfl rfl (by decide +kernel) ⟨Nat.le_of_ble_eq_true rfl, Nat.le_of_ble_eq_true rfl⟩) ⟨fun a U g mk h => ⟨h.1, gD_blind h.2.1, h.2.2⟩, g_recv (C := RX11) (T := TX11) (N := 44) hK hH 40 0 (by decide) Nat.zero_lt_one rfl rfl, fun U hU hW => ⟨rfl, gD_at hK hG hB hH hS hU hW, q⟩⟩ rfl rfl hl.1 rfl (lv_room (Nat.le_of_ble_eq_true rfl)) dX11_ballots_6 ⟨Nat.le_of_ble_eq_true rfl, Nat.le_of_ble_eq_true rfl⟩) hS (fun _ _ h => h) (fun _ h => h) (fun r3 F4 t H locs ht hvm q hB1 hz hk hS => ?_)
  have hH : gH G ad F4 H := gH_to ht hB1
  refine lv_if_eq (tgt := 21) hx hb dX11_ballots_9 (by decide) (fun c5 => ?_) (fun c5 => ?_)
  · have q := (if_pos c5).mp q
    refine lv_iconst (v := 0) hx hb dX11_ballots_21 (by decide) ?_
    exact (W.iret (v := 0) hx hb hr (fun t ht hW => ⟨⟨0, F4, rfl, q, gH_at ht hH⟩, hS.F ht⟩) hS.2.2 dX11_ballots_22)
  · have q := (if_neg c5).mp q
    refine lv_aload_n hx hb dX11_ballots_12 rfl (lv_at hl 0 rfl) ?_
    refine g_get (ci := 15) (v := .ref (ad 59 0)) (C := RX11) (T := TX11) (N := 44) hx hb hts (fun _ h => (List.mem_cons_of_mem _ (List.mem_append_left _ (List.mem_append_right _ h)))) hown hK hH 40 0 (by decide) Nat.zero_lt_one rfl rfl 28 (by decide) (hts (.fieldLink RX11 69 "BallotFoundryModel" "ballots" "[I") (List.mem_of_getElem? (i := 1) rfl)) (fun _ h => h) rfl dX11_ballots_13 ?_
    refine lv_iload_n hx hb dX11_ballots_16 rfl (lv_at hl 1 rfl) ?_
    obtain ⟨h6, q⟩ := q
    refine g_iald hx hb hK hH 59 0 (by decide) Nat.zero_lt_one 5 rfl h6 dX11_ballots_17 ?_
    refine lv_goto (tgt := 22) hx hb dX11_ballots_18 (by decide) ?_
    exact (W.iret (v := (F4 59 0 p1.toNatClampNeg)) hx hb hr (fun t ht hW => ⟨⟨(F4 59 0 p1.toNatClampNeg), F4, rfl, q, gH_at ht hH⟩, hS.F ht⟩) hS.2.2 dX11_ballots_22)
abbrev rm_X11_setSlip : Room := { frames := 1, cells := 0, slots := 0, locals := 22 }
abbrev q_X11_setSlip (G : GP) (ad : Nat → Nat → Nat) (K : Int32 → GF → Prop) (below : List Frame) (args : Array Value) (s : State) : State → Prop := MQ below (gQi G ad K) args s 0 0 (gA G)
set_option maxHeartbeats 4000000 in
set_option maxRecDepth 100000 in
theorem c_X11_setSlip (l : Launch) (G : GP) (ad : Nat → Nat → Nat) (F : GF) (p1 : Int32) (p2 : Int32) (K : Int32 → GF → Prop) : Met l yX11_setSlip wsX11_setSlip rm_X11_setSlip (va_Pc [.ref (ad 40 0), .int p1, .int p2] (fun U => gD G ad F U ∧ P_X11_setSlip F p1 p2 K)) (gQi G ad K) 0 0 (gA G) := by
  refine Met.ofW (cc := cX11_setSlip) (maxL := 4) (ret := (some .int)) (by decide) rfl ?_
  intro p e s m args below meth c s₁ Bd hml hv
  obtain ⟨rfl, ⟨hK, hG, hB, hH⟩, q⟩ := hv
  have hx := Bd.exec
  have hb := Bd.bytes
  have hr := Bd.returns
  have hts := atoms_spec (ws := wsX11_setSlip) Bd.pre
  have hown : s.vm.findClass RX11 = some m.cls := findClass_of_methodNamed Bd.named
  have hlocks := Bd.notSynchronized
  have hS : va_S (gA G) s.heap s.heap [] := va_S.rf
  have hl := lv_entry [.ref (ad 40 0), .int p1, .int p2] (n := 4) (Nat.le_of_ble_eq_true rfl)
  rw [lg_entry_eq]
  generalize (lg_sl [.ref (ad 40 0), .int p1, .int p2] ++ List.replicate (4 - (lg_sl [.ref (ad 40 0), .int p1, .int p2]).length) Slot.unset).toArray = ls at hl ⊢
  have hl : lv_has ls 4 [(0, .ref (ad 40 0)), (1, .int p1), (2, .int p2)] := hl
  show W p l e rm_X11_setSlip s m ([.ref (ad 40 0), .int p1, .int p2] : List Value).toArray below meth c s.heap [] 0 0 (q_X11_setSlip G ad K below ([.ref (ad 40 0), .int p1, .int p2] : List Value).toArray s) _
  have t_26 : ∀ (F : GF) (x1 : Int32) (x2 : Int32) (s1 : Int32) (s2 : Int32) (H : Heap) (locs : List Loc) (ls : Array Slot), gH G ad F H → va_S (gA G) s.heap H locs → lv_has ls 4 [(0, .ref (ad 40 0)), (1, .int x1), (2, .int x2)] → (P_X11_setSlip_26 K) F x1 x2 s1 s2 → W p l e rm_X11_setSlip s m ([.ref (ad 40 0), .int p1, .int p2] : List Value).toArray below meth c H locs 0 0 (q_X11_setSlip G ad K below ([.ref (ad 40 0), .int p1, .int p2] : List Value).toArray s) (F0 m 26 ls [.int s2, .int s1, .ref (ad 40 0)]) := by
    intro F x1 x2 s1 s2 H locs ls hH hS hl q
    unfold P_X11_setSlip_26 at q
    refine va_calli (va_runV (As := [.int s1, .int s2]) (rest := []) ⟨hx, hb, hml, hown, hts⟩ (c_X11_asked_ l G ad F s1 s2 _) (cwV 2 hts gX11_setSlip_X11_asked_ rfl rfl rfl (by decide +kernel) ⟨Nat.le_of_ble_eq_true rfl, Nat.le_of_ble_eq_true rfl⟩) ⟨fun a U g mk h => ⟨h.1, gD_blind h.2.1, h.2.2⟩, g_recv (C := RX11) (T := TX11) (N := 44) hK hH 40 0 (by decide) Nat.zero_lt_one rfl rfl, fun U hU hW => ⟨rfl, gD_at hK hG hB hH hS hU hW, q⟩⟩ rfl rfl hl.1 rfl (lv_room (Nat.le_of_ble_eq_true rfl)) dX11_setSlip_26 ⟨Nat.le_of_ble_eq_true rfl, Nat.le_of_ble_eq_true rfl⟩) hS (fun _ _ h => h) (fun _ h => h) (fun r4 F5 t H locs ht hvm q hB1 hz hk hS => ?_)
    have hH : gH G ad F5 H := gH_to ht hB1
    refine lv_if_ne (tgt := 34) hx hb dX11_setSlip_29 (by decide) (fun c6 => ?_) (fun c6 => ?_)
    · have q := (if_neg c6).mp q
      refine lv_aload_n hx hb dX11_setSlip_34 rfl (lv_at hl 0 rfl) ?_
      refine g_get (ci := 15) (v := .ref (ad 64 0)) (C := RX11) (T := TX11) (N := 44) hx hb hts (fun _ h => (List.mem_cons_of_mem _ (List.mem_append_left _ (List.mem_append_right _ h)))) hown hK hH 40 0 (by decide) Nat.zero_lt_one rfl rfl 33 (by decide) (hts (.fieldLink RX11 84 "BallotFoundryModel" "slip" "[I") (List.mem_of_getElem? (i := 1) rfl)) (fun _ h => h) rfl dX11_setSlip_35 ?_
      refine lv_iload_n hx hb dX11_setSlip_38 rfl (lv_at hl 1 rfl) ?_
      obtain ⟨h7, q⟩ := q
      refine g_iald hx hb hK hH 64 0 (by decide) Nat.zero_lt_one 4 rfl h7 dX11_setSlip_39 ?_
      refine lv_istore_n (lv' := [(3, .int (F5 64 0 x1.toNatClampNeg)), (0, .ref (ad 40 0)), (1, .int x1), (2, .int x2)]) hx hb dX11_setSlip_40 rfl hl (by decide) rfl (fun ls hl => ?_)
      refine lv_aload_n hx hb dX11_setSlip_41 rfl (lv_at hl 1 rfl) ?_
      refine g_get (ci := 15) (v := .ref (ad 64 0)) (C := RX11) (T := TX11) (N := 44) hx hb hts (fun _ h => (List.mem_cons_of_mem _ (List.mem_append_left _ (List.mem_append_right _ h)))) hown hK hH 40 0 (by decide) Nat.zero_lt_one rfl rfl 33 (by decide) (hts (.fieldLink RX11 84 "BallotFoundryModel" "slip" "[I") (List.mem_of_getElem? (i := 1) rfl)) (fun _ h => h) rfl dX11_setSlip_42 ?_
      refine lv_iload_n hx hb dX11_setSlip_45 rfl (lv_at hl 2 rfl) ?_
      refine lv_iload_n hx hb dX11_setSlip_46 rfl (lv_at hl 3 rfl) ?_
      obtain ⟨h8, q⟩ := q
      refine g_iast hx hb hK hH hS 64 0 (by decide) Nat.zero_lt_one (by decide) 4 (fun _ => rfl) h8 dX11_setSlip_47 (fun H locs hH hS => ?_)
      obtain ⟨F9, eF9⟩ : ∃ z, z = fs F5 64 0 x1.toNatClampNeg x2 := ⟨_, rfl⟩
      have q := q F9 eF9
      rw [← eF9] at hH
      refine lv_iload_n hx hb dX11_setSlip_48 rfl (lv_at hl 0 rfl) ?_
      exact (W.iret (v := (F5 64 0 x1.toNatClampNeg)) hx hb hr (fun t ht hW => ⟨⟨(F5 64 0 x1.toNatClampNeg), F9, rfl, q, gH_at ht hH⟩, hS.F ht⟩) hS.2.2 dX11_setSlip_49)
    · have q := (if_pos c6).mp q
      refine lv_iconst (v := 0) hx hb dX11_setSlip_32 (by decide) ?_
      exact (W.iret (v := 0) hx hb hr (fun t ht hW => ⟨⟨0, F5, rfl, q, gH_at ht hH⟩, hS.F ht⟩) hS.2.2 dX11_setSlip_33)
  have t_21 : ∀ (F : GF) (x1 : Int32) (x2 : Int32) (s1 : Int32) (H : Heap) (locs : List Loc) (ls : Array Slot), gH G ad F H → va_S (gA G) s.heap H locs → lv_has ls 4 [(0, .ref (ad 40 0)), (1, .int x1), (2, .int x2)] → (P_X11_setSlip_21 K) F x1 x2 s1 → W p l e rm_X11_setSlip s m ([.ref (ad 40 0), .int p1, .int p2] : List Value).toArray below meth c H locs 0 0 (q_X11_setSlip G ad K below ([.ref (ad 40 0), .int p1, .int p2] : List Value).toArray s) (F0 m 21 ls [.int s1, .ref (ad 40 0)]) := by
    intro F x1 x2 s1 H locs ls hH hS hl q
    unfold P_X11_setSlip_21 at q
    refine lv_iconst (v := 1) hx hb dX11_setSlip_21 (by decide) ?_
    refine lv_goto (tgt := 26) hx hb dX11_setSlip_22 (by decide) ?_
    exact t_26 F x1 x2 s1 1 _ _ _ hH hS (lv_sub hl [0, 1, 2] rfl) q
  unfold P_X11_setSlip at q
  refine lv_aload_n hx hb dX11_setSlip_0 rfl (lv_at hl 0 rfl) ?_
  refine lv_iload_n hx hb dX11_setSlip_1 rfl (lv_at hl 1 rfl) ?_
  refine lv_iconst (v := 0) hx hb dX11_setSlip_2 (by decide) ?_
  refine lv_iconst (v := 3) hx hb dX11_setSlip_3 (by decide) ?_
  refine va_calli (va_runS (As := [.int p1, .int 0, .int 3]) (rest := [.ref (ad 40 0)]) ⟨hx, hb, hml, hown, hts⟩ (c_X11_in l G ad F p1 0 3 _) (va_cwS 3 hts gX11_setSlip_X11_in rfl rfl rfl (by decide +kernel) ⟨Nat.le_of_ble_eq_true rfl, Nat.le_of_ble_eq_true rfl⟩) ⟨fun a U g mk h => ⟨h.1, gD_blind h.2.1, h.2.2⟩, fun U hU hW => ⟨rfl, gD_at hK hG hB hH hS hU hW, q⟩⟩ rfl rfl hl.1 rfl (lv_room (Nat.le_of_ble_eq_true rfl)) dX11_setSlip_4 ⟨Nat.le_of_ble_eq_true rfl, Nat.le_of_ble_eq_true rfl⟩) hS (fun _ _ h => h) (fun _ h => h) (fun r1 F2 t H locs ht hvm q hB1 hz hk hS => ?_)
  have hH : gH G ad F2 H := gH_to ht hB1
  refine lv_iload_n hx hb dX11_setSlip_7 rfl (lv_at hl 2 rfl) ?_
  refine lv_if_eq (tgt := 21) hx hb dX11_setSlip_8 (by decide) (fun c3 => ?_) (fun c3 => ?_)
  · have q := (if_pos c3).mp q
    exact t_21 F2 p1 p2 r1 _ _ _ hH hS (lv_sub hl [0, 1, 2] rfl) q
  · have q := (if_neg c3).mp q
    refine lv_iload_n hx hb dX11_setSlip_11 rfl (lv_at hl 2 rfl) ?_
    refine lv_iconst (v := 2) hx hb dX11_setSlip_12 (by decide) ?_
    refine lv_bipush (v := 20) hx hb dX11_setSlip_13 (by decide) ?_
    refine va_calli (va_runS (As := [.int p2, .int 2, .int 20]) (rest := [.int r1, .ref (ad 40 0)]) ⟨hx, hb, hml, hown, hts⟩ (c_X11_in l G ad F2 p2 2 20 _) (va_cwS 3 hts gX11_setSlip_X11_in rfl rfl rfl (by decide +kernel) ⟨Nat.le_of_ble_eq_true rfl, Nat.le_of_ble_eq_true rfl⟩) ⟨fun a U g mk h => ⟨h.1, gD_blind h.2.1, h.2.2⟩, fun U hU hW => ⟨rfl, gD_at hK hG hB hH hS hU hW, q⟩⟩ rfl rfl hl.1 rfl (lv_room (Nat.le_of_ble_eq_true rfl)) dX11_setSlip_15 ⟨Nat.le_of_ble_eq_true rfl, Nat.le_of_ble_eq_true rfl⟩) hS (fun _ _ h => h) (fun _ h => h) (fun r10 F11 t H locs ht hvm q hB1 hz hk hS => ?_)
    have hH : gH G ad F11 H := gH_to ht hB1
    refine lv_if_eq (tgt := 25) hx hb dX11_setSlip_18 (by decide) (fun c12 => ?_) (fun c12 => ?_)
    · have q := (if_pos c12).mp q
      refine lv_iconst (v := 0) hx hb dX11_setSlip_25 (by decide) ?_
      exact t_26 F11 p1 p2 r1 0 _ _ _ hH hS (lv_sub hl [0, 1, 2] rfl) q
    · have q := (if_neg c12).mp q
      exact t_21 F11 p1 p2 r1 _ _ _ hH hS (lv_sub hl [0, 1, 2] rfl) q
abbrev rm_X11_areAlike : Room := { frames := 0, cells := 0, slots := 0, locals := 0 }
abbrev q_X11_areAlike (G : GP) (ad : Nat → Nat → Nat) (K : Int32 → GF → Prop) (below : List Frame) (args : Array Value) (s : State) : State → Prop := MQ below (gQi G ad K) args s 0 0 (gA G)
set_option maxHeartbeats 4000000 in
set_option maxRecDepth 100000 in
theorem c_X11_areAlike (l : Launch) (G : GP) (ad : Nat → Nat → Nat) (F : GF) (p1 : Int32) (p2 : Int32) (K : Int32 → GF → Prop) : Met l yX11_areAlike wsX11_areAlike rm_X11_areAlike (va_Pc [.ref (ad 40 0), .int p1, .int p2] (fun U => gD G ad F U ∧ P_X11_areAlike F p1 p2 K)) (gQi G ad K) 0 0 (gA G) := by
  refine Met.ofW (cc := cX11_areAlike) (maxL := 5) (ret := (some .boolean)) (by decide) rfl ?_
  intro p e s m args below meth c s₁ Bd hml hv
  obtain ⟨rfl, ⟨hK, hG, hB, hH⟩, q⟩ := hv
  have hx := Bd.exec
  have hb := Bd.bytes
  have hr := Bd.returns
  have hts := atoms_spec (ws := wsX11_areAlike) Bd.pre
  have hown : s.vm.findClass RX11 = some m.cls := findClass_of_methodNamed Bd.named
  have hlocks := Bd.notSynchronized
  have hS : va_S (gA G) s.heap s.heap [] := va_S.rf
  have hl := lv_entry [.ref (ad 40 0), .int p1, .int p2] (n := 5) (Nat.le_of_ble_eq_true rfl)
  rw [lg_entry_eq]
  generalize (lg_sl [.ref (ad 40 0), .int p1, .int p2] ++ List.replicate (5 - (lg_sl [.ref (ad 40 0), .int p1, .int p2]).length) Slot.unset).toArray = ls at hl ⊢
  have hl : lv_has ls 5 [(0, .ref (ad 40 0)), (1, .int p1), (2, .int p2)] := hl
  show W p l e rm_X11_areAlike s m ([.ref (ad 40 0), .int p1, .int p2] : List Value).toArray below meth c s.heap [] 0 0 (q_X11_areAlike G ad K below ([.ref (ad 40 0), .int p1, .int p2] : List Value).toArray s) _
  have t_67 : ∀ (k24 : GF → Int32 → Int32 → Int32 → Int32 → Prop), (∀ (F : GF) (x1 : Int32) (x2 : Int32) (x3 : Int32) (x4 : Int32) (H : Heap) (locs : List Loc) (ls : Array Slot), gH G ad F H → va_S (gA G) s.heap H locs → lv_has ls 5 [(0, .ref (ad 40 0)), (1, .int x1), (2, .int x2), (3, .int x3), (4, .int x4)] → k24 F x1 x2 x3 x4 → W p l e rm_X11_areAlike s m ([.ref (ad 40 0), .int p1, .int p2] : List Value).toArray below meth c H locs 0 0 (q_X11_areAlike G ad K below ([.ref (ad 40 0), .int p1, .int p2] : List Value).toArray s) (F0 m 24 ls [])) → ∀ (F : GF) (x1 : Int32) (x2 : Int32) (x4 : Int32) (s0 : Int32) (H : Heap) (locs : List Loc) (ls : Array Slot), gH G ad F H → va_S (gA G) s.heap H locs → lv_has ls 5 [(0, .ref (ad 40 0)), (1, .int x1), (2, .int x2), (4, .int x4)] → (P_X11_areAlike_67 k24 K) F x1 x2 x4 s0 → W p l e rm_X11_areAlike s m ([.ref (ad 40 0), .int p1, .int p2] : List Value).toArray below meth c H locs 0 0 (q_X11_areAlike G ad K below ([.ref (ad 40 0), .int p1, .int p2] : List Value).toArray s) (F0 m 67 ls [.int s0]) := by
    intro k24 hk24 F x1 x2 x4 s0 H locs ls hH hS hl q
    unfold P_X11_areAlike_67 at q
    refine lv_istore_n (lv' := [(3, .int s0), (0, .ref (ad 40 0)), (1, .int x1), (2, .int x2), (4, .int x4)]) hx hb dX11_areAlike_67 rfl hl (by decide) rfl (fun ls hl => ?_)
    refine lv_iinc (v := x4 + 1) (lv' := [(4, .int (x4 + 1)), (3, .int s0), (0, .ref (ad 40 0)), (1, .int x1), (2, .int x2)]) hx hb dX11_areAlike_68 hl (k := 4) rfl rfl (by decide) rfl (fun ls hl => ?_)
    refine lv_goto (tgt := 24) hx hb dX11_areAlike_71 (by decide) ?_
    exact hk24 F x1 x2 s0 (x4 + 1) _ _ _ hH hS (lv_sub hl [2, 3, 4, 1, 0] rfl) q
  have t_66 : ∀ (k24 : GF → Int32 → Int32 → Int32 → Int32 → Prop), (∀ (F : GF) (x1 : Int32) (x2 : Int32) (x3 : Int32) (x4 : Int32) (H : Heap) (locs : List Loc) (ls : Array Slot), gH G ad F H → va_S (gA G) s.heap H locs → lv_has ls 5 [(0, .ref (ad 40 0)), (1, .int x1), (2, .int x2), (3, .int x3), (4, .int x4)] → k24 F x1 x2 x3 x4 → W p l e rm_X11_areAlike s m ([.ref (ad 40 0), .int p1, .int p2] : List Value).toArray below meth c H locs 0 0 (q_X11_areAlike G ad K below ([.ref (ad 40 0), .int p1, .int p2] : List Value).toArray s) (F0 m 24 ls [])) → ∀ (F : GF) (x1 : Int32) (x2 : Int32) (x4 : Int32) (H : Heap) (locs : List Loc) (ls : Array Slot), gH G ad F H → va_S (gA G) s.heap H locs → lv_has ls 5 [(0, .ref (ad 40 0)), (1, .int x1), (2, .int x2), (4, .int x4)] → (P_X11_areAlike_66 k24 K) F x1 x2 x4 → W p l e rm_X11_areAlike s m ([.ref (ad 40 0), .int p1, .int p2] : List Value).toArray below meth c H locs 0 0 (q_X11_areAlike G ad K below ([.ref (ad 40 0), .int p1, .int p2] : List Value).toArray s) (F0 m 66 ls []) := by
    intro k24 hk24 F x1 x2 x4 H locs ls hH hS hl q
    unfold P_X11_areAlike_66 at q
    refine lv_iconst (v := 0) hx hb dX11_areAlike_66 (by decide) ?_
    exact t_67 k24 hk24 F x1 x2 x4 0 _ _ _ hH hS (lv_sub hl [0, 1, 2, 3] rfl) q
  have t_24 : ∀ n : Nat, ∀ (F : GF) (x1 : Int32) (x2 : Int32) (x3 : Int32) (x4 : Int32) (H : Heap) (locs : List Loc) (ls : Array Slot), gH G ad F H → va_S (gA G) s.heap H locs → lv_has ls 5 [(0, .ref (ad 40 0)), (1, .int x1), (2, .int x2), (3, .int x3), (4, .int x4)] → (P_X11_areAlike_24 K n) F x1 x2 x3 x4 → W p l e rm_X11_areAlike s m ([.ref (ad 40 0), .int p1, .int p2] : List Value).toArray below meth c H locs 0 0 (q_X11_areAlike G ad K below ([.ref (ad 40 0), .int p1, .int p2] : List Value).toArray s) (F0 m 24 ls []) := by
    intro n
    induction n with
    | zero =>
      intro F x1 x2 x3 x4 H locs ls hH hS hl q
      exact False.elim q
    | succ n ih =>
      intro F x1 x2 x3 x4 H locs ls hH hS hl q
      rw [P_X11_areAlike_24] at q
      refine lv_iload hx hb dX11_areAlike_24 (lv_at hl 4 rfl) ?_
      refine lv_bipush (v := 6) hx hb dX11_areAlike_26 (by decide) ?_
      refine lv_icmp_ge (tgt := 74) hx hb dX11_areAlike_28 (by decide) (fun c4 => ?_) (fun c4 => ?_)
      · have q := (if_pos c4).mp q
        refine lv_iload_n hx hb dX11_areAlike_74 rfl (lv_at hl 3 rfl) ?_
        obtain ⟨h5, q⟩ := q
        exact (W.zret (v := x3) hx hb hr (gz_nar h5) (fun t ht hW => ⟨⟨x3, F, rfl, q, gH_at ht hH⟩, hS.F ht⟩) hS.2.2 dX11_areAlike_75)
      · have q := (if_neg c4).mp q
        refine lv_iload_n hx hb dX11_areAlike_31 rfl (lv_at hl 3 rfl) ?_
        refine lv_if_eq (tgt := 66) hx hb dX11_areAlike_32 (by decide) (fun c6 => ?_) (fun c6 => ?_)
        · have q := (if_pos c6).mp q
          exact t_66 (fun F a0 a1 a2 a3 => P_X11_areAlike_24 K n F a0 a1 a2 a3) ih F x1 x2 x4 _ _ _ hH hS (lv_sub hl [0, 1, 2, 4] rfl) q
        · have q := (if_neg c6).mp q
          refine lv_aload_n hx hb dX11_areAlike_35 rfl (lv_at hl 0 rfl) ?_
          refine g_get (ci := 15) (v := .ref (ad 60 0)) (C := RX11) (T := TX11) (N := 44) hx hb hts (fun _ h => (List.mem_cons_of_mem _ (List.mem_append_left _ (List.mem_append_right _ h)))) hown hK hH 40 0 (by decide) Nat.zero_lt_one rfl rfl 29 (by decide) (hts (.fieldLink RX11 72 "BallotFoundryModel" "number" "[I") (List.mem_of_getElem? (i := 2) rfl)) (fun _ h => h) rfl dX11_areAlike_36 ?_
          refine lv_bipush (v := 6) hx hb dX11_areAlike_39 (by decide) ?_
          refine lv_iload_n hx hb dX11_areAlike_41 rfl (lv_at hl 1 rfl) ?_
          refine lv_imul hx hb dX11_areAlike_42 ?_
          refine lv_iload hx hb dX11_areAlike_43 (lv_at hl 4 rfl) ?_
          refine lv_iadd hx hb dX11_areAlike_45 ?_
          obtain ⟨h7, q⟩ := q
          refine g_iald hx hb hK hH 60 0 (by decide) Nat.zero_lt_one 240 rfl h7 dX11_areAlike_46 ?_
          refine lv_aload_n hx hb dX11_areAlike_47 rfl (lv_at hl 0 rfl) ?_
          refine g_get (ci := 15) (v := .ref (ad 60 0)) (C := RX11) (T := TX11) (N := 44) hx hb hts (fun _ h => (List.mem_cons_of_mem _ (List.mem_append_left _ (List.mem_append_right _ h)))) hown hK hH 40 0 (by decide) Nat.zero_lt_one rfl rfl 29 (by decide) (hts (.fieldLink RX11 72 "BallotFoundryModel" "number" "[I") (List.mem_of_getElem? (i := 2) rfl)) (fun _ h => h) rfl dX11_areAlike_48 ?_
          refine lv_bipush (v := 6) hx hb dX11_areAlike_51 (by decide) ?_
          refine lv_iload_n hx hb dX11_areAlike_53 rfl (lv_at hl 2 rfl) ?_
          refine lv_imul hx hb dX11_areAlike_54 ?_
          refine lv_iload hx hb dX11_areAlike_55 (lv_at hl 4 rfl) ?_
          refine lv_iadd hx hb dX11_areAlike_57 ?_
          obtain ⟨h8, q⟩ := q
          refine g_iald hx hb hK hH 60 0 (by decide) Nat.zero_lt_one 240 rfl h8 dX11_areAlike_58 ?_
          refine lv_icmp_ne (tgt := 66) hx hb dX11_areAlike_59 (by decide) (fun c9 => ?_) (fun c9 => ?_)
          · have q := (if_neg c9).mp q
            exact t_66 (fun F a0 a1 a2 a3 => P_X11_areAlike_24 K n F a0 a1 a2 a3) ih F x1 x2 x4 _ _ _ hH hS (lv_sub hl [0, 1, 2, 4] rfl) q
          · have q := (if_pos c9).mp q
            refine lv_iconst (v := 1) hx hb dX11_areAlike_62 (by decide) ?_
            refine lv_goto (tgt := 67) hx hb dX11_areAlike_63 (by decide) ?_
            exact t_67 (fun F a0 a1 a2 a3 => P_X11_areAlike_24 K n F a0 a1 a2 a3) ih F x1 x2 x4 1 _ _ _ hH hS (lv_sub hl [0, 1, 2, 4] rfl) q
  have t_20 : ∀ (F : GF) (x1 : Int32) (x2 : Int32) (s0 : Int32) (H : Heap) (locs : List Loc) (ls : Array Slot), gH G ad F H → va_S (gA G) s.heap H locs → lv_has ls 5 [(0, .ref (ad 40 0)), (1, .int x1), (2, .int x2)] → (P_X11_areAlike_20 K) F x1 x2 s0 → W p l e rm_X11_areAlike s m ([.ref (ad 40 0), .int p1, .int p2] : List Value).toArray below meth c H locs 0 0 (q_X11_areAlike G ad K below ([.ref (ad 40 0), .int p1, .int p2] : List Value).toArray s) (F0 m 20 ls [.int s0]) := by
    intro F x1 x2 s0 H locs ls hH hS hl q
    unfold P_X11_areAlike_20 at q
    refine lv_istore_n (lv' := [(3, .int s0), (0, .ref (ad 40 0)), (1, .int x1), (2, .int x2)]) hx hb dX11_areAlike_20 rfl hl (by decide) rfl (fun ls hl => ?_)
    refine lv_iconst (v := 0) hx hb dX11_areAlike_21 (by decide) ?_
    refine lv_istore (lv' := [(4, .int 0), (3, .int s0), (0, .ref (ad 40 0)), (1, .int x1), (2, .int x2)]) hx hb dX11_areAlike_22 hl (by decide) rfl (fun ls hl => ?_)
    obtain ⟨nn, q⟩ := q
    exact t_24 nn F x1 x2 s0 0 _ _ _ hH hS (lv_sub hl [2, 3, 4, 1, 0] rfl) q
  unfold P_X11_areAlike at q
  refine lv_aload_n hx hb dX11_areAlike_0 rfl (lv_at hl 0 rfl) ?_
  refine g_get (ci := 15) (v := .ref (ad 61 0)) (C := RX11) (T := TX11) (N := 44) hx hb hts (fun _ h => (List.mem_cons_of_mem _ (List.mem_append_left _ (List.mem_append_right _ h)))) hown hK hH 40 0 (by decide) Nat.zero_lt_one rfl rfl 30 (by decide) (hts (.fieldLink RX11 75 "BallotFoundryModel" "counter" "[I") (List.mem_of_getElem? (i := 1) rfl)) (fun _ h => h) rfl dX11_areAlike_1 ?_
  refine lv_iload_n hx hb dX11_areAlike_4 rfl (lv_at hl 1 rfl) ?_
  obtain ⟨h1, q⟩ := q
  refine g_iald hx hb hK hH 61 0 (by decide) Nat.zero_lt_one 40 rfl h1 dX11_areAlike_5 ?_
  refine lv_aload_n hx hb dX11_areAlike_6 rfl (lv_at hl 0 rfl) ?_
  refine g_get (ci := 15) (v := .ref (ad 61 0)) (C := RX11) (T := TX11) (N := 44) hx hb hts (fun _ h => (List.mem_cons_of_mem _ (List.mem_append_left _ (List.mem_append_right _ h)))) hown hK hH 40 0 (by decide) Nat.zero_lt_one rfl rfl 30 (by decide) (hts (.fieldLink RX11 75 "BallotFoundryModel" "counter" "[I") (List.mem_of_getElem? (i := 1) rfl)) (fun _ h => h) rfl dX11_areAlike_7 ?_
  refine lv_iload_n hx hb dX11_areAlike_10 rfl (lv_at hl 2 rfl) ?_
  obtain ⟨h2, q⟩ := q
  refine g_iald hx hb hK hH 61 0 (by decide) Nat.zero_lt_one 40 rfl h2 dX11_areAlike_11 ?_
  refine lv_icmp_eq (tgt := 19) hx hb dX11_areAlike_12 (by decide) (fun c3 => ?_) (fun c3 => ?_)
  · have q := (if_pos c3).mp q
    refine lv_iconst (v := 0) hx hb dX11_areAlike_19 (by decide) ?_
    exact t_20 F p1 p2 0 _ _ _ hH hS (lv_sub hl [0, 1, 2] rfl) q
  · have q := (if_neg c3).mp q
    refine lv_iconst (v := 1) hx hb dX11_areAlike_15 (by decide) ?_
    refine lv_goto (tgt := 20) hx hb dX11_areAlike_16 (by decide) ?_
    exact t_20 F p1 p2 1 _ _ _ hH hS (lv_sub hl [0, 1, 2] rfl) q
abbrev rm_X11_count : Room := { frames := 2, cells := 0, slots := 0, locals := 43 }
abbrev q_X11_count (G : GP) (ad : Nat → Nat → Nat) (K : Int32 → GF → Prop) (below : List Frame) (args : Array Value) (s : State) : State → Prop := MQ below (gQi G ad K) args s 0 0 (gA G)
set_option maxHeartbeats 4000000 in
set_option maxRecDepth 100000 in
theorem c_X11_count (l : Launch) (G : GP) (ad : Nat → Nat → Nat) (F : GF) (p1 : Int32) (p2 : Int32) (K : Int32 → GF → Prop) : Met l yX11_count wsX11_count rm_X11_count (va_Pc [.ref (ad 40 0), .int p1, .int p2] (fun U => gD G ad F U ∧ P_X11_count F p1 p2 K)) (gQi G ad K) 0 0 (gA G) := by
  refine Met.ofW (cc := cX11_count) (maxL := 7) (ret := (some .boolean)) (by decide) rfl ?_
  intro p e s m args below meth c s₁ Bd hml hv
  obtain ⟨rfl, ⟨hK, hG, hB, hH⟩, q⟩ := hv
  have hx := Bd.exec
  have hb := Bd.bytes
  have hr := Bd.returns
  have hts := atoms_spec (ws := wsX11_count) Bd.pre
  have hown : s.vm.findClass RX11 = some m.cls := findClass_of_methodNamed Bd.named
  have hlocks := Bd.notSynchronized
  have hS : va_S (gA G) s.heap s.heap [] := va_S.rf
  have hl := lv_entry [.ref (ad 40 0), .int p1, .int p2] (n := 7) (Nat.le_of_ble_eq_true rfl)
  rw [lg_entry_eq]
  generalize (lg_sl [.ref (ad 40 0), .int p1, .int p2] ++ List.replicate (7 - (lg_sl [.ref (ad 40 0), .int p1, .int p2]).length) Slot.unset).toArray = ls at hl ⊢
  have hl : lv_has ls 7 [(0, .ref (ad 40 0)), (1, .int p1), (2, .int p2)] := hl
  show W p l e rm_X11_count s m ([.ref (ad 40 0), .int p1, .int p2] : List Value).toArray below meth c s.heap [] 0 0 (q_X11_count G ad K below ([.ref (ad 40 0), .int p1, .int p2] : List Value).toArray s) _
  have t_347 : ∀ (F : GF) (x1 : Int32) (s1 : Int32) (H : Heap) (locs : List Loc) (ls : Array Slot), gH G ad F H → va_S (gA G) s.heap H locs → lv_has ls 7 [(0, .ref (ad 40 0)), (1, .int x1)] → (P_X11_count_347 K) F x1 s1 → W p l e rm_X11_count s m ([.ref (ad 40 0), .int p1, .int p2] : List Value).toArray below meth c H locs 0 0 (q_X11_count G ad K below ([.ref (ad 40 0), .int p1, .int p2] : List Value).toArray s) (F0 m 347 ls [.int s1, .ref (ad 40 0)]) := by
    intro F x1 s1 H locs ls hH hS hl q
    unfold P_X11_count_347 at q
    refine g_put (ci := 15) (v := .int s1) (C := RX11) (T := TX11) (N := 44) hx hb hts (fun _ h => (List.mem_cons_of_mem _ (List.mem_append_left _ (List.mem_append_right _ h)))) tyX11 tyX11_ok nmX11 hown hK hH hS 40 0 (by decide) Nat.zero_lt_one (by decide) rfl rfl 14 (by decide) (hts (.fieldLink RX11 41 "BallotFoundryModel" "stage" "I") (List.mem_of_getElem? (i := 1) rfl)) (fun _ h => h) rfl (ty := .int) (by decide +kernel) rfl rfl (Nat.le_of_ble_eq_true rfl) s1 rfl dX11_count_347 (fun H locs hH hS => ?_)
    obtain ⟨F23, eF23⟩ : ∃ z, z = fs F 40 0 14 s1 := ⟨_, rfl⟩
    have q := q F23 eF23
    rw [← eF23] at hH
    refine lv_aload_n hx hb dX11_count_350 rfl (lv_at hl 0 rfl) ?_
    refine g_get (ci := 15) (v := .ref (ad 63 0)) (C := RX11) (T := TX11) (N := 44) hx hb hts (fun _ h => (List.mem_cons_of_mem _ (List.mem_append_left _ (List.mem_append_right _ h)))) hown hK hH 40 0 (by decide) Nat.zero_lt_one rfl rfl 32 (by decide) (hts (.fieldLink RX11 81 "BallotFoundryModel" "settled" "[I") (List.mem_of_getElem? (i := 3) rfl)) (fun _ h => h) rfl dX11_count_351 ?_
    refine lv_iload_n hx hb dX11_count_354 rfl (lv_at hl 1 rfl) ?_
    obtain ⟨h24, q⟩ := q
    refine g_iald hx hb hK hH 63 0 (by decide) Nat.zero_lt_one 5 rfl h24 dX11_count_355 ?_
    refine lv_iconst (v := (-1)) hx hb dX11_count_356 (by decide) ?_
    refine lv_icmp_eq (tgt := 364) hx hb dX11_count_357 (by decide) (fun c25 => ?_) (fun c25 => ?_)
    · have q := (if_pos c25).mp q
      refine lv_iconst (v := 0) hx hb dX11_count_364 (by decide) ?_
      exact (W.zret (v := 0) hx hb hr rfl (fun t ht hW => ⟨⟨0, F23, rfl, q, gH_at ht hH⟩, hS.F ht⟩) hS.2.2 dX11_count_365)
    · have q := (if_neg c25).mp q
      refine lv_iconst (v := 1) hx hb dX11_count_360 (by decide) ?_
      refine lv_goto (tgt := 365) hx hb dX11_count_361 (by decide) ?_
      exact (W.zret (v := 1) hx hb hr rfl (fun t ht hW => ⟨⟨1, F23, rfl, q, gH_at ht hH⟩, hS.F ht⟩) hS.2.2 dX11_count_365)
  have t_325 : ∀ (k295 : GF → Int32 → Int32 → Int32 → Prop), (∀ (F : GF) (x1 : Int32) (x5 : Int32) (x6 : Int32) (H : Heap) (locs : List Loc) (ls : Array Slot), gH G ad F H → va_S (gA G) s.heap H locs → lv_has ls 7 [(0, .ref (ad 40 0)), (1, .int x1), (5, .int x5), (6, .int x6)] → k295 F x1 x5 x6 → W p l e rm_X11_count s m ([.ref (ad 40 0), .int p1, .int p2] : List Value).toArray below meth c H locs 0 0 (q_X11_count G ad K below ([.ref (ad 40 0), .int p1, .int p2] : List Value).toArray s) (F0 m 295 ls [])) → ∀ (F : GF) (x1 : Int32) (x6 : Int32) (s0 : Int32) (H : Heap) (locs : List Loc) (ls : Array Slot), gH G ad F H → va_S (gA G) s.heap H locs → lv_has ls 7 [(0, .ref (ad 40 0)), (1, .int x1), (6, .int x6)] → (P_X11_count_325 k295 K) F x1 x6 s0 → W p l e rm_X11_count s m ([.ref (ad 40 0), .int p1, .int p2] : List Value).toArray below meth c H locs 0 0 (q_X11_count G ad K below ([.ref (ad 40 0), .int p1, .int p2] : List Value).toArray s) (F0 m 325 ls [.int s0]) := by
    intro k295 hk295 F x1 x6 s0 H locs ls hH hS hl q
    unfold P_X11_count_325 at q
    refine lv_istore (lv' := [(5, .int s0), (0, .ref (ad 40 0)), (1, .int x1), (6, .int x6)]) hx hb dX11_count_325 hl (by decide) rfl (fun ls hl => ?_)
    refine lv_iinc (v := x6 + 1) (lv' := [(6, .int (x6 + 1)), (5, .int s0), (0, .ref (ad 40 0)), (1, .int x1)]) hx hb dX11_count_327 hl (k := 3) rfl rfl (by decide) rfl (fun ls hl => ?_)
    refine lv_goto (tgt := 295) hx hb dX11_count_330 (by decide) ?_
    exact hk295 F x1 s0 (x6 + 1) _ _ _ hH hS (lv_sub hl [2, 3, 1, 0] rfl) q
  have t_324 : ∀ (k295 : GF → Int32 → Int32 → Int32 → Prop), (∀ (F : GF) (x1 : Int32) (x5 : Int32) (x6 : Int32) (H : Heap) (locs : List Loc) (ls : Array Slot), gH G ad F H → va_S (gA G) s.heap H locs → lv_has ls 7 [(0, .ref (ad 40 0)), (1, .int x1), (5, .int x5), (6, .int x6)] → k295 F x1 x5 x6 → W p l e rm_X11_count s m ([.ref (ad 40 0), .int p1, .int p2] : List Value).toArray below meth c H locs 0 0 (q_X11_count G ad K below ([.ref (ad 40 0), .int p1, .int p2] : List Value).toArray s) (F0 m 295 ls [])) → ∀ (F : GF) (x1 : Int32) (x6 : Int32) (H : Heap) (locs : List Loc) (ls : Array Slot), gH G ad F H → va_S (gA G) s.heap H locs → lv_has ls 7 [(0, .ref (ad 40 0)), (1, .int x1), (6, .int x6)] → (P_X11_count_324 k295 K) F x1 x6 → W p l e rm_X11_count s m ([.ref (ad 40 0), .int p1, .int p2] : List Value).toArray below meth c H locs 0 0 (q_X11_count G ad K below ([.ref (ad 40 0), .int p1, .int p2] : List Value).toArray s) (F0 m 324 ls []) := by
    intro k295 hk295 F x1 x6 H locs ls hH hS hl q
    unfold P_X11_count_324 at q
    refine lv_iconst (v := 0) hx hb dX11_count_324 (by decide) ?_
    exact t_325 k295 hk295 F x1 x6 0 _ _ _ hH hS (lv_sub hl [0, 1, 2] rfl) q
  have t_295 : ∀ n : Nat, ∀ (F : GF) (x1 : Int32) (x5 : Int32) (x6 : Int32) (H : Heap) (locs : List Loc) (ls : Array Slot), gH G ad F H → va_S (gA G) s.heap H locs → lv_has ls 7 [(0, .ref (ad 40 0)), (1, .int x1), (5, .int x5), (6, .int x6)] → (P_X11_count_295 K n) F x1 x5 x6 → W p l e rm_X11_count s m ([.ref (ad 40 0), .int p1, .int p2] : List Value).toArray below meth c H locs 0 0 (q_X11_count G ad K below ([.ref (ad 40 0), .int p1, .int p2] : List Value).toArray s) (F0 m 295 ls []) := by
    intro n
    induction n with
    | zero =>
      intro F x1 x5 x6 H locs ls hH hS hl q
      exact False.elim q
    | succ n ih =>
      intro F x1 x5 x6 H locs ls hH hS hl q
      rw [P_X11_count_295] at q
      refine lv_iload hx hb dX11_count_295 (lv_at hl 3 rfl) ?_
      refine lv_aload_n hx hb dX11_count_297 rfl (lv_at hl 0 rfl) ?_
      refine g_get (ci := 15) (v := .int (F 40 0 19)) (C := RX11) (T := TX11) (N := 44) hx hb hts (fun _ h => (List.mem_cons_of_mem _ (List.mem_append_left _ (List.mem_append_right _ h)))) hown hK hH 40 0 (by decide) Nat.zero_lt_one rfl rfl 19 (by decide) (hts (.fieldLink RX11 178 "BallotFoundryModel" "inElection" "I") (List.mem_of_getElem? (i := 2) rfl)) (fun _ h => h) rfl dX11_count_298 ?_
      refine lv_icmp_ge (tgt := 333) hx hb dX11_count_301 (by decide) (fun c21 => ?_) (fun c21 => ?_)
      · have q := (if_pos c21).mp q
        refine lv_aload_n hx hb dX11_count_333 rfl (lv_at hl 0 rfl) ?_
        refine lv_iload hx hb dX11_count_334 (lv_at hl 2 rfl) ?_
        refine lv_if_eq (tgt := 343) hx hb dX11_count_336 (by decide) (fun c22 => ?_) (fun c22 => ?_)
        · have q := (if_pos c22).mp q
          refine lv_aload_n hx hb dX11_count_343 rfl (lv_at hl 0 rfl) ?_
          refine g_get (ci := 15) (v := .int (F 40 0 14)) (C := RX11) (T := TX11) (N := 44) hx hb hts (fun _ h => (List.mem_cons_of_mem _ (List.mem_append_left _ (List.mem_append_right _ h)))) hown hK hH 40 0 (by decide) Nat.zero_lt_one rfl rfl 14 (by decide) (hts (.fieldLink RX11 41 "BallotFoundryModel" "stage" "I") (List.mem_of_getElem? (i := 1) rfl)) (fun _ h => h) rfl dX11_count_344 ?_
          exact t_347 F x1 (F 40 0 14) _ _ _ hH hS (lv_sub hl [0, 1] rfl) q
        · have q := (if_neg c22).mp q
          refine lv_iconst (v := 5) hx hb dX11_count_339 (by decide) ?_
          refine lv_goto (tgt := 347) hx hb dX11_count_340 (by decide) ?_
          exact t_347 F x1 5 _ _ _ hH hS (lv_sub hl [0, 1] rfl) q
      · have q := (if_neg c21).mp q
        refine lv_iload hx hb dX11_count_304 (lv_at hl 2 rfl) ?_
        refine lv_if_eq (tgt := 324) hx hb dX11_count_306 (by decide) (fun c26 => ?_) (fun c26 => ?_)
        · have q := (if_pos c26).mp q
          exact t_324 (fun F a0 a1 a2 => P_X11_count_295 K n F a0 a1 a2) ih F x1 x6 _ _ _ hH hS (lv_sub hl [0, 1, 3] rfl) q
        · have q := (if_neg c26).mp q
          refine lv_aload_n hx hb dX11_count_309 rfl (lv_at hl 0 rfl) ?_
          refine g_get (ci := 15) (v := .ref (ad 63 0)) (C := RX11) (T := TX11) (N := 44) hx hb hts (fun _ h => (List.mem_cons_of_mem _ (List.mem_append_left _ (List.mem_append_right _ h)))) hown hK hH 40 0 (by decide) Nat.zero_lt_one rfl rfl 32 (by decide) (hts (.fieldLink RX11 81 "BallotFoundryModel" "settled" "[I") (List.mem_of_getElem? (i := 3) rfl)) (fun _ h => h) rfl dX11_count_310 ?_
          refine lv_iload hx hb dX11_count_313 (lv_at hl 3 rfl) ?_
          obtain ⟨h27, q⟩ := q
          refine g_iald hx hb hK hH 63 0 (by decide) Nat.zero_lt_one 5 rfl h27 dX11_count_315 ?_
          refine lv_iconst (v := (-1)) hx hb dX11_count_316 (by decide) ?_
          refine lv_icmp_eq (tgt := 324) hx hb dX11_count_317 (by decide) (fun c28 => ?_) (fun c28 => ?_)
          · have q := (if_pos c28).mp q
            exact t_324 (fun F a0 a1 a2 => P_X11_count_295 K n F a0 a1 a2) ih F x1 x6 _ _ _ hH hS (lv_sub hl [0, 1, 3] rfl) q
          · have q := (if_neg c28).mp q
            refine lv_iconst (v := 1) hx hb dX11_count_320 (by decide) ?_
            refine lv_goto (tgt := 325) hx hb dX11_count_321 (by decide) ?_
            exact t_325 (fun F a0 a1 a2 => P_X11_count_295 K n F a0 a1 a2) ih F x1 x6 1 _ _ _ hH hS (lv_sub hl [0, 1, 3] rfl) q
  have t_271 : ∀ (k237 : GF → Int32 → Int32 → Int32 → Prop), (∀ (F : GF) (x1 : Int32) (x4 : Int32) (x5 : Int32) (H : Heap) (locs : List Loc) (ls : Array Slot), gH G ad F H → va_S (gA G) s.heap H locs → lv_has ls 7 [(0, .ref (ad 40 0)), (1, .int x1), (4, .int x4), (5, .int x5)] → k237 F x1 x4 x5 → W p l e rm_X11_count s m ([.ref (ad 40 0), .int p1, .int p2] : List Value).toArray below meth c H locs 0 0 (q_X11_count G ad K below ([.ref (ad 40 0), .int p1, .int p2] : List Value).toArray s) (F0 m 237 ls [])) → ∀ (F : GF) (x1 : Int32) (x4 : Int32) (x5 : Int32) (s1 : Int32) (s2 : Int32) (H : Heap) (locs : List Loc) (ls : Array Slot), gH G ad F H → va_S (gA G) s.heap H locs → lv_has ls 7 [(0, .ref (ad 40 0)), (1, .int x1), (4, .int x4), (5, .int x5)] → (P_X11_count_271 k237 K) F x1 x4 x5 s1 s2 → W p l e rm_X11_count s m ([.ref (ad 40 0), .int p1, .int p2] : List Value).toArray below meth c H locs 0 0 (q_X11_count G ad K below ([.ref (ad 40 0), .int p1, .int p2] : List Value).toArray s) (F0 m 271 ls [.int s2, .int s1, .ref (ad 63 0)]) := by
    intro k237 hk237 F x1 x4 x5 s1 s2 H locs ls hH hS hl q
    unfold P_X11_count_271 at q
    obtain ⟨h33, q⟩ := q
    refine g_iast hx hb hK hH hS 63 0 (by decide) Nat.zero_lt_one (by decide) 5 (fun _ => rfl) h33 dX11_count_271 (fun H locs hH hS => ?_)
    obtain ⟨F34, eF34⟩ : ∃ z, z = fs F 63 0 s1.toNatClampNeg s2 := ⟨_, rfl⟩
    have q := q F34 eF34
    rw [← eF34] at hH
    refine lv_iinc (v := x5 + 1) (lv' := [(5, .int (x5 + 1)), (0, .ref (ad 40 0)), (1, .int x1), (4, .int x4)]) hx hb dX11_count_272 hl (k := 3) rfl rfl (by decide) rfl (fun ls hl => ?_)
    refine lv_goto (tgt := 237) hx hb dX11_count_275 (by decide) ?_
    exact hk237 F34 x1 x4 (x5 + 1) _ _ _ hH hS (lv_sub hl [1, 2, 3, 0] rfl) q
  have t_237 : ∀ n : Nat, ∀ (F : GF) (x1 : Int32) (x4 : Int32) (x5 : Int32) (H : Heap) (locs : List Loc) (ls : Array Slot), gH G ad F H → va_S (gA G) s.heap H locs → lv_has ls 7 [(0, .ref (ad 40 0)), (1, .int x1), (4, .int x4), (5, .int x5)] → (P_X11_count_237 K n) F x1 x4 x5 → W p l e rm_X11_count s m ([.ref (ad 40 0), .int p1, .int p2] : List Value).toArray below meth c H locs 0 0 (q_X11_count G ad K below ([.ref (ad 40 0), .int p1, .int p2] : List Value).toArray s) (F0 m 237 ls []) := by
    intro n
    induction n with
    | zero =>
      intro F x1 x4 x5 H locs ls hH hS hl q
      exact False.elim q
    | succ n ih =>
      intro F x1 x4 x5 H locs ls hH hS hl q
      rw [P_X11_count_237] at q
      refine lv_iload hx hb dX11_count_237 (lv_at hl 3 rfl) ?_
      refine lv_iload hx hb dX11_count_239 (lv_at hl 2 rfl) ?_
      refine lv_icmp_ge (tgt := 278) hx hb dX11_count_241 (by decide) (fun c18 => ?_) (fun c18 => ?_)
      · have q := (if_pos c18).mp q
        refine lv_aload_n hx hb dX11_count_278 rfl (lv_at hl 0 rfl) ?_
        refine lv_aload_n hx hb dX11_count_279 rfl (lv_at hl 0 rfl) ?_
        refine g_get (ci := 15) (v := .int (F 40 0 0)) (C := RX11) (T := TX11) (N := 44) hx hb hts (fun _ h => (List.mem_cons_of_mem _ (List.mem_append_left _ (List.mem_append_right _ h)))) hown hK hH 40 0 (by decide) Nat.zero_lt_one rfl rfl 0 (by decide) (hts (.fieldLink RX11 149 "BallotFoundryModel" "today" "I") (List.mem_of_getElem? (i := 10) rfl)) (fun _ h => h) rfl dX11_count_280 ?_
        refine lv_bipush (v := 99) hx hb dX11_count_283 (by decide) ?_
        refine lv_iload_n hx hb dX11_count_285 rfl (lv_at hl 1 rfl) ?_
        refine va_callv (va_runV (As := [.int (F 40 0 0), .int 99, .int x1]) (rest := []) ⟨hx, hb, hml, hown, hts⟩ (c_X11_notes l G ad F (F 40 0 0) 99 x1 _) (cwV 3 hts gX11_count_X11_notes rfl rfl rfl (by decide +kernel) ⟨Nat.le_of_ble_eq_true rfl, Nat.le_of_ble_eq_true rfl⟩) ⟨fun a U g mk h => ⟨h.1, gD_blind h.2.1, h.2.2⟩, g_recv (C := RX11) (T := TX11) (N := 44) hK hH 40 0 (by decide) Nat.zero_lt_one rfl rfl, fun U hU hW => ⟨rfl, gD_at hK hG hB hH hS hU hW, q⟩⟩ rfl rfl hl.1 rfl (lv_room (Nat.le_of_ble_eq_true rfl)) dX11_count_286 ⟨Nat.le_of_ble_eq_true rfl, Nat.le_of_ble_eq_true rfl⟩) hS (fun _ _ h => h) (fun _ h => h) (fun F20 t H locs ht hvm q hB1 hz hk hS => ?_)
        have hH : gH G ad F20 H := gH_to ht hB1
        refine lv_iconst (v := 1) hx hb dX11_count_289 (by decide) ?_
        refine lv_istore (lv' := [(5, .int 1), (0, .ref (ad 40 0)), (1, .int x1), (4, .int x4)]) hx hb dX11_count_290 hl (by decide) rfl (fun ls hl => ?_)
        refine lv_iconst (v := 0) hx hb dX11_count_292 (by decide) ?_
        refine lv_istore (lv' := [(6, .int 0), (5, .int 1), (0, .ref (ad 40 0)), (1, .int x1), (4, .int x4)]) hx hb dX11_count_293 hl (by decide) rfl (fun ls hl => ?_)
        obtain ⟨nn, q⟩ := q
        exact t_295 nn F20 x1 1 0 _ _ _ hH hS (lv_sub hl [2, 3, 1, 0] rfl) q
      · have q := (if_neg c18).mp q
        refine lv_aload_n hx hb dX11_count_244 rfl (lv_at hl 0 rfl) ?_
        refine g_get (ci := 15) (v := .ref (ad 63 0)) (C := RX11) (T := TX11) (N := 44) hx hb hts (fun _ h => (List.mem_cons_of_mem _ (List.mem_append_left _ (List.mem_append_right _ h)))) hown hK hH 40 0 (by decide) Nat.zero_lt_one rfl rfl 32 (by decide) (hts (.fieldLink RX11 81 "BallotFoundryModel" "settled" "[I") (List.mem_of_getElem? (i := 3) rfl)) (fun _ h => h) rfl dX11_count_245 ?_
        refine lv_iload_n hx hb dX11_count_248 rfl (lv_at hl 1 rfl) ?_
        refine lv_aload_n hx hb dX11_count_249 rfl (lv_at hl 0 rfl) ?_
        refine lv_iload hx hb dX11_count_250 (lv_at hl 3 rfl) ?_
        refine lv_iload hx hb dX11_count_252 (lv_at hl 2 rfl) ?_
        refine va_calli (va_runV (As := [.int x5, .int x4]) (rest := [.int x1, .ref (ad 63 0)]) ⟨hx, hb, hml, hown, hts⟩ (c_X11_areAlike l G ad F x5 x4 _) (cwV 2 hts gX11_count_X11_areAlike rfl rfl rfl (by decide +kernel) ⟨Nat.le_of_ble_eq_true rfl, Nat.le_of_ble_eq_true rfl⟩) ⟨fun a U g mk h => ⟨h.1, gD_blind h.2.1, h.2.2⟩, g_recv (C := RX11) (T := TX11) (N := 44) hK hH 40 0 (by decide) Nat.zero_lt_one rfl rfl, fun U hU hW => ⟨rfl, gD_at hK hG hB hH hS hU hW, q⟩⟩ rfl rfl hl.1 rfl (lv_room (Nat.le_of_ble_eq_true rfl)) dX11_count_254 ⟨Nat.le_of_ble_eq_true rfl, Nat.le_of_ble_eq_true rfl⟩) hS (fun _ _ h => h) (fun _ h => h) (fun r29 F30 t H locs ht hvm q hB1 hz hk hS => ?_)
        have hH : gH G ad F30 H := gH_to ht hB1
        refine lv_if_eq (tgt := 265) hx hb dX11_count_257 (by decide) (fun c31 => ?_) (fun c31 => ?_)
        · have q := (if_pos c31).mp q
          refine lv_aload_n hx hb dX11_count_265 rfl (lv_at hl 0 rfl) ?_
          refine g_get (ci := 15) (v := .ref (ad 63 0)) (C := RX11) (T := TX11) (N := 44) hx hb hts (fun _ h => (List.mem_cons_of_mem _ (List.mem_append_left _ (List.mem_append_right _ h)))) hown hK hH 40 0 (by decide) Nat.zero_lt_one rfl rfl 32 (by decide) (hts (.fieldLink RX11 81 "BallotFoundryModel" "settled" "[I") (List.mem_of_getElem? (i := 3) rfl)) (fun _ h => h) rfl dX11_count_266 ?_
          refine lv_iload_n hx hb dX11_count_269 rfl (lv_at hl 1 rfl) ?_
          obtain ⟨h32, q⟩ := q
          refine g_iald hx hb hK hH 63 0 (by decide) Nat.zero_lt_one 5 rfl h32 dX11_count_270 ?_
          exact t_271 (fun F a0 a1 a2 => P_X11_count_237 K n F a0 a1 a2) ih F30 x1 x4 x5 x1 (F30 63 0 x1.toNatClampNeg) _ _ _ hH hS (lv_sub hl [0, 1, 2, 3] rfl) q
        · have q := (if_neg c31).mp q
          refine lv_iload hx hb dX11_count_260 (lv_at hl 2 rfl) ?_
          refine lv_goto (tgt := 271) hx hb dX11_count_262 (by decide) ?_
          exact t_271 (fun F a0 a1 a2 => P_X11_count_237 K n F a0 a1 a2) ih F30 x1 x4 x5 x1 x4 _ _ _ hH hS (lv_sub hl [0, 1, 2, 3] rfl) q
  have t_205 : ∀ (k133 : GF → Int32 → Int32 → Int32 → Int32 → Prop), (∀ (F : GF) (x1 : Int32) (x2 : Int32) (x4 : Int32) (x5 : Int32) (H : Heap) (locs : List Loc) (ls : Array Slot), gH G ad F H → va_S (gA G) s.heap H locs → lv_has ls 7 [(0, .ref (ad 40 0)), (1, .int x1), (2, .int x2), (4, .int x4), (5, .int x5)] → k133 F x1 x2 x4 x5 → W p l e rm_X11_count s m ([.ref (ad 40 0), .int p1, .int p2] : List Value).toArray below meth c H locs 0 0 (q_X11_count G ad K below ([.ref (ad 40 0), .int p1, .int p2] : List Value).toArray s) (F0 m 133 ls [])) → ∀ (F : GF) (x1 : Int32) (x2 : Int32) (x4 : Int32) (x5 : Int32) (s1 : Int32) (s2 : Int32) (s3 : Int32) (H : Heap) (locs : List Loc) (ls : Array Slot), gH G ad F H → va_S (gA G) s.heap H locs → lv_has ls 7 [(0, .ref (ad 40 0)), (1, .int x1), (2, .int x2), (4, .int x4), (5, .int x5)] → (P_X11_count_205 k133 K) F x1 x2 x4 x5 s1 s2 s3 → W p l e rm_X11_count s m ([.ref (ad 40 0), .int p1, .int p2] : List Value).toArray below meth c H locs 0 0 (q_X11_count G ad K below ([.ref (ad 40 0), .int p1, .int p2] : List Value).toArray s) (F0 m 205 ls [.int s3, .int s2, .int s1, .ref (ad 60 0)]) := by
    intro k133 hk133 F x1 x2 x4 x5 s1 s2 s3 H locs ls hH hS hl q
    unfold P_X11_count_205 at q
    refine lv_iadd hx hb dX11_count_205 ?_
    refine lv_bipush (v := 6) hx hb dX11_count_206 (by decide) ?_
    refine lv_irem hx hb dX11_count_208 (by decide) ?_
    refine lv_iadd hx hb dX11_count_209 ?_
    refine lv_dup2_11 hx hb dX11_count_210 rfl rfl ?_
    obtain ⟨h39, q⟩ := q
    refine g_iald hx hb hK hH 60 0 (by decide) Nat.zero_lt_one 240 rfl h39 dX11_count_211 ?_
    refine lv_iconst (v := 1) hx hb dX11_count_212 (by decide) ?_
    refine lv_iadd hx hb dX11_count_213 ?_
    obtain ⟨h40, q⟩ := q
    refine g_iast hx hb hK hH hS 60 0 (by decide) Nat.zero_lt_one (by decide) 240 (fun _ => rfl) h40 dX11_count_214 (fun H locs hH hS => ?_)
    obtain ⟨F41, eF41⟩ : ∃ z, z = fs F 60 0 (s1 + ((s2 + s3) - (s2 + s3) / 6 * 6)).toNatClampNeg ((F 60 0 (s1 + ((s2 + s3) - (s2 + s3) / 6 * 6)).toNatClampNeg) + 1) := ⟨_, rfl⟩
    have q := q F41 eF41
    rw [← eF41] at hH
    refine lv_iinc (v := x5 + 1) (lv' := [(5, .int (x5 + 1)), (0, .ref (ad 40 0)), (1, .int x1), (2, .int x2), (4, .int x4)]) hx hb dX11_count_215 hl (k := 4) rfl rfl (by decide) rfl (fun ls hl => ?_)
    refine lv_goto (tgt := 133) hx hb dX11_count_218 (by decide) ?_
    exact hk133 F41 x1 x2 x4 (x5 + 1) _ _ _ hH hS (lv_sub hl [1, 2, 3, 4, 0] rfl) q
  have t_172 : ∀ (k133 : GF → Int32 → Int32 → Int32 → Int32 → Prop), (∀ (F : GF) (x1 : Int32) (x2 : Int32) (x4 : Int32) (x5 : Int32) (H : Heap) (locs : List Loc) (ls : Array Slot), gH G ad F H → va_S (gA G) s.heap H locs → lv_has ls 7 [(0, .ref (ad 40 0)), (1, .int x1), (2, .int x2), (4, .int x4), (5, .int x5)] → k133 F x1 x2 x4 x5 → W p l e rm_X11_count s m ([.ref (ad 40 0), .int p1, .int p2] : List Value).toArray below meth c H locs 0 0 (q_X11_count G ad K below ([.ref (ad 40 0), .int p1, .int p2] : List Value).toArray s) (F0 m 133 ls [])) → ∀ (F : GF) (x1 : Int32) (x2 : Int32) (x4 : Int32) (x5 : Int32) (s0 : Int32) (H : Heap) (locs : List Loc) (ls : Array Slot), gH G ad F H → va_S (gA G) s.heap H locs → lv_has ls 7 [(0, .ref (ad 40 0)), (1, .int x1), (2, .int x2), (4, .int x4), (5, .int x5)] → (P_X11_count_172 k133 K) F x1 x2 x4 x5 s0 → W p l e rm_X11_count s m ([.ref (ad 40 0), .int p1, .int p2] : List Value).toArray below meth c H locs 0 0 (q_X11_count G ad K below ([.ref (ad 40 0), .int p1, .int p2] : List Value).toArray s) (F0 m 172 ls [.int s0]) := by
    intro k133 hk133 F x1 x2 x4 x5 s0 H locs ls hH hS hl q
    unfold P_X11_count_172 at q
    refine lv_istore (lv' := [(6, .int s0), (0, .ref (ad 40 0)), (1, .int x1), (2, .int x2), (4, .int x4), (5, .int x5)]) hx hb dX11_count_172 hl (by decide) rfl (fun ls hl => ?_)
    refine lv_aload_n hx hb dX11_count_174 rfl (lv_at hl 1 rfl) ?_
    refine g_get (ci := 15) (v := .ref (ad 60 0)) (C := RX11) (T := TX11) (N := 44) hx hb hts (fun _ h => (List.mem_cons_of_mem _ (List.mem_append_left _ (List.mem_append_right _ h)))) hown hK hH 40 0 (by decide) Nat.zero_lt_one rfl rfl 29 (by decide) (hts (.fieldLink RX11 72 "BallotFoundryModel" "number" "[I") (List.mem_of_getElem? (i := 6) rfl)) (fun _ h => h) rfl dX11_count_175 ?_
    refine lv_bipush (v := 6) hx hb dX11_count_178 (by decide) ?_
    refine lv_iload hx hb dX11_count_180 (lv_at hl 4 rfl) ?_
    refine lv_imul hx hb dX11_count_182 ?_
    refine lv_aload_n hx hb dX11_count_183 rfl (lv_at hl 1 rfl) ?_
    refine g_get (ci := 15) (v := .ref (ad 58 0)) (C := RX11) (T := TX11) (N := 44) hx hb hts (fun _ h => (List.mem_cons_of_mem _ (List.mem_append_left _ (List.mem_append_right _ h)))) hown hK hH 40 0 (by decide) Nat.zero_lt_one rfl rfl 27 (by decide) (hts (.fieldLink RX11 66 "BallotFoundryModel" "box" "[I") (List.mem_of_getElem? (i := 9) rfl)) (fun _ h => h) rfl dX11_count_184 ?_
    refine lv_bipush (v := 20) hx hb dX11_count_187 (by decide) ?_
    refine lv_iload_n hx hb dX11_count_189 rfl (lv_at hl 2 rfl) ?_
    refine lv_imul hx hb dX11_count_190 ?_
    refine lv_iload hx hb dX11_count_191 (lv_at hl 5 rfl) ?_
    refine lv_iadd hx hb dX11_count_193 ?_
    obtain ⟨h37, q⟩ := q
    refine g_iald hx hb hK hH 58 0 (by decide) Nat.zero_lt_one 100 rfl h37 dX11_count_194 ?_
    refine lv_iload hx hb dX11_count_195 (lv_at hl 0 rfl) ?_
    refine lv_if_eq (tgt := 204) hx hb dX11_count_197 (by decide) (fun c38 => ?_) (fun c38 => ?_)
    · have q := (if_pos c38).mp q
      refine lv_iconst (v := 0) hx hb dX11_count_204 (by decide) ?_
      exact t_205 k133 hk133 F x1 x2 x4 x5 (6 * x4) (F 58 0 ((20 * x1) + x5).toNatClampNeg) 0 _ _ _ hH hS (lv_sub hl [1, 2, 3, 4, 5] rfl) q
    · have q := (if_neg c38).mp q
      refine lv_iconst (v := 1) hx hb dX11_count_200 (by decide) ?_
      refine lv_goto (tgt := 205) hx hb dX11_count_201 (by decide) ?_
      exact t_205 k133 hk133 F x1 x2 x4 x5 (6 * x4) (F 58 0 ((20 * x1) + x5).toNatClampNeg) 1 _ _ _ hH hS (lv_sub hl [1, 2, 3, 4, 5] rfl) q
  have t_171 : ∀ (k133 : GF → Int32 → Int32 → Int32 → Int32 → Prop), (∀ (F : GF) (x1 : Int32) (x2 : Int32) (x4 : Int32) (x5 : Int32) (H : Heap) (locs : List Loc) (ls : Array Slot), gH G ad F H → va_S (gA G) s.heap H locs → lv_has ls 7 [(0, .ref (ad 40 0)), (1, .int x1), (2, .int x2), (4, .int x4), (5, .int x5)] → k133 F x1 x2 x4 x5 → W p l e rm_X11_count s m ([.ref (ad 40 0), .int p1, .int p2] : List Value).toArray below meth c H locs 0 0 (q_X11_count G ad K below ([.ref (ad 40 0), .int p1, .int p2] : List Value).toArray s) (F0 m 133 ls [])) → ∀ (F : GF) (x1 : Int32) (x2 : Int32) (x4 : Int32) (x5 : Int32) (H : Heap) (locs : List Loc) (ls : Array Slot), gH G ad F H → va_S (gA G) s.heap H locs → lv_has ls 7 [(0, .ref (ad 40 0)), (1, .int x1), (2, .int x2), (4, .int x4), (5, .int x5)] → (P_X11_count_171 k133 K) F x1 x2 x4 x5 → W p l e rm_X11_count s m ([.ref (ad 40 0), .int p1, .int p2] : List Value).toArray below meth c H locs 0 0 (q_X11_count G ad K below ([.ref (ad 40 0), .int p1, .int p2] : List Value).toArray s) (F0 m 171 ls []) := by
    intro k133 hk133 F x1 x2 x4 x5 H locs ls hH hS hl q
    unfold P_X11_count_171 at q
    refine lv_iconst (v := 0) hx hb dX11_count_171 (by decide) ?_
    exact t_172 k133 hk133 F x1 x2 x4 x5 0 _ _ _ hH hS (lv_sub hl [0, 1, 2, 3, 4] rfl) q
  have t_133 : ∀ n : Nat, ∀ (F : GF) (x1 : Int32) (x2 : Int32) (x4 : Int32) (x5 : Int32) (H : Heap) (locs : List Loc) (ls : Array Slot), gH G ad F H → va_S (gA G) s.heap H locs → lv_has ls 7 [(0, .ref (ad 40 0)), (1, .int x1), (2, .int x2), (4, .int x4), (5, .int x5)] → (P_X11_count_133 K n) F x1 x2 x4 x5 → W p l e rm_X11_count s m ([.ref (ad 40 0), .int p1, .int p2] : List Value).toArray below meth c H locs 0 0 (q_X11_count G ad K below ([.ref (ad 40 0), .int p1, .int p2] : List Value).toArray s) (F0 m 133 ls []) := by
    intro n
    induction n with
    | zero =>
      intro F x1 x2 x4 x5 H locs ls hH hS hl q
      exact False.elim q
    | succ n ih =>
      intro F x1 x2 x4 x5 H locs ls hH hS hl q
      rw [P_X11_count_133] at q
      refine lv_iload hx hb dX11_count_133 (lv_at hl 4 rfl) ?_
      refine lv_aload_n hx hb dX11_count_135 rfl (lv_at hl 0 rfl) ?_
      refine g_get (ci := 15) (v := .ref (ad 59 0)) (C := RX11) (T := TX11) (N := 44) hx hb hts (fun _ h => (List.mem_cons_of_mem _ (List.mem_append_left _ (List.mem_append_right _ h)))) hown hK hH 40 0 (by decide) Nat.zero_lt_one rfl rfl 28 (by decide) (hts (.fieldLink RX11 69 "BallotFoundryModel" "ballots" "[I") (List.mem_of_getElem? (i := 7) rfl)) (fun _ h => h) rfl dX11_count_136 ?_
      refine lv_iload_n hx hb dX11_count_139 rfl (lv_at hl 1 rfl) ?_
      obtain ⟨h13, q⟩ := q
      refine g_iald hx hb hK hH 59 0 (by decide) Nat.zero_lt_one 5 rfl h13 dX11_count_140 ?_
      refine lv_icmp_ge (tgt := 221) hx hb dX11_count_141 (by decide) (fun c14 => ?_) (fun c14 => ?_)
      · have q := (if_pos c14).mp q
        refine lv_aload_n hx hb dX11_count_221 rfl (lv_at hl 0 rfl) ?_
        refine g_get (ci := 15) (v := .ref (ad 62 0)) (C := RX11) (T := TX11) (N := 44) hx hb hts (fun _ h => (List.mem_cons_of_mem _ (List.mem_append_left _ (List.mem_append_right _ h)))) hown hK hH 40 0 (by decide) Nat.zero_lt_one rfl rfl 31 (by decide) (hts (.fieldLink RX11 78 "BallotFoundryModel" "counts" "[I") (List.mem_of_getElem? (i := 4) rfl)) (fun _ h => h) rfl dX11_count_222 ?_
        refine lv_iload_n hx hb dX11_count_225 rfl (lv_at hl 1 rfl) ?_
        refine lv_dup2_11 hx hb dX11_count_226 rfl rfl ?_
        obtain ⟨h15, q⟩ := q
        refine g_iald hx hb hK hH 62 0 (by decide) Nat.zero_lt_one 5 rfl h15 dX11_count_227 ?_
        refine lv_iconst (v := 1) hx hb dX11_count_228 (by decide) ?_
        refine lv_iadd hx hb dX11_count_229 ?_
        obtain ⟨h16, q⟩ := q
        refine g_iast hx hb hK hH hS 62 0 (by decide) Nat.zero_lt_one (by decide) 5 (fun _ => rfl) h16 dX11_count_230 (fun H locs hH hS => ?_)
        obtain ⟨F17, eF17⟩ : ∃ z, z = fs F 62 0 x1.toNatClampNeg ((F 62 0 x1.toNatClampNeg) + 1) := ⟨_, rfl⟩
        have q := q F17 eF17
        rw [← eF17] at hH
        refine lv_bipush (v := 8) hx hb dX11_count_231 (by decide) ?_
        refine lv_iload_n hx hb dX11_count_233 rfl (lv_at hl 1 rfl) ?_
        refine lv_imul hx hb dX11_count_234 ?_
        refine lv_istore (lv' := [(5, .int (8 * x1)), (0, .ref (ad 40 0)), (1, .int x1), (2, .int x2), (4, .int x4)]) hx hb dX11_count_235 hl (by decide) rfl (fun ls hl => ?_)
        obtain ⟨nn, q⟩ := q
        exact t_237 nn F17 x1 x4 (8 * x1) _ _ _ hH hS (lv_sub hl [1, 2, 4, 0] rfl) q
      · have q := (if_neg c14).mp q
        refine lv_aload_n hx hb dX11_count_144 rfl (lv_at hl 0 rfl) ?_
        refine g_get (ci := 15) (v := .ref (ad 64 0)) (C := RX11) (T := TX11) (N := 44) hx hb hts (fun _ h => (List.mem_cons_of_mem _ (List.mem_append_left _ (List.mem_append_right _ h)))) hown hK hH 40 0 (by decide) Nat.zero_lt_one rfl rfl 33 (by decide) (hts (.fieldLink RX11 84 "BallotFoundryModel" "slip" "[I") (List.mem_of_getElem? (i := 8) rfl)) (fun _ h => h) rfl dX11_count_145 ?_
        refine lv_iload_n hx hb dX11_count_148 rfl (lv_at hl 2 rfl) ?_
        obtain ⟨h35, q⟩ := q
        refine g_iald hx hb hK hH 64 0 (by decide) Nat.zero_lt_one 4 rfl h35 dX11_count_149 ?_
        refine lv_if_le (tgt := 171) hx hb dX11_count_150 (by decide) (fun c36 => ?_) (fun c36 => ?_)
        · have q := (if_pos c36).mp q
          exact t_171 (fun F a0 a1 a2 a3 => P_X11_count_133 K n F a0 a1 a2 a3) ih F x1 x2 x4 x5 _ _ _ hH hS (lv_sub hl [0, 1, 2, 3, 4] rfl) q
        · have q := (if_neg c36).mp q
          refine lv_iload hx hb dX11_count_153 (lv_at hl 4 rfl) ?_
          refine lv_iconst (v := 1) hx hb dX11_count_155 (by decide) ?_
          refine lv_iadd hx hb dX11_count_156 ?_
          refine lv_aload_n hx hb dX11_count_157 rfl (lv_at hl 0 rfl) ?_
          refine g_get (ci := 15) (v := .ref (ad 64 0)) (C := RX11) (T := TX11) (N := 44) hx hb hts (fun _ h => (List.mem_cons_of_mem _ (List.mem_append_left _ (List.mem_append_right _ h)))) hown hK hH 40 0 (by decide) Nat.zero_lt_one rfl rfl 33 (by decide) (hts (.fieldLink RX11 84 "BallotFoundryModel" "slip" "[I") (List.mem_of_getElem? (i := 8) rfl)) (fun _ h => h) rfl dX11_count_158 ?_
          refine lv_iload_n hx hb dX11_count_161 rfl (lv_at hl 2 rfl) ?_
          obtain ⟨h42, q⟩ := q
          refine g_iald hx hb hK hH 64 0 (by decide) Nat.zero_lt_one 4 rfl h42 dX11_count_162 ?_
          obtain ⟨h43, q⟩ := q
          refine lv_irem hx hb dX11_count_163 h43 ?_
          refine lv_if_ne (tgt := 171) hx hb dX11_count_164 (by decide) (fun c44 => ?_) (fun c44 => ?_)
          · have q := (if_neg c44).mp q
            exact t_171 (fun F a0 a1 a2 a3 => P_X11_count_133 K n F a0 a1 a2 a3) ih F x1 x2 x4 x5 _ _ _ hH hS (lv_sub hl [0, 1, 2, 3, 4] rfl) q
          · have q := (if_pos c44).mp q
            refine lv_iconst (v := 1) hx hb dX11_count_167 (by decide) ?_
            refine lv_goto (tgt := 172) hx hb dX11_count_168 (by decide) ?_
            exact t_172 (fun F a0 a1 a2 a3 => P_X11_count_133 K n F a0 a1 a2 a3) ih F x1 x2 x4 x5 1 _ _ _ hH hS (lv_sub hl [0, 1, 2, 3, 4] rfl) q
  have t_103 : ∀ n : Nat, ∀ (F : GF) (x1 : Int32) (x2 : Int32) (x4 : Int32) (x5 : Int32) (H : Heap) (locs : List Loc) (ls : Array Slot), gH G ad F H → va_S (gA G) s.heap H locs → lv_has ls 7 [(0, .ref (ad 40 0)), (1, .int x1), (2, .int x2), (4, .int x4), (5, .int x5)] → (P_X11_count_103 K n) F x1 x2 x4 x5 → W p l e rm_X11_count s m ([.ref (ad 40 0), .int p1, .int p2] : List Value).toArray below meth c H locs 0 0 (q_X11_count G ad K below ([.ref (ad 40 0), .int p1, .int p2] : List Value).toArray s) (F0 m 103 ls []) := by
    intro n
    induction n with
    | zero =>
      intro F x1 x2 x4 x5 H locs ls hH hS hl q
      exact False.elim q
    | succ n ih =>
      intro F x1 x2 x4 x5 H locs ls hH hS hl q
      rw [P_X11_count_103] at q
      refine lv_iload hx hb dX11_count_103 (lv_at hl 4 rfl) ?_
      refine lv_bipush (v := 6) hx hb dX11_count_105 (by decide) ?_
      refine lv_icmp_ge (tgt := 130) hx hb dX11_count_107 (by decide) (fun c12 => ?_) (fun c12 => ?_)
      · have q := (if_pos c12).mp q
        refine lv_iconst (v := 0) hx hb dX11_count_130 (by decide) ?_
        refine lv_istore (lv' := [(5, .int 0), (0, .ref (ad 40 0)), (1, .int x1), (2, .int x2), (4, .int x4)]) hx hb dX11_count_131 hl (by decide) rfl (fun ls hl => ?_)
        obtain ⟨nn, q⟩ := q
        exact t_133 nn F x1 x2 x4 0 _ _ _ hH hS (lv_sub hl [1, 2, 3, 4, 0] rfl) q
      · have q := (if_neg c12).mp q
        refine lv_aload_n hx hb dX11_count_110 rfl (lv_at hl 0 rfl) ?_
        refine g_get (ci := 15) (v := .ref (ad 60 0)) (C := RX11) (T := TX11) (N := 44) hx hb hts (fun _ h => (List.mem_cons_of_mem _ (List.mem_append_left _ (List.mem_append_right _ h)))) hown hK hH 40 0 (by decide) Nat.zero_lt_one rfl rfl 29 (by decide) (hts (.fieldLink RX11 72 "BallotFoundryModel" "number" "[I") (List.mem_of_getElem? (i := 6) rfl)) (fun _ h => h) rfl dX11_count_111 ?_
        refine lv_bipush (v := 6) hx hb dX11_count_114 (by decide) ?_
        refine lv_iload hx hb dX11_count_116 (lv_at hl 3 rfl) ?_
        refine lv_imul hx hb dX11_count_118 ?_
        refine lv_iload hx hb dX11_count_119 (lv_at hl 4 rfl) ?_
        refine lv_iadd hx hb dX11_count_121 ?_
        refine lv_iconst (v := 0) hx hb dX11_count_122 (by decide) ?_
        obtain ⟨h45, q⟩ := q
        refine g_iast hx hb hK hH hS 60 0 (by decide) Nat.zero_lt_one (by decide) 240 (fun _ => rfl) h45 dX11_count_123 (fun H locs hH hS => ?_)
        obtain ⟨F46, eF46⟩ : ∃ z, z = fs F 60 0 ((6 * x4) + x5).toNatClampNeg 0 := ⟨_, rfl⟩
        have q := q F46 eF46
        rw [← eF46] at hH
        refine lv_iinc (v := x5 + 1) (lv' := [(5, .int (x5 + 1)), (0, .ref (ad 40 0)), (1, .int x1), (2, .int x2), (4, .int x4)]) hx hb dX11_count_124 hl (k := 4) rfl rfl (by decide) rfl (fun ls hl => ?_)
        refine lv_goto (tgt := 103) hx hb dX11_count_127 (by decide) ?_
        exact ih F46 x1 x2 x4 (x5 + 1) _ _ _ hH hS (lv_sub hl [1, 2, 3, 4, 0] rfl) q
  have t_71 : ∀ (F : GF) (x1 : Int32) (x2 : Int32) (s1 : Int32) (s2 : Int32) (H : Heap) (locs : List Loc) (ls : Array Slot), gH G ad F H → va_S (gA G) s.heap H locs → lv_has ls 7 [(0, .ref (ad 40 0)), (1, .int x1), (2, .int x2)] → (P_X11_count_71 K) F x1 x2 s1 s2 → W p l e rm_X11_count s m ([.ref (ad 40 0), .int p1, .int p2] : List Value).toArray below meth c H locs 0 0 (q_X11_count G ad K below ([.ref (ad 40 0), .int p1, .int p2] : List Value).toArray s) (F0 m 71 ls [.int s2, .int s1, .ref (ad 40 0)]) := by
    intro F x1 x2 s1 s2 H locs ls hH hS hl q
    unfold P_X11_count_71 at q
    refine va_calli (va_runV (As := [.int s1, .int s2]) (rest := []) ⟨hx, hb, hml, hown, hts⟩ (c_X11_asked_ l G ad F s1 s2 _) (cwV 2 hts gX11_count_X11_asked_ rfl rfl rfl (by decide +kernel) ⟨Nat.le_of_ble_eq_true rfl, Nat.le_of_ble_eq_true rfl⟩) ⟨fun a U g mk h => ⟨h.1, gD_blind h.2.1, h.2.2⟩, g_recv (C := RX11) (T := TX11) (N := 44) hK hH 40 0 (by decide) Nat.zero_lt_one rfl rfl, fun U hU hW => ⟨rfl, gD_at hK hG hB hH hS hU hW, q⟩⟩ rfl rfl hl.1 rfl (lv_room (Nat.le_of_ble_eq_true rfl)) dX11_count_71 ⟨Nat.le_of_ble_eq_true rfl, Nat.le_of_ble_eq_true rfl⟩) hS (fun _ _ h => h) (fun _ h => h) (fun r5 F6 t H locs ht hvm q hB1 hz hk hS => ?_)
    have hH : gH G ad F6 H := gH_to ht hB1
    refine lv_if_ne (tgt := 79) hx hb dX11_count_74 (by decide) (fun c7 => ?_) (fun c7 => ?_)
    · have q := (if_neg c7).mp q
      refine lv_bipush (v := 8) hx hb dX11_count_79 (by decide) ?_
      refine lv_iload_n hx hb dX11_count_81 rfl (lv_at hl 1 rfl) ?_
      refine lv_imul hx hb dX11_count_82 ?_
      refine lv_aload_n hx hb dX11_count_83 rfl (lv_at hl 0 rfl) ?_
      refine g_get (ci := 15) (v := .ref (ad 62 0)) (C := RX11) (T := TX11) (N := 44) hx hb hts (fun _ h => (List.mem_cons_of_mem _ (List.mem_append_left _ (List.mem_append_right _ h)))) hown hK hH 40 0 (by decide) Nat.zero_lt_one rfl rfl 31 (by decide) (hts (.fieldLink RX11 78 "BallotFoundryModel" "counts" "[I") (List.mem_of_getElem? (i := 4) rfl)) (fun _ h => h) rfl dX11_count_84 ?_
      refine lv_iload_n hx hb dX11_count_87 rfl (lv_at hl 1 rfl) ?_
      obtain ⟨h8, q⟩ := q
      refine g_iald hx hb hK hH 62 0 (by decide) Nat.zero_lt_one 5 rfl h8 dX11_count_88 ?_
      refine lv_iadd hx hb dX11_count_89 ?_
      refine lv_topi (fun y9 ey9 => ?_)
      have q := q y9 ey9
      refine lv_istore (lv' := [(4, .int y9), (0, .ref (ad 40 0)), (1, .int x1), (2, .int x2)]) hx hb dX11_count_90 hl (by decide) rfl (fun ls hl => ?_)
      refine lv_aload_n hx hb dX11_count_92 rfl (lv_at hl 1 rfl) ?_
      refine g_get (ci := 15) (v := .ref (ad 61 0)) (C := RX11) (T := TX11) (N := 44) hx hb hts (fun _ h => (List.mem_cons_of_mem _ (List.mem_append_left _ (List.mem_append_right _ h)))) hown hK hH 40 0 (by decide) Nat.zero_lt_one rfl rfl 30 (by decide) (hts (.fieldLink RX11 75 "BallotFoundryModel" "counter" "[I") (List.mem_of_getElem? (i := 5) rfl)) (fun _ h => h) rfl dX11_count_93 ?_
      refine lv_iload hx hb dX11_count_96 (lv_at hl 0 rfl) ?_
      refine lv_iload_n hx hb dX11_count_98 rfl (lv_at hl 3 rfl) ?_
      obtain ⟨h10, q⟩ := q
      refine g_iast hx hb hK hH hS 61 0 (by decide) Nat.zero_lt_one (by decide) 40 (fun _ => rfl) h10 dX11_count_99 (fun H locs hH hS => ?_)
      obtain ⟨F11, eF11⟩ : ∃ z, z = fs F6 61 0 y9.toNatClampNeg x2 := ⟨_, rfl⟩
      have q := q F11 eF11
      rw [← eF11] at hH
      refine lv_iconst (v := 0) hx hb dX11_count_100 (by decide) ?_
      refine lv_istore (lv' := [(5, .int 0), (4, .int y9), (0, .ref (ad 40 0)), (1, .int x1), (2, .int x2)]) hx hb dX11_count_101 hl (by decide) rfl (fun ls hl => ?_)
      obtain ⟨nn, q⟩ := q
      exact t_103 nn F11 x1 x2 y9 0 _ _ _ hH hS (lv_sub hl [2, 3, 4, 1, 0] rfl) q
    · have q := (if_pos c7).mp q
      refine lv_iconst (v := 0) hx hb dX11_count_77 (by decide) ?_
      exact (W.zret (v := 0) hx hb hr rfl (fun t ht hW => ⟨⟨0, F6, rfl, q, gH_at ht hH⟩, hS.F ht⟩) hS.2.2 dX11_count_78)
  have t_70 : ∀ (F : GF) (x1 : Int32) (x2 : Int32) (s1 : Int32) (H : Heap) (locs : List Loc) (ls : Array Slot), gH G ad F H → va_S (gA G) s.heap H locs → lv_has ls 7 [(0, .ref (ad 40 0)), (1, .int x1), (2, .int x2)] → (P_X11_count_70 K) F x1 x2 s1 → W p l e rm_X11_count s m ([.ref (ad 40 0), .int p1, .int p2] : List Value).toArray below meth c H locs 0 0 (q_X11_count G ad K below ([.ref (ad 40 0), .int p1, .int p2] : List Value).toArray s) (F0 m 70 ls [.int s1, .ref (ad 40 0)]) := by
    intro F x1 x2 s1 H locs ls hH hS hl q
    unfold P_X11_count_70 at q
    refine lv_iconst (v := 0) hx hb dX11_count_70 (by decide) ?_
    exact t_71 F x1 x2 s1 0 _ _ _ hH hS (lv_sub hl [0, 1, 2] rfl) q
  have t_22 : ∀ (F : GF) (x1 : Int32) (x2 : Int32) (s0 : Int32) (H : Heap) (locs : List Loc) (ls : Array Slot), gH G ad F H → va_S (gA G) s.heap H locs → lv_has ls 7 [(0, .ref (ad 40 0)), (1, .int x1), (2, .int x2)] → (P_X11_count_22 K) F x1 x2 s0 → W p l e rm_X11_count s m ([.ref (ad 40 0), .int p1, .int p2] : List Value).toArray below meth c H locs 0 0 (q_X11_count G ad K below ([.ref (ad 40 0), .int p1, .int p2] : List Value).toArray s) (F0 m 22 ls [.int s0]) := by
    intro F x1 x2 s0 H locs ls hH hS hl q
    unfold P_X11_count_22 at q
    refine lv_istore_n (lv' := [(3, .int s0), (0, .ref (ad 40 0)), (1, .int x1), (2, .int x2)]) hx hb dX11_count_22 rfl hl (by decide) rfl (fun ls hl => ?_)
    refine lv_aload_n hx hb dX11_count_23 rfl (lv_at hl 1 rfl) ?_
    refine lv_iload_n hx hb dX11_count_24 rfl (lv_at hl 0 rfl) ?_
    refine lv_iload_n hx hb dX11_count_25 rfl (lv_at hl 0 rfl) ?_
    refine lv_if_eq (tgt := 70) hx hb dX11_count_26 (by decide) (fun c4 => ?_) (fun c4 => ?_)
    · have q := (if_pos c4).mp q
      exact t_70 F x1 x2 s0 _ _ _ hH hS (lv_sub hl [1, 2, 3] rfl) q
    · have q := (if_neg c4).mp q
      refine lv_aload_n hx hb dX11_count_29 rfl (lv_at hl 1 rfl) ?_
      refine g_get (ci := 15) (v := .int (F 40 0 14)) (C := RX11) (T := TX11) (N := 44) hx hb hts (fun _ h => (List.mem_cons_of_mem _ (List.mem_append_left _ (List.mem_append_right _ h)))) hown hK hH 40 0 (by decide) Nat.zero_lt_one rfl rfl 14 (by decide) (hts (.fieldLink RX11 41 "BallotFoundryModel" "stage" "I") (List.mem_of_getElem? (i := 1) rfl)) (fun _ h => h) rfl dX11_count_30 ?_
      refine lv_iconst (v := 4) hx hb dX11_count_33 (by decide) ?_
      refine lv_icmp_ne (tgt := 70) hx hb dX11_count_34 (by decide) (fun c47 => ?_) (fun c47 => ?_)
      · have q := (if_neg c47).mp q
        exact t_70 F x1 x2 s0 _ _ _ hH hS (lv_sub hl [1, 2, 3] rfl) q
      · have q := (if_pos c47).mp q
        refine lv_iload_n hx hb dX11_count_37 rfl (lv_at hl 2 rfl) ?_
        refine lv_aload_n hx hb dX11_count_38 rfl (lv_at hl 1 rfl) ?_
        refine g_get (ci := 15) (v := .int (F 40 0 19)) (C := RX11) (T := TX11) (N := 44) hx hb hts (fun _ h => (List.mem_cons_of_mem _ (List.mem_append_left _ (List.mem_append_right _ h)))) hown hK hH 40 0 (by decide) Nat.zero_lt_one rfl rfl 19 (by decide) (hts (.fieldLink RX11 178 "BallotFoundryModel" "inElection" "I") (List.mem_of_getElem? (i := 2) rfl)) (fun _ h => h) rfl dX11_count_39 ?_
        refine lv_icmp_ge (tgt := 70) hx hb dX11_count_42 (by decide) (fun c48 => ?_) (fun c48 => ?_)
        · have q := (if_pos c48).mp q
          exact t_70 F x1 x2 s0 _ _ _ hH hS (lv_sub hl [1, 2, 3] rfl) q
        · have q := (if_neg c48).mp q
          refine lv_aload_n hx hb dX11_count_45 rfl (lv_at hl 1 rfl) ?_
          refine g_get (ci := 15) (v := .ref (ad 63 0)) (C := RX11) (T := TX11) (N := 44) hx hb hts (fun _ h => (List.mem_cons_of_mem _ (List.mem_append_left _ (List.mem_append_right _ h)))) hown hK hH 40 0 (by decide) Nat.zero_lt_one rfl rfl 32 (by decide) (hts (.fieldLink RX11 81 "BallotFoundryModel" "settled" "[I") (List.mem_of_getElem? (i := 3) rfl)) (fun _ h => h) rfl dX11_count_46 ?_
          refine lv_iload_n hx hb dX11_count_49 rfl (lv_at hl 2 rfl) ?_
          obtain ⟨h49, q⟩ := q
          refine g_iald hx hb hK hH 63 0 (by decide) Nat.zero_lt_one 5 rfl h49 dX11_count_50 ?_
          refine lv_iconst (v := (-1)) hx hb dX11_count_51 (by decide) ?_
          refine lv_icmp_ne (tgt := 70) hx hb dX11_count_52 (by decide) (fun c50 => ?_) (fun c50 => ?_)
          · have q := (if_neg c50).mp q
            exact t_70 F x1 x2 s0 _ _ _ hH hS (lv_sub hl [1, 2, 3] rfl) q
          · have q := (if_pos c50).mp q
            refine lv_aload_n hx hb dX11_count_55 rfl (lv_at hl 1 rfl) ?_
            refine g_get (ci := 15) (v := .ref (ad 62 0)) (C := RX11) (T := TX11) (N := 44) hx hb hts (fun _ h => (List.mem_cons_of_mem _ (List.mem_append_left _ (List.mem_append_right _ h)))) hown hK hH 40 0 (by decide) Nat.zero_lt_one rfl rfl 31 (by decide) (hts (.fieldLink RX11 78 "BallotFoundryModel" "counts" "[I") (List.mem_of_getElem? (i := 4) rfl)) (fun _ h => h) rfl dX11_count_56 ?_
            refine lv_iload_n hx hb dX11_count_59 rfl (lv_at hl 2 rfl) ?_
            obtain ⟨h51, q⟩ := q
            refine g_iald hx hb hK hH 62 0 (by decide) Nat.zero_lt_one 5 rfl h51 dX11_count_60 ?_
            refine lv_bipush (v := 8) hx hb dX11_count_61 (by decide) ?_
            refine lv_icmp_ge (tgt := 70) hx hb dX11_count_63 (by decide) (fun c52 => ?_) (fun c52 => ?_)
            · have q := (if_pos c52).mp q
              exact t_70 F x1 x2 s0 _ _ _ hH hS (lv_sub hl [1, 2, 3] rfl) q
            · have q := (if_neg c52).mp q
              refine lv_iconst (v := 1) hx hb dX11_count_66 (by decide) ?_
              refine lv_goto (tgt := 71) hx hb dX11_count_67 (by decide) ?_
              exact t_71 F x1 x2 s0 1 _ _ _ hH hS (lv_sub hl [1, 2, 3] rfl) q
  have t_21 : ∀ (F : GF) (x1 : Int32) (x2 : Int32) (H : Heap) (locs : List Loc) (ls : Array Slot), gH G ad F H → va_S (gA G) s.heap H locs → lv_has ls 7 [(0, .ref (ad 40 0)), (1, .int x1), (2, .int x2)] → (P_X11_count_21 K) F x1 x2 → W p l e rm_X11_count s m ([.ref (ad 40 0), .int p1, .int p2] : List Value).toArray below meth c H locs 0 0 (q_X11_count G ad K below ([.ref (ad 40 0), .int p1, .int p2] : List Value).toArray s) (F0 m 21 ls []) := by
    intro F x1 x2 H locs ls hH hS hl q
    unfold P_X11_count_21 at q
    refine lv_iconst (v := 0) hx hb dX11_count_21 (by decide) ?_
    exact t_22 F x1 x2 0 _ _ _ hH hS (lv_sub hl [0, 1, 2] rfl) q
  unfold P_X11_count at q
  refine lv_aload_n hx hb dX11_count_0 rfl (lv_at hl 0 rfl) ?_
  refine lv_iload_n hx hb dX11_count_1 rfl (lv_at hl 1 rfl) ?_
  refine va_calli (va_runV (As := [.int p1]) (rest := []) ⟨hx, hb, hml, hown, hts⟩ (c_X11_isStation l G ad F p1 _) (cwV 1 hts gX11_count_X11_isStation rfl rfl rfl (by decide +kernel) ⟨Nat.le_of_ble_eq_true rfl, Nat.le_of_ble_eq_true rfl⟩) ⟨fun a U g mk h => ⟨h.1, gD_blind h.2.1, h.2.2⟩, g_recv (C := RX11) (T := TX11) (N := 44) hK hH 40 0 (by decide) Nat.zero_lt_one rfl rfl, fun U hU hW => ⟨rfl, gD_at hK hG hB hH hS hU hW, q⟩⟩ rfl rfl hl.1 rfl (lv_room (Nat.le_of_ble_eq_true rfl)) dX11_count_2 ⟨Nat.le_of_ble_eq_true rfl, Nat.le_of_ble_eq_true rfl⟩) hS (fun _ _ h => h) (fun _ h => h) (fun r1 F2 t H locs ht hvm q hB1 hz hk hS => ?_)
  have hH : gH G ad F2 H := gH_to ht hB1
  refine lv_if_eq (tgt := 21) hx hb dX11_count_5 (by decide) (fun c3 => ?_) (fun c3 => ?_)
  · have q := (if_pos c3).mp q
    exact t_21 F2 p1 p2 _ _ _ hH hS (lv_sub hl [0, 1, 2] rfl) q
  · have q := (if_neg c3).mp q
    refine lv_iload_n hx hb dX11_count_8 rfl (lv_at hl 2 rfl) ?_
    refine lv_iconst (v := 0) hx hb dX11_count_9 (by decide) ?_
    refine lv_iconst (v := 3) hx hb dX11_count_10 (by decide) ?_
    refine va_calli (va_runS (As := [.int p2, .int 0, .int 3]) (rest := []) ⟨hx, hb, hml, hown, hts⟩ (c_X11_in l G ad F2 p2 0 3 _) (va_cwS 3 hts gX11_count_X11_in rfl rfl rfl (by decide +kernel) ⟨Nat.le_of_ble_eq_true rfl, Nat.le_of_ble_eq_true rfl⟩) ⟨fun a U g mk h => ⟨h.1, gD_blind h.2.1, h.2.2⟩, fun U hU hW => ⟨rfl, gD_at hK hG hB hH hS hU hW, q⟩⟩ rfl rfl hl.1 rfl (lv_room (Nat.le_of_ble_eq_true rfl)) dX11_count_11 ⟨Nat.le_of_ble_eq_true rfl, Nat.le_of_ble_eq_true rfl⟩) hS (fun _ _ h => h) (fun _ h => h) (fun r53 F54 t H locs ht hvm q hB1 hz hk hS => ?_)
    have hH : gH G ad F54 H := gH_to ht hB1
    refine lv_if_eq (tgt := 21) hx hb dX11_count_14 (by decide) (fun c55 => ?_) (fun c55 => ?_)
    · have q := (if_pos c55).mp q
      exact t_21 F54 p1 p2 _ _ _ hH hS (lv_sub hl [0, 1, 2] rfl) q
    · have q := (if_neg c55).mp q
      refine lv_iconst (v := 1) hx hb dX11_count_17 (by decide) ?_
      refine lv_goto (tgt := 22) hx hb dX11_count_18 (by decide) ?_
      exact t_22 F54 p1 p2 1 _ _ _ hH hS (lv_sub hl [0, 1, 2] rfl) q
abbrev rm_X11_recount : Room := { frames := 2, cells := 0, slots := 0, locals := 43 }
abbrev q_X11_recount (G : GP) (ad : Nat → Nat → Nat) (K : Int32 → GF → Prop) (below : List Frame) (args : Array Value) (s : State) : State → Prop := MQ below (gQi G ad K) args s 0 0 (gA G)
set_option maxHeartbeats 4000000 in
set_option maxRecDepth 100000 in
theorem c_X11_recount (l : Launch) (G : GP) (ad : Nat → Nat → Nat) (F : GF) (p1 : Int32) (K : Int32 → GF → Prop) : Met l yX11_recount wsX11_recount rm_X11_recount (va_Pc [.ref (ad 40 0), .int p1] (fun U => gD G ad F U ∧ P_X11_recount F p1 K)) (gQi G ad K) 0 0 (gA G) := by
  refine Met.ofW (cc := cX11_recount) (maxL := 4) (ret := (some .int)) (by decide) rfl ?_
  intro p e s m args below meth c s₁ Bd hml hv
  obtain ⟨rfl, ⟨hK, hG, hB, hH⟩, q⟩ := hv
  have hx := Bd.exec
  have hb := Bd.bytes
  have hr := Bd.returns
  have hts := atoms_spec (ws := wsX11_recount) Bd.pre
  have hown : s.vm.findClass RX11 = some m.cls := findClass_of_methodNamed Bd.named
  have hlocks := Bd.notSynchronized
  have hS : va_S (gA G) s.heap s.heap [] := va_S.rf
  have hl := lv_entry [.ref (ad 40 0), .int p1] (n := 4) (Nat.le_of_ble_eq_true rfl)
  rw [lg_entry_eq]
  generalize (lg_sl [.ref (ad 40 0), .int p1] ++ List.replicate (4 - (lg_sl [.ref (ad 40 0), .int p1]).length) Slot.unset).toArray = ls at hl ⊢
  have hl : lv_has ls 4 [(0, .ref (ad 40 0)), (1, .int p1)] := hl
  show W p l e rm_X11_recount s m ([.ref (ad 40 0), .int p1] : List Value).toArray below meth c s.heap [] 0 0 (q_X11_recount G ad K below ([.ref (ad 40 0), .int p1] : List Value).toArray s) _
  have t_21 : ∀ (F : GF) (x1 : Int32) (s1 : Int32) (s2 : Int32) (H : Heap) (locs : List Loc) (ls : Array Slot), gH G ad F H → va_S (gA G) s.heap H locs → lv_has ls 4 [(0, .ref (ad 40 0)), (1, .int x1)] → (P_X11_recount_21 K) F x1 s1 s2 → W p l e rm_X11_recount s m ([.ref (ad 40 0), .int p1] : List Value).toArray below meth c H locs 0 0 (q_X11_recount G ad K below ([.ref (ad 40 0), .int p1] : List Value).toArray s) (F0 m 21 ls [.int s2, .int s1, .ref (ad 40 0)]) := by
    intro F x1 s1 s2 H locs ls hH hS hl q
    unfold P_X11_recount_21 at q
    refine va_calli (va_runV (As := [.int s1, .int s2]) (rest := []) ⟨hx, hb, hml, hown, hts⟩ (c_X11_asked_ l G ad F s1 s2 _) (cwV 2 hts gX11_recount_X11_asked_ rfl rfl rfl (by decide +kernel) ⟨Nat.le_of_ble_eq_true rfl, Nat.le_of_ble_eq_true rfl⟩) ⟨fun a U g mk h => ⟨h.1, gD_blind h.2.1, h.2.2⟩, g_recv (C := RX11) (T := TX11) (N := 44) hK hH 40 0 (by decide) Nat.zero_lt_one rfl rfl, fun U hU hW => ⟨rfl, gD_at hK hG hB hH hS hU hW, q⟩⟩ rfl rfl hl.1 rfl (lv_room (Nat.le_of_ble_eq_true rfl)) dX11_recount_21 ⟨Nat.le_of_ble_eq_true rfl, Nat.le_of_ble_eq_true rfl⟩) hS (fun _ _ h => h) (fun _ h => h) (fun r4 F5 t H locs ht hvm q hB1 hz hk hS => ?_)
    have hH : gH G ad F5 H := gH_to ht hB1
    refine lv_if_ne (tgt := 29) hx hb dX11_recount_24 (by decide) (fun c6 => ?_) (fun c6 => ?_)
    · have q := (if_neg c6).mp q
      refine lv_aload_n hx hb dX11_recount_29 rfl (lv_at hl 0 rfl) ?_
      refine g_get (ci := 15) (v := .ref (ad 62 0)) (C := RX11) (T := TX11) (N := 44) hx hb hts (fun _ h => (List.mem_cons_of_mem _ (List.mem_append_left _ (List.mem_append_right _ h)))) hown hK hH 40 0 (by decide) Nat.zero_lt_one rfl rfl 31 (by decide) (hts (.fieldLink RX11 78 "BallotFoundryModel" "counts" "[I") (List.mem_of_getElem? (i := 2) rfl)) (fun _ h => h) rfl dX11_recount_30 ?_
      refine lv_iload_n hx hb dX11_recount_33 rfl (lv_at hl 1 rfl) ?_
      obtain ⟨h7, q⟩ := q
      refine g_iald hx hb hK hH 62 0 (by decide) Nat.zero_lt_one 5 rfl h7 dX11_recount_34 ?_
      refine lv_istore_n (lv' := [(3, .int (F5 62 0 x1.toNatClampNeg)), (0, .ref (ad 40 0)), (1, .int x1)]) hx hb dX11_recount_35 rfl hl (by decide) rfl (fun ls hl => ?_)
      refine lv_aload_n hx hb dX11_recount_36 rfl (lv_at hl 1 rfl) ?_
      refine g_get (ci := 15) (v := .ref (ad 62 0)) (C := RX11) (T := TX11) (N := 44) hx hb hts (fun _ h => (List.mem_cons_of_mem _ (List.mem_append_left _ (List.mem_append_right _ h)))) hown hK hH 40 0 (by decide) Nat.zero_lt_one rfl rfl 31 (by decide) (hts (.fieldLink RX11 78 "BallotFoundryModel" "counts" "[I") (List.mem_of_getElem? (i := 2) rfl)) (fun _ h => h) rfl dX11_recount_37 ?_
      refine lv_iload_n hx hb dX11_recount_40 rfl (lv_at hl 2 rfl) ?_
      refine lv_iconst (v := 0) hx hb dX11_recount_41 (by decide) ?_
      obtain ⟨h8, q⟩ := q
      refine g_iast hx hb hK hH hS 62 0 (by decide) Nat.zero_lt_one (by decide) 5 (fun _ => rfl) h8 dX11_recount_42 (fun H locs hH hS => ?_)
      obtain ⟨F9, eF9⟩ : ∃ z, z = fs F5 62 0 x1.toNatClampNeg 0 := ⟨_, rfl⟩
      have q := q F9 eF9
      rw [← eF9] at hH
      refine lv_aload_n hx hb dX11_recount_43 rfl (lv_at hl 1 rfl) ?_
      refine g_get (ci := 15) (v := .ref (ad 63 0)) (C := RX11) (T := TX11) (N := 44) hx hb hts (fun _ h => (List.mem_cons_of_mem _ (List.mem_append_left _ (List.mem_append_right _ h)))) hown hK hH 40 0 (by decide) Nat.zero_lt_one rfl rfl 32 (by decide) (hts (.fieldLink RX11 81 "BallotFoundryModel" "settled" "[I") (List.mem_of_getElem? (i := 3) rfl)) (fun _ h => h) rfl dX11_recount_44 ?_
      refine lv_iload_n hx hb dX11_recount_47 rfl (lv_at hl 2 rfl) ?_
      refine lv_iconst (v := (-1)) hx hb dX11_recount_48 (by decide) ?_
      obtain ⟨h10, q⟩ := q
      refine g_iast hx hb hK hH hS 63 0 (by decide) Nat.zero_lt_one (by decide) 5 (fun _ => rfl) h10 dX11_recount_49 (fun H locs hH hS => ?_)
      obtain ⟨F11, eF11⟩ : ∃ z, z = fs F9 63 0 x1.toNatClampNeg (-1) := ⟨_, rfl⟩
      have q := q F11 eF11
      rw [← eF11] at hH
      refine lv_iload_n hx hb dX11_recount_50 rfl (lv_at hl 0 rfl) ?_
      exact (W.iret (v := (F5 62 0 x1.toNatClampNeg)) hx hb hr (fun t ht hW => ⟨⟨(F5 62 0 x1.toNatClampNeg), F11, rfl, q, gH_at ht hH⟩, hS.F ht⟩) hS.2.2 dX11_recount_51)
    · have q := (if_pos c6).mp q
      refine lv_iconst (v := 0) hx hb dX11_recount_27 (by decide) ?_
      exact (W.iret (v := 0) hx hb hr (fun t ht hW => ⟨⟨0, F5, rfl, q, gH_at ht hH⟩, hS.F ht⟩) hS.2.2 dX11_recount_28)
  unfold P_X11_recount at q
  refine lv_aload_n hx hb dX11_recount_0 rfl (lv_at hl 0 rfl) ?_
  refine lv_iload_n hx hb dX11_recount_1 rfl (lv_at hl 1 rfl) ?_
  refine va_calli (va_runV (As := [.int p1]) (rest := []) ⟨hx, hb, hml, hown, hts⟩ (c_X11_isStation l G ad F p1 _) (cwV 1 hts gX11_recount_X11_isStation rfl rfl rfl (by decide +kernel) ⟨Nat.le_of_ble_eq_true rfl, Nat.le_of_ble_eq_true rfl⟩) ⟨fun a U g mk h => ⟨h.1, gD_blind h.2.1, h.2.2⟩, g_recv (C := RX11) (T := TX11) (N := 44) hK hH 40 0 (by decide) Nat.zero_lt_one rfl rfl, fun U hU hW => ⟨rfl, gD_at hK hG hB hH hS hU hW, q⟩⟩ rfl rfl hl.1 rfl (lv_room (Nat.le_of_ble_eq_true rfl)) dX11_recount_2 ⟨Nat.le_of_ble_eq_true rfl, Nat.le_of_ble_eq_true rfl⟩) hS (fun _ _ h => h) (fun _ h => h) (fun r1 F2 t H locs ht hvm q hB1 hz hk hS => ?_)
  have hH : gH G ad F2 H := gH_to ht hB1
  refine lv_istore_n (lv' := [(2, .int r1), (0, .ref (ad 40 0)), (1, .int p1)]) hx hb dX11_recount_5 rfl hl (by decide) rfl (fun ls hl => ?_)
  refine lv_aload_n hx hb dX11_recount_6 rfl (lv_at hl 1 rfl) ?_
  refine lv_iload_n hx hb dX11_recount_7 rfl (lv_at hl 0 rfl) ?_
  refine lv_aload_n hx hb dX11_recount_8 rfl (lv_at hl 1 rfl) ?_
  refine g_get (ci := 15) (v := .int (F2 40 0 14)) (C := RX11) (T := TX11) (N := 44) hx hb hts (fun _ h => (List.mem_cons_of_mem _ (List.mem_append_left _ (List.mem_append_right _ h)))) hown hK hH 40 0 (by decide) Nat.zero_lt_one rfl rfl 14 (by decide) (hts (.fieldLink RX11 41 "BallotFoundryModel" "stage" "I") (List.mem_of_getElem? (i := 1) rfl)) (fun _ h => h) rfl dX11_recount_9 ?_
  refine lv_iconst (v := 4) hx hb dX11_recount_12 (by decide) ?_
  refine lv_icmp_ne (tgt := 20) hx hb dX11_recount_13 (by decide) (fun c3 => ?_) (fun c3 => ?_)
  · have q := (if_neg c3).mp q
    refine lv_iconst (v := 0) hx hb dX11_recount_20 (by decide) ?_
    exact t_21 F2 p1 r1 0 _ _ _ hH hS (lv_sub hl [1, 2] rfl) q
  · have q := (if_pos c3).mp q
    refine lv_iconst (v := 1) hx hb dX11_recount_16 (by decide) ?_
    refine lv_goto (tgt := 21) hx hb dX11_recount_17 (by decide) ?_
    exact t_21 F2 p1 r1 1 _ _ _ hH hS (lv_sub hl [1, 2] rfl) q
abbrev rm_X11_isSettled : Room := { frames := 2, cells := 0, slots := 0, locals := 43 }
abbrev q_X11_isSettled (G : GP) (ad : Nat → Nat → Nat) (K : Int32 → GF → Prop) (below : List Frame) (args : Array Value) (s : State) : State → Prop := MQ below (gQi G ad K) args s 0 0 (gA G)
set_option maxHeartbeats 4000000 in
set_option maxRecDepth 100000 in
theorem c_X11_isSettled (l : Launch) (G : GP) (ad : Nat → Nat → Nat) (F : GF) (p1 : Int32) (K : Int32 → GF → Prop) : Met l yX11_isSettled wsX11_isSettled rm_X11_isSettled (va_Pc [.ref (ad 40 0), .int p1] (fun U => gD G ad F U ∧ P_X11_isSettled F p1 K)) (gQi G ad K) 0 0 (gA G) := by
  refine Met.ofW (cc := cX11_isSettled) (maxL := 2) (ret := (some .boolean)) (by decide) rfl ?_
  intro p e s m args below meth c s₁ Bd hml hv
  obtain ⟨rfl, ⟨hK, hG, hB, hH⟩, q⟩ := hv
  have hx := Bd.exec
  have hb := Bd.bytes
  have hr := Bd.returns
  have hts := atoms_spec (ws := wsX11_isSettled) Bd.pre
  have hown : s.vm.findClass RX11 = some m.cls := findClass_of_methodNamed Bd.named
  have hlocks := Bd.notSynchronized
  have hS : va_S (gA G) s.heap s.heap [] := va_S.rf
  have hl := lv_entry [.ref (ad 40 0), .int p1] (n := 2) (Nat.le_of_ble_eq_true rfl)
  rw [lg_entry_eq]
  generalize (lg_sl [.ref (ad 40 0), .int p1] ++ List.replicate (2 - (lg_sl [.ref (ad 40 0), .int p1]).length) Slot.unset).toArray = ls at hl ⊢
  have hl : lv_has ls 2 [(0, .ref (ad 40 0)), (1, .int p1)] := hl
  unfold P_X11_isSettled at q
  refine lv_aload_n hx hb dX11_isSettled_0 rfl (lv_at hl 0 rfl) ?_
  refine lv_aload_n hx hb dX11_isSettled_1 rfl (lv_at hl 0 rfl) ?_
  refine lv_iload_n hx hb dX11_isSettled_2 rfl (lv_at hl 1 rfl) ?_
  refine va_calli (va_runV (As := [.int p1]) (rest := [.ref (ad 40 0)]) ⟨hx, hb, hml, hown, hts⟩ (c_X11_isStation l G ad F p1 _) (cwV 1 hts gX11_isSettled_X11_isStation rfl rfl rfl (by decide +kernel) ⟨Nat.le_of_ble_eq_true rfl, Nat.le_of_ble_eq_true rfl⟩) ⟨fun a U g mk h => ⟨h.1, gD_blind h.2.1, h.2.2⟩, g_recv (C := RX11) (T := TX11) (N := 44) hK hH 40 0 (by decide) Nat.zero_lt_one rfl rfl, fun U hU hW => ⟨rfl, gD_at hK hG hB hH hS hU hW, q⟩⟩ rfl rfl hl.1 rfl (lv_room (Nat.le_of_ble_eq_true rfl)) dX11_isSettled_3 ⟨Nat.le_of_ble_eq_true rfl, Nat.le_of_ble_eq_true rfl⟩) hS (fun _ _ h => h) (fun _ h => h) (fun r1 F2 t H locs ht hvm q hB1 hz hk hS => ?_)
  have hH : gH G ad F2 H := gH_to ht hB1
  refine va_calli (va_runV (As := [.int r1]) (rest := []) ⟨hx, hb, hml, hown, hts⟩ (c_X11_asked l G ad F2 r1 _) (cwV 1 hts gX11_isSettled_X11_asked rfl rfl rfl (by decide +kernel) ⟨Nat.le_of_ble_eq_true rfl, Nat.le_of_ble_eq_true rfl⟩) ⟨fun a U g mk h => ⟨h.1, gD_blind h.2.1, h.2.2⟩, g_recv (C := RX11) (T := TX11) (N := 44) hK hH 40 0 (by decide) Nat.zero_lt_one rfl rfl, fun U hU hW => ⟨rfl, gD_at hK hG hB hH hS hU hW, q⟩⟩ rfl rfl hl.1 rfl (lv_room (Nat.le_of_ble_eq_true rfl)) dX11_isSettled_6 ⟨Nat.le_of_ble_eq_true rfl, Nat.le_of_ble_eq_true rfl⟩) hS (fun _ _ h => h) (fun _ h => h) (fun r3 F4 t H locs ht hvm q hB1 hz hk hS => ?_)
  have hH : gH G ad F4 H := gH_to ht hB1
  refine lv_if_eq (tgt := 26) hx hb dX11_isSettled_9 (by decide) (fun c5 => ?_) (fun c5 => ?_)
  · have q := (if_pos c5).mp q
    refine lv_iconst (v := 0) hx hb dX11_isSettled_26 (by decide) ?_
    exact (W.zret (v := 0) hx hb hr rfl (fun t ht hW => ⟨⟨0, F4, rfl, q, gH_at ht hH⟩, hS.F ht⟩) hS.2.2 dX11_isSettled_27)
  · have q := (if_neg c5).mp q
    refine lv_aload_n hx hb dX11_isSettled_12 rfl (lv_at hl 0 rfl) ?_
    refine g_get (ci := 15) (v := .ref (ad 63 0)) (C := RX11) (T := TX11) (N := 44) hx hb hts (fun _ h => (List.mem_cons_of_mem _ (List.mem_append_left _ (List.mem_append_right _ h)))) hown hK hH 40 0 (by decide) Nat.zero_lt_one rfl rfl 32 (by decide) (hts (.fieldLink RX11 81 "BallotFoundryModel" "settled" "[I") (List.mem_of_getElem? (i := 1) rfl)) (fun _ h => h) rfl dX11_isSettled_13 ?_
    refine lv_iload_n hx hb dX11_isSettled_16 rfl (lv_at hl 1 rfl) ?_
    obtain ⟨h6, q⟩ := q
    refine g_iald hx hb hK hH 63 0 (by decide) Nat.zero_lt_one 5 rfl h6 dX11_isSettled_17 ?_
    refine lv_iconst (v := (-1)) hx hb dX11_isSettled_18 (by decide) ?_
    refine lv_icmp_eq (tgt := 26) hx hb dX11_isSettled_19 (by decide) (fun c7 => ?_) (fun c7 => ?_)
    · have q := (if_pos c7).mp q
      refine lv_iconst (v := 0) hx hb dX11_isSettled_26 (by decide) ?_
      exact (W.zret (v := 0) hx hb hr rfl (fun t ht hW => ⟨⟨0, F4, rfl, q, gH_at ht hH⟩, hS.F ht⟩) hS.2.2 dX11_isSettled_27)
    · have q := (if_neg c7).mp q
      refine lv_iconst (v := 1) hx hb dX11_isSettled_22 (by decide) ?_
      refine lv_goto (tgt := 27) hx hb dX11_isSettled_23 (by decide) ?_
      exact (W.zret (v := 1) hx hb hr rfl (fun t ht hW => ⟨⟨1, F4, rfl, q, gH_at ht hH⟩, hS.F ht⟩) hS.2.2 dX11_isSettled_27)
abbrev rm_X11_numberOf : Room := { frames := 2, cells := 0, slots := 0, locals := 43 }
abbrev q_X11_numberOf (G : GP) (ad : Nat → Nat → Nat) (K : Int32 → GF → Prop) (below : List Frame) (args : Array Value) (s : State) : State → Prop := MQ below (gQi G ad K) args s 0 0 (gA G)
set_option maxHeartbeats 4000000 in
set_option maxRecDepth 100000 in
theorem c_X11_numberOf (l : Launch) (G : GP) (ad : Nat → Nat → Nat) (F : GF) (p1 : Int32) (p2 : Int32) (K : Int32 → GF → Prop) : Met l yX11_numberOf wsX11_numberOf rm_X11_numberOf (va_Pc [.ref (ad 40 0), .int p1, .int p2] (fun U => gD G ad F U ∧ P_X11_numberOf F p1 p2 K)) (gQi G ad K) 0 0 (gA G) := by
  refine Met.ofW (cc := cX11_numberOf) (maxL := 3) (ret := (some .int)) (by decide) rfl ?_
  intro p e s m args below meth c s₁ Bd hml hv
  obtain ⟨rfl, ⟨hK, hG, hB, hH⟩, q⟩ := hv
  have hx := Bd.exec
  have hb := Bd.bytes
  have hr := Bd.returns
  have hts := atoms_spec (ws := wsX11_numberOf) Bd.pre
  have hown : s.vm.findClass RX11 = some m.cls := findClass_of_methodNamed Bd.named
  have hlocks := Bd.notSynchronized
  have hS : va_S (gA G) s.heap s.heap [] := va_S.rf
  have hl := lv_entry [.ref (ad 40 0), .int p1, .int p2] (n := 3) (Nat.le_of_ble_eq_true rfl)
  rw [lg_entry_eq]
  generalize (lg_sl [.ref (ad 40 0), .int p1, .int p2] ++ List.replicate (3 - (lg_sl [.ref (ad 40 0), .int p1, .int p2]).length) Slot.unset).toArray = ls at hl ⊢
  have hl : lv_has ls 3 [(0, .ref (ad 40 0)), (1, .int p1), (2, .int p2)] := hl
  unfold P_X11_numberOf at q
  refine lv_aload_n hx hb dX11_numberOf_0 rfl (lv_at hl 0 rfl) ?_
  refine lv_aload_n hx hb dX11_numberOf_1 rfl (lv_at hl 0 rfl) ?_
  refine lv_iload_n hx hb dX11_numberOf_2 rfl (lv_at hl 1 rfl) ?_
  refine va_calli (va_runV (As := [.int p1]) (rest := [.ref (ad 40 0)]) ⟨hx, hb, hml, hown, hts⟩ (c_X11_isStation l G ad F p1 _) (cwV 1 hts gX11_numberOf_X11_isStation rfl rfl rfl (by decide +kernel) ⟨Nat.le_of_ble_eq_true rfl, Nat.le_of_ble_eq_true rfl⟩) ⟨fun a U g mk h => ⟨h.1, gD_blind h.2.1, h.2.2⟩, g_recv (C := RX11) (T := TX11) (N := 44) hK hH 40 0 (by decide) Nat.zero_lt_one rfl rfl, fun U hU hW => ⟨rfl, gD_at hK hG hB hH hS hU hW, q⟩⟩ rfl rfl hl.1 rfl (lv_room (Nat.le_of_ble_eq_true rfl)) dX11_numberOf_3 ⟨Nat.le_of_ble_eq_true rfl, Nat.le_of_ble_eq_true rfl⟩) hS (fun _ _ h => h) (fun _ h => h) (fun r1 F2 t H locs ht hvm q hB1 hz hk hS => ?_)
  have hH : gH G ad F2 H := gH_to ht hB1
  refine lv_iload_n hx hb dX11_numberOf_6 rfl (lv_at hl 2 rfl) ?_
  refine lv_iconst (v := 0) hx hb dX11_numberOf_7 (by decide) ?_
  refine lv_iconst (v := 5) hx hb dX11_numberOf_8 (by decide) ?_
  refine va_calli (va_runS (As := [.int p2, .int 0, .int 5]) (rest := [.int r1, .ref (ad 40 0)]) ⟨hx, hb, hml, hown, hts⟩ (c_X11_in l G ad F2 p2 0 5 _) (va_cwS 3 hts gX11_numberOf_X11_in rfl rfl rfl (by decide +kernel) ⟨Nat.le_of_ble_eq_true rfl, Nat.le_of_ble_eq_true rfl⟩) ⟨fun a U g mk h => ⟨h.1, gD_blind h.2.1, h.2.2⟩, fun U hU hW => ⟨rfl, gD_at hK hG hB hH hS hU hW, q⟩⟩ rfl rfl hl.1 rfl (lv_room (Nat.le_of_ble_eq_true rfl)) dX11_numberOf_9 ⟨Nat.le_of_ble_eq_true rfl, Nat.le_of_ble_eq_true rfl⟩) hS (fun _ _ h => h) (fun _ h => h) (fun r3 F4 t H locs ht hvm q hB1 hz hk hS => ?_)
  have hH : gH G ad F4 H := gH_to ht hB1
  refine va_calli (va_runV (As := [.int r1, .int r3]) (rest := []) ⟨hx, hb, hml, hown, hts⟩ (c_X11_asked_ l G ad F4 r1 r3 _) (cwV 2 hts gX11_numberOf_X11_asked_ rfl rfl rfl (by decide +kernel) ⟨Nat.le_of_ble_eq_true rfl, Nat.le_of_ble_eq_true rfl⟩) ⟨fun a U g mk h => ⟨h.1, gD_blind h.2.1, h.2.2⟩, g_recv (C := RX11) (T := TX11) (N := 44) hK hH 40 0 (by decide) Nat.zero_lt_one rfl rfl, fun U hU hW => ⟨rfl, gD_at hK hG hB hH hS hU hW, q⟩⟩ rfl rfl hl.1 rfl (lv_room (Nat.le_of_ble_eq_true rfl)) dX11_numberOf_12 ⟨Nat.le_of_ble_eq_true rfl, Nat.le_of_ble_eq_true rfl⟩) hS (fun _ _ h => h) (fun _ h => h) (fun r5 F6 t H locs ht hvm q hB1 hz hk hS => ?_)
  have hH : gH G ad F6 H := gH_to ht hB1
  refine lv_if_ne (tgt := 20) hx hb dX11_numberOf_15 (by decide) (fun c7 => ?_) (fun c7 => ?_)
  · have q := (if_neg c7).mp q
    refine lv_aload_n hx hb dX11_numberOf_20 rfl (lv_at hl 0 rfl) ?_
    refine g_get (ci := 15) (v := .ref (ad 63 0)) (C := RX11) (T := TX11) (N := 44) hx hb hts (fun _ h => (List.mem_cons_of_mem _ (List.mem_append_left _ (List.mem_append_right _ h)))) hown hK hH 40 0 (by decide) Nat.zero_lt_one rfl rfl 32 (by decide) (hts (.fieldLink RX11 81 "BallotFoundryModel" "settled" "[I") (List.mem_of_getElem? (i := 1) rfl)) (fun _ h => h) rfl dX11_numberOf_21 ?_
    refine lv_iload_n hx hb dX11_numberOf_24 rfl (lv_at hl 1 rfl) ?_
    obtain ⟨h8, q⟩ := q
    refine g_iald hx hb hK hH 63 0 (by decide) Nat.zero_lt_one 5 rfl h8 dX11_numberOf_25 ?_
    refine lv_iconst (v := (-1)) hx hb dX11_numberOf_26 (by decide) ?_
    refine lv_icmp_ne (tgt := 34) hx hb dX11_numberOf_27 (by decide) (fun c9 => ?_) (fun c9 => ?_)
    · have q := (if_neg c9).mp q
      refine lv_aload_n hx hb dX11_numberOf_34 rfl (lv_at hl 0 rfl) ?_
      refine g_get (ci := 15) (v := .ref (ad 60 0)) (C := RX11) (T := TX11) (N := 44) hx hb hts (fun _ h => (List.mem_cons_of_mem _ (List.mem_append_left _ (List.mem_append_right _ h)))) hown hK hH 40 0 (by decide) Nat.zero_lt_one rfl rfl 29 (by decide) (hts (.fieldLink RX11 72 "BallotFoundryModel" "number" "[I") (List.mem_of_getElem? (i := 2) rfl)) (fun _ h => h) rfl dX11_numberOf_35 ?_
      refine lv_bipush (v := 6) hx hb dX11_numberOf_38 (by decide) ?_
      refine lv_aload_n hx hb dX11_numberOf_40 rfl (lv_at hl 0 rfl) ?_
      refine g_get (ci := 15) (v := .ref (ad 63 0)) (C := RX11) (T := TX11) (N := 44) hx hb hts (fun _ h => (List.mem_cons_of_mem _ (List.mem_append_left _ (List.mem_append_right _ h)))) hown hK hH 40 0 (by decide) Nat.zero_lt_one rfl rfl 32 (by decide) (hts (.fieldLink RX11 81 "BallotFoundryModel" "settled" "[I") (List.mem_of_getElem? (i := 1) rfl)) (fun _ h => h) rfl dX11_numberOf_41 ?_
      refine lv_iload_n hx hb dX11_numberOf_44 rfl (lv_at hl 1 rfl) ?_
      obtain ⟨h10, q⟩ := q
      refine g_iald hx hb hK hH 63 0 (by decide) Nat.zero_lt_one 5 rfl h10 dX11_numberOf_45 ?_
      refine lv_imul hx hb dX11_numberOf_46 ?_
      refine lv_iload_n hx hb dX11_numberOf_47 rfl (lv_at hl 2 rfl) ?_
      refine lv_iadd hx hb dX11_numberOf_48 ?_
      obtain ⟨h11, q⟩ := q
      refine g_iald hx hb hK hH 60 0 (by decide) Nat.zero_lt_one 240 rfl h11 dX11_numberOf_49 ?_
      exact (W.iret (v := (F6 60 0 ((6 * (F6 63 0 p1.toNatClampNeg)) + p2).toNatClampNeg)) hx hb hr (fun t ht hW => ⟨⟨(F6 60 0 ((6 * (F6 63 0 p1.toNatClampNeg)) + p2).toNatClampNeg), F6, rfl, q, gH_at ht hH⟩, hS.F ht⟩) hS.2.2 dX11_numberOf_50)
    · have q := (if_pos c9).mp q
      refine lv_iconst (v := (-1)) hx hb dX11_numberOf_30 (by decide) ?_
      refine lv_goto (tgt := 50) hx hb dX11_numberOf_31 (by decide) ?_
      exact (W.iret (v := (-1)) hx hb hr (fun t ht hW => ⟨⟨(-1), F6, rfl, q, gH_at ht hH⟩, hS.F ht⟩) hS.2.2 dX11_numberOf_50)
  · have q := (if_pos c7).mp q
    refine lv_iconst (v := 0) hx hb dX11_numberOf_18 (by decide) ?_
    exact (W.iret (v := 0) hx hb hr (fun t ht hW => ⟨⟨0, F6, rfl, q, gH_at ht hH⟩, hS.F ht⟩) hS.2.2 dX11_numberOf_19)
abbrev rm_X11_inBox : Room := { frames := 0, cells := 0, slots := 0, locals := 0 }
abbrev q_X11_inBox (G : GP) (ad : Nat → Nat → Nat) (K : Int32 → GF → Prop) (below : List Frame) (args : Array Value) (s : State) : State → Prop := MQ below (gQi G ad K) args s 0 0 (gA G)
set_option maxHeartbeats 4000000 in
set_option maxRecDepth 100000 in
theorem c_X11_inBox (l : Launch) (G : GP) (ad : Nat → Nat → Nat) (F : GF) (p1 : Int32) (p2 : Int32) (K : Int32 → GF → Prop) : Met l yX11_inBox wsX11_inBox rm_X11_inBox (va_Pc [.ref (ad 40 0), .int p1, .int p2] (fun U => gD G ad F U ∧ P_X11_inBox F p1 p2 K)) (gQi G ad K) 0 0 (gA G) := by
  refine Met.ofW (cc := cX11_inBox) (maxL := 5) (ret := (some .int)) (by decide) rfl ?_
  intro p e s m args below meth c s₁ Bd hml hv
  obtain ⟨rfl, ⟨hK, hG, hB, hH⟩, q⟩ := hv
  have hx := Bd.exec
  have hb := Bd.bytes
  have hr := Bd.returns
  have hts := atoms_spec (ws := wsX11_inBox) Bd.pre
  have hown : s.vm.findClass RX11 = some m.cls := findClass_of_methodNamed Bd.named
  have hlocks := Bd.notSynchronized
  have hS : va_S (gA G) s.heap s.heap [] := va_S.rf
  have hl := lv_entry [.ref (ad 40 0), .int p1, .int p2] (n := 5) (Nat.le_of_ble_eq_true rfl)
  rw [lg_entry_eq]
  generalize (lg_sl [.ref (ad 40 0), .int p1, .int p2] ++ List.replicate (5 - (lg_sl [.ref (ad 40 0), .int p1, .int p2]).length) Slot.unset).toArray = ls at hl ⊢
  have hl : lv_has ls 5 [(0, .ref (ad 40 0)), (1, .int p1), (2, .int p2)] := hl
  show W p l e rm_X11_inBox s m ([.ref (ad 40 0), .int p1, .int p2] : List Value).toArray below meth c s.heap [] 0 0 (q_X11_inBox G ad K below ([.ref (ad 40 0), .int p1, .int p2] : List Value).toArray s) _
  have t_41 : ∀ (k8 : GF → Int32 → Int32 → Int32 → Int32 → Prop), (∀ (F : GF) (x1 : Int32) (x2 : Int32) (x3 : Int32) (x4 : Int32) (H : Heap) (locs : List Loc) (ls : Array Slot), gH G ad F H → va_S (gA G) s.heap H locs → lv_has ls 5 [(0, .ref (ad 40 0)), (1, .int x1), (2, .int x2), (3, .int x3), (4, .int x4)] → k8 F x1 x2 x3 x4 → W p l e rm_X11_inBox s m ([.ref (ad 40 0), .int p1, .int p2] : List Value).toArray below meth c H locs 0 0 (q_X11_inBox G ad K below ([.ref (ad 40 0), .int p1, .int p2] : List Value).toArray s) (F0 m 8 ls [])) → ∀ (F : GF) (x1 : Int32) (x2 : Int32) (x4 : Int32) (s0 : Int32) (s1 : Int32) (H : Heap) (locs : List Loc) (ls : Array Slot), gH G ad F H → va_S (gA G) s.heap H locs → lv_has ls 5 [(0, .ref (ad 40 0)), (1, .int x1), (2, .int x2), (4, .int x4)] → (P_X11_inBox_41 k8 K) F x1 x2 x4 s0 s1 → W p l e rm_X11_inBox s m ([.ref (ad 40 0), .int p1, .int p2] : List Value).toArray below meth c H locs 0 0 (q_X11_inBox G ad K below ([.ref (ad 40 0), .int p1, .int p2] : List Value).toArray s) (F0 m 41 ls [.int s1, .int s0]) := by
    intro k8 hk8 F x1 x2 x4 s0 s1 H locs ls hH hS hl q
    unfold P_X11_inBox_41 at q
    refine lv_iadd hx hb dX11_inBox_41 ?_
    refine lv_istore_n (lv' := [(3, .int (s0 + s1)), (0, .ref (ad 40 0)), (1, .int x1), (2, .int x2), (4, .int x4)]) hx hb dX11_inBox_42 rfl hl (by decide) rfl (fun ls hl => ?_)
    refine lv_iinc (v := x4 + 1) (lv' := [(4, .int (x4 + 1)), (3, .int (s0 + s1)), (0, .ref (ad 40 0)), (1, .int x1), (2, .int x2)]) hx hb dX11_inBox_43 hl (k := 4) rfl rfl (by decide) rfl (fun ls hl => ?_)
    refine lv_goto (tgt := 8) hx hb dX11_inBox_46 (by decide) ?_
    exact hk8 F x1 x2 (s0 + s1) (x4 + 1) _ _ _ hH hS (lv_sub hl [2, 3, 4, 1, 0] rfl) q
  have t_8 : ∀ n : Nat, ∀ (F : GF) (x1 : Int32) (x2 : Int32) (x3 : Int32) (x4 : Int32) (H : Heap) (locs : List Loc) (ls : Array Slot), gH G ad F H → va_S (gA G) s.heap H locs → lv_has ls 5 [(0, .ref (ad 40 0)), (1, .int x1), (2, .int x2), (3, .int x3), (4, .int x4)] → (P_X11_inBox_8 K n) F x1 x2 x3 x4 → W p l e rm_X11_inBox s m ([.ref (ad 40 0), .int p1, .int p2] : List Value).toArray below meth c H locs 0 0 (q_X11_inBox G ad K below ([.ref (ad 40 0), .int p1, .int p2] : List Value).toArray s) (F0 m 8 ls []) := by
    intro n
    induction n with
    | zero =>
      intro F x1 x2 x3 x4 H locs ls hH hS hl q
      exact False.elim q
    | succ n ih =>
      intro F x1 x2 x3 x4 H locs ls hH hS hl q
      rw [P_X11_inBox_8] at q
      refine lv_iload hx hb dX11_inBox_8 (lv_at hl 4 rfl) ?_
      refine lv_bipush (v := 20) hx hb dX11_inBox_10 (by decide) ?_
      refine lv_iload_n hx hb dX11_inBox_12 rfl (lv_at hl 1 rfl) ?_
      refine lv_imul hx hb dX11_inBox_13 ?_
      refine lv_aload_n hx hb dX11_inBox_14 rfl (lv_at hl 0 rfl) ?_
      refine g_get (ci := 15) (v := .ref (ad 59 0)) (C := RX11) (T := TX11) (N := 44) hx hb hts (fun _ h => (List.mem_cons_of_mem _ (List.mem_append_left _ (List.mem_append_right _ h)))) hown hK hH 40 0 (by decide) Nat.zero_lt_one rfl rfl 28 (by decide) (hts (.fieldLink RX11 69 "BallotFoundryModel" "ballots" "[I") (List.mem_of_getElem? (i := 1) rfl)) (fun _ h => h) rfl dX11_inBox_15 ?_
      refine lv_iload_n hx hb dX11_inBox_18 rfl (lv_at hl 1 rfl) ?_
      obtain ⟨h1, q⟩ := q
      refine g_iald hx hb hK hH 59 0 (by decide) Nat.zero_lt_one 5 rfl h1 dX11_inBox_19 ?_
      refine lv_iadd hx hb dX11_inBox_20 ?_
      refine lv_icmp_ge (tgt := 49) hx hb dX11_inBox_21 (by decide) (fun c2 => ?_) (fun c2 => ?_)
      · have q := (if_pos c2).mp q
        refine lv_iload_n hx hb dX11_inBox_49 rfl (lv_at hl 3 rfl) ?_
        exact (W.iret (v := x3) hx hb hr (fun t ht hW => ⟨⟨x3, F, rfl, q, gH_at ht hH⟩, hS.F ht⟩) hS.2.2 dX11_inBox_50)
      · have q := (if_neg c2).mp q
        refine lv_iload_n hx hb dX11_inBox_24 rfl (lv_at hl 3 rfl) ?_
        refine lv_aload_n hx hb dX11_inBox_25 rfl (lv_at hl 0 rfl) ?_
        refine g_get (ci := 15) (v := .ref (ad 58 0)) (C := RX11) (T := TX11) (N := 44) hx hb hts (fun _ h => (List.mem_cons_of_mem _ (List.mem_append_left _ (List.mem_append_right _ h)))) hown hK hH 40 0 (by decide) Nat.zero_lt_one rfl rfl 27 (by decide) (hts (.fieldLink RX11 66 "BallotFoundryModel" "box" "[I") (List.mem_of_getElem? (i := 2) rfl)) (fun _ h => h) rfl dX11_inBox_26 ?_
        refine lv_iload hx hb dX11_inBox_29 (lv_at hl 4 rfl) ?_
        obtain ⟨h3, q⟩ := q
        refine g_iald hx hb hK hH 58 0 (by decide) Nat.zero_lt_one 100 rfl h3 dX11_inBox_31 ?_
        refine lv_iload_n hx hb dX11_inBox_32 rfl (lv_at hl 2 rfl) ?_
        refine lv_icmp_ne (tgt := 40) hx hb dX11_inBox_33 (by decide) (fun c4 => ?_) (fun c4 => ?_)
        · have q := (if_neg c4).mp q
          refine lv_iconst (v := 0) hx hb dX11_inBox_40 (by decide) ?_
          exact t_41 (fun F a0 a1 a2 a3 => P_X11_inBox_8 K n F a0 a1 a2 a3) ih F x1 x2 x4 x3 0 _ _ _ hH hS (lv_sub hl [0, 1, 2, 4] rfl) q
        · have q := (if_pos c4).mp q
          refine lv_iconst (v := 1) hx hb dX11_inBox_36 (by decide) ?_
          refine lv_goto (tgt := 41) hx hb dX11_inBox_37 (by decide) ?_
          exact t_41 (fun F a0 a1 a2 a3 => P_X11_inBox_8 K n F a0 a1 a2 a3) ih F x1 x2 x4 x3 1 _ _ _ hH hS (lv_sub hl [0, 1, 2, 4] rfl) q
  unfold P_X11_inBox at q
  refine lv_iconst (v := 0) hx hb dX11_inBox_0 (by decide) ?_
  refine lv_istore_n (lv' := [(3, .int 0), (0, .ref (ad 40 0)), (1, .int p1), (2, .int p2)]) hx hb dX11_inBox_1 rfl hl (by decide) rfl (fun ls hl => ?_)
  refine lv_bipush (v := 20) hx hb dX11_inBox_2 (by decide) ?_
  refine lv_iload_n hx hb dX11_inBox_4 rfl (lv_at hl 2 rfl) ?_
  refine lv_imul hx hb dX11_inBox_5 ?_
  refine lv_istore (lv' := [(4, .int (20 * p1)), (3, .int 0), (0, .ref (ad 40 0)), (1, .int p1), (2, .int p2)]) hx hb dX11_inBox_6 hl (by decide) rfl (fun ls hl => ?_)
  obtain ⟨nn, q⟩ := q
  exact t_8 nn F p1 p2 0 (20 * p1) _ _ _ hH hS (lv_sub hl [2, 3, 4, 1, 0] rfl) q
abbrev rm_X11_misread : Room := { frames := 2, cells := 0, slots := 0, locals := 43 }
abbrev q_X11_misread (G : GP) (ad : Nat → Nat → Nat) (K : Int32 → GF → Prop) (below : List Frame) (args : Array Value) (s : State) : State → Prop := MQ below (gQi G ad K) args s 0 0 (gA G)
set_option maxHeartbeats 4000000 in
set_option maxRecDepth 100000 in
theorem c_X11_misread (l : Launch) (G : GP) (ad : Nat → Nat → Nat) (F : GF) (p1 : Int32) (K : Int32 → GF → Prop) : Met l yX11_misread wsX11_misread rm_X11_misread (va_Pc [.ref (ad 40 0), .int p1] (fun U => gD G ad F U ∧ P_X11_misread F p1 K)) (gQi G ad K) 0 0 (gA G) := by
  refine Met.ofW (cc := cX11_misread) (maxL := 5) (ret := (some .int)) (by decide) rfl ?_
  intro p e s m args below meth c s₁ Bd hml hv
  obtain ⟨rfl, ⟨hK, hG, hB, hH⟩, q⟩ := hv
  have hx := Bd.exec
  have hb := Bd.bytes
  have hr := Bd.returns
  have hts := atoms_spec (ws := wsX11_misread) Bd.pre
  have hown : s.vm.findClass RX11 = some m.cls := findClass_of_methodNamed Bd.named
  have hlocks := Bd.notSynchronized
  have hS : va_S (gA G) s.heap s.heap [] := va_S.rf
  have hl := lv_entry [.ref (ad 40 0), .int p1] (n := 5) (Nat.le_of_ble_eq_true rfl)
  rw [lg_entry_eq]
  generalize (lg_sl [.ref (ad 40 0), .int p1] ++ List.replicate (5 - (lg_sl [.ref (ad 40 0), .int p1]).length) Slot.unset).toArray = ls at hl ⊢
  have hl : lv_has ls 5 [(0, .ref (ad 40 0)), (1, .int p1)] := hl
  show W p l e rm_X11_misread s m ([.ref (ad 40 0), .int p1] : List Value).toArray below meth c s.heap [] 0 0 (q_X11_misread G ad K below ([.ref (ad 40 0), .int p1] : List Value).toArray s) _
  have t_80 : ∀ (k32 : GF → Int32 → Int32 → Int32 → Prop), (∀ (F : GF) (x1 : Int32) (x2 : Int32) (x3 : Int32) (H : Heap) (locs : List Loc) (ls : Array Slot), gH G ad F H → va_S (gA G) s.heap H locs → lv_has ls 5 [(0, .ref (ad 40 0)), (1, .int x1), (2, .int x2), (3, .int x3)] → k32 F x1 x2 x3 → W p l e rm_X11_misread s m ([.ref (ad 40 0), .int p1] : List Value).toArray below meth c H locs 0 0 (q_X11_misread G ad K below ([.ref (ad 40 0), .int p1] : List Value).toArray s) (F0 m 32 ls [])) → ∀ (F : GF) (x1 : Int32) (x3 : Int32) (s0 : Int32) (s1 : Int32) (H : Heap) (locs : List Loc) (ls : Array Slot), gH G ad F H → va_S (gA G) s.heap H locs → lv_has ls 5 [(0, .ref (ad 40 0)), (1, .int x1), (3, .int x3)] → (P_X11_misread_80 k32 K) F x1 x3 s0 s1 → W p l e rm_X11_misread s m ([.ref (ad 40 0), .int p1] : List Value).toArray below meth c H locs 0 0 (q_X11_misread G ad K below ([.ref (ad 40 0), .int p1] : List Value).toArray s) (F0 m 80 ls [.int s1, .int s0]) := by
    intro k32 hk32 F x1 x3 s0 s1 H locs ls hH hS hl q
    unfold P_X11_misread_80 at q
    refine lv_iadd hx hb dX11_misread_80 ?_
    refine lv_istore_n (lv' := [(2, .int (s0 + s1)), (0, .ref (ad 40 0)), (1, .int x1), (3, .int x3)]) hx hb dX11_misread_81 rfl hl (by decide) rfl (fun ls hl => ?_)
    refine lv_iinc (v := x3 + 1) (lv' := [(3, .int (x3 + 1)), (2, .int (s0 + s1)), (0, .ref (ad 40 0)), (1, .int x1)]) hx hb dX11_misread_82 hl (k := 3) rfl rfl (by decide) rfl (fun ls hl => ?_)
    refine lv_goto (tgt := 32) hx hb dX11_misread_85 (by decide) ?_
    exact hk32 F x1 (s0 + s1) (x3 + 1) _ _ _ hH hS (lv_sub hl [2, 3, 1, 0] rfl) q
  have t_32 : ∀ n : Nat, ∀ (F : GF) (x1 : Int32) (x2 : Int32) (x3 : Int32) (H : Heap) (locs : List Loc) (ls : Array Slot), gH G ad F H → va_S (gA G) s.heap H locs → lv_has ls 5 [(0, .ref (ad 40 0)), (1, .int x1), (2, .int x2), (3, .int x3)] → (P_X11_misread_32 K n) F x1 x2 x3 → W p l e rm_X11_misread s m ([.ref (ad 40 0), .int p1] : List Value).toArray below meth c H locs 0 0 (q_X11_misread G ad K below ([.ref (ad 40 0), .int p1] : List Value).toArray s) (F0 m 32 ls []) := by
    intro n
    induction n with
    | zero =>
      intro F x1 x2 x3 H locs ls hH hS hl q
      exact False.elim q
    | succ n ih =>
      intro F x1 x2 x3 H locs ls hH hS hl q
      rw [P_X11_misread_32] at q
      refine lv_iload_n hx hb dX11_misread_32 rfl (lv_at hl 3 rfl) ?_
      refine lv_bipush (v := 6) hx hb dX11_misread_33 (by decide) ?_
      refine lv_icmp_ge (tgt := 88) hx hb dX11_misread_35 (by decide) (fun c8 => ?_) (fun c8 => ?_)
      · have q := (if_pos c8).mp q
        refine lv_iload_n hx hb dX11_misread_88 rfl (lv_at hl 2 rfl) ?_
        exact (W.iret (v := x2) hx hb hr (fun t ht hW => ⟨⟨x2, F, rfl, q, gH_at ht hH⟩, hS.F ht⟩) hS.2.2 dX11_misread_89)
      · have q := (if_neg c8).mp q
        refine lv_iload_n hx hb dX11_misread_38 rfl (lv_at hl 2 rfl) ?_
        refine lv_iconst (v := (-1)) hx hb dX11_misread_39 (by decide) ?_
        refine lv_icmp_eq (tgt := 88) hx hb dX11_misread_40 (by decide) (fun c9 => ?_) (fun c9 => ?_)
        · have q := (if_pos c9).mp q
          refine lv_iload_n hx hb dX11_misread_88 rfl (lv_at hl 2 rfl) ?_
          exact (W.iret (v := x2) hx hb hr (fun t ht hW => ⟨⟨x2, F, rfl, q, gH_at ht hH⟩, hS.F ht⟩) hS.2.2 dX11_misread_89)
        · have q := (if_neg c9).mp q
          refine lv_aload_n hx hb dX11_misread_43 rfl (lv_at hl 0 rfl) ?_
          refine lv_iload_n hx hb dX11_misread_44 rfl (lv_at hl 1 rfl) ?_
          refine lv_iload_n hx hb dX11_misread_45 rfl (lv_at hl 3 rfl) ?_
          refine va_calli (va_runV (As := [.int x1, .int x3]) (rest := []) ⟨hx, hb, hml, hown, hts⟩ (c_X11_inBox l G ad F x1 x3 _) (cwV 2 hts gX11_misread_X11_inBox rfl rfl rfl (by decide +kernel) ⟨Nat.le_of_ble_eq_true rfl, Nat.le_of_ble_eq_true rfl⟩) ⟨fun a U g mk h => ⟨h.1, gD_blind h.2.1, h.2.2⟩, g_recv (C := RX11) (T := TX11) (N := 44) hK hH 40 0 (by decide) Nat.zero_lt_one rfl rfl, fun U hU hW => ⟨rfl, gD_at hK hG hB hH hS hU hW, q⟩⟩ rfl rfl hl.1 rfl (lv_room (Nat.le_of_ble_eq_true rfl)) dX11_misread_46 ⟨Nat.le_of_ble_eq_true rfl, Nat.le_of_ble_eq_true rfl⟩) hS (fun _ _ h => h) (fun _ h => h) (fun r10 F11 t H locs ht hvm q hB1 hz hk hS => ?_)
          have hH : gH G ad F11 H := gH_to ht hB1
          refine lv_aload_n hx hb dX11_misread_49 rfl (lv_at hl 0 rfl) ?_
          refine g_get (ci := 15) (v := .ref (ad 60 0)) (C := RX11) (T := TX11) (N := 44) hx hb hts (fun _ h => (List.mem_cons_of_mem _ (List.mem_append_left _ (List.mem_append_right _ h)))) hown hK hH 40 0 (by decide) Nat.zero_lt_one rfl rfl 29 (by decide) (hts (.fieldLink RX11 72 "BallotFoundryModel" "number" "[I") (List.mem_of_getElem? (i := 2) rfl)) (fun _ h => h) rfl dX11_misread_50 ?_
          refine lv_bipush (v := 6) hx hb dX11_misread_53 (by decide) ?_
          refine lv_aload_n hx hb dX11_misread_55 rfl (lv_at hl 0 rfl) ?_
          refine g_get (ci := 15) (v := .ref (ad 63 0)) (C := RX11) (T := TX11) (N := 44) hx hb hts (fun _ h => (List.mem_cons_of_mem _ (List.mem_append_left _ (List.mem_append_right _ h)))) hown hK hH 40 0 (by decide) Nat.zero_lt_one rfl rfl 32 (by decide) (hts (.fieldLink RX11 81 "BallotFoundryModel" "settled" "[I") (List.mem_of_getElem? (i := 1) rfl)) (fun _ h => h) rfl dX11_misread_56 ?_
          refine lv_iload_n hx hb dX11_misread_59 rfl (lv_at hl 1 rfl) ?_
          obtain ⟨h12, q⟩ := q
          refine g_iald hx hb hK hH 63 0 (by decide) Nat.zero_lt_one 5 rfl h12 dX11_misread_60 ?_
          refine lv_imul hx hb dX11_misread_61 ?_
          refine lv_iload_n hx hb dX11_misread_62 rfl (lv_at hl 3 rfl) ?_
          refine lv_iadd hx hb dX11_misread_63 ?_
          obtain ⟨h13, q⟩ := q
          refine g_iald hx hb hK hH 60 0 (by decide) Nat.zero_lt_one 240 rfl h13 dX11_misread_64 ?_
          refine lv_isub hx hb dX11_misread_65 ?_
          refine lv_topi (fun y14 ey14 => ?_)
          have q := q y14 ey14
          refine lv_istore (lv' := [(4, .int y14), (0, .ref (ad 40 0)), (1, .int x1), (2, .int x2), (3, .int x3)]) hx hb dX11_misread_66 hl (by decide) rfl (fun ls hl => ?_)
          refine lv_iload_n hx hb dX11_misread_68 rfl (lv_at hl 3 rfl) ?_
          refine lv_iload hx hb dX11_misread_69 (lv_at hl 0 rfl) ?_
          refine lv_if_le (tgt := 79) hx hb dX11_misread_71 (by decide) (fun c15 => ?_) (fun c15 => ?_)
          · have q := (if_pos c15).mp q
            refine lv_iconst (v := 0) hx hb dX11_misread_79 (by decide) ?_
            exact t_80 (fun F a0 a1 a2 => P_X11_misread_32 K n F a0 a1 a2) ih F11 x1 x3 x2 0 _ _ _ hH hS (lv_sub hl [1, 2, 4] rfl) q
          · have q := (if_neg c15).mp q
            refine lv_iload hx hb dX11_misread_74 (lv_at hl 0 rfl) ?_
            refine lv_goto (tgt := 80) hx hb dX11_misread_76 (by decide) ?_
            exact t_80 (fun F a0 a1 a2 => P_X11_misread_32 K n F a0 a1 a2) ih F11 x1 x3 x2 y14 _ _ _ hH hS (lv_sub hl [1, 2, 4] rfl) q
  have t_29 : ∀ (F : GF) (x1 : Int32) (s0 : Int32) (H : Heap) (locs : List Loc) (ls : Array Slot), gH G ad F H → va_S (gA G) s.heap H locs → lv_has ls 5 [(0, .ref (ad 40 0)), (1, .int x1)] → (P_X11_misread_29 K) F x1 s0 → W p l e rm_X11_misread s m ([.ref (ad 40 0), .int p1] : List Value).toArray below meth c H locs 0 0 (q_X11_misread G ad K below ([.ref (ad 40 0), .int p1] : List Value).toArray s) (F0 m 29 ls [.int s0]) := by
    intro F x1 s0 H locs ls hH hS hl q
    unfold P_X11_misread_29 at q
    refine lv_istore_n (lv' := [(2, .int s0), (0, .ref (ad 40 0)), (1, .int x1)]) hx hb dX11_misread_29 rfl hl (by decide) rfl (fun ls hl => ?_)
    refine lv_iconst (v := 0) hx hb dX11_misread_30 (by decide) ?_
    refine lv_istore_n (lv' := [(3, .int 0), (2, .int s0), (0, .ref (ad 40 0)), (1, .int x1)]) hx hb dX11_misread_31 rfl hl (by decide) rfl (fun ls hl => ?_)
    obtain ⟨nn, q⟩ := q
    exact t_32 nn F x1 s0 0 _ _ _ hH hS (lv_sub hl [2, 3, 1, 0] rfl) q
  unfold P_X11_misread at q
  refine lv_aload_n hx hb dX11_misread_0 rfl (lv_at hl 0 rfl) ?_
  refine lv_aload_n hx hb dX11_misread_1 rfl (lv_at hl 0 rfl) ?_
  refine lv_iload_n hx hb dX11_misread_2 rfl (lv_at hl 1 rfl) ?_
  refine va_calli (va_runV (As := [.int p1]) (rest := [.ref (ad 40 0)]) ⟨hx, hb, hml, hown, hts⟩ (c_X11_isStation l G ad F p1 _) (cwV 1 hts gX11_misread_X11_isStation rfl rfl rfl (by decide +kernel) ⟨Nat.le_of_ble_eq_true rfl, Nat.le_of_ble_eq_true rfl⟩) ⟨fun a U g mk h => ⟨h.1, gD_blind h.2.1, h.2.2⟩, g_recv (C := RX11) (T := TX11) (N := 44) hK hH 40 0 (by decide) Nat.zero_lt_one rfl rfl, fun U hU hW => ⟨rfl, gD_at hK hG hB hH hS hU hW, q⟩⟩ rfl rfl hl.1 rfl (lv_room (Nat.le_of_ble_eq_true rfl)) dX11_misread_3 ⟨Nat.le_of_ble_eq_true rfl, Nat.le_of_ble_eq_true rfl⟩) hS (fun _ _ h => h) (fun _ h => h) (fun r1 F2 t H locs ht hvm q hB1 hz hk hS => ?_)
  have hH : gH G ad F2 H := gH_to ht hB1
  refine va_calli (va_runV (As := [.int r1]) (rest := []) ⟨hx, hb, hml, hown, hts⟩ (c_X11_asked l G ad F2 r1 _) (cwV 1 hts gX11_misread_X11_asked rfl rfl rfl (by decide +kernel) ⟨Nat.le_of_ble_eq_true rfl, Nat.le_of_ble_eq_true rfl⟩) ⟨fun a U g mk h => ⟨h.1, gD_blind h.2.1, h.2.2⟩, g_recv (C := RX11) (T := TX11) (N := 44) hK hH 40 0 (by decide) Nat.zero_lt_one rfl rfl, fun U hU hW => ⟨rfl, gD_at hK hG hB hH hS hU hW, q⟩⟩ rfl rfl hl.1 rfl (lv_room (Nat.le_of_ble_eq_true rfl)) dX11_misread_6 ⟨Nat.le_of_ble_eq_true rfl, Nat.le_of_ble_eq_true rfl⟩) hS (fun _ _ h => h) (fun _ h => h) (fun r3 F4 t H locs ht hvm q hB1 hz hk hS => ?_)
  have hH : gH G ad F4 H := gH_to ht hB1
  refine lv_if_ne (tgt := 14) hx hb dX11_misread_9 (by decide) (fun c5 => ?_) (fun c5 => ?_)
  · have q := (if_neg c5).mp q
    refine lv_aload_n hx hb dX11_misread_14 rfl (lv_at hl 0 rfl) ?_
    refine g_get (ci := 15) (v := .ref (ad 63 0)) (C := RX11) (T := TX11) (N := 44) hx hb hts (fun _ h => (List.mem_cons_of_mem _ (List.mem_append_left _ (List.mem_append_right _ h)))) hown hK hH 40 0 (by decide) Nat.zero_lt_one rfl rfl 32 (by decide) (hts (.fieldLink RX11 81 "BallotFoundryModel" "settled" "[I") (List.mem_of_getElem? (i := 1) rfl)) (fun _ h => h) rfl dX11_misread_15 ?_
    refine lv_iload_n hx hb dX11_misread_18 rfl (lv_at hl 1 rfl) ?_
    obtain ⟨h6, q⟩ := q
    refine g_iald hx hb hK hH 63 0 (by decide) Nat.zero_lt_one 5 rfl h6 dX11_misread_19 ?_
    refine lv_iconst (v := (-1)) hx hb dX11_misread_20 (by decide) ?_
    refine lv_icmp_ne (tgt := 28) hx hb dX11_misread_21 (by decide) (fun c7 => ?_) (fun c7 => ?_)
    · have q := (if_neg c7).mp q
      refine lv_iconst (v := 0) hx hb dX11_misread_28 (by decide) ?_
      exact t_29 F4 p1 0 _ _ _ hH hS (lv_sub hl [0, 1] rfl) q
    · have q := (if_pos c7).mp q
      refine lv_iconst (v := (-1)) hx hb dX11_misread_24 (by decide) ?_
      refine lv_goto (tgt := 29) hx hb dX11_misread_25 (by decide) ?_
      exact t_29 F4 p1 (-1) _ _ _ hH hS (lv_sub hl [0, 1] rfl) q
  · have q := (if_pos c5).mp q
    refine lv_iconst (v := 0) hx hb dX11_misread_12 (by decide) ?_
    exact (W.iret (v := 0) hx hb hr (fun t ht hW => ⟨⟨0, F4, rfl, q, gH_at ht hH⟩, hS.F ht⟩) hS.2.2 dX11_misread_13)
abbrev rm_X11_divisor : Room := { frames := 0, cells := 0, slots := 0, locals := 0 }
abbrev q_X11_divisor (G : GP) (ad : Nat → Nat → Nat) (K : Int32 → GF → Prop) (below : List Frame) (args : Array Value) (s : State) : State → Prop := MQ below (gQi G ad K) args s 0 0 (gA G)
set_option maxHeartbeats 4000000 in
set_option maxRecDepth 100000 in
theorem c_X11_divisor (l : Launch) (G : GP) (ad : Nat → Nat → Nat) (F : GF) (p1 : Int32) (K : Int32 → GF → Prop) : Met l yX11_divisor wsX11_divisor rm_X11_divisor (va_Pc [.ref (ad 40 0), .int p1] (fun U => gD G ad F U ∧ P_X11_divisor F p1 K)) (gQi G ad K) 0 0 (gA G) := by
  refine Met.ofW (cc := cX11_divisor) (maxL := 2) (ret := (some .int)) (by decide) rfl ?_
  intro p e s m args below meth c s₁ Bd hml hv
  obtain ⟨rfl, ⟨hK, hG, hB, hH⟩, q⟩ := hv
  have hx := Bd.exec
  have hb := Bd.bytes
  have hr := Bd.returns
  have hts := atoms_spec (ws := wsX11_divisor) Bd.pre
  have hown : s.vm.findClass RX11 = some m.cls := findClass_of_methodNamed Bd.named
  have hlocks := Bd.notSynchronized
  have hS : va_S (gA G) s.heap s.heap [] := va_S.rf
  have hl := lv_entry [.ref (ad 40 0), .int p1] (n := 2) (Nat.le_of_ble_eq_true rfl)
  rw [lg_entry_eq]
  generalize (lg_sl [.ref (ad 40 0), .int p1] ++ List.replicate (2 - (lg_sl [.ref (ad 40 0), .int p1]).length) Slot.unset).toArray = ls at hl ⊢
  have hl : lv_has ls 2 [(0, .ref (ad 40 0)), (1, .int p1)] := hl
  unfold P_X11_divisor at q
  refine lv_aload_n hx hb dX11_divisor_0 rfl (lv_at hl 0 rfl) ?_
  refine g_get (ci := 15) (v := .int (F 40 0 17)) (C := RX11) (T := TX11) (N := 44) hx hb hts (fun _ h => (List.mem_cons_of_mem _ (List.mem_append_left _ (List.mem_append_right _ h)))) hown hK hH 40 0 (by decide) Nat.zero_lt_one rfl rfl 17 (by decide) (hts (.fieldLink RX11 187 "BallotFoundryModel" "odd" "Z") (List.mem_of_getElem? (i := 1) rfl)) (fun _ h => h) rfl dX11_divisor_1 ?_
  refine lv_if_eq (tgt := 20) hx hb dX11_divisor_4 (by decide) (fun c1 => ?_) (fun c1 => ?_)
  · have q := (if_pos c1).mp q
    refine lv_aload_n hx hb dX11_divisor_20 rfl (lv_at hl 0 rfl) ?_
    refine g_get (ci := 15) (v := .ref (ad 66 0)) (C := RX11) (T := TX11) (N := 44) hx hb hts (fun _ h => (List.mem_cons_of_mem _ (List.mem_append_left _ (List.mem_append_right _ h)))) hown hK hH 40 0 (by decide) Nat.zero_lt_one rfl rfl 35 (by decide) (hts (.fieldLink RX11 90 "BallotFoundryModel" "given" "[I") (List.mem_of_getElem? (i := 2) rfl)) (fun _ h => h) rfl dX11_divisor_21 ?_
    refine lv_iload_n hx hb dX11_divisor_24 rfl (lv_at hl 1 rfl) ?_
    obtain ⟨h2, q⟩ := q
    refine g_iald hx hb hK hH 66 0 (by decide) Nat.zero_lt_one 5 rfl h2 dX11_divisor_25 ?_
    refine lv_iconst (v := 1) hx hb dX11_divisor_26 (by decide) ?_
    refine lv_iadd hx hb dX11_divisor_27 ?_
    exact (W.iret (v := ((F 66 0 p1.toNatClampNeg) + 1)) hx hb hr (fun t ht hW => ⟨⟨((F 66 0 p1.toNatClampNeg) + 1), F, rfl, q, gH_at ht hH⟩, hS.F ht⟩) hS.2.2 dX11_divisor_28)
  · have q := (if_neg c1).mp q
    refine lv_iconst (v := 2) hx hb dX11_divisor_7 (by decide) ?_
    refine lv_aload_n hx hb dX11_divisor_8 rfl (lv_at hl 0 rfl) ?_
    refine g_get (ci := 15) (v := .ref (ad 66 0)) (C := RX11) (T := TX11) (N := 44) hx hb hts (fun _ h => (List.mem_cons_of_mem _ (List.mem_append_left _ (List.mem_append_right _ h)))) hown hK hH 40 0 (by decide) Nat.zero_lt_one rfl rfl 35 (by decide) (hts (.fieldLink RX11 90 "BallotFoundryModel" "given" "[I") (List.mem_of_getElem? (i := 2) rfl)) (fun _ h => h) rfl dX11_divisor_9 ?_
    refine lv_iload_n hx hb dX11_divisor_12 rfl (lv_at hl 1 rfl) ?_
    obtain ⟨h3, q⟩ := q
    refine g_iald hx hb hK hH 66 0 (by decide) Nat.zero_lt_one 5 rfl h3 dX11_divisor_13 ?_
    refine lv_imul hx hb dX11_divisor_14 ?_
    refine lv_iconst (v := 1) hx hb dX11_divisor_15 (by decide) ?_
    refine lv_iadd hx hb dX11_divisor_16 ?_
    refine lv_goto (tgt := 28) hx hb dX11_divisor_17 (by decide) ?_
    exact (W.iret (v := ((2 * (F 66 0 p1.toNatClampNeg)) + 1)) hx hb hr (fun t ht hW => ⟨⟨((2 * (F 66 0 p1.toNatClampNeg)) + 1), F, rfl, q, gH_at ht hH⟩, hS.F ht⟩) hS.2.2 dX11_divisor_28)
abbrev rm_X11_beyond : Room := { frames := 1, cells := 0, slots := 0, locals := 21 }
abbrev q_X11_beyond (G : GP) (ad : Nat → Nat → Nat) (K : Int32 → GF → Prop) (below : List Frame) (args : Array Value) (s : State) : State → Prop := MQ below (gQi G ad K) args s 0 0 (gA G)
set_option maxHeartbeats 4000000 in
set_option maxRecDepth 100000 in
theorem c_X11_beyond (l : Launch) (G : GP) (ad : Nat → Nat → Nat) (F : GF) (p1 : Int32) (p2 : Int32) (K : Int32 → GF → Prop) : Met l yX11_beyond wsX11_beyond rm_X11_beyond (va_Pc [.ref (ad 40 0), .int p1, .int p2] (fun U => gD G ad F U ∧ P_X11_beyond F p1 p2 K)) (gQi G ad K) 0 0 (gA G) := by
  refine Met.ofW (cc := cX11_beyond) (maxL := 3) (ret := (some .int)) (by decide) rfl ?_
  intro p e s m args below meth c s₁ Bd hml hv
  obtain ⟨rfl, ⟨hK, hG, hB, hH⟩, q⟩ := hv
  have hx := Bd.exec
  have hb := Bd.bytes
  have hr := Bd.returns
  have hts := atoms_spec (ws := wsX11_beyond) Bd.pre
  have hown : s.vm.findClass RX11 = some m.cls := findClass_of_methodNamed Bd.named
  have hlocks := Bd.notSynchronized
  have hS : va_S (gA G) s.heap s.heap [] := va_S.rf
  have hl := lv_entry [.ref (ad 40 0), .int p1, .int p2] (n := 3) (Nat.le_of_ble_eq_true rfl)
  rw [lg_entry_eq]
  generalize (lg_sl [.ref (ad 40 0), .int p1, .int p2] ++ List.replicate (3 - (lg_sl [.ref (ad 40 0), .int p1, .int p2]).length) Slot.unset).toArray = ls at hl ⊢
  have hl : lv_has ls 3 [(0, .ref (ad 40 0)), (1, .int p1), (2, .int p2)] := hl
  unfold P_X11_beyond at q
  refine lv_aload_n hx hb dX11_beyond_0 rfl (lv_at hl 0 rfl) ?_
  refine g_get (ci := 15) (v := .ref (ad 65 0)) (C := RX11) (T := TX11) (N := 44) hx hb hts (fun _ h => (List.mem_cons_of_mem _ (List.mem_append_left _ (List.mem_append_right _ h)))) hown hK hH 40 0 (by decide) Nat.zero_lt_one rfl rfl 34 (by decide) (hts (.fieldLink RX11 87 "BallotFoundryModel" "sum" "[I") (List.mem_of_getElem? (i := 1) rfl)) (fun _ h => h) rfl dX11_beyond_1 ?_
  refine lv_iload_n hx hb dX11_beyond_4 rfl (lv_at hl 1 rfl) ?_
  obtain ⟨h1, q⟩ := q
  refine g_iald hx hb hK hH 65 0 (by decide) Nat.zero_lt_one 5 rfl h1 dX11_beyond_5 ?_
  refine lv_aload_n hx hb dX11_beyond_6 rfl (lv_at hl 0 rfl) ?_
  refine lv_iload_n hx hb dX11_beyond_7 rfl (lv_at hl 2 rfl) ?_
  refine va_calli (va_runV (As := [.int p2]) (rest := [.int (F 65 0 p1.toNatClampNeg)]) ⟨hx, hb, hml, hown, hts⟩ (c_X11_divisor l G ad F p2 _) (cwV 1 hts gX11_beyond_X11_divisor rfl rfl rfl (by decide +kernel) ⟨Nat.le_of_ble_eq_true rfl, Nat.le_of_ble_eq_true rfl⟩) ⟨fun a U g mk h => ⟨h.1, gD_blind h.2.1, h.2.2⟩, g_recv (C := RX11) (T := TX11) (N := 44) hK hH 40 0 (by decide) Nat.zero_lt_one rfl rfl, fun U hU hW => ⟨rfl, gD_at hK hG hB hH hS hU hW, q⟩⟩ rfl rfl hl.1 rfl (lv_room (Nat.le_of_ble_eq_true rfl)) dX11_beyond_8 ⟨Nat.le_of_ble_eq_true rfl, Nat.le_of_ble_eq_true rfl⟩) hS (fun _ _ h => h) (fun _ h => h) (fun r2 F3 t H locs ht hvm q hB1 hz hk hS => ?_)
  have hH : gH G ad F3 H := gH_to ht hB1
  refine lv_imul hx hb dX11_beyond_11 ?_
  refine lv_aload_n hx hb dX11_beyond_12 rfl (lv_at hl 0 rfl) ?_
  refine g_get (ci := 15) (v := .ref (ad 65 0)) (C := RX11) (T := TX11) (N := 44) hx hb hts (fun _ h => (List.mem_cons_of_mem _ (List.mem_append_left _ (List.mem_append_right _ h)))) hown hK hH 40 0 (by decide) Nat.zero_lt_one rfl rfl 34 (by decide) (hts (.fieldLink RX11 87 "BallotFoundryModel" "sum" "[I") (List.mem_of_getElem? (i := 1) rfl)) (fun _ h => h) rfl dX11_beyond_13 ?_
  refine lv_iload_n hx hb dX11_beyond_16 rfl (lv_at hl 2 rfl) ?_
  obtain ⟨h4, q⟩ := q
  refine g_iald hx hb hK hH 65 0 (by decide) Nat.zero_lt_one 5 rfl h4 dX11_beyond_17 ?_
  refine lv_aload_n hx hb dX11_beyond_18 rfl (lv_at hl 0 rfl) ?_
  refine lv_iload_n hx hb dX11_beyond_19 rfl (lv_at hl 1 rfl) ?_
  refine va_calli (va_runV (As := [.int p1]) (rest := [.int (F3 65 0 p2.toNatClampNeg), .int ((F 65 0 p1.toNatClampNeg) * r2)]) ⟨hx, hb, hml, hown, hts⟩ (c_X11_divisor l G ad F3 p1 _) (cwV 1 hts gX11_beyond_X11_divisor rfl rfl rfl (by decide +kernel) ⟨Nat.le_of_ble_eq_true rfl, Nat.le_of_ble_eq_true rfl⟩) ⟨fun a U g mk h => ⟨h.1, gD_blind h.2.1, h.2.2⟩, g_recv (C := RX11) (T := TX11) (N := 44) hK hH 40 0 (by decide) Nat.zero_lt_one rfl rfl, fun U hU hW => ⟨rfl, gD_at hK hG hB hH hS hU hW, q⟩⟩ rfl rfl hl.1 rfl (lv_room (Nat.le_of_ble_eq_true rfl)) dX11_beyond_20 ⟨Nat.le_of_ble_eq_true rfl, Nat.le_of_ble_eq_true rfl⟩) hS (fun _ _ h => h) (fun _ h => h) (fun r5 F6 t H locs ht hvm q hB1 hz hk hS => ?_)
  have hH : gH G ad F6 H := gH_to ht hB1
  refine lv_imul hx hb dX11_beyond_23 ?_
  refine lv_isub hx hb dX11_beyond_24 ?_
  exact (W.iret (v := (((F 65 0 p1.toNatClampNeg) * r2) - ((F3 65 0 p2.toNatClampNeg) * r5))) hx hb hr (fun t ht hW => ⟨⟨(((F 65 0 p1.toNatClampNeg) * r2) - ((F3 65 0 p2.toNatClampNeg) * r5)), F6, rfl, q, gH_at ht hH⟩, hS.F ht⟩) hS.2.2 dX11_beyond_25)
abbrev rm_X11_gives : Room := { frames := 2, cells := 0, slots := 0, locals := 43 }
abbrev q_X11_gives (G : GP) (ad : Nat → Nat → Nat) (K : GF → Prop) (below : List Frame) (args : Array Value) (s : State) : State → Prop := MQ below (gQv G ad K) args s 0 0 (gA G)
set_option maxHeartbeats 4000000 in
set_option maxRecDepth 100000 in
theorem c_X11_gives (l : Launch) (G : GP) (ad : Nat → Nat → Nat) (F : GF) (p1 : Int32) (K : GF → Prop) : Met l yX11_gives wsX11_gives rm_X11_gives (va_Pc [.ref (ad 40 0), .int p1] (fun U => gD G ad F U ∧ P_X11_gives F p1 K)) (gQv G ad K) 0 0 (gA G) := by
  refine Met.ofW (cc := cX11_gives) (maxL := 8) (ret := none) (by decide) rfl ?_
  intro p e s m args below meth c s₁ Bd hml hv
  obtain ⟨rfl, ⟨hK, hG, hB, hH⟩, q⟩ := hv
  have hx := Bd.exec
  have hb := Bd.bytes
  have hr := Bd.returns
  have hts := atoms_spec (ws := wsX11_gives) Bd.pre
  have hown : s.vm.findClass RX11 = some m.cls := findClass_of_methodNamed Bd.named
  have hlocks := Bd.notSynchronized
  have hS : va_S (gA G) s.heap s.heap [] := va_S.rf
  have hl := lv_entry [.ref (ad 40 0), .int p1] (n := 8) (Nat.le_of_ble_eq_true rfl)
  rw [lg_entry_eq]
  generalize (lg_sl [.ref (ad 40 0), .int p1] ++ List.replicate (8 - (lg_sl [.ref (ad 40 0), .int p1]).length) Slot.unset).toArray = ls at hl ⊢
  have hl : lv_has ls 8 [(0, .ref (ad 40 0)), (1, .int p1)] := hl
  show W p l e rm_X11_gives s m ([.ref (ad 40 0), .int p1] : List Value).toArray below meth c s.heap [] 0 0 (q_X11_gives G ad K below ([.ref (ad 40 0), .int p1] : List Value).toArray s) _
  have t_318 : ∀ (k149 : GF → Int32 → Int32 → Prop), (∀ (F : GF) (x2 : Int32) (x3 : Int32) (H : Heap) (locs : List Loc) (ls : Array Slot), gH G ad F H → va_S (gA G) s.heap H locs → lv_has ls 8 [(0, .ref (ad 40 0)), (2, .int x2), (3, .int x3)] → k149 F x2 x3 → W p l e rm_X11_gives s m ([.ref (ad 40 0), .int p1] : List Value).toArray below meth c H locs 0 0 (q_X11_gives G ad K below ([.ref (ad 40 0), .int p1] : List Value).toArray s) (F0 m 149 ls [])) → ∀ (k284 : GF → Int32 → Int32 → Int32 → Int32 → Int32 → Prop), (∀ (F : GF) (x2 : Int32) (x3 : Int32) (x4 : Int32) (x6 : Int32) (x7 : Int32) (H : Heap) (locs : List Loc) (ls : Array Slot), gH G ad F H → va_S (gA G) s.heap H locs → lv_has ls 8 [(0, .ref (ad 40 0)), (2, .int x2), (3, .int x3), (4, .int x4), (6, .int x6), (7, .int x7)] → k284 F x2 x3 x4 x6 x7 → W p l e rm_X11_gives s m ([.ref (ad 40 0), .int p1] : List Value).toArray below meth c H locs 0 0 (q_X11_gives G ad K below ([.ref (ad 40 0), .int p1] : List Value).toArray s) (F0 m 284 ls [])) → ∀ (F : GF) (x2 : Int32) (x3 : Int32) (x4 : Int32) (x7 : Int32) (s0 : Int32) (s1 : Int32) (H : Heap) (locs : List Loc) (ls : Array Slot), gH G ad F H → va_S (gA G) s.heap H locs → lv_has ls 8 [(0, .ref (ad 40 0)), (2, .int x2), (3, .int x3), (4, .int x4), (7, .int x7)] → (P_X11_gives_318 k149 k284 K) F x2 x3 x4 x7 s0 s1 → W p l e rm_X11_gives s m ([.ref (ad 40 0), .int p1] : List Value).toArray below meth c H locs 0 0 (q_X11_gives G ad K below ([.ref (ad 40 0), .int p1] : List Value).toArray s) (F0 m 318 ls [.int s1, .int s0]) := by
    intro k149 hk149 k284 hk284 F x2 x3 x4 x7 s0 s1 H locs ls hH hS hl q
    unfold P_X11_gives_318 at q
    refine lv_isub hx hb dX11_gives_318 ?_
    refine lv_istore (lv' := [(6, .int (s0 - s1)), (0, .ref (ad 40 0)), (2, .int x2), (3, .int x3), (4, .int x4), (7, .int x7)]) hx hb dX11_gives_319 hl (by decide) rfl (fun ls hl => ?_)
    refine lv_iinc (v := x7 + 1) (lv' := [(7, .int (x7 + 1)), (6, .int (s0 - s1)), (0, .ref (ad 40 0)), (2, .int x2), (3, .int x3), (4, .int x4)]) hx hb dX11_gives_321 hl (k := 5) rfl rfl (by decide) rfl (fun ls hl => ?_)
    refine lv_goto (tgt := 284) hx hb dX11_gives_324 (by decide) ?_
    exact hk284 F x2 x3 x4 (s0 - s1) (x7 + 1) _ _ _ hH hS (lv_sub hl [2, 3, 4, 5, 1, 0] rfl) q
  have t_300 : ∀ (k149 : GF → Int32 → Int32 → Prop), (∀ (F : GF) (x2 : Int32) (x3 : Int32) (H : Heap) (locs : List Loc) (ls : Array Slot), gH G ad F H → va_S (gA G) s.heap H locs → lv_has ls 8 [(0, .ref (ad 40 0)), (2, .int x2), (3, .int x3)] → k149 F x2 x3 → W p l e rm_X11_gives s m ([.ref (ad 40 0), .int p1] : List Value).toArray below meth c H locs 0 0 (q_X11_gives G ad K below ([.ref (ad 40 0), .int p1] : List Value).toArray s) (F0 m 149 ls [])) → ∀ (k284 : GF → Int32 → Int32 → Int32 → Int32 → Int32 → Prop), (∀ (F : GF) (x2 : Int32) (x3 : Int32) (x4 : Int32) (x6 : Int32) (x7 : Int32) (H : Heap) (locs : List Loc) (ls : Array Slot), gH G ad F H → va_S (gA G) s.heap H locs → lv_has ls 8 [(0, .ref (ad 40 0)), (2, .int x2), (3, .int x3), (4, .int x4), (6, .int x6), (7, .int x7)] → k284 F x2 x3 x4 x6 x7 → W p l e rm_X11_gives s m ([.ref (ad 40 0), .int p1] : List Value).toArray below meth c H locs 0 0 (q_X11_gives G ad K below ([.ref (ad 40 0), .int p1] : List Value).toArray s) (F0 m 284 ls [])) → ∀ (F : GF) (x2 : Int32) (x3 : Int32) (x4 : Int32) (x6 : Int32) (x7 : Int32) (H : Heap) (locs : List Loc) (ls : Array Slot), gH G ad F H → va_S (gA G) s.heap H locs → lv_has ls 8 [(0, .ref (ad 40 0)), (2, .int x2), (3, .int x3), (4, .int x4), (6, .int x6), (7, .int x7)] → (P_X11_gives_300 k149 k284 K) F x2 x3 x4 x6 x7 → W p l e rm_X11_gives s m ([.ref (ad 40 0), .int p1] : List Value).toArray below meth c H locs 0 0 (q_X11_gives G ad K below ([.ref (ad 40 0), .int p1] : List Value).toArray s) (F0 m 300 ls []) := by
    intro k149 hk149 k284 hk284 F x2 x3 x4 x6 x7 H locs ls hH hS hl q
    unfold P_X11_gives_300 at q
    refine lv_iload hx hb dX11_gives_300 (lv_at hl 4 rfl) ?_
    refine lv_aload_n hx hb dX11_gives_302 rfl (lv_at hl 0 rfl) ?_
    refine lv_iload hx hb dX11_gives_303 (lv_at hl 5 rfl) ?_
    refine lv_iload hx hb dX11_gives_305 (lv_at hl 3 rfl) ?_
    refine va_calli (va_runV (As := [.int x7, .int x4]) (rest := [.int x6]) ⟨hx, hb, hml, hown, hts⟩ (c_X11_beyond l G ad F x7 x4 _) (cwV 2 hts gX11_gives_X11_beyond rfl rfl rfl (by decide +kernel) ⟨Nat.le_of_ble_eq_true rfl, Nat.le_of_ble_eq_true rfl⟩) ⟨fun a U g mk h => ⟨h.1, gD_blind h.2.1, h.2.2⟩, g_recv (C := RX11) (T := TX11) (N := 44) hK hH 40 0 (by decide) Nat.zero_lt_one rfl rfl, fun U hU hW => ⟨rfl, gD_at hK hG hB hH hS hU hW, q⟩⟩ rfl rfl hl.1 rfl (lv_room (Nat.le_of_ble_eq_true rfl)) dX11_gives_307 ⟨Nat.le_of_ble_eq_true rfl, Nat.le_of_ble_eq_true rfl⟩) hS (fun _ _ h => h) (fun _ h => h) (fun r15 F16 t H locs ht hvm q hB1 hz hk hS => ?_)
    have hH : gH G ad F16 H := gH_to ht hB1
    refine lv_if_ne (tgt := 317) hx hb dX11_gives_310 (by decide) (fun c17 => ?_) (fun c17 => ?_)
    · have q := (if_neg c17).mp q
      refine lv_iconst (v := 0) hx hb dX11_gives_317 (by decide) ?_
      exact t_318 k149 hk149 k284 hk284 F16 x2 x3 x4 x7 x6 0 _ _ _ hH hS (lv_sub hl [0, 1, 2, 3, 5] rfl) q
    · have q := (if_pos c17).mp q
      refine lv_iconst (v := 1) hx hb dX11_gives_313 (by decide) ?_
      refine lv_goto (tgt := 318) hx hb dX11_gives_314 (by decide) ?_
      exact t_318 k149 hk149 k284 hk284 F16 x2 x3 x4 x7 x6 1 _ _ _ hH hS (lv_sub hl [0, 1, 2, 3, 5] rfl) q
  have t_284 : ∀ (k149 : GF → Int32 → Int32 → Prop), (∀ (F : GF) (x2 : Int32) (x3 : Int32) (H : Heap) (locs : List Loc) (ls : Array Slot), gH G ad F H → va_S (gA G) s.heap H locs → lv_has ls 8 [(0, .ref (ad 40 0)), (2, .int x2), (3, .int x3)] → k149 F x2 x3 → W p l e rm_X11_gives s m ([.ref (ad 40 0), .int p1] : List Value).toArray below meth c H locs 0 0 (q_X11_gives G ad K below ([.ref (ad 40 0), .int p1] : List Value).toArray s) (F0 m 149 ls [])) → ∀ n : Nat, ∀ (F : GF) (x2 : Int32) (x3 : Int32) (x4 : Int32) (x6 : Int32) (x7 : Int32) (H : Heap) (locs : List Loc) (ls : Array Slot), gH G ad F H → va_S (gA G) s.heap H locs → lv_has ls 8 [(0, .ref (ad 40 0)), (2, .int x2), (3, .int x3), (4, .int x4), (6, .int x6), (7, .int x7)] → (P_X11_gives_284 k149 K n) F x2 x3 x4 x6 x7 → W p l e rm_X11_gives s m ([.ref (ad 40 0), .int p1] : List Value).toArray below meth c H locs 0 0 (q_X11_gives G ad K below ([.ref (ad 40 0), .int p1] : List Value).toArray s) (F0 m 284 ls []) := by
    intro k149 hk149
    intro n
    induction n with
    | zero =>
      intro F x2 x3 x4 x6 x7 H locs ls hH hS hl q
      exact False.elim q
    | succ n ih =>
      intro F x2 x3 x4 x6 x7 H locs ls hH hS hl q
      rw [P_X11_gives_284] at q
      refine lv_iload hx hb dX11_gives_284 (lv_at hl 4 rfl) ?_
      refine lv_if_gt (tgt := 300) hx hb dX11_gives_286 (by decide) (fun c14 => ?_) (fun c14 => ?_)
      · have q := (if_pos c14).mp q
        exact t_300 k149 hk149 (fun F a0 a1 a2 a3 a4 => P_X11_gives_284 k149 K n F a0 a1 a2 a3 a4) ih F x2 x3 x4 x6 x7 _ _ _ hH hS (lv_sub hl [0, 1, 2, 3, 4, 5] rfl) q
      · have q := (if_neg c14).mp q
        refine lv_aload_n hx hb dX11_gives_289 rfl (lv_at hl 0 rfl) ?_
        refine lv_iload hx hb dX11_gives_290 (lv_at hl 5 rfl) ?_
        refine lv_iload hx hb dX11_gives_292 (lv_at hl 3 rfl) ?_
        refine va_calli (va_runV (As := [.int x7, .int x4]) (rest := []) ⟨hx, hb, hml, hown, hts⟩ (c_X11_beyond l G ad F x7 x4 _) (cwV 2 hts gX11_gives_X11_beyond rfl rfl rfl (by decide +kernel) ⟨Nat.le_of_ble_eq_true rfl, Nat.le_of_ble_eq_true rfl⟩) ⟨fun a U g mk h => ⟨h.1, gD_blind h.2.1, h.2.2⟩, g_recv (C := RX11) (T := TX11) (N := 44) hK hH 40 0 (by decide) Nat.zero_lt_one rfl rfl, fun U hU hW => ⟨rfl, gD_at hK hG hB hH hS hU hW, q⟩⟩ rfl rfl hl.1 rfl (lv_room (Nat.le_of_ble_eq_true rfl)) dX11_gives_294 ⟨Nat.le_of_ble_eq_true rfl, Nat.le_of_ble_eq_true rfl⟩) hS (fun _ _ h => h) (fun _ h => h) (fun r18 F19 t H locs ht hvm q hB1 hz hk hS => ?_)
        have hH : gH G ad F19 H := gH_to ht hB1
        refine lv_if_eq (tgt := 327) hx hb dX11_gives_297 (by decide) (fun c20 => ?_) (fun c20 => ?_)
        · have q := (if_pos c20).mp q
          refine lv_aload_n hx hb dX11_gives_327 rfl (lv_at hl 0 rfl) ?_
          refine g_get (ci := 15) (v := .ref (ad 66 0)) (C := RX11) (T := TX11) (N := 44) hx hb hts (fun _ h => (List.mem_cons_of_mem _ (List.mem_append_left _ (List.mem_append_right _ h)))) hown hK hH 40 0 (by decide) Nat.zero_lt_one rfl rfl 35 (by decide) (hts (.fieldLink RX11 90 "BallotFoundryModel" "given" "[I") (List.mem_of_getElem? (i := 2) rfl)) (fun _ h => h) rfl dX11_gives_328 ?_
          refine lv_iload hx hb dX11_gives_331 (lv_at hl 5 rfl) ?_
          refine lv_dup2_11 hx hb dX11_gives_333 rfl rfl ?_
          obtain ⟨h21, q⟩ := q
          refine g_iald hx hb hK hH 66 0 (by decide) Nat.zero_lt_one 5 rfl h21 dX11_gives_334 ?_
          refine lv_iconst (v := 1) hx hb dX11_gives_335 (by decide) ?_
          refine lv_iadd hx hb dX11_gives_336 ?_
          obtain ⟨h22, q⟩ := q
          refine g_iast hx hb hK hH hS 66 0 (by decide) Nat.zero_lt_one (by decide) 5 (fun _ => rfl) h22 dX11_gives_337 (fun H locs hH hS => ?_)
          obtain ⟨F23, eF23⟩ : ∃ z, z = fs F19 66 0 x7.toNatClampNeg ((F19 66 0 x7.toNatClampNeg) + 1) := ⟨_, rfl⟩
          have q := q F23 eF23
          rw [← eF23] at hH
          refine lv_aload_n hx hb dX11_gives_338 rfl (lv_at hl 0 rfl) ?_
          refine g_get (ci := 15) (v := .ref (ad 67 0)) (C := RX11) (T := TX11) (N := 44) hx hb hts (fun _ h => (List.mem_cons_of_mem _ (List.mem_append_left _ (List.mem_append_right _ h)))) hown hK hH 40 0 (by decide) Nat.zero_lt_one rfl rfl 36 (by decide) (hts (.fieldLink RX11 93 "BallotFoundryModel" "order" "[I") (List.mem_of_getElem? (i := 11) rfl)) (fun _ h => h) rfl dX11_gives_339 ?_
          refine lv_aload_n hx hb dX11_gives_342 rfl (lv_at hl 0 rfl) ?_
          refine g_get (ci := 15) (v := .int (F23 40 0 37)) (C := RX11) (T := TX11) (N := 44) hx hb hts (fun _ h => (List.mem_cons_of_mem _ (List.mem_append_left _ (List.mem_append_right _ h)))) hown hK hH 40 0 (by decide) Nat.zero_lt_one rfl rfl 37 (by decide) (hts (.fieldLink RX11 220 "BallotFoundryModel" "givenAll" "I") (List.mem_of_getElem? (i := 7) rfl)) (fun _ h => h) rfl dX11_gives_343 ?_
          refine lv_iload hx hb dX11_gives_346 (lv_at hl 5 rfl) ?_
          obtain ⟨h24, q⟩ := q
          refine g_iast hx hb hK hH hS 67 0 (by decide) Nat.zero_lt_one (by decide) 30 (fun _ => rfl) h24 dX11_gives_348 (fun H locs hH hS => ?_)
          obtain ⟨F25, eF25⟩ : ∃ z, z = fs F23 67 0 (F23 40 0 37).toNatClampNeg x7 := ⟨_, rfl⟩
          have q := q F25 eF25
          rw [← eF25] at hH
          refine lv_aload_n hx hb dX11_gives_349 rfl (lv_at hl 0 rfl) ?_
          refine lv_dup hx hb dX11_gives_350 rfl ?_
          refine g_get (ci := 15) (v := .int (F25 40 0 37)) (C := RX11) (T := TX11) (N := 44) hx hb hts (fun _ h => (List.mem_cons_of_mem _ (List.mem_append_left _ (List.mem_append_right _ h)))) hown hK hH 40 0 (by decide) Nat.zero_lt_one rfl rfl 37 (by decide) (hts (.fieldLink RX11 220 "BallotFoundryModel" "givenAll" "I") (List.mem_of_getElem? (i := 7) rfl)) (fun _ h => h) rfl dX11_gives_351 ?_
          refine lv_iconst (v := 1) hx hb dX11_gives_354 (by decide) ?_
          refine lv_iadd hx hb dX11_gives_355 ?_
          refine g_put (ci := 15) (v := .int ((F25 40 0 37) + 1)) (C := RX11) (T := TX11) (N := 44) hx hb hts (fun _ h => (List.mem_cons_of_mem _ (List.mem_append_left _ (List.mem_append_right _ h)))) tyX11 tyX11_ok nmX11 hown hK hH hS 40 0 (by decide) Nat.zero_lt_one (by decide) rfl rfl 37 (by decide) (hts (.fieldLink RX11 220 "BallotFoundryModel" "givenAll" "I") (List.mem_of_getElem? (i := 7) rfl)) (fun _ h => h) rfl (ty := .int) (by decide +kernel) rfl rfl (Nat.le_of_ble_eq_true rfl) ((F25 40 0 37) + 1) rfl dX11_gives_356 (fun H locs hH hS => ?_)
          obtain ⟨F26, eF26⟩ : ∃ z, z = fs F25 40 0 37 ((F25 40 0 37) + 1) := ⟨_, rfl⟩
          have q := q F26 eF26
          rw [← eF26] at hH
          refine lv_goto (tgt := 149) hx hb dX11_gives_359 (by decide) ?_
          exact hk149 F26 x2 x3 _ _ _ hH hS (lv_sub hl [0, 1, 2] rfl) q
        · have q := (if_neg c20).mp q
          exact t_300 k149 hk149 (fun F a0 a1 a2 a3 a4 => P_X11_gives_284 k149 K n F a0 a1 a2 a3 a4) ih F19 x2 x3 x4 x6 x7 _ _ _ hH hS (lv_sub hl [0, 1, 2, 3, 4, 5] rfl) q
  have t_280 : ∀ (k149 : GF → Int32 → Int32 → Prop), (∀ (F : GF) (x2 : Int32) (x3 : Int32) (H : Heap) (locs : List Loc) (ls : Array Slot), gH G ad F H → va_S (gA G) s.heap H locs → lv_has ls 8 [(0, .ref (ad 40 0)), (2, .int x2), (3, .int x3)] → k149 F x2 x3 → W p l e rm_X11_gives s m ([.ref (ad 40 0), .int p1] : List Value).toArray below meth c H locs 0 0 (q_X11_gives G ad K below ([.ref (ad 40 0), .int p1] : List Value).toArray s) (F0 m 149 ls [])) → ∀ (F : GF) (x2 : Int32) (x3 : Int32) (x4 : Int32) (x6 : Int32) (H : Heap) (locs : List Loc) (ls : Array Slot), gH G ad F H → va_S (gA G) s.heap H locs → lv_has ls 8 [(0, .ref (ad 40 0)), (2, .int x2), (3, .int x3), (4, .int x4), (6, .int x6)] → (P_X11_gives_280 k149 K) F x2 x3 x4 x6 → W p l e rm_X11_gives s m ([.ref (ad 40 0), .int p1] : List Value).toArray below meth c H locs 0 0 (q_X11_gives G ad K below ([.ref (ad 40 0), .int p1] : List Value).toArray s) (F0 m 280 ls []) := by
    intro k149 hk149 F x2 x3 x4 x6 H locs ls hH hS hl q
    unfold P_X11_gives_280 at q
    refine lv_iload hx hb dX11_gives_280 (lv_at hl 3 rfl) ?_
    refine lv_istore (lv' := [(7, .int x4), (0, .ref (ad 40 0)), (2, .int x2), (3, .int x3), (4, .int x4), (6, .int x6)]) hx hb dX11_gives_282 hl (by decide) rfl (fun ls hl => ?_)
    obtain ⟨nn, q⟩ := q
    exact t_284 k149 hk149 nn F x2 x3 x4 x6 x4 _ _ _ hH hS (lv_sub hl [1, 2, 3, 4, 5, 0] rfl) q
  have t_234 : ∀ (k149 : GF → Int32 → Int32 → Prop), (∀ (F : GF) (x2 : Int32) (x3 : Int32) (H : Heap) (locs : List Loc) (ls : Array Slot), gH G ad F H → va_S (gA G) s.heap H locs → lv_has ls 8 [(0, .ref (ad 40 0)), (2, .int x2), (3, .int x3)] → k149 F x2 x3 → W p l e rm_X11_gives s m ([.ref (ad 40 0), .int p1] : List Value).toArray below meth c H locs 0 0 (q_X11_gives G ad K below ([.ref (ad 40 0), .int p1] : List Value).toArray s) (F0 m 149 ls [])) → ∀ (k173 : GF → Int32 → Int32 → Int32 → Int32 → Int32 → Prop), (∀ (F : GF) (x2 : Int32) (x3 : Int32) (x4 : Int32) (x5 : Int32) (x6 : Int32) (H : Heap) (locs : List Loc) (ls : Array Slot), gH G ad F H → va_S (gA G) s.heap H locs → lv_has ls 8 [(0, .ref (ad 40 0)), (2, .int x2), (3, .int x3), (4, .int x4), (5, .int x5), (6, .int x6)] → k173 F x2 x3 x4 x5 x6 → W p l e rm_X11_gives s m ([.ref (ad 40 0), .int p1] : List Value).toArray below meth c H locs 0 0 (q_X11_gives G ad K below ([.ref (ad 40 0), .int p1] : List Value).toArray s) (F0 m 173 ls [])) → ∀ (F : GF) (x2 : Int32) (x3 : Int32) (x5 : Int32) (x6 : Int32) (s0 : Int32) (H : Heap) (locs : List Loc) (ls : Array Slot), gH G ad F H → va_S (gA G) s.heap H locs → lv_has ls 8 [(0, .ref (ad 40 0)), (2, .int x2), (3, .int x3), (5, .int x5), (6, .int x6)] → (P_X11_gives_234 k149 k173 K) F x2 x3 x5 x6 s0 → W p l e rm_X11_gives s m ([.ref (ad 40 0), .int p1] : List Value).toArray below meth c H locs 0 0 (q_X11_gives G ad K below ([.ref (ad 40 0), .int p1] : List Value).toArray s) (F0 m 234 ls [.int s0]) := by
    intro k149 hk149 k173 hk173 F x2 x3 x5 x6 s0 H locs ls hH hS hl q
    unfold P_X11_gives_234 at q
    refine lv_istore (lv' := [(4, .int s0), (0, .ref (ad 40 0)), (2, .int x2), (3, .int x3), (5, .int x5), (6, .int x6)]) hx hb dX11_gives_234 hl (by decide) rfl (fun ls hl => ?_)
    refine lv_iinc (v := x6 + 1) (lv' := [(6, .int (x6 + 1)), (4, .int s0), (0, .ref (ad 40 0)), (2, .int x2), (3, .int x3), (5, .int x5)]) hx hb dX11_gives_236 hl (k := 5) rfl rfl (by decide) rfl (fun ls hl => ?_)
    refine lv_goto (tgt := 173) hx hb dX11_gives_239 (by decide) ?_
    exact hk173 F x2 x3 s0 x5 (x6 + 1) _ _ _ hH hS (lv_sub hl [2, 3, 4, 1, 5, 0] rfl) q
  have t_214 : ∀ (k149 : GF → Int32 → Int32 → Prop), (∀ (F : GF) (x2 : Int32) (x3 : Int32) (H : Heap) (locs : List Loc) (ls : Array Slot), gH G ad F H → va_S (gA G) s.heap H locs → lv_has ls 8 [(0, .ref (ad 40 0)), (2, .int x2), (3, .int x3)] → k149 F x2 x3 → W p l e rm_X11_gives s m ([.ref (ad 40 0), .int p1] : List Value).toArray below meth c H locs 0 0 (q_X11_gives G ad K below ([.ref (ad 40 0), .int p1] : List Value).toArray s) (F0 m 149 ls [])) → ∀ (k173 : GF → Int32 → Int32 → Int32 → Int32 → Int32 → Prop), (∀ (F : GF) (x2 : Int32) (x3 : Int32) (x4 : Int32) (x5 : Int32) (x6 : Int32) (H : Heap) (locs : List Loc) (ls : Array Slot), gH G ad F H → va_S (gA G) s.heap H locs → lv_has ls 8 [(0, .ref (ad 40 0)), (2, .int x2), (3, .int x3), (4, .int x4), (5, .int x5), (6, .int x6)] → k173 F x2 x3 x4 x5 x6 → W p l e rm_X11_gives s m ([.ref (ad 40 0), .int p1] : List Value).toArray below meth c H locs 0 0 (q_X11_gives G ad K below ([.ref (ad 40 0), .int p1] : List Value).toArray s) (F0 m 173 ls [])) → ∀ (F : GF) (x2 : Int32) (x3 : Int32) (x4 : Int32) (x6 : Int32) (s0 : Int32) (H : Heap) (locs : List Loc) (ls : Array Slot), gH G ad F H → va_S (gA G) s.heap H locs → lv_has ls 8 [(0, .ref (ad 40 0)), (2, .int x2), (3, .int x3), (4, .int x4), (6, .int x6)] → (P_X11_gives_214 k149 k173 K) F x2 x3 x4 x6 s0 → W p l e rm_X11_gives s m ([.ref (ad 40 0), .int p1] : List Value).toArray below meth c H locs 0 0 (q_X11_gives G ad K below ([.ref (ad 40 0), .int p1] : List Value).toArray s) (F0 m 214 ls [.int s0]) := by
    intro k149 hk149 k173 hk173 F x2 x3 x4 x6 s0 H locs ls hH hS hl q
    unfold P_X11_gives_214 at q
    refine lv_istore (lv' := [(5, .int s0), (0, .ref (ad 40 0)), (2, .int x2), (3, .int x3), (4, .int x4), (6, .int x6)]) hx hb dX11_gives_214 hl (by decide) rfl (fun ls hl => ?_)
    refine lv_aload_n hx hb dX11_gives_216 rfl (lv_at hl 1 rfl) ?_
    refine lv_iload hx hb dX11_gives_217 (lv_at hl 5 rfl) ?_
    refine lv_iload hx hb dX11_gives_219 (lv_at hl 4 rfl) ?_
    refine va_calli (va_runV (As := [.int x6, .int x4]) (rest := []) ⟨hx, hb, hml, hown, hts⟩ (c_X11_beyond l G ad F x6 x4 _) (cwV 2 hts gX11_gives_X11_beyond rfl rfl rfl (by decide +kernel) ⟨Nat.le_of_ble_eq_true rfl, Nat.le_of_ble_eq_true rfl⟩) ⟨fun a U g mk h => ⟨h.1, gD_blind h.2.1, h.2.2⟩, g_recv (C := RX11) (T := TX11) (N := 44) hK hH 40 0 (by decide) Nat.zero_lt_one rfl rfl, fun U hU hW => ⟨rfl, gD_at hK hG hB hH hS hU hW, q⟩⟩ rfl rfl hl.1 rfl (lv_room (Nat.le_of_ble_eq_true rfl)) dX11_gives_221 ⟨Nat.le_of_ble_eq_true rfl, Nat.le_of_ble_eq_true rfl⟩) hS (fun _ _ h => h) (fun _ h => h) (fun r36 F37 t H locs ht hvm q hB1 hz hk hS => ?_)
    have hH : gH G ad F37 H := gH_to ht hB1
    refine lv_if_le (tgt := 232) hx hb dX11_gives_224 (by decide) (fun c38 => ?_) (fun c38 => ?_)
    · have q := (if_pos c38).mp q
      refine lv_iload hx hb dX11_gives_232 (lv_at hl 4 rfl) ?_
      exact t_234 k149 hk149 k173 hk173 F37 x2 x3 s0 x6 x4 _ _ _ hH hS (lv_sub hl [1, 2, 3, 0, 5] rfl) q
    · have q := (if_neg c38).mp q
      refine lv_iload hx hb dX11_gives_227 (lv_at hl 5 rfl) ?_
      refine lv_goto (tgt := 234) hx hb dX11_gives_229 (by decide) ?_
      exact t_234 k149 hk149 k173 hk173 F37 x2 x3 s0 x6 x6 _ _ _ hH hS (lv_sub hl [1, 2, 3, 0, 5] rfl) q
  have t_173 : ∀ (k149 : GF → Int32 → Int32 → Prop), (∀ (F : GF) (x2 : Int32) (x3 : Int32) (H : Heap) (locs : List Loc) (ls : Array Slot), gH G ad F H → va_S (gA G) s.heap H locs → lv_has ls 8 [(0, .ref (ad 40 0)), (2, .int x2), (3, .int x3)] → k149 F x2 x3 → W p l e rm_X11_gives s m ([.ref (ad 40 0), .int p1] : List Value).toArray below meth c H locs 0 0 (q_X11_gives G ad K below ([.ref (ad 40 0), .int p1] : List Value).toArray s) (F0 m 149 ls [])) → ∀ n : Nat, ∀ (F : GF) (x2 : Int32) (x3 : Int32) (x4 : Int32) (x5 : Int32) (x6 : Int32) (H : Heap) (locs : List Loc) (ls : Array Slot), gH G ad F H → va_S (gA G) s.heap H locs → lv_has ls 8 [(0, .ref (ad 40 0)), (2, .int x2), (3, .int x3), (4, .int x4), (5, .int x5), (6, .int x6)] → (P_X11_gives_173 k149 K n) F x2 x3 x4 x5 x6 → W p l e rm_X11_gives s m ([.ref (ad 40 0), .int p1] : List Value).toArray below meth c H locs 0 0 (q_X11_gives G ad K below ([.ref (ad 40 0), .int p1] : List Value).toArray s) (F0 m 173 ls []) := by
    intro k149 hk149
    intro n
    induction n with
    | zero =>
      intro F x2 x3 x4 x5 x6 H locs ls hH hS hl q
      exact False.elim q
    | succ n ih =>
      intro F x2 x3 x4 x5 x6 H locs ls hH hS hl q
      rw [P_X11_gives_173] at q
      refine lv_iload hx hb dX11_gives_173 (lv_at hl 5 rfl) ?_
      refine lv_iconst (v := 5) hx hb dX11_gives_175 (by decide) ?_
      refine lv_icmp_ge (tgt := 242) hx hb dX11_gives_176 (by decide) (fun c12 => ?_) (fun c12 => ?_)
      · have q := (if_pos c12).mp q
        refine lv_iconst (v := 0) hx hb dX11_gives_242 (by decide) ?_
        refine lv_istore (lv' := [(6, .int 0), (0, .ref (ad 40 0)), (2, .int x2), (3, .int x3), (4, .int x4), (5, .int x5)]) hx hb dX11_gives_243 hl (by decide) rfl (fun ls hl => ?_)
        refine lv_iload hx hb dX11_gives_245 (lv_at hl 5 rfl) ?_
        refine lv_iconst (v := 1) hx hb dX11_gives_247 (by decide) ?_
        refine lv_icmp_le (tgt := 280) hx hb dX11_gives_248 (by decide) (fun c13 => ?_) (fun c13 => ?_)
        · have q := (if_pos c13).mp q
          exact t_280 k149 hk149 F x2 x3 x4 0 _ _ _ hH hS (lv_sub hl [1, 2, 3, 4, 0] rfl) q
        · have q := (if_neg c13).mp q
          refine lv_iload_n hx hb dX11_gives_251 rfl (lv_at hl 2 rfl) ?_
          refine lv_sipush (v := 1103) hx hb dX11_gives_252 (by decide) ?_
          refine lv_imul hx hb dX11_gives_255 ?_
          refine lv_sipush (v := 12345) hx hb dX11_gives_256 (by decide) ?_
          refine lv_iadd hx hb dX11_gives_259 ?_
          refine lv_ldc (v := 65536) hx hb hown (hts (.constant RX11 229 (65536)) (List.mem_of_getElem? (i := 10) rfl)) dX11_gives_260 ?_
          refine lv_irem hx hb dX11_gives_262 (by decide) ?_
          refine lv_topi (fun y27 ey27 => ?_)
          have q := q y27 ey27
          refine lv_istore_n (lv' := [(2, .int y27), (6, .int 0), (0, .ref (ad 40 0)), (3, .int x3), (4, .int x4), (5, .int x5)]) hx hb dX11_gives_263 rfl hl (by decide) rfl (fun ls hl => ?_)
          refine lv_iload_n hx hb dX11_gives_264 rfl (lv_at hl 0 rfl) ?_
          refine lv_iload hx hb dX11_gives_265 (lv_at hl 5 rfl) ?_
          obtain ⟨h28, q⟩ := q
          refine lv_irem hx hb dX11_gives_267 h28 ?_
          refine lv_istore (lv' := [(6, .int (y27 - y27 / x5 * x5)), (2, .int y27), (0, .ref (ad 40 0)), (3, .int x3), (4, .int x4), (5, .int x5)]) hx hb dX11_gives_268 hl (by decide) rfl (fun ls hl => ?_)
          refine lv_aload_n hx hb dX11_gives_270 rfl (lv_at hl 2 rfl) ?_
          refine lv_dup hx hb dX11_gives_271 rfl ?_
          refine g_get (ci := 15) (v := .int (F 40 0 38)) (C := RX11) (T := TX11) (N := 44) hx hb hts (fun _ h => (List.mem_cons_of_mem _ (List.mem_append_left _ (List.mem_append_right _ h)))) hown hK hH 40 0 (by decide) Nat.zero_lt_one rfl rfl 38 (by decide) (hts (.fieldLink RX11 223 "BallotFoundryModel" "lots" "I") (List.mem_of_getElem? (i := 8) rfl)) (fun _ h => h) rfl dX11_gives_272 ?_
          refine lv_iconst (v := 1) hx hb dX11_gives_275 (by decide) ?_
          refine lv_iadd hx hb dX11_gives_276 ?_
          refine g_put (ci := 15) (v := .int ((F 40 0 38) + 1)) (C := RX11) (T := TX11) (N := 44) hx hb hts (fun _ h => (List.mem_cons_of_mem _ (List.mem_append_left _ (List.mem_append_right _ h)))) tyX11 tyX11_ok nmX11 hown hK hH hS 40 0 (by decide) Nat.zero_lt_one (by decide) rfl rfl 38 (by decide) (hts (.fieldLink RX11 223 "BallotFoundryModel" "lots" "I") (List.mem_of_getElem? (i := 8) rfl)) (fun _ h => h) rfl (ty := .int) (by decide +kernel) rfl rfl (Nat.le_of_ble_eq_true rfl) ((F 40 0 38) + 1) rfl dX11_gives_277 (fun H locs hH hS => ?_)
          obtain ⟨F29, eF29⟩ : ∃ z, z = fs F 40 0 38 ((F 40 0 38) + 1) := ⟨_, rfl⟩
          have q := q F29 eF29
          rw [← eF29] at hH
          exact t_280 k149 hk149 F29 y27 x3 x4 (y27 - y27 / x5 * x5) _ _ _ hH hS (lv_sub hl [2, 1, 3, 4, 0] rfl) q
      · have q := (if_neg c12).mp q
        refine lv_aload_n hx hb dX11_gives_179 rfl (lv_at hl 0 rfl) ?_
        refine lv_iload hx hb dX11_gives_180 (lv_at hl 5 rfl) ?_
        refine lv_iload hx hb dX11_gives_182 (lv_at hl 3 rfl) ?_
        refine va_calli (va_runV (As := [.int x6, .int x4]) (rest := []) ⟨hx, hb, hml, hown, hts⟩ (c_X11_beyond l G ad F x6 x4 _) (cwV 2 hts gX11_gives_X11_beyond rfl rfl rfl (by decide +kernel) ⟨Nat.le_of_ble_eq_true rfl, Nat.le_of_ble_eq_true rfl⟩) ⟨fun a U g mk h => ⟨h.1, gD_blind h.2.1, h.2.2⟩, g_recv (C := RX11) (T := TX11) (N := 44) hK hH 40 0 (by decide) Nat.zero_lt_one rfl rfl, fun U hU hW => ⟨rfl, gD_at hK hG hB hH hS hU hW, q⟩⟩ rfl rfl hl.1 rfl (lv_room (Nat.le_of_ble_eq_true rfl)) dX11_gives_184 ⟨Nat.le_of_ble_eq_true rfl, Nat.le_of_ble_eq_true rfl⟩) hS (fun _ _ h => h) (fun _ h => h) (fun r30 F31 t H locs ht hvm q hB1 hz hk hS => ?_)
        have hH : gH G ad F31 H := gH_to ht hB1
        refine lv_if_le (tgt := 194) hx hb dX11_gives_187 (by decide) (fun c32 => ?_) (fun c32 => ?_)
        · have q := (if_pos c32).mp q
          refine lv_aload_n hx hb dX11_gives_194 rfl (lv_at hl 0 rfl) ?_
          refine lv_iload hx hb dX11_gives_195 (lv_at hl 5 rfl) ?_
          refine lv_iload hx hb dX11_gives_197 (lv_at hl 3 rfl) ?_
          refine va_calli (va_runV (As := [.int x6, .int x4]) (rest := []) ⟨hx, hb, hml, hown, hts⟩ (c_X11_beyond l G ad F31 x6 x4 _) (cwV 2 hts gX11_gives_X11_beyond rfl rfl rfl (by decide +kernel) ⟨Nat.le_of_ble_eq_true rfl, Nat.le_of_ble_eq_true rfl⟩) ⟨fun a U g mk h => ⟨h.1, gD_blind h.2.1, h.2.2⟩, g_recv (C := RX11) (T := TX11) (N := 44) hK hH 40 0 (by decide) Nat.zero_lt_one rfl rfl, fun U hU hW => ⟨rfl, gD_at hK hG hB hH hS hU hW, q⟩⟩ rfl rfl hl.1 rfl (lv_room (Nat.le_of_ble_eq_true rfl)) dX11_gives_199 ⟨Nat.le_of_ble_eq_true rfl, Nat.le_of_ble_eq_true rfl⟩) hS (fun _ _ h => h) (fun _ h => h) (fun r33 F34 t H locs ht hvm q hB1 hz hk hS => ?_)
          have hH : gH G ad F34 H := gH_to ht hB1
          refine lv_if_ne (tgt := 212) hx hb dX11_gives_202 (by decide) (fun c35 => ?_) (fun c35 => ?_)
          · have q := (if_neg c35).mp q
            refine lv_iload hx hb dX11_gives_212 (lv_at hl 4 rfl) ?_
            exact t_214 k149 hk149 (fun F a0 a1 a2 a3 a4 => P_X11_gives_173 k149 K n F a0 a1 a2 a3 a4) ih F34 x2 x3 x4 x6 x5 _ _ _ hH hS (lv_sub hl [0, 1, 2, 3, 5] rfl) q
          · have q := (if_pos c35).mp q
            refine lv_iload hx hb dX11_gives_205 (lv_at hl 4 rfl) ?_
            refine lv_iconst (v := 1) hx hb dX11_gives_207 (by decide) ?_
            refine lv_iadd hx hb dX11_gives_208 ?_
            refine lv_goto (tgt := 214) hx hb dX11_gives_209 (by decide) ?_
            exact t_214 k149 hk149 (fun F a0 a1 a2 a3 a4 => P_X11_gives_173 k149 K n F a0 a1 a2 a3 a4) ih F34 x2 x3 x4 x6 (x5 + 1) _ _ _ hH hS (lv_sub hl [0, 1, 2, 3, 5] rfl) q
        · have q := (if_neg c32).mp q
          refine lv_iconst (v := 1) hx hb dX11_gives_190 (by decide) ?_
          refine lv_goto (tgt := 214) hx hb dX11_gives_191 (by decide) ?_
          exact t_214 k149 hk149 (fun F a0 a1 a2 a3 a4 => P_X11_gives_173 k149 K n F a0 a1 a2 a3 a4) ih F31 x2 x3 x4 x6 1 _ _ _ hH hS (lv_sub hl [0, 1, 2, 3, 5] rfl) q
  have t_149 : ∀ n : Nat, ∀ (F : GF) (x2 : Int32) (x3 : Int32) (H : Heap) (locs : List Loc) (ls : Array Slot), gH G ad F H → va_S (gA G) s.heap H locs → lv_has ls 8 [(0, .ref (ad 40 0)), (2, .int x2), (3, .int x3)] → (P_X11_gives_149 K n) F x2 x3 → W p l e rm_X11_gives s m ([.ref (ad 40 0), .int p1] : List Value).toArray below meth c H locs 0 0 (q_X11_gives G ad K below ([.ref (ad 40 0), .int p1] : List Value).toArray s) (F0 m 149 ls []) := by
    intro n
    induction n with
    | zero =>
      intro F x2 x3 H locs ls hH hS hl q
      exact False.elim q
    | succ n ih =>
      intro F x2 x3 H locs ls hH hS hl q
      rw [P_X11_gives_149] at q
      refine lv_iload_n hx hb dX11_gives_149 rfl (lv_at hl 2 rfl) ?_
      refine lv_if_eq (tgt := 362) hx hb dX11_gives_150 (by decide) (fun c10 => ?_) (fun c10 => ?_)
      · have q := (if_pos c10).mp q
        exact (W.vret hx hb hr (fun t ht hW => ⟨⟨F, rfl, q, gH_at ht hH⟩, hS.F ht⟩) hS.2.2 dX11_gives_362)
      · have q := (if_neg c10).mp q
        refine lv_aload_n hx hb dX11_gives_153 rfl (lv_at hl 0 rfl) ?_
        refine g_get (ci := 15) (v := .int (F 40 0 37)) (C := RX11) (T := TX11) (N := 44) hx hb hts (fun _ h => (List.mem_cons_of_mem _ (List.mem_append_left _ (List.mem_append_right _ h)))) hown hK hH 40 0 (by decide) Nat.zero_lt_one rfl rfl 37 (by decide) (hts (.fieldLink RX11 220 "BallotFoundryModel" "givenAll" "I") (List.mem_of_getElem? (i := 7) rfl)) (fun _ h => h) rfl dX11_gives_154 ?_
        refine lv_aload_n hx hb dX11_gives_157 rfl (lv_at hl 0 rfl) ?_
        refine g_get (ci := 15) (v := .int (F 40 0 16)) (C := RX11) (T := TX11) (N := 44) hx hb hts (fun _ h => (List.mem_cons_of_mem _ (List.mem_append_left _ (List.mem_append_right _ h)))) hown hK hH 40 0 (by decide) Nat.zero_lt_one rfl rfl 16 (by decide) (hts (.fieldLink RX11 184 "BallotFoundryModel" "seats" "I") (List.mem_of_getElem? (i := 9) rfl)) (fun _ h => h) rfl dX11_gives_158 ?_
        refine lv_icmp_ge (tgt := 362) hx hb dX11_gives_161 (by decide) (fun c11 => ?_) (fun c11 => ?_)
        · have q := (if_pos c11).mp q
          exact (W.vret hx hb hr (fun t ht hW => ⟨⟨F, rfl, q, gH_at ht hH⟩, hS.F ht⟩) hS.2.2 dX11_gives_362)
        · have q := (if_neg c11).mp q
          refine lv_iconst (v := 0) hx hb dX11_gives_164 (by decide) ?_
          refine lv_istore (lv' := [(4, .int 0), (0, .ref (ad 40 0)), (2, .int x2), (3, .int x3)]) hx hb dX11_gives_165 hl (by decide) rfl (fun ls hl => ?_)
          refine lv_iconst (v := 0) hx hb dX11_gives_167 (by decide) ?_
          refine lv_istore (lv' := [(5, .int 0), (4, .int 0), (0, .ref (ad 40 0)), (2, .int x2), (3, .int x3)]) hx hb dX11_gives_168 hl (by decide) rfl (fun ls hl => ?_)
          refine lv_iconst (v := 0) hx hb dX11_gives_170 (by decide) ?_
          refine lv_istore (lv' := [(6, .int 0), (5, .int 0), (4, .int 0), (0, .ref (ad 40 0)), (2, .int x2), (3, .int x3)]) hx hb dX11_gives_171 hl (by decide) rfl (fun ls hl => ?_)
          obtain ⟨nn, q⟩ := q
          exact t_173 (fun F a0 a1 => P_X11_gives_149 K n F a0 a1) ih nn F x2 x3 0 0 0 _ _ _ hH hS (lv_sub hl [3, 4, 5, 2, 1, 0] rfl) q
  have t_148 : ∀ (F : GF) (x2 : Int32) (s0 : Int32) (H : Heap) (locs : List Loc) (ls : Array Slot), gH G ad F H → va_S (gA G) s.heap H locs → lv_has ls 8 [(0, .ref (ad 40 0)), (2, .int x2)] → (P_X11_gives_148 K) F x2 s0 → W p l e rm_X11_gives s m ([.ref (ad 40 0), .int p1] : List Value).toArray below meth c H locs 0 0 (q_X11_gives G ad K below ([.ref (ad 40 0), .int p1] : List Value).toArray s) (F0 m 148 ls [.int s0]) := by
    intro F x2 s0 H locs ls hH hS hl q
    unfold P_X11_gives_148 at q
    refine lv_istore_n (lv' := [(3, .int s0), (0, .ref (ad 40 0)), (2, .int x2)]) hx hb dX11_gives_148 rfl hl (by decide) rfl (fun ls hl => ?_)
    obtain ⟨nn, q⟩ := q
    exact t_149 nn F x2 s0 _ _ _ hH hS (lv_sub hl [1, 2, 0] rfl) q
  have t_82 : ∀ (k4 : GF → Int32 → Int32 → Int32 → Prop), (∀ (F : GF) (x1 : Int32) (x2 : Int32) (x3 : Int32) (H : Heap) (locs : List Loc) (ls : Array Slot), gH G ad F H → va_S (gA G) s.heap H locs → lv_has ls 8 [(0, .ref (ad 40 0)), (1, .int x1), (2, .int x2), (3, .int x3)] → k4 F x1 x2 x3 → W p l e rm_X11_gives s m ([.ref (ad 40 0), .int p1] : List Value).toArray below meth c H locs 0 0 (q_X11_gives G ad K below ([.ref (ad 40 0), .int p1] : List Value).toArray s) (F0 m 4 ls [])) → ∀ (k35 : GF → Int32 → Int32 → Int32 → Int32 → Prop), (∀ (F : GF) (x1 : Int32) (x2 : Int32) (x3 : Int32) (x4 : Int32) (H : Heap) (locs : List Loc) (ls : Array Slot), gH G ad F H → va_S (gA G) s.heap H locs → lv_has ls 8 [(0, .ref (ad 40 0)), (1, .int x1), (2, .int x2), (3, .int x3), (4, .int x4)] → k35 F x1 x2 x3 x4 → W p l e rm_X11_gives s m ([.ref (ad 40 0), .int p1] : List Value).toArray below meth c H locs 0 0 (q_X11_gives G ad K below ([.ref (ad 40 0), .int p1] : List Value).toArray s) (F0 m 35 ls [])) → ∀ (F : GF) (x1 : Int32) (x2 : Int32) (x3 : Int32) (x4 : Int32) (s1 : Int32) (s2 : Int32) (s3 : Int32) (H : Heap) (locs : List Loc) (ls : Array Slot), gH G ad F H → va_S (gA G) s.heap H locs → lv_has ls 8 [(0, .ref (ad 40 0)), (1, .int x1), (2, .int x2), (3, .int x3), (4, .int x4)] → (P_X11_gives_82 k4 k35 K) F x1 x2 x3 x4 s1 s2 s3 → W p l e rm_X11_gives s m ([.ref (ad 40 0), .int p1] : List Value).toArray below meth c H locs 0 0 (q_X11_gives G ad K below ([.ref (ad 40 0), .int p1] : List Value).toArray s) (F0 m 82 ls [.int s3, .int s2, .int s1, .ref (ad 65 0)]) := by
    intro k4 hk4 k35 hk35 F x1 x2 x3 x4 s1 s2 s3 H locs ls hH hS hl q
    unfold P_X11_gives_82 at q
    refine lv_iadd hx hb dX11_gives_82 ?_
    obtain ⟨h50, q⟩ := q
    refine g_iast hx hb hK hH hS 65 0 (by decide) Nat.zero_lt_one (by decide) 5 (fun _ => rfl) h50 dX11_gives_83 (fun H locs hH hS => ?_)
    obtain ⟨F51, eF51⟩ : ∃ z, z = fs F 65 0 s1.toNatClampNeg (s2 + s3) := ⟨_, rfl⟩
    have q := q F51 eF51
    rw [← eF51] at hH
    refine lv_iinc (v := x4 + 1) (lv' := [(4, .int (x4 + 1)), (0, .ref (ad 40 0)), (1, .int x1), (2, .int x2), (3, .int x3)]) hx hb dX11_gives_84 hl (k := 4) rfl rfl (by decide) rfl (fun ls hl => ?_)
    refine lv_goto (tgt := 35) hx hb dX11_gives_87 (by decide) ?_
    exact hk35 F51 x1 x2 x3 (x4 + 1) _ _ _ hH hS (lv_sub hl [1, 2, 3, 4, 0] rfl) q
  have t_35 : ∀ (k4 : GF → Int32 → Int32 → Int32 → Prop), (∀ (F : GF) (x1 : Int32) (x2 : Int32) (x3 : Int32) (H : Heap) (locs : List Loc) (ls : Array Slot), gH G ad F H → va_S (gA G) s.heap H locs → lv_has ls 8 [(0, .ref (ad 40 0)), (1, .int x1), (2, .int x2), (3, .int x3)] → k4 F x1 x2 x3 → W p l e rm_X11_gives s m ([.ref (ad 40 0), .int p1] : List Value).toArray below meth c H locs 0 0 (q_X11_gives G ad K below ([.ref (ad 40 0), .int p1] : List Value).toArray s) (F0 m 4 ls [])) → ∀ n : Nat, ∀ (F : GF) (x1 : Int32) (x2 : Int32) (x3 : Int32) (x4 : Int32) (H : Heap) (locs : List Loc) (ls : Array Slot), gH G ad F H → va_S (gA G) s.heap H locs → lv_has ls 8 [(0, .ref (ad 40 0)), (1, .int x1), (2, .int x2), (3, .int x3), (4, .int x4)] → (P_X11_gives_35 k4 K n) F x1 x2 x3 x4 → W p l e rm_X11_gives s m ([.ref (ad 40 0), .int p1] : List Value).toArray below meth c H locs 0 0 (q_X11_gives G ad K below ([.ref (ad 40 0), .int p1] : List Value).toArray s) (F0 m 35 ls []) := by
    intro k4 hk4
    intro n
    induction n with
    | zero =>
      intro F x1 x2 x3 x4 H locs ls hH hS hl q
      exact False.elim q
    | succ n ih =>
      intro F x1 x2 x3 x4 H locs ls hH hS hl q
      rw [P_X11_gives_35] at q
      refine lv_iload hx hb dX11_gives_35 (lv_at hl 4 rfl) ?_
      refine lv_aload_n hx hb dX11_gives_37 rfl (lv_at hl 0 rfl) ?_
      refine g_get (ci := 15) (v := .int (F 40 0 19)) (C := RX11) (T := TX11) (N := 44) hx hb hts (fun _ h => (List.mem_cons_of_mem _ (List.mem_append_left _ (List.mem_append_right _ h)))) hown hK hH 40 0 (by decide) Nat.zero_lt_one rfl rfl 19 (by decide) (hts (.fieldLink RX11 178 "BallotFoundryModel" "inElection" "I") (List.mem_of_getElem? (i := 4) rfl)) (fun _ h => h) rfl dX11_gives_38 ?_
      refine lv_icmp_ge (tgt := 90) hx hb dX11_gives_41 (by decide) (fun c45 => ?_) (fun c45 => ?_)
      · have q := (if_pos c45).mp q
        refine lv_iinc (v := x3 + 1) (lv' := [(3, .int (x3 + 1)), (0, .ref (ad 40 0)), (1, .int x1), (2, .int x2), (4, .int x4)]) hx hb dX11_gives_90 hl (k := 3) rfl rfl (by decide) rfl (fun ls hl => ?_)
        refine lv_goto (tgt := 4) hx hb dX11_gives_93 (by decide) ?_
        exact hk4 F x1 x2 (x3 + 1) _ _ _ hH hS (lv_sub hl [1, 2, 3, 0] rfl) q
      · have q := (if_neg c45).mp q
        refine lv_aload_n hx hb dX11_gives_44 rfl (lv_at hl 0 rfl) ?_
        refine g_get (ci := 15) (v := .ref (ad 65 0)) (C := RX11) (T := TX11) (N := 44) hx hb hts (fun _ h => (List.mem_cons_of_mem _ (List.mem_append_left _ (List.mem_append_right _ h)))) hown hK hH 40 0 (by decide) Nat.zero_lt_one rfl rfl 34 (by decide) (hts (.fieldLink RX11 87 "BallotFoundryModel" "sum" "[I") (List.mem_of_getElem? (i := 1) rfl)) (fun _ h => h) rfl dX11_gives_45 ?_
        refine lv_iload_n hx hb dX11_gives_48 rfl (lv_at hl 3 rfl) ?_
        refine lv_dup2_11 hx hb dX11_gives_49 rfl rfl ?_
        obtain ⟨h46, q⟩ := q
        refine g_iald hx hb hK hH 65 0 (by decide) Nat.zero_lt_one 5 rfl h46 dX11_gives_50 ?_
        refine lv_iload_n hx hb dX11_gives_51 rfl (lv_at hl 1 rfl) ?_
        refine lv_if_eq (tgt := 65) hx hb dX11_gives_52 (by decide) (fun c47 => ?_) (fun c47 => ?_)
        · have q := (if_pos c47).mp q
          refine lv_aload_n hx hb dX11_gives_65 rfl (lv_at hl 0 rfl) ?_
          refine g_get (ci := 15) (v := .ref (ad 60 0)) (C := RX11) (T := TX11) (N := 44) hx hb hts (fun _ h => (List.mem_cons_of_mem _ (List.mem_append_left _ (List.mem_append_right _ h)))) hown hK hH 40 0 (by decide) Nat.zero_lt_one rfl rfl 29 (by decide) (hts (.fieldLink RX11 72 "BallotFoundryModel" "number" "[I") (List.mem_of_getElem? (i := 5) rfl)) (fun _ h => h) rfl dX11_gives_66 ?_
          refine lv_bipush (v := 6) hx hb dX11_gives_69 (by decide) ?_
          refine lv_aload_n hx hb dX11_gives_71 rfl (lv_at hl 0 rfl) ?_
          refine g_get (ci := 15) (v := .ref (ad 63 0)) (C := RX11) (T := TX11) (N := 44) hx hb hts (fun _ h => (List.mem_cons_of_mem _ (List.mem_append_left _ (List.mem_append_right _ h)))) hown hK hH 40 0 (by decide) Nat.zero_lt_one rfl rfl 32 (by decide) (hts (.fieldLink RX11 81 "BallotFoundryModel" "settled" "[I") (List.mem_of_getElem? (i := 6) rfl)) (fun _ h => h) rfl dX11_gives_72 ?_
          refine lv_iload hx hb dX11_gives_75 (lv_at hl 4 rfl) ?_
          obtain ⟨h48, q⟩ := q
          refine g_iald hx hb hK hH 63 0 (by decide) Nat.zero_lt_one 5 rfl h48 dX11_gives_77 ?_
          refine lv_imul hx hb dX11_gives_78 ?_
          refine lv_iload_n hx hb dX11_gives_79 rfl (lv_at hl 3 rfl) ?_
          refine lv_iadd hx hb dX11_gives_80 ?_
          obtain ⟨h49, q⟩ := q
          refine g_iald hx hb hK hH 60 0 (by decide) Nat.zero_lt_one 240 rfl h49 dX11_gives_81 ?_
          exact t_82 k4 hk4 (fun F a0 a1 a2 a3 => P_X11_gives_35 k4 K n F a0 a1 a2 a3) ih F x1 x2 x3 x4 x3 (F 65 0 x3.toNatClampNeg) (F 60 0 ((6 * (F 63 0 x4.toNatClampNeg)) + x3).toNatClampNeg) _ _ _ hH hS (lv_sub hl [0, 1, 2, 3, 4] rfl) q
        · have q := (if_neg c47).mp q
          refine lv_aload_n hx hb dX11_gives_55 rfl (lv_at hl 0 rfl) ?_
          refine lv_iload hx hb dX11_gives_56 (lv_at hl 4 rfl) ?_
          refine lv_iload_n hx hb dX11_gives_58 rfl (lv_at hl 3 rfl) ?_
          refine va_calli (va_runV (As := [.int x4, .int x3]) (rest := [.int (F 65 0 x3.toNatClampNeg), .int x3, .ref (ad 65 0)]) ⟨hx, hb, hml, hown, hts⟩ (c_X11_inBox l G ad F x4 x3 _) (cwV 2 hts gX11_gives_X11_inBox rfl rfl rfl (by decide +kernel) ⟨Nat.le_of_ble_eq_true rfl, Nat.le_of_ble_eq_true rfl⟩) ⟨fun a U g mk h => ⟨h.1, gD_blind h.2.1, h.2.2⟩, g_recv (C := RX11) (T := TX11) (N := 44) hK hH 40 0 (by decide) Nat.zero_lt_one rfl rfl, fun U hU hW => ⟨rfl, gD_at hK hG hB hH hS hU hW, q⟩⟩ rfl rfl hl.1 rfl (lv_room (Nat.le_of_ble_eq_true rfl)) dX11_gives_59 ⟨Nat.le_of_ble_eq_true rfl, Nat.le_of_ble_eq_true rfl⟩) hS (fun _ _ h => h) (fun _ h => h) (fun r52 F53 t H locs ht hvm q hB1 hz hk hS => ?_)
          have hH : gH G ad F53 H := gH_to ht hB1
          refine lv_goto (tgt := 82) hx hb dX11_gives_62 (by decide) ?_
          exact t_82 k4 hk4 (fun F a0 a1 a2 a3 => P_X11_gives_35 k4 K n F a0 a1 a2 a3) ih F53 x1 x2 x3 x4 x3 (F 65 0 x3.toNatClampNeg) r52 _ _ _ hH hS (lv_sub hl [0, 1, 2, 3, 4] rfl) q
  have t_4 : ∀ n : Nat, ∀ (F : GF) (x1 : Int32) (x2 : Int32) (x3 : Int32) (H : Heap) (locs : List Loc) (ls : Array Slot), gH G ad F H → va_S (gA G) s.heap H locs → lv_has ls 8 [(0, .ref (ad 40 0)), (1, .int x1), (2, .int x2), (3, .int x3)] → (P_X11_gives_4 K n) F x1 x2 x3 → W p l e rm_X11_gives s m ([.ref (ad 40 0), .int p1] : List Value).toArray below meth c H locs 0 0 (q_X11_gives G ad K below ([.ref (ad 40 0), .int p1] : List Value).toArray s) (F0 m 4 ls []) := by
    intro n
    induction n with
    | zero =>
      intro F x1 x2 x3 H locs ls hH hS hl q
      exact False.elim q
    | succ n ih =>
      intro F x1 x2 x3 H locs ls hH hS hl q
      rw [P_X11_gives_4] at q
      refine lv_iload_n hx hb dX11_gives_4 rfl (lv_at hl 3 rfl) ?_
      refine lv_iconst (v := 5) hx hb dX11_gives_5 (by decide) ?_
      refine lv_icmp_ge (tgt := 96) hx hb dX11_gives_6 (by decide) (fun c1 => ?_) (fun c1 => ?_)
      · have q := (if_pos c1).mp q
        refine lv_aload_n hx hb dX11_gives_96 rfl (lv_at hl 0 rfl) ?_
        refine lv_iconst (v := 0) hx hb dX11_gives_97 (by decide) ?_
        refine g_put (ci := 15) (v := .int 0) (C := RX11) (T := TX11) (N := 44) hx hb hts (fun _ h => (List.mem_cons_of_mem _ (List.mem_append_left _ (List.mem_append_right _ h)))) tyX11 tyX11_ok nmX11 hown hK hH hS 40 0 (by decide) Nat.zero_lt_one (by decide) rfl rfl 37 (by decide) (hts (.fieldLink RX11 220 "BallotFoundryModel" "givenAll" "I") (List.mem_of_getElem? (i := 7) rfl)) (fun _ h => h) rfl (ty := .int) (by decide +kernel) rfl rfl (Nat.le_of_ble_eq_true rfl) 0 rfl dX11_gives_98 (fun H locs hH hS => ?_)
        obtain ⟨F2, eF2⟩ : ∃ z, z = fs F 40 0 37 0 := ⟨_, rfl⟩
        have q := q F2 eF2
        rw [← eF2] at hH
        refine lv_aload_n hx hb dX11_gives_101 rfl (lv_at hl 0 rfl) ?_
        refine lv_iconst (v := 0) hx hb dX11_gives_102 (by decide) ?_
        refine g_put (ci := 15) (v := .int 0) (C := RX11) (T := TX11) (N := 44) hx hb hts (fun _ h => (List.mem_cons_of_mem _ (List.mem_append_left _ (List.mem_append_right _ h)))) tyX11 tyX11_ok nmX11 hown hK hH hS 40 0 (by decide) Nat.zero_lt_one (by decide) rfl rfl 38 (by decide) (hts (.fieldLink RX11 223 "BallotFoundryModel" "lots" "I") (List.mem_of_getElem? (i := 8) rfl)) (fun _ h => h) rfl (ty := .int) (by decide +kernel) rfl rfl (Nat.le_of_ble_eq_true rfl) 0 rfl dX11_gives_103 (fun H locs hH hS => ?_)
        obtain ⟨F3, eF3⟩ : ∃ z, z = fs F2 40 0 38 0 := ⟨_, rfl⟩
        have q := q F3 eF3
        rw [← eF3] at hH
        refine lv_aload_n hx hb dX11_gives_106 rfl (lv_at hl 0 rfl) ?_
        refine g_get (ci := 15) (v := .ref (ad 65 0)) (C := RX11) (T := TX11) (N := 44) hx hb hts (fun _ h => (List.mem_cons_of_mem _ (List.mem_append_left _ (List.mem_append_right _ h)))) hown hK hH 40 0 (by decide) Nat.zero_lt_one rfl rfl 34 (by decide) (hts (.fieldLink RX11 87 "BallotFoundryModel" "sum" "[I") (List.mem_of_getElem? (i := 1) rfl)) (fun _ h => h) rfl dX11_gives_107 ?_
        refine lv_iconst (v := 0) hx hb dX11_gives_110 (by decide) ?_
        obtain ⟨h4, q⟩ := q
        refine g_iald hx hb hK hH 65 0 (by decide) Nat.zero_lt_one 5 rfl h4 dX11_gives_111 ?_
        refine lv_aload_n hx hb dX11_gives_112 rfl (lv_at hl 0 rfl) ?_
        refine g_get (ci := 15) (v := .ref (ad 65 0)) (C := RX11) (T := TX11) (N := 44) hx hb hts (fun _ h => (List.mem_cons_of_mem _ (List.mem_append_left _ (List.mem_append_right _ h)))) hown hK hH 40 0 (by decide) Nat.zero_lt_one rfl rfl 34 (by decide) (hts (.fieldLink RX11 87 "BallotFoundryModel" "sum" "[I") (List.mem_of_getElem? (i := 1) rfl)) (fun _ h => h) rfl dX11_gives_113 ?_
        refine lv_iconst (v := 1) hx hb dX11_gives_116 (by decide) ?_
        obtain ⟨h5, q⟩ := q
        refine g_iald hx hb hK hH 65 0 (by decide) Nat.zero_lt_one 5 rfl h5 dX11_gives_117 ?_
        refine lv_iadd hx hb dX11_gives_118 ?_
        refine lv_aload_n hx hb dX11_gives_119 rfl (lv_at hl 0 rfl) ?_
        refine g_get (ci := 15) (v := .ref (ad 65 0)) (C := RX11) (T := TX11) (N := 44) hx hb hts (fun _ h => (List.mem_cons_of_mem _ (List.mem_append_left _ (List.mem_append_right _ h)))) hown hK hH 40 0 (by decide) Nat.zero_lt_one rfl rfl 34 (by decide) (hts (.fieldLink RX11 87 "BallotFoundryModel" "sum" "[I") (List.mem_of_getElem? (i := 1) rfl)) (fun _ h => h) rfl dX11_gives_120 ?_
        refine lv_iconst (v := 2) hx hb dX11_gives_123 (by decide) ?_
        obtain ⟨h6, q⟩ := q
        refine g_iald hx hb hK hH 65 0 (by decide) Nat.zero_lt_one 5 rfl h6 dX11_gives_124 ?_
        refine lv_iadd hx hb dX11_gives_125 ?_
        refine lv_aload_n hx hb dX11_gives_126 rfl (lv_at hl 0 rfl) ?_
        refine g_get (ci := 15) (v := .ref (ad 65 0)) (C := RX11) (T := TX11) (N := 44) hx hb hts (fun _ h => (List.mem_cons_of_mem _ (List.mem_append_left _ (List.mem_append_right _ h)))) hown hK hH 40 0 (by decide) Nat.zero_lt_one rfl rfl 34 (by decide) (hts (.fieldLink RX11 87 "BallotFoundryModel" "sum" "[I") (List.mem_of_getElem? (i := 1) rfl)) (fun _ h => h) rfl dX11_gives_127 ?_
        refine lv_iconst (v := 3) hx hb dX11_gives_130 (by decide) ?_
        obtain ⟨h7, q⟩ := q
        refine g_iald hx hb hK hH 65 0 (by decide) Nat.zero_lt_one 5 rfl h7 dX11_gives_131 ?_
        refine lv_iadd hx hb dX11_gives_132 ?_
        refine lv_aload_n hx hb dX11_gives_133 rfl (lv_at hl 0 rfl) ?_
        refine g_get (ci := 15) (v := .ref (ad 65 0)) (C := RX11) (T := TX11) (N := 44) hx hb hts (fun _ h => (List.mem_cons_of_mem _ (List.mem_append_left _ (List.mem_append_right _ h)))) hown hK hH 40 0 (by decide) Nat.zero_lt_one rfl rfl 34 (by decide) (hts (.fieldLink RX11 87 "BallotFoundryModel" "sum" "[I") (List.mem_of_getElem? (i := 1) rfl)) (fun _ h => h) rfl dX11_gives_134 ?_
        refine lv_iconst (v := 4) hx hb dX11_gives_137 (by decide) ?_
        obtain ⟨h8, q⟩ := q
        refine g_iald hx hb hK hH 65 0 (by decide) Nat.zero_lt_one 5 rfl h8 dX11_gives_138 ?_
        refine lv_iadd hx hb dX11_gives_139 ?_
        refine lv_if_le (tgt := 147) hx hb dX11_gives_140 (by decide) (fun c9 => ?_) (fun c9 => ?_)
        · have q := (if_pos c9).mp q
          refine lv_iconst (v := 0) hx hb dX11_gives_147 (by decide) ?_
          exact t_148 F3 x2 0 _ _ _ hH hS (lv_sub hl [0, 2] rfl) q
        · have q := (if_neg c9).mp q
          refine lv_iconst (v := 1) hx hb dX11_gives_143 (by decide) ?_
          refine lv_goto (tgt := 148) hx hb dX11_gives_144 (by decide) ?_
          exact t_148 F3 x2 1 _ _ _ hH hS (lv_sub hl [0, 2] rfl) q
      · have q := (if_neg c1).mp q
        refine lv_aload_n hx hb dX11_gives_9 rfl (lv_at hl 0 rfl) ?_
        refine g_get (ci := 15) (v := .ref (ad 65 0)) (C := RX11) (T := TX11) (N := 44) hx hb hts (fun _ h => (List.mem_cons_of_mem _ (List.mem_append_left _ (List.mem_append_right _ h)))) hown hK hH 40 0 (by decide) Nat.zero_lt_one rfl rfl 34 (by decide) (hts (.fieldLink RX11 87 "BallotFoundryModel" "sum" "[I") (List.mem_of_getElem? (i := 1) rfl)) (fun _ h => h) rfl dX11_gives_10 ?_
        refine lv_iload_n hx hb dX11_gives_13 rfl (lv_at hl 3 rfl) ?_
        refine lv_iconst (v := 0) hx hb dX11_gives_14 (by decide) ?_
        obtain ⟨h39, q⟩ := q
        refine g_iast hx hb hK hH hS 65 0 (by decide) Nat.zero_lt_one (by decide) 5 (fun _ => rfl) h39 dX11_gives_15 (fun H locs hH hS => ?_)
        obtain ⟨F40, eF40⟩ : ∃ z, z = fs F 65 0 x3.toNatClampNeg 0 := ⟨_, rfl⟩
        have q := q F40 eF40
        rw [← eF40] at hH
        refine lv_aload_n hx hb dX11_gives_16 rfl (lv_at hl 0 rfl) ?_
        refine g_get (ci := 15) (v := .ref (ad 66 0)) (C := RX11) (T := TX11) (N := 44) hx hb hts (fun _ h => (List.mem_cons_of_mem _ (List.mem_append_left _ (List.mem_append_right _ h)))) hown hK hH 40 0 (by decide) Nat.zero_lt_one rfl rfl 35 (by decide) (hts (.fieldLink RX11 90 "BallotFoundryModel" "given" "[I") (List.mem_of_getElem? (i := 2) rfl)) (fun _ h => h) rfl dX11_gives_17 ?_
        refine lv_iload_n hx hb dX11_gives_20 rfl (lv_at hl 3 rfl) ?_
        refine lv_iconst (v := 0) hx hb dX11_gives_21 (by decide) ?_
        obtain ⟨h41, q⟩ := q
        refine g_iast hx hb hK hH hS 66 0 (by decide) Nat.zero_lt_one (by decide) 5 (fun _ => rfl) h41 dX11_gives_22 (fun H locs hH hS => ?_)
        obtain ⟨F42, eF42⟩ : ∃ z, z = fs F40 66 0 x3.toNatClampNeg 0 := ⟨_, rfl⟩
        have q := q F42 eF42
        rw [← eF42] at hH
        refine lv_iload_n hx hb dX11_gives_23 rfl (lv_at hl 2 rfl) ?_
        refine lv_aload_n hx hb dX11_gives_24 rfl (lv_at hl 0 rfl) ?_
        refine g_get (ci := 15) (v := .ref (ad 51 0)) (C := RX11) (T := TX11) (N := 44) hx hb hts (fun _ h => (List.mem_cons_of_mem _ (List.mem_append_left _ (List.mem_append_right _ h)))) hown hK hH 40 0 (by decide) Nat.zero_lt_one rfl rfl 18 (by decide) (hts (.fieldLink RX11 45 "BallotFoundryModel" "seed" "[I") (List.mem_of_getElem? (i := 3) rfl)) (fun _ h => h) rfl dX11_gives_25 ?_
        refine lv_iload_n hx hb dX11_gives_28 rfl (lv_at hl 3 rfl) ?_
        obtain ⟨h43, q⟩ := q
        refine g_iald hx hb hK hH 51 0 (by decide) Nat.zero_lt_one 5 rfl h43 dX11_gives_29 ?_
        refine lv_iadd hx hb dX11_gives_30 ?_
        refine lv_topi (fun y44 ey44 => ?_)
        have q := q y44 ey44
        refine lv_istore_n (lv' := [(2, .int y44), (0, .ref (ad 40 0)), (1, .int x1), (3, .int x3)]) hx hb dX11_gives_31 rfl hl (by decide) rfl (fun ls hl => ?_)
        refine lv_iconst (v := 0) hx hb dX11_gives_32 (by decide) ?_
        refine lv_istore (lv' := [(4, .int 0), (2, .int y44), (0, .ref (ad 40 0)), (1, .int x1), (3, .int x3)]) hx hb dX11_gives_33 hl (by decide) rfl (fun ls hl => ?_)
        obtain ⟨nn, q⟩ := q
        exact t_35 (fun F a0 a1 a2 => P_X11_gives_4 K n F a0 a1 a2) ih nn F42 x1 y44 x3 0 _ _ _ hH hS (lv_sub hl [2, 3, 1, 4, 0] rfl) q
  unfold P_X11_gives at q
  refine lv_iconst (v := 0) hx hb dX11_gives_0 (by decide) ?_
  refine lv_istore_n (lv' := [(2, .int 0), (0, .ref (ad 40 0)), (1, .int p1)]) hx hb dX11_gives_1 rfl hl (by decide) rfl (fun ls hl => ?_)
  refine lv_iconst (v := 0) hx hb dX11_gives_2 (by decide) ?_
  refine lv_istore_n (lv' := [(3, .int 0), (2, .int 0), (0, .ref (ad 40 0)), (1, .int p1)]) hx hb dX11_gives_3 rfl hl (by decide) rfl (fun ls hl => ?_)
  obtain ⟨nn, q⟩ := q
  exact t_4 nn F p1 0 0 _ _ _ hH hS (lv_sub hl [2, 3, 1, 0] rfl) q
abbrev rm_X11_done : Room := { frames := 3, cells := 0, slots := 0, locals := 70 }
abbrev q_X11_done (G : GP) (ad : Nat → Nat → Nat) (K : Int32 → GF → Prop) (below : List Frame) (args : Array Value) (s : State) : State → Prop := MQ below (gQi G ad K) args s 0 0 (gA G)
set_option maxHeartbeats 4000000 in
set_option maxRecDepth 100000 in
theorem c_X11_done (l : Launch) (G : GP) (ad : Nat → Nat → Nat) (F : GF) (K : Int32 → GF → Prop) : Met l yX11_done wsX11_done rm_X11_done (va_Pc [.ref (ad 40 0)] (fun U => gD G ad F U ∧ P_X11_done F K)) (gQi G ad K) 0 0 (gA G) := by
  refine Met.ofW (cc := cX11_done) (maxL := 1) (ret := (some .boolean)) (by decide) rfl ?_
  intro p e s m args below meth c s₁ Bd hml hv
  obtain ⟨rfl, ⟨hK, hG, hB, hH⟩, q⟩ := hv
  have hx := Bd.exec
  have hb := Bd.bytes
  have hr := Bd.returns
  have hts := atoms_spec (ws := wsX11_done) Bd.pre
  have hown : s.vm.findClass RX11 = some m.cls := findClass_of_methodNamed Bd.named
  have hlocks := Bd.notSynchronized
  have hS : va_S (gA G) s.heap s.heap [] := va_S.rf
  have hl := lv_entry [.ref (ad 40 0)] (n := 1) (Nat.le_of_ble_eq_true rfl)
  rw [lg_entry_eq]
  generalize (lg_sl [.ref (ad 40 0)] ++ List.replicate (1 - (lg_sl [.ref (ad 40 0)]).length) Slot.unset).toArray = ls at hl ⊢
  have hl : lv_has ls 1 [(0, .ref (ad 40 0))] := hl
  show W p l e rm_X11_done s m ([.ref (ad 40 0)] : List Value).toArray below meth c s.heap [] 0 0 (q_X11_done G ad K below ([.ref (ad 40 0)] : List Value).toArray s) _
  have t_13 : ∀ (F : GF) (H : Heap) (locs : List Loc) (ls : Array Slot), gH G ad F H → va_S (gA G) s.heap H locs → lv_has ls 1 [(0, .ref (ad 40 0))] → (P_X11_done_13 K) F → W p l e rm_X11_done s m ([.ref (ad 40 0)] : List Value).toArray below meth c H locs 0 0 (q_X11_done G ad K below ([.ref (ad 40 0)] : List Value).toArray s) (F0 m 13 ls []) := by
    intro F H locs ls hH hS hl q
    unfold P_X11_done_13 at q
    refine lv_aload_n hx hb dX11_done_13 rfl (lv_at hl 0 rfl) ?_
    refine g_get (ci := 15) (v := .int (F 40 0 14)) (C := RX11) (T := TX11) (N := 44) hx hb hts (fun _ h => (List.mem_cons_of_mem _ (List.mem_append_left _ (List.mem_append_right _ h)))) hown hK hH 40 0 (by decide) Nat.zero_lt_one rfl rfl 14 (by decide) (hts (.fieldLink RX11 41 "BallotFoundryModel" "stage" "I") (List.mem_of_getElem? (i := 1) rfl)) (fun _ h => h) rfl dX11_done_14 ?_
    refine lv_iconst (v := 5) hx hb dX11_done_17 (by decide) ?_
    refine lv_icmp_ne (tgt := 25) hx hb dX11_done_18 (by decide) (fun c2 => ?_) (fun c2 => ?_)
    · have q := (if_neg c2).mp q
      refine lv_iconst (v := 0) hx hb dX11_done_25 (by decide) ?_
      exact (W.zret (v := 0) hx hb hr rfl (fun t ht hW => ⟨⟨0, F, rfl, q, gH_at ht hH⟩, hS.F ht⟩) hS.2.2 dX11_done_26)
    · have q := (if_pos c2).mp q
      refine lv_iconst (v := 1) hx hb dX11_done_21 (by decide) ?_
      refine lv_goto (tgt := 26) hx hb dX11_done_22 (by decide) ?_
      exact (W.zret (v := 1) hx hb hr rfl (fun t ht hW => ⟨⟨1, F, rfl, q, gH_at ht hH⟩, hS.F ht⟩) hS.2.2 dX11_done_26)
  unfold P_X11_done at q
  refine lv_aload_n hx hb dX11_done_0 rfl (lv_at hl 0 rfl) ?_
  refine g_get (ci := 15) (v := .int (F 40 0 14)) (C := RX11) (T := TX11) (N := 44) hx hb hts (fun _ h => (List.mem_cons_of_mem _ (List.mem_append_left _ (List.mem_append_right _ h)))) hown hK hH 40 0 (by decide) Nat.zero_lt_one rfl rfl 14 (by decide) (hts (.fieldLink RX11 41 "BallotFoundryModel" "stage" "I") (List.mem_of_getElem? (i := 1) rfl)) (fun _ h => h) rfl dX11_done_1 ?_
  refine lv_iconst (v := 5) hx hb dX11_done_4 (by decide) ?_
  refine lv_icmp_ne (tgt := 13) hx hb dX11_done_5 (by decide) (fun c1 => ?_) (fun c1 => ?_)
  · have q := (if_neg c1).mp q
    exact t_13 F  _ _ _ hH hS (lv_sub hl [0] rfl) q
  · have q := (if_pos c1).mp q
    refine lv_aload_n hx hb dX11_done_8 rfl (lv_at hl 0 rfl) ?_
    refine lv_iconst (v := 0) hx hb dX11_done_9 (by decide) ?_
    refine va_callv (va_runV (As := [.int 0]) (rest := []) ⟨hx, hb, hml, hown, hts⟩ (c_X11_gives l G ad F 0 _) (cwV 1 hts gX11_done_X11_gives rfl rfl rfl (by decide +kernel) ⟨Nat.le_of_ble_eq_true rfl, Nat.le_of_ble_eq_true rfl⟩) ⟨fun a U g mk h => ⟨h.1, gD_blind h.2.1, h.2.2⟩, g_recv (C := RX11) (T := TX11) (N := 44) hK hH 40 0 (by decide) Nat.zero_lt_one rfl rfl, fun U hU hW => ⟨rfl, gD_at hK hG hB hH hS hU hW, q⟩⟩ rfl rfl hl.1 rfl (lv_room (Nat.le_of_ble_eq_true rfl)) dX11_done_10 ⟨Nat.le_of_ble_eq_true rfl, Nat.le_of_ble_eq_true rfl⟩) hS (fun _ _ h => h) (fun _ h => h) (fun F4 t H locs ht hvm q hB1 hz hk hS => ?_)
    have hH : gH G ad F4 H := gH_to ht hB1
    exact t_13 F4  _ _ _ hH hS (lv_sub hl [0] rfl) q
abbrev rm_X11_isParty : Room := { frames := 1, cells := 0, slots := 0, locals := 22 }
abbrev q_X11_isParty (G : GP) (ad : Nat → Nat → Nat) (K : Int32 → GF → Prop) (below : List Frame) (args : Array Value) (s : State) : State → Prop := MQ below (gQi G ad K) args s 0 0 (gA G)
set_option maxHeartbeats 4000000 in
set_option maxRecDepth 100000 in
theorem c_X11_isParty (l : Launch) (G : GP) (ad : Nat → Nat → Nat) (F : GF) (p0 : Int32) (K : Int32 → GF → Prop) : Met l yX11_isParty wsX11_isParty rm_X11_isParty (va_Pc [.int p0] (fun U => gD G ad F U ∧ P_X11_isParty F p0 K)) (gQi G ad K) 0 0 (gA G) := by
  refine Met.ofW (cc := cX11_isParty) (maxL := 1) (ret := (some .boolean)) (by decide) rfl ?_
  intro p e s m args below meth c s₁ Bd hml hv
  obtain ⟨rfl, ⟨hK, hG, hB, hH⟩, q⟩ := hv
  have hx := Bd.exec
  have hb := Bd.bytes
  have hr := Bd.returns
  have hts := atoms_spec (ws := wsX11_isParty) Bd.pre
  have hown : s.vm.findClass RX11 = some m.cls := findClass_of_methodNamed Bd.named
  have hlocks := Bd.notSynchronized
  have hS : va_S (gA G) s.heap s.heap [] := va_S.rf
  have hl := lv_entry [.int p0] (n := 1) (Nat.le_of_ble_eq_true rfl)
  rw [lg_entry_eq]
  generalize (lg_sl [.int p0] ++ List.replicate (1 - (lg_sl [.int p0]).length) Slot.unset).toArray = ls at hl ⊢
  have hl : lv_has ls 1 [(0, .int p0)] := hl
  unfold P_X11_isParty at q
  refine lv_iload_n hx hb dX11_isParty_0 rfl (lv_at hl 0 rfl) ?_
  refine lv_iconst (v := 0) hx hb dX11_isParty_1 (by decide) ?_
  refine lv_iconst (v := 4) hx hb dX11_isParty_2 (by decide) ?_
  refine va_calli (va_runS (As := [.int p0, .int 0, .int 4]) (rest := []) ⟨hx, hb, hml, hown, hts⟩ (c_X11_in l G ad F p0 0 4 _) (va_cwS 3 hts gX11_isParty_X11_in rfl rfl rfl (by decide +kernel) ⟨Nat.le_of_ble_eq_true rfl, Nat.le_of_ble_eq_true rfl⟩) ⟨fun a U g mk h => ⟨h.1, gD_blind h.2.1, h.2.2⟩, fun U hU hW => ⟨rfl, gD_at hK hG hB hH hS hU hW, q⟩⟩ rfl rfl hl.1 rfl (lv_room (Nat.le_of_ble_eq_true rfl)) dX11_isParty_3 ⟨Nat.le_of_ble_eq_true rfl, Nat.le_of_ble_eq_true rfl⟩) hS (fun _ _ h => h) (fun _ h => h) (fun r1 F2 t H locs ht hvm q hB1 hz hk hS => ?_)
  have hH : gH G ad F2 H := gH_to ht hB1
  obtain ⟨h3, q⟩ := q
  exact (W.zret (v := r1) hx hb hr (gz_nar h3) (fun t ht hW => ⟨⟨r1, F2, rfl, q, gH_at ht hH⟩, hS.F ht⟩) hS.2.2 dX11_isParty_6)
abbrev rm_X11_votes : Room := { frames := 4, cells := 0, slots := 0, locals := 90 }
abbrev q_X11_votes (G : GP) (ad : Nat → Nat → Nat) (K : Int32 → GF → Prop) (below : List Frame) (args : Array Value) (s : State) : State → Prop := MQ below (gQi G ad K) args s 0 0 (gA G)
set_option maxHeartbeats 4000000 in
set_option maxRecDepth 100000 in
theorem c_X11_votes (l : Launch) (G : GP) (ad : Nat → Nat → Nat) (F : GF) (p1 : Int32) (K : Int32 → GF → Prop) : Met l yX11_votes wsX11_votes rm_X11_votes (va_Pc [.ref (ad 40 0), .int p1] (fun U => gD G ad F U ∧ P_X11_votes F p1 K)) (gQi G ad K) 0 0 (gA G) := by
  refine Met.ofW (cc := cX11_votes) (maxL := 2) (ret := (some .int)) (by decide) rfl ?_
  intro p e s m args below meth c s₁ Bd hml hv
  obtain ⟨rfl, ⟨hK, hG, hB, hH⟩, q⟩ := hv
  have hx := Bd.exec
  have hb := Bd.bytes
  have hr := Bd.returns
  have hts := atoms_spec (ws := wsX11_votes) Bd.pre
  have hown : s.vm.findClass RX11 = some m.cls := findClass_of_methodNamed Bd.named
  have hlocks := Bd.notSynchronized
  have hS : va_S (gA G) s.heap s.heap [] := va_S.rf
  have hl := lv_entry [.ref (ad 40 0), .int p1] (n := 2) (Nat.le_of_ble_eq_true rfl)
  rw [lg_entry_eq]
  generalize (lg_sl [.ref (ad 40 0), .int p1] ++ List.replicate (2 - (lg_sl [.ref (ad 40 0), .int p1]).length) Slot.unset).toArray = ls at hl ⊢
  have hl : lv_has ls 2 [(0, .ref (ad 40 0)), (1, .int p1)] := hl
  unfold P_X11_votes at q
  refine lv_aload_n hx hb dX11_votes_0 rfl (lv_at hl 0 rfl) ?_
  refine lv_iload_n hx hb dX11_votes_1 rfl (lv_at hl 1 rfl) ?_
  refine va_calli (va_runS (As := [.int p1]) (rest := [.ref (ad 40 0)]) ⟨hx, hb, hml, hown, hts⟩ (c_X11_isParty l G ad F p1 _) (va_cwS 1 hts gX11_votes_X11_isParty rfl rfl rfl (by decide +kernel) ⟨Nat.le_of_ble_eq_true rfl, Nat.le_of_ble_eq_true rfl⟩) ⟨fun a U g mk h => ⟨h.1, gD_blind h.2.1, h.2.2⟩, fun U hU hW => ⟨rfl, gD_at hK hG hB hH hS hU hW, q⟩⟩ rfl rfl hl.1 rfl (lv_room (Nat.le_of_ble_eq_true rfl)) dX11_votes_2 ⟨Nat.le_of_ble_eq_true rfl, Nat.le_of_ble_eq_true rfl⟩) hS (fun _ _ h => h) (fun _ h => h) (fun r1 F2 t H locs ht hvm q hB1 hz hk hS => ?_)
  have hH : gH G ad F2 H := gH_to ht hB1
  refine va_calli (va_runV (As := [.int r1]) (rest := []) ⟨hx, hb, hml, hown, hts⟩ (c_X11_asked l G ad F2 r1 _) (cwV 1 hts gX11_votes_X11_asked rfl rfl rfl (by decide +kernel) ⟨Nat.le_of_ble_eq_true rfl, Nat.le_of_ble_eq_true rfl⟩) ⟨fun a U g mk h => ⟨h.1, gD_blind h.2.1, h.2.2⟩, g_recv (C := RX11) (T := TX11) (N := 44) hK hH 40 0 (by decide) Nat.zero_lt_one rfl rfl, fun U hU hW => ⟨rfl, gD_at hK hG hB hH hS hU hW, q⟩⟩ rfl rfl hl.1 rfl (lv_room (Nat.le_of_ble_eq_true rfl)) dX11_votes_5 ⟨Nat.le_of_ble_eq_true rfl, Nat.le_of_ble_eq_true rfl⟩) hS (fun _ _ h => h) (fun _ h => h) (fun r3 F4 t H locs ht hvm q hB1 hz hk hS => ?_)
  have hH : gH G ad F4 H := gH_to ht hB1
  refine lv_if_ne (tgt := 13) hx hb dX11_votes_8 (by decide) (fun c5 => ?_) (fun c5 => ?_)
  · have q := (if_neg c5).mp q
    refine lv_aload_n hx hb dX11_votes_13 rfl (lv_at hl 0 rfl) ?_
    refine va_calli (va_runV (As := []) (rest := []) ⟨hx, hb, hml, hown, hts⟩ (c_X11_done l G ad F4 _) (cwV 0 hts gX11_votes_X11_done rfl rfl rfl (by decide +kernel) ⟨Nat.le_of_ble_eq_true rfl, Nat.le_of_ble_eq_true rfl⟩) ⟨fun a U g mk h => ⟨h.1, gD_blind h.2.1, h.2.2⟩, g_recv (C := RX11) (T := TX11) (N := 44) hK hH 40 0 (by decide) Nat.zero_lt_one rfl rfl, fun U hU hW => ⟨rfl, gD_at hK hG hB hH hS hU hW, q⟩⟩ rfl rfl hl.1 rfl (lv_room (Nat.le_of_ble_eq_true rfl)) dX11_votes_14 ⟨Nat.le_of_ble_eq_true rfl, Nat.le_of_ble_eq_true rfl⟩) hS (fun _ _ h => h) (fun _ h => h) (fun r6 F7 t H locs ht hvm q hB1 hz hk hS => ?_)
    have hH : gH G ad F7 H := gH_to ht hB1
    refine lv_if_eq (tgt := 29) hx hb dX11_votes_17 (by decide) (fun c8 => ?_) (fun c8 => ?_)
    · have q := (if_pos c8).mp q
      refine lv_iconst (v := (-1)) hx hb dX11_votes_29 (by decide) ?_
      exact (W.iret (v := (-1)) hx hb hr (fun t ht hW => ⟨⟨(-1), F7, rfl, q, gH_at ht hH⟩, hS.F ht⟩) hS.2.2 dX11_votes_30)
    · have q := (if_neg c8).mp q
      refine lv_aload_n hx hb dX11_votes_20 rfl (lv_at hl 0 rfl) ?_
      refine g_get (ci := 15) (v := .ref (ad 65 0)) (C := RX11) (T := TX11) (N := 44) hx hb hts (fun _ h => (List.mem_cons_of_mem _ (List.mem_append_left _ (List.mem_append_right _ h)))) hown hK hH 40 0 (by decide) Nat.zero_lt_one rfl rfl 34 (by decide) (hts (.fieldLink RX11 87 "BallotFoundryModel" "sum" "[I") (List.mem_of_getElem? (i := 1) rfl)) (fun _ h => h) rfl dX11_votes_21 ?_
      refine lv_iload_n hx hb dX11_votes_24 rfl (lv_at hl 1 rfl) ?_
      obtain ⟨h9, q⟩ := q
      refine g_iald hx hb hK hH 65 0 (by decide) Nat.zero_lt_one 5 rfl h9 dX11_votes_25 ?_
      refine lv_goto (tgt := 30) hx hb dX11_votes_26 (by decide) ?_
      exact (W.iret (v := (F7 65 0 p1.toNatClampNeg)) hx hb hr (fun t ht hW => ⟨⟨(F7 65 0 p1.toNatClampNeg), F7, rfl, q, gH_at ht hH⟩, hS.F ht⟩) hS.2.2 dX11_votes_30)
  · have q := (if_pos c5).mp q
    refine lv_iconst (v := 0) hx hb dX11_votes_11 (by decide) ?_
    exact (W.iret (v := 0) hx hb hr (fun t ht hW => ⟨⟨0, F4, rfl, q, gH_at ht hH⟩, hS.F ht⟩) hS.2.2 dX11_votes_12)
abbrev rm_X11_seats : Room := { frames := 4, cells := 0, slots := 0, locals := 90 }
abbrev q_X11_seats (G : GP) (ad : Nat → Nat → Nat) (K : Int32 → GF → Prop) (below : List Frame) (args : Array Value) (s : State) : State → Prop := MQ below (gQi G ad K) args s 0 0 (gA G)
set_option maxHeartbeats 4000000 in
set_option maxRecDepth 100000 in
theorem c_X11_seats (l : Launch) (G : GP) (ad : Nat → Nat → Nat) (F : GF) (p1 : Int32) (K : Int32 → GF → Prop) : Met l yX11_seats wsX11_seats rm_X11_seats (va_Pc [.ref (ad 40 0), .int p1] (fun U => gD G ad F U ∧ P_X11_seats F p1 K)) (gQi G ad K) 0 0 (gA G) := by
  refine Met.ofW (cc := cX11_seats) (maxL := 2) (ret := (some .int)) (by decide) rfl ?_
  intro p e s m args below meth c s₁ Bd hml hv
  obtain ⟨rfl, ⟨hK, hG, hB, hH⟩, q⟩ := hv
  have hx := Bd.exec
  have hb := Bd.bytes
  have hr := Bd.returns
  have hts := atoms_spec (ws := wsX11_seats) Bd.pre
  have hown : s.vm.findClass RX11 = some m.cls := findClass_of_methodNamed Bd.named
  have hlocks := Bd.notSynchronized
  have hS : va_S (gA G) s.heap s.heap [] := va_S.rf
  have hl := lv_entry [.ref (ad 40 0), .int p1] (n := 2) (Nat.le_of_ble_eq_true rfl)
  rw [lg_entry_eq]
  generalize (lg_sl [.ref (ad 40 0), .int p1] ++ List.replicate (2 - (lg_sl [.ref (ad 40 0), .int p1]).length) Slot.unset).toArray = ls at hl ⊢
  have hl : lv_has ls 2 [(0, .ref (ad 40 0)), (1, .int p1)] := hl
  unfold P_X11_seats at q
  refine lv_aload_n hx hb dX11_seats_0 rfl (lv_at hl 0 rfl) ?_
  refine lv_iload_n hx hb dX11_seats_1 rfl (lv_at hl 1 rfl) ?_
  refine va_calli (va_runS (As := [.int p1]) (rest := [.ref (ad 40 0)]) ⟨hx, hb, hml, hown, hts⟩ (c_X11_isParty l G ad F p1 _) (va_cwS 1 hts gX11_seats_X11_isParty rfl rfl rfl (by decide +kernel) ⟨Nat.le_of_ble_eq_true rfl, Nat.le_of_ble_eq_true rfl⟩) ⟨fun a U g mk h => ⟨h.1, gD_blind h.2.1, h.2.2⟩, fun U hU hW => ⟨rfl, gD_at hK hG hB hH hS hU hW, q⟩⟩ rfl rfl hl.1 rfl (lv_room (Nat.le_of_ble_eq_true rfl)) dX11_seats_2 ⟨Nat.le_of_ble_eq_true rfl, Nat.le_of_ble_eq_true rfl⟩) hS (fun _ _ h => h) (fun _ h => h) (fun r1 F2 t H locs ht hvm q hB1 hz hk hS => ?_)
  have hH : gH G ad F2 H := gH_to ht hB1
  refine va_calli (va_runV (As := [.int r1]) (rest := []) ⟨hx, hb, hml, hown, hts⟩ (c_X11_asked l G ad F2 r1 _) (cwV 1 hts gX11_seats_X11_asked rfl rfl rfl (by decide +kernel) ⟨Nat.le_of_ble_eq_true rfl, Nat.le_of_ble_eq_true rfl⟩) ⟨fun a U g mk h => ⟨h.1, gD_blind h.2.1, h.2.2⟩, g_recv (C := RX11) (T := TX11) (N := 44) hK hH 40 0 (by decide) Nat.zero_lt_one rfl rfl, fun U hU hW => ⟨rfl, gD_at hK hG hB hH hS hU hW, q⟩⟩ rfl rfl hl.1 rfl (lv_room (Nat.le_of_ble_eq_true rfl)) dX11_seats_5 ⟨Nat.le_of_ble_eq_true rfl, Nat.le_of_ble_eq_true rfl⟩) hS (fun _ _ h => h) (fun _ h => h) (fun r3 F4 t H locs ht hvm q hB1 hz hk hS => ?_)
  have hH : gH G ad F4 H := gH_to ht hB1
  refine lv_if_ne (tgt := 13) hx hb dX11_seats_8 (by decide) (fun c5 => ?_) (fun c5 => ?_)
  · have q := (if_neg c5).mp q
    refine lv_aload_n hx hb dX11_seats_13 rfl (lv_at hl 0 rfl) ?_
    refine va_calli (va_runV (As := []) (rest := []) ⟨hx, hb, hml, hown, hts⟩ (c_X11_done l G ad F4 _) (cwV 0 hts gX11_seats_X11_done rfl rfl rfl (by decide +kernel) ⟨Nat.le_of_ble_eq_true rfl, Nat.le_of_ble_eq_true rfl⟩) ⟨fun a U g mk h => ⟨h.1, gD_blind h.2.1, h.2.2⟩, g_recv (C := RX11) (T := TX11) (N := 44) hK hH 40 0 (by decide) Nat.zero_lt_one rfl rfl, fun U hU hW => ⟨rfl, gD_at hK hG hB hH hS hU hW, q⟩⟩ rfl rfl hl.1 rfl (lv_room (Nat.le_of_ble_eq_true rfl)) dX11_seats_14 ⟨Nat.le_of_ble_eq_true rfl, Nat.le_of_ble_eq_true rfl⟩) hS (fun _ _ h => h) (fun _ h => h) (fun r6 F7 t H locs ht hvm q hB1 hz hk hS => ?_)
    have hH : gH G ad F7 H := gH_to ht hB1
    refine lv_if_eq (tgt := 29) hx hb dX11_seats_17 (by decide) (fun c8 => ?_) (fun c8 => ?_)
    · have q := (if_pos c8).mp q
      refine lv_iconst (v := (-1)) hx hb dX11_seats_29 (by decide) ?_
      exact (W.iret (v := (-1)) hx hb hr (fun t ht hW => ⟨⟨(-1), F7, rfl, q, gH_at ht hH⟩, hS.F ht⟩) hS.2.2 dX11_seats_30)
    · have q := (if_neg c8).mp q
      refine lv_aload_n hx hb dX11_seats_20 rfl (lv_at hl 0 rfl) ?_
      refine g_get (ci := 15) (v := .ref (ad 66 0)) (C := RX11) (T := TX11) (N := 44) hx hb hts (fun _ h => (List.mem_cons_of_mem _ (List.mem_append_left _ (List.mem_append_right _ h)))) hown hK hH 40 0 (by decide) Nat.zero_lt_one rfl rfl 35 (by decide) (hts (.fieldLink RX11 90 "BallotFoundryModel" "given" "[I") (List.mem_of_getElem? (i := 1) rfl)) (fun _ h => h) rfl dX11_seats_21 ?_
      refine lv_iload_n hx hb dX11_seats_24 rfl (lv_at hl 1 rfl) ?_
      obtain ⟨h9, q⟩ := q
      refine g_iald hx hb hK hH 66 0 (by decide) Nat.zero_lt_one 5 rfl h9 dX11_seats_25 ?_
      refine lv_goto (tgt := 30) hx hb dX11_seats_26 (by decide) ?_
      exact (W.iret (v := (F7 66 0 p1.toNatClampNeg)) hx hb hr (fun t ht hW => ⟨⟨(F7 66 0 p1.toNatClampNeg), F7, rfl, q, gH_at ht hH⟩, hS.F ht⟩) hS.2.2 dX11_seats_30)
  · have q := (if_pos c5).mp q
    refine lv_iconst (v := 0) hx hb dX11_seats_11 (by decide) ?_
    exact (W.iret (v := 0) hx hb hr (fun t ht hW => ⟨⟨0, F4, rfl, q, gH_at ht hH⟩, hS.F ht⟩) hS.2.2 dX11_seats_12)
