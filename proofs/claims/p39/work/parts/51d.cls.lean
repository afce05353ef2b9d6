abbrev rm_X10_misread : Room := { frames := 7, cells := 1, slots := 6, locals := 111 }
abbrev q_X10_misread (G : GP) (ad : Nat → Nat → Nat) (K : Int32 → GF → Prop) (X : String → GF → Prop) (below : List Frame) (args : Array Value) (s : State) : State → Prop := vx_MQ below (gQi G ad K) (gX G ad X) args s 1 6 (gA G)
set_option maxHeartbeats 4000000 in
set_option maxRecDepth 100000 in
theorem c_X10_misread (l : Launch) (hfl : l.stackTraces = false) (G : GP) (ad : Nat → Nat → Nat) (F : GF) (p1 : Int32) (K : Int32 → GF → Prop) (X : String → GF → Prop) : vx_Met l yX10_misread wsX10_misread rm_X10_misread (va_Pc [.ref (ad 0 0), .int p1] (fun U => gD G ad F U ∧ P_X10_misread F p1 K X)) (gQi G ad K) (gX G ad X) 1 6 (gA G) := by
  refine vx_ofW (cc := cX10_misread) (maxL := 2) (ret := (some .int)) (by decide) rfl ?_
  intro p e s m args below meth c s₁ Bd hml hno hv
  obtain ⟨rfl, ⟨hK, hG, hB, hH⟩, q⟩ := hv
  have hx := Bd.exec
  have hb := Bd.bytes
  have hr := Bd.returns
  have hts := atoms_spec (ws := wsX10_misread) Bd.pre
  have hown : s.vm.findClass RX10 = some m.cls := findClass_of_methodNamed Bd.named
  have hlocks := Bd.notSynchronized
  have hS : va_S (gA G) s.heap s.heap [] := va_S.rf
  have hl := lv_entry [.ref (ad 0 0), .int p1] (n := 2) (Nat.le_of_ble_eq_true rfl)
  rw [lg_entry_eq]
  generalize (lg_sl [.ref (ad 0 0), .int p1] ++ List.replicate (2 - (lg_sl [.ref (ad 0 0), .int p1]).length) Slot.unset).toArray = ls at hl ⊢
  have hl : lv_has ls 2 [(0, .ref (ad 0 0)), (1, .int p1)] := hl
  unfold P_X10_misread at q
  refine lv_aload_n hx hb dX10_misread_0 rfl (lv_at hl 0 rfl) ?_
  refine lv_iload_n hx hb dX10_misread_1 rfl (lv_at hl 1 rfl) ?_
  refine vx_callv (vx_runV (As := [.int p1]) (rest := []) ⟨hx, hb, hml, hown, hts⟩ (c_X10_needStation l hfl G ad F p1 _ _) (cwV 1 hts gX10_misread_X10_needStation rfl rfl rfl (by decide +kernel) ⟨Nat.le_of_ble_eq_true rfl, Nat.le_of_ble_eq_true rfl⟩) ⟨fun a U g mk h => ⟨h.1, gD_blind h.2.1, h.2.2⟩, g_recv (C := RX10) (T := TX10) (N := 8) hK hH 0 0 (by decide) Nat.zero_lt_one rfl rfl, fun U hU hW => ⟨rfl, gD_at hK hG hB hH hS hU hW, q⟩⟩ rfl rfl hl.1 rfl (lv_room (Nat.le_of_ble_eq_true rfl)) dX10_misread_2 ⟨Nat.le_of_ble_eq_true rfl, Nat.le_of_ble_eq_true rfl⟩) hS (fun _ _ h => h) (fun _ h => h) (fun _ _ h => h) (fun E ce q9 u t H locs ht hvm _ hq hz hk hS hc9 hv9 hcl9 => vx_widen (Nat.le_of_ble_eq_true rfl) (Nat.le_of_ble_eq_true rfl) (vx_out (fun x hx => (hno x hx).elim) hlocks hc9 hv9 hcl9 (fun t1 ht1 hvm1 => ⟨u, trivial, ⟨hq.1, gH_at ht1 (gH_to ht hq.2)⟩, hS.F ht1⟩) hS.2.2 (Nat.le_refl _) (Nat.le_refl _))) (fun F2 t H locs ht hvm q hB1 hz hk hS => ?_)
  have hH : gH G ad F2 H := gH_to ht hB1
  refine lv_aload_n hx hb dX10_misread_5 rfl (lv_at hl 0 rfl) ?_
  refine g_get (ci := 14) (v := .ref (ad 10 0)) (C := RX10) (T := TX10) (N := 8) hx hb hts (fun _ h => (List.mem_cons_of_mem _ (List.mem_append_left _ (List.mem_append_left _ (List.mem_append_left _ (List.mem_append_left _ (List.mem_append_left _ (List.mem_append_right _ h)))))))) hown hK hH 0 0 (by decide) Nat.zero_lt_one rfl rfl 6 (by decide) (hts (.fieldLink RX10 43 "BallotFoundry" "election" "LBallotFoundry$Election;") (List.mem_of_getElem? (i := 1) rfl)) (fun _ h => h) rfl dX10_misread_6 ?_
  refine g_getN (ci := 6) (v := .ref (ad 20 0)) (C := RX2) (T := TX2) (N := 10) hx hb hts (fun _ h => (List.mem_cons_of_mem _ (List.mem_append_left _ (List.mem_append_left _ (List.mem_append_left _ (List.mem_append_left _ (List.mem_append_right _ h))))))) hown hK hH 10 0 (by decide) Nat.zero_lt_one rfl rfl 8 (by decide) (va_Nw.use rfl (hG.1 ("BallotFoundry", 217, "BallotFoundry$Election", "boxes", "[LBallotFoundry$Box;", "BallotFoundry") (List.mem_of_getElem? (i := 24) rfl))) (fun _ h => h) rfl dX10_misread_9 ?_
  refine lv_iload_n hx hb dX10_misread_12 rfl (lv_at hl 1 rfl) ?_
  obtain ⟨h3, q⟩ := q
  refine g_aald (a := ad 28 (p1.toNatClampNeg)) hx hb hK hH 20 0 (by decide) Nat.zero_lt_one 4 5 rfl rfl h3 rfl dX10_misread_13 ?_
  refine va_calli (va_runV (As := []) (rest := []) ⟨hx, hb, hml, hown, hts⟩ (c_X1_lostByReading l G ad F2 p1.toNatClampNeg (gin h3) _) (cwV 0 hts gX10_misread_X1_lostByReading rfl rfl rfl (by decide +kernel) ⟨Nat.le_of_ble_eq_true rfl, Nat.le_of_ble_eq_true rfl⟩) ⟨fun a U g mk h => ⟨h.1, gD_blind h.2.1, h.2.2⟩, g_recv (C := RX1) (T := TX1) (N := 6) hK hH 28 p1.toNatClampNeg (by decide) (gin h3) rfl rfl, fun U hU hW => ⟨rfl, gD_at hK hG hB hH hS hU hW, q⟩⟩ rfl rfl hl.1 rfl (lv_room (Nat.le_of_ble_eq_true rfl)) dX10_misread_14 ⟨Nat.le_of_ble_eq_true rfl, Nat.le_of_ble_eq_true rfl⟩) hS (fun _ _ h => h) (fun _ h => h) (fun r4 F5 t H locs ht hvm q hB1 hz hk hS => ?_)
  have hH : gH G ad F5 H := gH_to ht hB1
  exact vx_ret (W.iret (v := r4) hx hb hr (fun t ht hW => ⟨⟨r4, F5, rfl, q, gH_at ht hH⟩, hS.F ht⟩) hS.2.2 dX10_misread_17)
abbrev rm_X2_numbersFor : Room := { frames := 1, cells := 0, slots := 0, locals := 21 }
abbrev q_X2_numbersFor (G : GP) (ad : Nat → Nat → Nat) (K : Int32 → GF → Prop) (below : List Frame) (args : Array Value) (s : State) : State → Prop := MQ below (gQi G ad K) args s 0 0 (gA G)
set_option maxHeartbeats 4000000 in
set_option maxRecDepth 100000 in
theorem c_X2_numbersFor (l : Launch) (G : GP) (ad : Nat → Nat → Nat) (F : GF) (p1 : Int32) (K : Int32 → GF → Prop) : Met l yX2_numbersFor wsX2_numbersFor rm_X2_numbersFor (va_Pc [.ref (ad 10 0), .int p1] (fun U => gD G ad F U ∧ P_X2_numbersFor F p1 K)) (gQi G ad K) 0 0 (gA G) := by
  refine Met.ofW (cc := cX2_numbersFor) (maxL := 4) (ret := (some .int)) (by decide) rfl ?_
  intro p e s m args below meth c s₁ Bd hml hv
  obtain ⟨rfl, ⟨hK, hG, hB, hH⟩, q⟩ := hv
  have hx := Bd.exec
  have hb := Bd.bytes
  have hr := Bd.returns
  have hts := atoms_spec (ws := wsX2_numbersFor) Bd.pre
  have hown : s.vm.findClass RX2 = some m.cls := findClass_of_methodNamed Bd.named
  have hlocks := Bd.notSynchronized
  have hS : va_S (gA G) s.heap s.heap [] := va_S.rf
  have hl := lv_entry [.ref (ad 10 0), .int p1] (n := 4) (Nat.le_of_ble_eq_true rfl)
  rw [lg_entry_eq]
  generalize (lg_sl [.ref (ad 10 0), .int p1] ++ List.replicate (4 - (lg_sl [.ref (ad 10 0), .int p1]).length) Slot.unset).toArray = ls at hl ⊢
  have hl : lv_has ls 4 [(0, .ref (ad 10 0)), (1, .int p1)] := hl
  show W p l e rm_X2_numbersFor s m ([.ref (ad 10 0), .int p1] : List Value).toArray below meth c s.heap [] 0 0 (q_X2_numbersFor G ad K below ([.ref (ad 10 0), .int p1] : List Value).toArray s) _
  have t_4 : ∀ n : Nat, ∀ (F : GF) (x1 : Int32) (x2 : Int32) (x3 : Int32) (H : Heap) (locs : List Loc) (ls : Array Slot), gH G ad F H → va_S (gA G) s.heap H locs → lv_has ls 4 [(0, .ref (ad 10 0)), (1, .int x1), (2, .int x2), (3, .int x3)] → (P_X2_numbersFor_4 K n) F x1 x2 x3 → W p l e rm_X2_numbersFor s m ([.ref (ad 10 0), .int p1] : List Value).toArray below meth c H locs 0 0 (q_X2_numbersFor G ad K below ([.ref (ad 10 0), .int p1] : List Value).toArray s) (F0 m 4 ls []) := by
    intro n
    induction n with
    | zero =>
      intro F x1 x2 x3 H locs ls hH hS hl q
      exact False.elim q
    | succ n ih =>
      intro F x1 x2 x3 H locs ls hH hS hl q
      rw [P_X2_numbersFor_4] at q
      refine lv_iload_n hx hb dX2_numbersFor_4 rfl (lv_at hl 3 rfl) ?_
      refine lv_aload_n hx hb dX2_numbersFor_5 rfl (lv_at hl 0 rfl) ?_
      refine g_get (ci := 6) (v := .int (F 10 0 4)) (C := RX2) (T := TX2) (N := 10) hx hb hts (fun _ h => (List.mem_cons_of_mem _ (List.mem_append_left _ (List.mem_append_left _ (List.mem_append_right _ h))))) hown hK hH 10 0 (by decide) Nat.zero_lt_one rfl rfl 4 (by decide) (hts (.fieldLink RX2 25 "BallotFoundry$Election" "stationsOfIt" "I") (List.mem_of_getElem? (i := 1) rfl)) (fun _ h => h) rfl dX2_numbersFor_6 ?_
      refine lv_icmp_ge (tgt := 31) hx hb dX2_numbersFor_9 (by decide) (fun c1 => ?_) (fun c1 => ?_)
      · have q := (if_pos c1).mp q
        refine lv_iload_n hx hb dX2_numbersFor_31 rfl (lv_at hl 2 rfl) ?_
        exact (W.iret (v := x2) hx hb hr (fun t ht hW => ⟨⟨x2, F, rfl, q, gH_at ht hH⟩, hS.F ht⟩) hS.2.2 dX2_numbersFor_32)
      · have q := (if_neg c1).mp q
        refine lv_iload_n hx hb dX2_numbersFor_12 rfl (lv_at hl 2 rfl) ?_
        refine lv_aload_n hx hb dX2_numbersFor_13 rfl (lv_at hl 0 rfl) ?_
        refine g_get (ci := 6) (v := .ref (ad 20 0)) (C := RX2) (T := TX2) (N := 10) hx hb hts (fun _ h => (List.mem_cons_of_mem _ (List.mem_append_left _ (List.mem_append_left _ (List.mem_append_right _ h))))) hown hK hH 10 0 (by decide) Nat.zero_lt_one rfl rfl 8 (by decide) (hts (.fieldLink RX2 48 "BallotFoundry$Election" "boxes" "[LBallotFoundry$Box;") (List.mem_of_getElem? (i := 2) rfl)) (fun _ h => h) rfl dX2_numbersFor_14 ?_
        refine lv_iload_n hx hb dX2_numbersFor_17 rfl (lv_at hl 3 rfl) ?_
        obtain ⟨h2, q⟩ := q
        refine g_aald (a := ad 28 (x3.toNatClampNeg)) hx hb hK hH 20 0 (by decide) Nat.zero_lt_one 4 5 rfl rfl h2 rfl dX2_numbersFor_18 ?_
        refine lv_iload_n hx hb dX2_numbersFor_19 rfl (lv_at hl 1 rfl) ?_
        refine va_calli (va_runV (As := [.int x1]) (rest := [.int x2]) ⟨hx, hb, hml, hown, hts⟩ (c_X1_settledNumber l G ad F x3.toNatClampNeg x1 (gin h2) _) (cwV 1 hts gX2_numbersFor_X1_settledNumber rfl rfl rfl (by decide +kernel) ⟨Nat.le_of_ble_eq_true rfl, Nat.le_of_ble_eq_true rfl⟩) ⟨fun a U g mk h => ⟨h.1, gD_blind h.2.1, h.2.2⟩, g_recv (C := RX1) (T := TX1) (N := 6) hK hH 28 x3.toNatClampNeg (by decide) (gin h2) rfl rfl, fun U hU hW => ⟨rfl, gD_at hK hG hB hH hS hU hW, q⟩⟩ rfl rfl hl.1 rfl (lv_room (Nat.le_of_ble_eq_true rfl)) dX2_numbersFor_20 ⟨Nat.le_of_ble_eq_true rfl, Nat.le_of_ble_eq_true rfl⟩) hS (fun _ _ h => h) (fun _ h => h) (fun r3 F4 t H locs ht hvm q hB1 hz hk hS => ?_)
        have hH : gH G ad F4 H := gH_to ht hB1
        refine lv_iadd hx hb dX2_numbersFor_23 ?_
        refine lv_istore_n (lv' := [(2, .int (x2 + r3)), (0, .ref (ad 10 0)), (1, .int x1), (3, .int x3)]) hx hb dX2_numbersFor_24 rfl hl (by decide) rfl (fun ls hl => ?_)
        refine lv_iinc (v := x3 + 1) (lv' := [(3, .int (x3 + 1)), (2, .int (x2 + r3)), (0, .ref (ad 10 0)), (1, .int x1)]) hx hb dX2_numbersFor_25 hl (k := 3) rfl rfl (by decide) rfl (fun ls hl => ?_)
        refine lv_goto (tgt := 4) hx hb dX2_numbersFor_28 (by decide) ?_
        exact ih F4 x1 (x2 + r3) (x3 + 1) _ _ _ hH hS (lv_sub hl [2, 3, 1, 0] rfl) q
  unfold P_X2_numbersFor at q
  refine lv_iconst (v := 0) hx hb dX2_numbersFor_0 (by decide) ?_
  refine lv_istore_n (lv' := [(2, .int 0), (0, .ref (ad 10 0)), (1, .int p1)]) hx hb dX2_numbersFor_1 rfl hl (by decide) rfl (fun ls hl => ?_)
  refine lv_iconst (v := 0) hx hb dX2_numbersFor_2 (by decide) ?_
  refine lv_istore_n (lv' := [(3, .int 0), (2, .int 0), (0, .ref (ad 10 0)), (1, .int p1)]) hx hb dX2_numbersFor_3 rfl hl (by decide) rfl (fun ls hl => ?_)
  obtain ⟨nn, q⟩ := q
  exact t_4 nn F p1 0 0 _ _ _ hH hS (lv_sub hl [2, 3, 1, 0] rfl) q
abbrev rm_X10_votes : Room := { frames := 7, cells := 1, slots := 6, locals := 110 }
abbrev q_X10_votes (G : GP) (ad : Nat → Nat → Nat) (K : Int32 → GF → Prop) (X : String → GF → Prop) (below : List Frame) (args : Array Value) (s : State) : State → Prop := vx_MQ below (gQi G ad K) (gX G ad X) args s 1 6 (gA G)
set_option maxHeartbeats 4000000 in
set_option maxRecDepth 100000 in
theorem c_X10_votes (l : Launch) (hfl : l.stackTraces = false) (G : GP) (ad : Nat → Nat → Nat) (F : GF) (p1 : Int32) (K : Int32 → GF → Prop) (X : String → GF → Prop) : vx_Met l yX10_votes wsX10_votes rm_X10_votes (va_Pc [.ref (ad 0 0), .int p1] (fun U => gD G ad F U ∧ P_X10_votes F p1 K X)) (gQi G ad K) (gX G ad X) 1 6 (gA G) := by
  refine vx_ofW (cc := cX10_votes) (maxL := 2) (ret := (some .int)) (by decide) rfl ?_
  intro p e s m args below meth c s₁ Bd hml hno hv
  obtain ⟨rfl, ⟨hK, hG, hB, hH⟩, q⟩ := hv
  have hx := Bd.exec
  have hb := Bd.bytes
  have hr := Bd.returns
  have hts := atoms_spec (ws := wsX10_votes) Bd.pre
  have hown : s.vm.findClass RX10 = some m.cls := findClass_of_methodNamed Bd.named
  have hlocks := Bd.notSynchronized
  have hS : va_S (gA G) s.heap s.heap [] := va_S.rf
  have hl := lv_entry [.ref (ad 0 0), .int p1] (n := 2) (Nat.le_of_ble_eq_true rfl)
  rw [lg_entry_eq]
  generalize (lg_sl [.ref (ad 0 0), .int p1] ++ List.replicate (2 - (lg_sl [.ref (ad 0 0), .int p1]).length) Slot.unset).toArray = ls at hl ⊢
  have hl : lv_has ls 2 [(0, .ref (ad 0 0)), (1, .int p1)] := hl
  unfold P_X10_votes at q
  refine lv_iload_n hx hb dX10_votes_0 rfl (lv_at hl 1 rfl) ?_
  refine vx_callv (vx_runS (As := [.int p1]) (rest := []) ⟨hx, hb, hml, hown, hts⟩ (c_X10_needParty l hfl G ad F p1 _ _) (va_cwS 1 hts gX10_votes_X10_needParty rfl rfl rfl (by decide +kernel) ⟨Nat.le_of_ble_eq_true rfl, Nat.le_of_ble_eq_true rfl⟩) ⟨fun a U g mk h => ⟨h.1, gD_blind h.2.1, h.2.2⟩, fun U hU hW => ⟨rfl, gD_at hK hG hB hH hS hU hW, q⟩⟩ rfl rfl hl.1 rfl (lv_room (Nat.le_of_ble_eq_true rfl)) dX10_votes_1 ⟨Nat.le_of_ble_eq_true rfl, Nat.le_of_ble_eq_true rfl⟩) hS (fun _ _ h => h) (fun _ h => h) (fun _ _ h => h) (fun E ce q9 u t H locs ht hvm _ hq hz hk hS hc9 hv9 hcl9 => vx_widen (Nat.le_of_ble_eq_true rfl) (Nat.le_of_ble_eq_true rfl) (vx_out (fun x hx => (hno x hx).elim) hlocks hc9 hv9 hcl9 (fun t1 ht1 hvm1 => ⟨u, trivial, ⟨hq.1, gH_at ht1 (gH_to ht hq.2)⟩, hS.F ht1⟩) hS.2.2 (Nat.le_refl _) (Nat.le_refl _))) (fun F2 t H locs ht hvm q hB1 hz hk hS => ?_)
  have hH : gH G ad F2 H := gH_to ht hB1
  refine lv_aload_n hx hb dX10_votes_4 rfl (lv_at hl 0 rfl) ?_
  refine g_get (ci := 14) (v := .ref (ad 10 0)) (C := RX10) (T := TX10) (N := 8) hx hb hts (fun _ h => (List.mem_cons_of_mem _ (List.mem_append_left _ (List.mem_append_left _ (List.mem_append_left _ (List.mem_append_left _ (List.mem_append_right _ h))))))) hown hK hH 0 0 (by decide) Nat.zero_lt_one rfl rfl 6 (by decide) (hts (.fieldLink RX10 43 "BallotFoundry" "election" "LBallotFoundry$Election;") (List.mem_of_getElem? (i := 1) rfl)) (fun _ h => h) rfl dX10_votes_5 ?_
  refine g_getN (ci := 6) (v := .int (F2 10 0 0)) (C := RX2) (T := TX2) (N := 10) hx hb hts (fun _ h => (List.mem_cons_of_mem _ (List.mem_append_left _ (List.mem_append_left _ (List.mem_append_left _ (List.mem_append_right _ h)))))) hown hK hH 10 0 (by decide) Nat.zero_lt_one rfl rfl 0 (by decide) (va_Nw.use rfl (hG.1 ("BallotFoundry", 135, "BallotFoundry$Election", "stage", "I", "BallotFoundry") (List.mem_of_getElem? (i := 16) rfl))) (fun _ h => h) rfl dX10_votes_8 ?_
  refine lv_iconst (v := 5) hx hb dX10_votes_11 (by decide) ?_
  refine lv_icmp_eq (tgt := 17) hx hb dX10_votes_12 (by decide) (fun c3 => ?_) (fun c3 => ?_)
  · have q := (if_pos c3).mp q
    refine lv_aload_n hx hb dX10_votes_17 rfl (lv_at hl 0 rfl) ?_
    refine g_get (ci := 14) (v := .ref (ad 10 0)) (C := RX10) (T := TX10) (N := 8) hx hb hts (fun _ h => (List.mem_cons_of_mem _ (List.mem_append_left _ (List.mem_append_left _ (List.mem_append_left _ (List.mem_append_left _ (List.mem_append_right _ h))))))) hown hK hH 0 0 (by decide) Nat.zero_lt_one rfl rfl 6 (by decide) (hts (.fieldLink RX10 43 "BallotFoundry" "election" "LBallotFoundry$Election;") (List.mem_of_getElem? (i := 1) rfl)) (fun _ h => h) rfl dX10_votes_18 ?_
    refine lv_iload_n hx hb dX10_votes_21 rfl (lv_at hl 1 rfl) ?_
    refine va_calli (va_runV (As := [.int p1]) (rest := []) ⟨hx, hb, hml, hown, hts⟩ (c_X2_numbersFor l G ad F2 p1 _) (cwV 1 hts gX10_votes_X2_numbersFor rfl rfl rfl (by decide +kernel) ⟨Nat.le_of_ble_eq_true rfl, Nat.le_of_ble_eq_true rfl⟩) ⟨fun a U g mk h => ⟨h.1, gD_blind h.2.1, h.2.2⟩, g_recv (C := RX2) (T := TX2) (N := 10) hK hH 10 0 (by decide) Nat.zero_lt_one rfl rfl, fun U hU hW => ⟨rfl, gD_at hK hG hB hH hS hU hW, q⟩⟩ rfl rfl hl.1 rfl (lv_room (Nat.le_of_ble_eq_true rfl)) dX10_votes_22 ⟨Nat.le_of_ble_eq_true rfl, Nat.le_of_ble_eq_true rfl⟩) hS (fun _ _ h => h) (fun _ h => h) (fun r4 F5 t H locs ht hvm q hB1 hz hk hS => ?_)
    have hH : gH G ad F5 H := gH_to ht hB1
    exact vx_ret (W.iret (v := r4) hx hb hr (fun t ht hW => ⟨⟨r4, F5, rfl, q, gH_at ht hH⟩, hS.F ht⟩) hS.2.2 dX10_votes_25)
  · have q := (if_neg c3).mp q
    refine lv_iconst (v := (-1)) hx hb dX10_votes_15 (by decide) ?_
    exact vx_ret (W.iret (v := (-1)) hx hb hr (fun t ht hW => ⟨⟨(-1), F2, rfl, q, gH_at ht hH⟩, hS.F ht⟩) hS.2.2 dX10_votes_16)
abbrev rm_X2_sumOfSeeds : Room := { frames := 0, cells := 0, slots := 0, locals := 0 }
abbrev q_X2_sumOfSeeds (G : GP) (ad : Nat → Nat → Nat) (K : Int32 → GF → Prop) (below : List Frame) (args : Array Value) (s : State) : State → Prop := MQ below (gQi G ad K) args s 0 0 (gA G)
set_option maxHeartbeats 4000000 in
set_option maxRecDepth 100000 in
theorem c_X2_sumOfSeeds (l : Launch) (G : GP) (ad : Nat → Nat → Nat) (F : GF) (K : Int32 → GF → Prop) : Met l yX2_sumOfSeeds wsX2_sumOfSeeds rm_X2_sumOfSeeds (va_Pc [.ref (ad 10 0)] (fun U => gD G ad F U ∧ P_X2_sumOfSeeds F K)) (gQi G ad K) 0 0 (gA G) := by
  refine Met.ofW (cc := cX2_sumOfSeeds) (maxL := 3) (ret := (some .int)) (by decide) rfl ?_
  intro p e s m args below meth c s₁ Bd hml hv
  obtain ⟨rfl, ⟨hK, hG, hB, hH⟩, q⟩ := hv
  have hx := Bd.exec
  have hb := Bd.bytes
  have hr := Bd.returns
  have hts := atoms_spec (ws := wsX2_sumOfSeeds) Bd.pre
  have hown : s.vm.findClass RX2 = some m.cls := findClass_of_methodNamed Bd.named
  have hlocks := Bd.notSynchronized
  have hS : va_S (gA G) s.heap s.heap [] := va_S.rf
  have hl := lv_entry [.ref (ad 10 0)] (n := 3) (Nat.le_of_ble_eq_true rfl)
  rw [lg_entry_eq]
  generalize (lg_sl [.ref (ad 10 0)] ++ List.replicate (3 - (lg_sl [.ref (ad 10 0)]).length) Slot.unset).toArray = ls at hl ⊢
  have hl : lv_has ls 3 [(0, .ref (ad 10 0))] := hl
  show W p l e rm_X2_sumOfSeeds s m ([.ref (ad 10 0)] : List Value).toArray below meth c s.heap [] 0 0 (q_X2_sumOfSeeds G ad K below ([.ref (ad 10 0)] : List Value).toArray s) _
  have t_4 : ∀ n : Nat, ∀ (F : GF) (x1 : Int32) (x2 : Int32) (H : Heap) (locs : List Loc) (ls : Array Slot), gH G ad F H → va_S (gA G) s.heap H locs → lv_has ls 3 [(0, .ref (ad 10 0)), (1, .int x1), (2, .int x2)] → (P_X2_sumOfSeeds_4 K n) F x1 x2 → W p l e rm_X2_sumOfSeeds s m ([.ref (ad 10 0)] : List Value).toArray below meth c H locs 0 0 (q_X2_sumOfSeeds G ad K below ([.ref (ad 10 0)] : List Value).toArray s) (F0 m 4 ls []) := by
    intro n
    induction n with
    | zero =>
      intro F x1 x2 H locs ls hH hS hl q
      exact False.elim q
    | succ n ih =>
      intro F x1 x2 H locs ls hH hS hl q
      rw [P_X2_sumOfSeeds_4] at q
      refine lv_iload_n hx hb dX2_sumOfSeeds_4 rfl (lv_at hl 2 rfl) ?_
      refine lv_iconst (v := 5) hx hb dX2_sumOfSeeds_5 (by decide) ?_
      refine lv_icmp_ge (tgt := 24) hx hb dX2_sumOfSeeds_6 (by decide) (fun c1 => ?_) (fun c1 => ?_)
      · have q := (if_pos c1).mp q
        refine lv_iload_n hx hb dX2_sumOfSeeds_24 rfl (lv_at hl 1 rfl) ?_
        exact (W.iret (v := x1) hx hb hr (fun t ht hW => ⟨⟨x1, F, rfl, q, gH_at ht hH⟩, hS.F ht⟩) hS.2.2 dX2_sumOfSeeds_25)
      · have q := (if_neg c1).mp q
        refine lv_iload_n hx hb dX2_sumOfSeeds_9 rfl (lv_at hl 1 rfl) ?_
        refine lv_aload_n hx hb dX2_sumOfSeeds_10 rfl (lv_at hl 0 rfl) ?_
        refine g_get (ci := 6) (v := .ref (ad 11 0)) (C := RX2) (T := TX2) (N := 10) hx hb hts (fun _ h => (List.mem_cons_of_mem _ (List.mem_append_left _ (List.mem_append_right _ h)))) hown hK hH 10 0 (by decide) Nat.zero_lt_one rfl rfl 5 (by decide) (hts (.fieldLink RX2 28 "BallotFoundry$Election" "seeds" "[I") (List.mem_of_getElem? (i := 1) rfl)) (fun _ h => h) rfl dX2_sumOfSeeds_11 ?_
        refine lv_iload_n hx hb dX2_sumOfSeeds_14 rfl (lv_at hl 2 rfl) ?_
        obtain ⟨h2, q⟩ := q
        refine g_iald hx hb hK hH 11 0 (by decide) Nat.zero_lt_one 5 rfl h2 dX2_sumOfSeeds_15 ?_
        refine lv_iadd hx hb dX2_sumOfSeeds_16 ?_
        refine lv_topi (fun y3 ey3 => ?_)
        have q := q y3 ey3
        refine lv_istore_n (lv' := [(1, .int y3), (0, .ref (ad 10 0)), (2, .int x2)]) hx hb dX2_sumOfSeeds_17 rfl hl (by decide) rfl (fun ls hl => ?_)
        refine lv_iinc (v := x2 + 1) (lv' := [(2, .int (x2 + 1)), (1, .int y3), (0, .ref (ad 10 0))]) hx hb dX2_sumOfSeeds_18 hl (k := 2) rfl rfl (by decide) rfl (fun ls hl => ?_)
        refine lv_goto (tgt := 4) hx hb dX2_sumOfSeeds_21 (by decide) ?_
        exact ih F y3 (x2 + 1) _ _ _ hH hS (lv_sub hl [2, 1, 0] rfl) q
  unfold P_X2_sumOfSeeds at q
  refine lv_iconst (v := 0) hx hb dX2_sumOfSeeds_0 (by decide) ?_
  refine lv_istore_n (lv' := [(1, .int 0), (0, .ref (ad 10 0))]) hx hb dX2_sumOfSeeds_1 rfl hl (by decide) rfl (fun ls hl => ?_)
  refine lv_iconst (v := 0) hx hb dX2_sumOfSeeds_2 (by decide) ?_
  refine lv_istore_n (lv' := [(2, .int 0), (1, .int 0), (0, .ref (ad 10 0))]) hx hb dX2_sumOfSeeds_3 rfl hl (by decide) rfl (fun ls hl => ?_)
  obtain ⟨nn, q⟩ := q
  exact t_4 nn F 0 0 _ _ _ hH hS (lv_sub hl [2, 1, 0] rfl) q
abbrev rm_X6_divisor : Room := { frames := 0, cells := 0, slots := 0, locals := 0 }
abbrev q_X6_divisor (G : GP) (ad : Nat → Nat → Nat) (K : Int32 → GF → Prop) (below : List Frame) (args : Array Value) (s : State) : State → Prop := MQ below (gQi G ad K) args s 0 0 (gA G)
set_option maxHeartbeats 4000000 in
set_option maxRecDepth 100000 in
theorem c_X6_divisor (l : Launch) (G : GP) (ad : Nat → Nat → Nat) (F : GF) (p1 : Int32) (p2 : Int32) (K : Int32 → GF → Prop) : Met l yX6_divisor wsX6_divisor rm_X6_divisor (va_Pc [.ref (ad 27 0), .int p1, .int p2] (fun U => gD G ad F U ∧ P_X6_divisor F p1 p2 K)) (gQi G ad K) 0 0 (gA G) := by
  refine Met.ofW (cc := cX6_divisor) (maxL := 3) (ret := (some .int)) (by decide) rfl ?_
  intro p e s m args below meth c s₁ Bd hml hv
  obtain ⟨rfl, ⟨hK, hG, hB, hH⟩, q⟩ := hv
  have hx := Bd.exec
  have hb := Bd.bytes
  have hr := Bd.returns
  have hts := atoms_spec (ws := wsX6_divisor) Bd.pre
  have hown : s.vm.findClass RX6 = some m.cls := findClass_of_methodNamed Bd.named
  have hlocks := Bd.notSynchronized
  have hS : va_S (gA G) s.heap s.heap [] := va_S.rf
  have hl := lv_entry [.ref (ad 27 0), .int p1, .int p2] (n := 3) (Nat.le_of_ble_eq_true rfl)
  rw [lg_entry_eq]
  generalize (lg_sl [.ref (ad 27 0), .int p1, .int p2] ++ List.replicate (3 - (lg_sl [.ref (ad 27 0), .int p1, .int p2]).length) Slot.unset).toArray = ls at hl ⊢
  have hl : lv_has ls 3 [(0, .ref (ad 27 0)), (1, .int p1), (2, .int p2)] := hl
  unfold P_X6_divisor at q
  refine lv_iload_n hx hb dX6_divisor_0 rfl (lv_at hl 2 rfl) ?_
  refine lv_if_eq (tgt := 17) hx hb dX6_divisor_1 (by decide) (fun c1 => ?_) (fun c1 => ?_)
  · have q := (if_pos c1).mp q
    refine lv_aload_n hx hb dX6_divisor_17 rfl (lv_at hl 0 rfl) ?_
    refine g_get (ci := 10) (v := .ref (ad 35 0)) (C := RX6) (T := TX6) (N := 7) hx hb hts (fun _ h => (List.mem_cons_of_mem _ (List.mem_append_left _ (List.mem_append_right _ h)))) hown hK hH 27 0 (by decide) Nat.zero_lt_one rfl rfl 1 (by decide) (hts (.fieldLink RX6 15 "BallotFoundry$SeatGiving" "seats" "[I") (List.mem_of_getElem? (i := 1) rfl)) (fun _ h => h) rfl dX6_divisor_18 ?_
    refine lv_iload_n hx hb dX6_divisor_21 rfl (lv_at hl 1 rfl) ?_
    obtain ⟨h2, q⟩ := q
    refine g_iald hx hb hK hH 35 0 (by decide) Nat.zero_lt_one 5 rfl h2 dX6_divisor_22 ?_
    refine lv_iconst (v := 1) hx hb dX6_divisor_23 (by decide) ?_
    refine lv_iadd hx hb dX6_divisor_24 ?_
    exact (W.iret (v := ((F 35 0 p1.toNatClampNeg) + 1)) hx hb hr (fun t ht hW => ⟨⟨((F 35 0 p1.toNatClampNeg) + 1), F, rfl, q, gH_at ht hH⟩, hS.F ht⟩) hS.2.2 dX6_divisor_25)
  · have q := (if_neg c1).mp q
    refine lv_iconst (v := 2) hx hb dX6_divisor_4 (by decide) ?_
    refine lv_aload_n hx hb dX6_divisor_5 rfl (lv_at hl 0 rfl) ?_
    refine g_get (ci := 10) (v := .ref (ad 35 0)) (C := RX6) (T := TX6) (N := 7) hx hb hts (fun _ h => (List.mem_cons_of_mem _ (List.mem_append_left _ (List.mem_append_right _ h)))) hown hK hH 27 0 (by decide) Nat.zero_lt_one rfl rfl 1 (by decide) (hts (.fieldLink RX6 15 "BallotFoundry$SeatGiving" "seats" "[I") (List.mem_of_getElem? (i := 1) rfl)) (fun _ h => h) rfl dX6_divisor_6 ?_
    refine lv_iload_n hx hb dX6_divisor_9 rfl (lv_at hl 1 rfl) ?_
    obtain ⟨h3, q⟩ := q
    refine g_iald hx hb hK hH 35 0 (by decide) Nat.zero_lt_one 5 rfl h3 dX6_divisor_10 ?_
    refine lv_imul hx hb dX6_divisor_11 ?_
    refine lv_iconst (v := 1) hx hb dX6_divisor_12 (by decide) ?_
    refine lv_iadd hx hb dX6_divisor_13 ?_
    refine lv_goto (tgt := 25) hx hb dX6_divisor_14 (by decide) ?_
    exact (W.iret (v := ((2 * (F 35 0 p1.toNatClampNeg)) + 1)) hx hb hr (fun t ht hW => ⟨⟨((2 * (F 35 0 p1.toNatClampNeg)) + 1), F, rfl, q, gH_at ht hH⟩, hS.F ht⟩) hS.2.2 dX6_divisor_25)
abbrev rm_X6_compareQuotients : Room := { frames := 1, cells := 0, slots := 0, locals := 22 }
abbrev q_X6_compareQuotients (G : GP) (ad : Nat → Nat → Nat) (K : Int32 → GF → Prop) (below : List Frame) (args : Array Value) (s : State) : State → Prop := MQ below (gQi G ad K) args s 0 0 (gA G)
set_option maxHeartbeats 4000000 in
set_option maxRecDepth 100000 in
theorem c_X6_compareQuotients (l : Launch) (G : GP) (ad : Nat → Nat → Nat) (F : GF) (p1 : Int32) (p2 : Int32) (p3 : Int32) (K : Int32 → GF → Prop) : Met l yX6_compareQuotients wsX6_compareQuotients rm_X6_compareQuotients (va_Pc [.ref (ad 27 0), .int p1, .int p2, .int p3] (fun U => gD G ad F U ∧ P_X6_compareQuotients F p1 p2 p3 K)) (gQi G ad K) 0 0 (gA G) := by
  refine Met.ofW (cc := cX6_compareQuotients) (maxL := 4) (ret := (some .int)) (by decide) rfl ?_
  intro p e s m args below meth c s₁ Bd hml hv
  obtain ⟨rfl, ⟨hK, hG, hB, hH⟩, q⟩ := hv
  have hx := Bd.exec
  have hb := Bd.bytes
  have hr := Bd.returns
  have hts := atoms_spec (ws := wsX6_compareQuotients) Bd.pre
  have hown : s.vm.findClass RX6 = some m.cls := findClass_of_methodNamed Bd.named
  have hlocks := Bd.notSynchronized
  have hS : va_S (gA G) s.heap s.heap [] := va_S.rf
  have hl := lv_entry [.ref (ad 27 0), .int p1, .int p2, .int p3] (n := 4) (Nat.le_of_ble_eq_true rfl)
  rw [lg_entry_eq]
  generalize (lg_sl [.ref (ad 27 0), .int p1, .int p2, .int p3] ++ List.replicate (4 - (lg_sl [.ref (ad 27 0), .int p1, .int p2, .int p3]).length) Slot.unset).toArray = ls at hl ⊢
  have hl : lv_has ls 4 [(0, .ref (ad 27 0)), (1, .int p1), (2, .int p2), (3, .int p3)] := hl
  unfold P_X6_compareQuotients at q
  refine lv_aload_n hx hb dX6_compareQuotients_0 rfl (lv_at hl 0 rfl) ?_
  refine g_get (ci := 10) (v := .ref (ad 34 0)) (C := RX6) (T := TX6) (N := 7) hx hb hts (fun _ h => (List.mem_cons_of_mem _ (List.mem_append_left _ (List.mem_append_right _ h)))) hown hK hH 27 0 (by decide) Nat.zero_lt_one rfl rfl 0 (by decide) (hts (.fieldLink RX6 9 "BallotFoundry$SeatGiving" "votes" "[I") (List.mem_of_getElem? (i := 1) rfl)) (fun _ h => h) rfl dX6_compareQuotients_1 ?_
  refine lv_iload_n hx hb dX6_compareQuotients_4 rfl (lv_at hl 1 rfl) ?_
  obtain ⟨h1, q⟩ := q
  refine g_iald hx hb hK hH 34 0 (by decide) Nat.zero_lt_one 5 rfl h1 dX6_compareQuotients_5 ?_
  refine lv_aload_n hx hb dX6_compareQuotients_6 rfl (lv_at hl 0 rfl) ?_
  refine lv_iload_n hx hb dX6_compareQuotients_7 rfl (lv_at hl 2 rfl) ?_
  refine lv_iload_n hx hb dX6_compareQuotients_8 rfl (lv_at hl 3 rfl) ?_
  refine va_calli (va_runV (As := [.int p2, .int p3]) (rest := [.int (F 34 0 p1.toNatClampNeg)]) ⟨hx, hb, hml, hown, hts⟩ (c_X6_divisor l G ad F p2 p3 _) (cwV 2 hts gX6_compareQuotients_X6_divisor rfl rfl rfl (by decide +kernel) ⟨Nat.le_of_ble_eq_true rfl, Nat.le_of_ble_eq_true rfl⟩) ⟨fun a U g mk h => ⟨h.1, gD_blind h.2.1, h.2.2⟩, g_recv (C := RX6) (T := TX6) (N := 7) hK hH 27 0 (by decide) Nat.zero_lt_one rfl rfl, fun U hU hW => ⟨rfl, gD_at hK hG hB hH hS hU hW, q⟩⟩ rfl rfl hl.1 rfl (lv_room (Nat.le_of_ble_eq_true rfl)) dX6_compareQuotients_9 ⟨Nat.le_of_ble_eq_true rfl, Nat.le_of_ble_eq_true rfl⟩) hS (fun _ _ h => h) (fun _ h => h) (fun r2 F3 t H locs ht hvm q hB1 hz hk hS => ?_)
  have hH : gH G ad F3 H := gH_to ht hB1
  refine lv_imul hx hb dX6_compareQuotients_12 ?_
  refine lv_aload_n hx hb dX6_compareQuotients_13 rfl (lv_at hl 0 rfl) ?_
  refine g_get (ci := 10) (v := .ref (ad 34 0)) (C := RX6) (T := TX6) (N := 7) hx hb hts (fun _ h => (List.mem_cons_of_mem _ (List.mem_append_left _ (List.mem_append_right _ h)))) hown hK hH 27 0 (by decide) Nat.zero_lt_one rfl rfl 0 (by decide) (hts (.fieldLink RX6 9 "BallotFoundry$SeatGiving" "votes" "[I") (List.mem_of_getElem? (i := 1) rfl)) (fun _ h => h) rfl dX6_compareQuotients_14 ?_
  refine lv_iload_n hx hb dX6_compareQuotients_17 rfl (lv_at hl 2 rfl) ?_
  obtain ⟨h4, q⟩ := q
  refine g_iald hx hb hK hH 34 0 (by decide) Nat.zero_lt_one 5 rfl h4 dX6_compareQuotients_18 ?_
  refine lv_aload_n hx hb dX6_compareQuotients_19 rfl (lv_at hl 0 rfl) ?_
  refine lv_iload_n hx hb dX6_compareQuotients_20 rfl (lv_at hl 1 rfl) ?_
  refine lv_iload_n hx hb dX6_compareQuotients_21 rfl (lv_at hl 3 rfl) ?_
  refine va_calli (va_runV (As := [.int p1, .int p3]) (rest := [.int (F3 34 0 p2.toNatClampNeg), .int ((F 34 0 p1.toNatClampNeg) * r2)]) ⟨hx, hb, hml, hown, hts⟩ (c_X6_divisor l G ad F3 p1 p3 _) (cwV 2 hts gX6_compareQuotients_X6_divisor rfl rfl rfl (by decide +kernel) ⟨Nat.le_of_ble_eq_true rfl, Nat.le_of_ble_eq_true rfl⟩) ⟨fun a U g mk h => ⟨h.1, gD_blind h.2.1, h.2.2⟩, g_recv (C := RX6) (T := TX6) (N := 7) hK hH 27 0 (by decide) Nat.zero_lt_one rfl rfl, fun U hU hW => ⟨rfl, gD_at hK hG hB hH hS hU hW, q⟩⟩ rfl rfl hl.1 rfl (lv_room (Nat.le_of_ble_eq_true rfl)) dX6_compareQuotients_22 ⟨Nat.le_of_ble_eq_true rfl, Nat.le_of_ble_eq_true rfl⟩) hS (fun _ _ h => h) (fun _ h => h) (fun r5 F6 t H locs ht hvm q hB1 hz hk hS => ?_)
  have hH : gH G ad F6 H := gH_to ht hB1
  refine lv_imul hx hb dX6_compareQuotients_25 ?_
  refine va_calli (va_runS (As := [.int ((F 34 0 p1.toNatClampNeg) * r2), .int ((F3 34 0 p2.toNatClampNeg) * r5)]) (rest := []) ⟨hx, hb, hml, hown, hts⟩ (c_J6_compare_7cf53 l G ad F6 ((F 34 0 p1.toNatClampNeg) * r2) ((F3 34 0 p2.toNatClampNeg) * r5) _) (va_cwS 2 hts gX6_compareQuotients_J6_compare_7cf53 rfl rfl rfl (by decide +kernel) ⟨Nat.le_of_ble_eq_true rfl, Nat.le_of_ble_eq_true rfl⟩) ⟨fun a U g mk h => ⟨h.1, gD_blind h.2.1, h.2.2⟩, fun U hU hW => ⟨rfl, gD_at hK hG hB hH hS hU hW, q⟩⟩ rfl rfl hl.1 rfl (lv_room (Nat.le_of_ble_eq_true rfl)) dX6_compareQuotients_26 ⟨Nat.le_of_ble_eq_true rfl, Nat.le_of_ble_eq_true rfl⟩) hS (fun _ _ h => h) (fun _ h => h) (fun r7 F8 t H locs ht hvm q hB1 hz hk hS => ?_)
  have hH : gH G ad F8 H := gH_to ht hB1
  exact (W.iret (v := r7) hx hb hr (fun t ht hW => ⟨⟨r7, F8, rfl, q, gH_at ht hH⟩, hS.F ht⟩) hS.2.2 dX6_compareQuotients_29)
abbrev rm_X6_findGreatest : Room := { frames := 2, cells := 0, slots := 0, locals := 45 }
abbrev q_X6_findGreatest (G : GP) (ad : Nat → Nat → Nat) (K : Int32 → GF → Prop) (below : List Frame) (args : Array Value) (s : State) : State → Prop := MQ below (gQi G ad K) args s 0 0 (gA G)
set_option maxHeartbeats 4000000 in
set_option maxRecDepth 100000 in
theorem c_X6_findGreatest (l : Launch) (G : GP) (ad : Nat → Nat → Nat) (F : GF) (p1 : Int32) (K : Int32 → GF → Prop) : Met l yX6_findGreatest wsX6_findGreatest rm_X6_findGreatest (va_Pc [.ref (ad 27 0), .int p1] (fun U => gD G ad F U ∧ P_X6_findGreatest F p1 K)) (gQi G ad K) 0 0 (gA G) := by
  refine Met.ofW (cc := cX6_findGreatest) (maxL := 5) (ret := (some .int)) (by decide) rfl ?_
  intro p e s m args below meth c s₁ Bd hml hv
  obtain ⟨rfl, ⟨hK, hG, hB, hH⟩, q⟩ := hv
  have hx := Bd.exec
  have hb := Bd.bytes
  have hr := Bd.returns
  have hts := atoms_spec (ws := wsX6_findGreatest) Bd.pre
  have hown : s.vm.findClass RX6 = some m.cls := findClass_of_methodNamed Bd.named
  have hlocks := Bd.notSynchronized
  have hS : va_S (gA G) s.heap s.heap [] := va_S.rf
  have hl := lv_entry [.ref (ad 27 0), .int p1] (n := 5) (Nat.le_of_ble_eq_true rfl)
  rw [lg_entry_eq]
  generalize (lg_sl [.ref (ad 27 0), .int p1] ++ List.replicate (5 - (lg_sl [.ref (ad 27 0), .int p1]).length) Slot.unset).toArray = ls at hl ⊢
  have hl : lv_has ls 5 [(0, .ref (ad 27 0)), (1, .int p1)] := hl
  show W p l e rm_X6_findGreatest s m ([.ref (ad 27 0), .int p1] : List Value).toArray below meth c s.heap [] 0 0 (q_X6_findGreatest G ad K below ([.ref (ad 27 0), .int p1] : List Value).toArray s) _
  have t_70 : ∀ (k4 : GF → Int32 → Int32 → Int32 → Prop), (∀ (F : GF) (x1 : Int32) (x2 : Int32) (x3 : Int32) (H : Heap) (locs : List Loc) (ls : Array Slot), gH G ad F H → va_S (gA G) s.heap H locs → lv_has ls 5 [(0, .ref (ad 27 0)), (1, .int x1), (2, .int x2), (3, .int x3)] → k4 F x1 x2 x3 → W p l e rm_X6_findGreatest s m ([.ref (ad 27 0), .int p1] : List Value).toArray below meth c H locs 0 0 (q_X6_findGreatest G ad K below ([.ref (ad 27 0), .int p1] : List Value).toArray s) (F0 m 4 ls [])) → ∀ (F : GF) (x1 : Int32) (x2 : Int32) (x3 : Int32) (H : Heap) (locs : List Loc) (ls : Array Slot), gH G ad F H → va_S (gA G) s.heap H locs → lv_has ls 5 [(0, .ref (ad 27 0)), (1, .int x1), (2, .int x2), (3, .int x3)] → (P_X6_findGreatest_70 k4 K) F x1 x2 x3 → W p l e rm_X6_findGreatest s m ([.ref (ad 27 0), .int p1] : List Value).toArray below meth c H locs 0 0 (q_X6_findGreatest G ad K below ([.ref (ad 27 0), .int p1] : List Value).toArray s) (F0 m 70 ls []) := by
    intro k4 hk4 F x1 x2 x3 H locs ls hH hS hl q
    unfold P_X6_findGreatest_70 at q
    refine lv_iinc (v := x3 + 1) (lv' := [(3, .int (x3 + 1)), (0, .ref (ad 27 0)), (1, .int x1), (2, .int x2)]) hx hb dX6_findGreatest_70 hl (k := 3) rfl rfl (by decide) rfl (fun ls hl => ?_)
    refine lv_goto (tgt := 4) hx hb dX6_findGreatest_73 (by decide) ?_
    exact hk4 F x1 x2 (x3 + 1) _ _ _ hH hS (lv_sub hl [1, 2, 3, 0] rfl) q
  have t_50 : ∀ (k4 : GF → Int32 → Int32 → Int32 → Prop), (∀ (F : GF) (x1 : Int32) (x2 : Int32) (x3 : Int32) (H : Heap) (locs : List Loc) (ls : Array Slot), gH G ad F H → va_S (gA G) s.heap H locs → lv_has ls 5 [(0, .ref (ad 27 0)), (1, .int x1), (2, .int x2), (3, .int x3)] → k4 F x1 x2 x3 → W p l e rm_X6_findGreatest s m ([.ref (ad 27 0), .int p1] : List Value).toArray below meth c H locs 0 0 (q_X6_findGreatest G ad K below ([.ref (ad 27 0), .int p1] : List Value).toArray s) (F0 m 4 ls [])) → ∀ (F : GF) (x1 : Int32) (x2 : Int32) (x3 : Int32) (x4 : Int32) (H : Heap) (locs : List Loc) (ls : Array Slot), gH G ad F H → va_S (gA G) s.heap H locs → lv_has ls 5 [(0, .ref (ad 27 0)), (1, .int x1), (2, .int x2), (3, .int x3), (4, .int x4)] → (P_X6_findGreatest_50 k4 K) F x1 x2 x3 x4 → W p l e rm_X6_findGreatest s m ([.ref (ad 27 0), .int p1] : List Value).toArray below meth c H locs 0 0 (q_X6_findGreatest G ad K below ([.ref (ad 27 0), .int p1] : List Value).toArray s) (F0 m 50 ls []) := by
    intro k4 hk4 F x1 x2 x3 x4 H locs ls hH hS hl q
    unfold P_X6_findGreatest_50 at q
    refine lv_iload hx hb dX6_findGreatest_50 (lv_at hl 4 rfl) ?_
    refine lv_if_lt (tgt := 70) hx hb dX6_findGreatest_52 (by decide) (fun c9 => ?_) (fun c9 => ?_)
    · have q := (if_pos c9).mp q
      exact t_70 k4 hk4 F x1 x2 x3 _ _ _ hH hS (lv_sub hl [0, 1, 2, 3] rfl) q
    · have q := (if_neg c9).mp q
      refine lv_iload_n hx hb dX6_findGreatest_55 rfl (lv_at hl 2 rfl) ?_
      refine lv_iconst (v := 5) hx hb dX6_findGreatest_56 (by decide) ?_
      refine lv_icmp_ge (tgt := 70) hx hb dX6_findGreatest_57 (by decide) (fun c10 => ?_) (fun c10 => ?_)
      · have q := (if_pos c10).mp q
        exact t_70 k4 hk4 F x1 x2 x3 _ _ _ hH hS (lv_sub hl [0, 1, 2, 3] rfl) q
      · have q := (if_neg c10).mp q
        refine lv_aload_n hx hb dX6_findGreatest_60 rfl (lv_at hl 0 rfl) ?_
        refine g_get (ci := 10) (v := .ref (ad 37 0)) (C := RX6) (T := TX6) (N := 7) hx hb hts (fun _ h => (List.mem_cons_of_mem _ (List.mem_append_left _ (List.mem_append_right _ h)))) hown hK hH 27 0 (by decide) Nat.zero_lt_one rfl rfl 3 (by decide) (hts (.fieldLink RX6 21 "BallotFoundry$SeatGiving" "tied" "[I") (List.mem_of_getElem? (i := 2) rfl)) (fun _ h => h) rfl dX6_findGreatest_61 ?_
        refine lv_iload_n hx hb dX6_findGreatest_64 rfl (lv_at hl 2 rfl) ?_
        refine lv_iload_n hx hb dX6_findGreatest_65 rfl (lv_at hl 3 rfl) ?_
        obtain ⟨h11, q⟩ := q
        refine g_iast hx hb hK hH hS 37 0 (by decide) Nat.zero_lt_one (by decide) 5 (fun _ => rfl) h11 dX6_findGreatest_66 (fun H locs hH hS => ?_)
        obtain ⟨F12, eF12⟩ : ∃ z, z = fs F 37 0 x2.toNatClampNeg x3 := ⟨_, rfl⟩
        have q := q F12 eF12
        rw [← eF12] at hH
        refine lv_iinc (v := x2 + 1) (lv' := [(2, .int (x2 + 1)), (0, .ref (ad 27 0)), (1, .int x1), (3, .int x3), (4, .int x4)]) hx hb dX6_findGreatest_67 hl (k := 2) rfl rfl (by decide) rfl (fun ls hl => ?_)
        exact t_70 k4 hk4 F12 x1 (x2 + 1) x3 _ _ _ hH hS (lv_sub hl [1, 2, 0, 3] rfl) q
  have t_41 : ∀ (k4 : GF → Int32 → Int32 → Int32 → Prop), (∀ (F : GF) (x1 : Int32) (x2 : Int32) (x3 : Int32) (H : Heap) (locs : List Loc) (ls : Array Slot), gH G ad F H → va_S (gA G) s.heap H locs → lv_has ls 5 [(0, .ref (ad 27 0)), (1, .int x1), (2, .int x2), (3, .int x3)] → k4 F x1 x2 x3 → W p l e rm_X6_findGreatest s m ([.ref (ad 27 0), .int p1] : List Value).toArray below meth c H locs 0 0 (q_X6_findGreatest G ad K below ([.ref (ad 27 0), .int p1] : List Value).toArray s) (F0 m 4 ls [])) → ∀ (F : GF) (x1 : Int32) (x2 : Int32) (x3 : Int32) (s0 : Int32) (H : Heap) (locs : List Loc) (ls : Array Slot), gH G ad F H → va_S (gA G) s.heap H locs → lv_has ls 5 [(0, .ref (ad 27 0)), (1, .int x1), (2, .int x2), (3, .int x3)] → (P_X6_findGreatest_41 k4 K) F x1 x2 x3 s0 → W p l e rm_X6_findGreatest s m ([.ref (ad 27 0), .int p1] : List Value).toArray below meth c H locs 0 0 (q_X6_findGreatest G ad K below ([.ref (ad 27 0), .int p1] : List Value).toArray s) (F0 m 41 ls [.int s0]) := by
    intro k4 hk4 F x1 x2 x3 s0 H locs ls hH hS hl q
    unfold P_X6_findGreatest_41 at q
    refine lv_istore (lv' := [(4, .int s0), (0, .ref (ad 27 0)), (1, .int x1), (2, .int x2), (3, .int x3)]) hx hb dX6_findGreatest_41 hl (by decide) rfl (fun ls hl => ?_)
    refine lv_iload hx hb dX6_findGreatest_43 (lv_at hl 0 rfl) ?_
    refine lv_if_le (tgt := 50) hx hb dX6_findGreatest_45 (by decide) (fun c8 => ?_) (fun c8 => ?_)
    · have q := (if_pos c8).mp q
      exact t_50 k4 hk4 F x1 x2 x3 s0 _ _ _ hH hS (lv_sub hl [1, 2, 3, 4, 0] rfl) q
    · have q := (if_neg c8).mp q
      refine lv_iconst (v := 0) hx hb dX6_findGreatest_48 (by decide) ?_
      refine lv_istore_n (lv' := [(2, .int 0), (4, .int s0), (0, .ref (ad 27 0)), (1, .int x1), (3, .int x3)]) hx hb dX6_findGreatest_49 rfl hl (by decide) rfl (fun ls hl => ?_)
      exact t_50 k4 hk4 F x1 0 x3 s0 _ _ _ hH hS (lv_sub hl [2, 3, 0, 4, 1] rfl) q
  have t_4 : ∀ n : Nat, ∀ (F : GF) (x1 : Int32) (x2 : Int32) (x3 : Int32) (H : Heap) (locs : List Loc) (ls : Array Slot), gH G ad F H → va_S (gA G) s.heap H locs → lv_has ls 5 [(0, .ref (ad 27 0)), (1, .int x1), (2, .int x2), (3, .int x3)] → (P_X6_findGreatest_4 K n) F x1 x2 x3 → W p l e rm_X6_findGreatest s m ([.ref (ad 27 0), .int p1] : List Value).toArray below meth c H locs 0 0 (q_X6_findGreatest G ad K below ([.ref (ad 27 0), .int p1] : List Value).toArray s) (F0 m 4 ls []) := by
    intro n
    induction n with
    | zero =>
      intro F x1 x2 x3 H locs ls hH hS hl q
      exact False.elim q
    | succ n ih =>
      intro F x1 x2 x3 H locs ls hH hS hl q
      rw [P_X6_findGreatest_4] at q
      refine lv_iload_n hx hb dX6_findGreatest_4 rfl (lv_at hl 3 rfl) ?_
      refine lv_iconst (v := 5) hx hb dX6_findGreatest_5 (by decide) ?_
      refine lv_icmp_ge (tgt := 76) hx hb dX6_findGreatest_6 (by decide) (fun c1 => ?_) (fun c1 => ?_)
      · have q := (if_pos c1).mp q
        refine lv_iload_n hx hb dX6_findGreatest_76 rfl (lv_at hl 2 rfl) ?_
        exact (W.iret (v := x2) hx hb hr (fun t ht hW => ⟨⟨x2, F, rfl, q, gH_at ht hH⟩, hS.F ht⟩) hS.2.2 dX6_findGreatest_77)
      · have q := (if_neg c1).mp q
        refine lv_aload_n hx hb dX6_findGreatest_9 rfl (lv_at hl 0 rfl) ?_
        refine g_get (ci := 10) (v := .ref (ad 34 0)) (C := RX6) (T := TX6) (N := 7) hx hb hts (fun _ h => (List.mem_cons_of_mem _ (List.mem_append_left _ (List.mem_append_right _ h)))) hown hK hH 27 0 (by decide) Nat.zero_lt_one rfl rfl 0 (by decide) (hts (.fieldLink RX6 9 "BallotFoundry$SeatGiving" "votes" "[I") (List.mem_of_getElem? (i := 1) rfl)) (fun _ h => h) rfl dX6_findGreatest_10 ?_
        refine lv_iload_n hx hb dX6_findGreatest_13 rfl (lv_at hl 3 rfl) ?_
        obtain ⟨h2, q⟩ := q
        refine g_iald hx hb hK hH 34 0 (by decide) Nat.zero_lt_one 5 rfl h2 dX6_findGreatest_14 ?_
        refine lv_if_gt (tgt := 21) hx hb dX6_findGreatest_15 (by decide) (fun c3 => ?_) (fun c3 => ?_)
        · have q := (if_pos c3).mp q
          refine lv_iload_n hx hb dX6_findGreatest_21 rfl (lv_at hl 2 rfl) ?_
          refine lv_if_ne (tgt := 29) hx hb dX6_findGreatest_22 (by decide) (fun c4 => ?_) (fun c4 => ?_)
          · have q := (if_neg c4).mp q
            refine lv_aload_n hx hb dX6_findGreatest_29 rfl (lv_at hl 0 rfl) ?_
            refine lv_iload_n hx hb dX6_findGreatest_30 rfl (lv_at hl 3 rfl) ?_
            refine lv_aload_n hx hb dX6_findGreatest_31 rfl (lv_at hl 0 rfl) ?_
            refine g_get (ci := 10) (v := .ref (ad 37 0)) (C := RX6) (T := TX6) (N := 7) hx hb hts (fun _ h => (List.mem_cons_of_mem _ (List.mem_append_left _ (List.mem_append_right _ h)))) hown hK hH 27 0 (by decide) Nat.zero_lt_one rfl rfl 3 (by decide) (hts (.fieldLink RX6 21 "BallotFoundry$SeatGiving" "tied" "[I") (List.mem_of_getElem? (i := 2) rfl)) (fun _ h => h) rfl dX6_findGreatest_32 ?_
            refine lv_iconst (v := 0) hx hb dX6_findGreatest_35 (by decide) ?_
            obtain ⟨h5, q⟩ := q
            refine g_iald hx hb hK hH 37 0 (by decide) Nat.zero_lt_one 5 rfl h5 dX6_findGreatest_36 ?_
            refine lv_iload_n hx hb dX6_findGreatest_37 rfl (lv_at hl 1 rfl) ?_
            refine va_calli (va_runV (As := [.int x3, .int (F 37 0 (0 : Int32).toNatClampNeg), .int x1]) (rest := []) ⟨hx, hb, hml, hown, hts⟩ (c_X6_compareQuotients l G ad F x3 (F 37 0 (0 : Int32).toNatClampNeg) x1 _) (cwV 3 hts gX6_findGreatest_X6_compareQuotients rfl rfl rfl (by decide +kernel) ⟨Nat.le_of_ble_eq_true rfl, Nat.le_of_ble_eq_true rfl⟩) ⟨fun a U g mk h => ⟨h.1, gD_blind h.2.1, h.2.2⟩, g_recv (C := RX6) (T := TX6) (N := 7) hK hH 27 0 (by decide) Nat.zero_lt_one rfl rfl, fun U hU hW => ⟨rfl, gD_at hK hG hB hH hS hU hW, q⟩⟩ rfl rfl hl.1 rfl (lv_room (Nat.le_of_ble_eq_true rfl)) dX6_findGreatest_38 ⟨Nat.le_of_ble_eq_true rfl, Nat.le_of_ble_eq_true rfl⟩) hS (fun _ _ h => h) (fun _ h => h) (fun r6 F7 t H locs ht hvm q hB1 hz hk hS => ?_)
            have hH : gH G ad F7 H := gH_to ht hB1
            exact t_41 (fun F a0 a1 a2 => P_X6_findGreatest_4 K n F a0 a1 a2) ih F7 x1 x2 x3 r6 _ _ _ hH hS (lv_sub hl [0, 1, 2, 3] rfl) q
          · have q := (if_pos c4).mp q
            refine lv_iconst (v := 0) hx hb dX6_findGreatest_25 (by decide) ?_
            refine lv_goto (tgt := 41) hx hb dX6_findGreatest_26 (by decide) ?_
            exact t_41 (fun F a0 a1 a2 => P_X6_findGreatest_4 K n F a0 a1 a2) ih F x1 x2 x3 0 _ _ _ hH hS (lv_sub hl [0, 1, 2, 3] rfl) q
        · have q := (if_neg c3).mp q
          refine lv_goto (tgt := 70) hx hb dX6_findGreatest_18 (by decide) ?_
          exact t_70 (fun F a0 a1 a2 => P_X6_findGreatest_4 K n F a0 a1 a2) ih F x1 x2 x3 _ _ _ hH hS (lv_sub hl [0, 1, 2, 3] rfl) q
  unfold P_X6_findGreatest at q
  refine lv_iconst (v := 0) hx hb dX6_findGreatest_0 (by decide) ?_
  refine lv_istore_n (lv' := [(2, .int 0), (0, .ref (ad 27 0)), (1, .int p1)]) hx hb dX6_findGreatest_1 rfl hl (by decide) rfl (fun ls hl => ?_)
  refine lv_iconst (v := 0) hx hb dX6_findGreatest_2 (by decide) ?_
  refine lv_istore_n (lv' := [(3, .int 0), (2, .int 0), (0, .ref (ad 27 0)), (1, .int p1)]) hx hb dX6_findGreatest_3 rfl hl (by decide) rfl (fun ls hl => ?_)
  obtain ⟨nn, q⟩ := q
  exact t_4 nn F p1 0 0 _ _ _ hH hS (lv_sub hl [2, 3, 1, 0] rfl) q
abbrev rm_X6_drawLot : Room := { frames := 0, cells := 0, slots := 0, locals := 0 }
abbrev q_X6_drawLot (G : GP) (ad : Nat → Nat → Nat) (K : Int32 → GF → Prop) (below : List Frame) (args : Array Value) (s : State) : State → Prop := MQ below (gQi G ad K) args s 0 0 (gA G)
set_option maxHeartbeats 4000000 in
set_option maxRecDepth 100000 in
theorem c_X6_drawLot (l : Launch) (G : GP) (ad : Nat → Nat → Nat) (F : GF) (p1 : Int32) (K : Int32 → GF → Prop) : Met l yX6_drawLot wsX6_drawLot rm_X6_drawLot (va_Pc [.ref (ad 27 0), .int p1] (fun U => gD G ad F U ∧ P_X6_drawLot F p1 K)) (gQi G ad K) 0 0 (gA G) := by
  refine Met.ofW (cc := cX6_drawLot) (maxL := 2) (ret := (some .int)) (by decide) rfl ?_
  intro p e s m args below meth c s₁ Bd hml hv
  obtain ⟨rfl, ⟨hK, hG, hB, hH⟩, q⟩ := hv
  have hx := Bd.exec
  have hb := Bd.bytes
  have hr := Bd.returns
  have hts := atoms_spec (ws := wsX6_drawLot) Bd.pre
  have hown : s.vm.findClass RX6 = some m.cls := findClass_of_methodNamed Bd.named
  have hlocks := Bd.notSynchronized
  have hS : va_S (gA G) s.heap s.heap [] := va_S.rf
  have hl := lv_entry [.ref (ad 27 0), .int p1] (n := 2) (Nat.le_of_ble_eq_true rfl)
  rw [lg_entry_eq]
  generalize (lg_sl [.ref (ad 27 0), .int p1] ++ List.replicate (2 - (lg_sl [.ref (ad 27 0), .int p1]).length) Slot.unset).toArray = ls at hl ⊢
  have hl : lv_has ls 2 [(0, .ref (ad 27 0)), (1, .int p1)] := hl
  unfold P_X6_drawLot at q
  refine lv_aload_n hx hb dX6_drawLot_0 rfl (lv_at hl 0 rfl) ?_
  refine lv_aload_n hx hb dX6_drawLot_1 rfl (lv_at hl 0 rfl) ?_
  refine g_get (ci := 10) (v := .int (F 27 0 6)) (C := RX6) (T := TX6) (N := 7) hx hb hts (fun _ h => (List.mem_cons_of_mem _ (List.mem_append_right _ h))) hown hK hH 27 0 (by decide) Nat.zero_lt_one rfl rfl 6 (by decide) (hts (.fieldLink RX6 31 "BallotFoundry$SeatGiving" "number" "I") (List.mem_of_getElem? (i := 1) rfl)) (fun _ h => h) rfl dX6_drawLot_2 ?_
  refine lv_sipush (v := 1103) hx hb dX6_drawLot_5 (by decide) ?_
  refine lv_imul hx hb dX6_drawLot_8 ?_
  refine lv_sipush (v := 12345) hx hb dX6_drawLot_9 (by decide) ?_
  refine lv_iadd hx hb dX6_drawLot_12 ?_
  refine lv_ldc (v := 65536) hx hb hown (hts (.constant RX6 65 (65536)) (List.mem_of_getElem? (i := 2) rfl)) dX6_drawLot_13 ?_
  refine lv_irem hx hb dX6_drawLot_15 (by decide) ?_
  refine g_put (ci := 10) (v := .int ((((F 27 0 6) * 1103) + 12345) - (((F 27 0 6) * 1103) + 12345) / 65536 * 65536)) (C := RX6) (T := TX6) (N := 7) hx hb hts (fun _ h => (List.mem_cons_of_mem _ (List.mem_append_right _ h))) tyX6 tyX6_ok nmX6 hown hK hH hS 27 0 (by decide) Nat.zero_lt_one (by decide) rfl rfl 6 (by decide) (hts (.fieldLink RX6 31 "BallotFoundry$SeatGiving" "number" "I") (List.mem_of_getElem? (i := 1) rfl)) (fun _ h => h) rfl (ty := .int) (by decide +kernel) rfl rfl (Nat.le_of_ble_eq_true rfl) ((((F 27 0 6) * 1103) + 12345) - (((F 27 0 6) * 1103) + 12345) / 65536 * 65536) rfl dX6_drawLot_16 (fun H locs hH hS => ?_)
  obtain ⟨F1, eF1⟩ : ∃ z, z = fs F 27 0 6 ((((F 27 0 6) * 1103) + 12345) - (((F 27 0 6) * 1103) + 12345) / 65536 * 65536) := ⟨_, rfl⟩
  have q := q F1 eF1
  rw [← eF1] at hH
  refine lv_aload_n hx hb dX6_drawLot_19 rfl (lv_at hl 0 rfl) ?_
  refine lv_dup hx hb dX6_drawLot_20 rfl ?_
  refine g_get (ci := 10) (v := .int (F1 27 0 5)) (C := RX6) (T := TX6) (N := 7) hx hb hts (fun _ h => (List.mem_cons_of_mem _ (List.mem_append_right _ h))) hown hK hH 27 0 (by decide) Nat.zero_lt_one rfl rfl 5 (by decide) (hts (.fieldLink RX6 28 "BallotFoundry$SeatGiving" "lotsDrawn" "I") (List.mem_of_getElem? (i := 3) rfl)) (fun _ h => h) rfl dX6_drawLot_21 ?_
  refine lv_iconst (v := 1) hx hb dX6_drawLot_24 (by decide) ?_
  refine lv_iadd hx hb dX6_drawLot_25 ?_
  refine g_put (ci := 10) (v := .int ((F1 27 0 5) + 1)) (C := RX6) (T := TX6) (N := 7) hx hb hts (fun _ h => (List.mem_cons_of_mem _ (List.mem_append_right _ h))) tyX6 tyX6_ok nmX6 hown hK hH hS 27 0 (by decide) Nat.zero_lt_one (by decide) rfl rfl 5 (by decide) (hts (.fieldLink RX6 28 "BallotFoundry$SeatGiving" "lotsDrawn" "I") (List.mem_of_getElem? (i := 3) rfl)) (fun _ h => h) rfl (ty := .int) (by decide +kernel) rfl rfl (Nat.le_of_ble_eq_true rfl) ((F1 27 0 5) + 1) rfl dX6_drawLot_26 (fun H locs hH hS => ?_)
  obtain ⟨F2, eF2⟩ : ∃ z, z = fs F1 27 0 5 ((F1 27 0 5) + 1) := ⟨_, rfl⟩
  have q := q F2 eF2
  rw [← eF2] at hH
  refine lv_iload_n hx hb dX6_drawLot_29 rfl (lv_at hl 1 rfl) ?_
  refine lv_if_le (tgt := 42) hx hb dX6_drawLot_30 (by decide) (fun c3 => ?_) (fun c3 => ?_)
  · have q := (if_pos c3).mp q
    refine lv_iconst (v := (-1)) hx hb dX6_drawLot_42 (by decide) ?_
    exact (W.iret (v := (-1)) hx hb hr (fun t ht hW => ⟨⟨(-1), F2, rfl, q, gH_at ht hH⟩, hS.F ht⟩) hS.2.2 dX6_drawLot_43)
  · have q := (if_neg c3).mp q
    refine lv_aload_n hx hb dX6_drawLot_33 rfl (lv_at hl 0 rfl) ?_
    refine g_get (ci := 10) (v := .int (F2 27 0 6)) (C := RX6) (T := TX6) (N := 7) hx hb hts (fun _ h => (List.mem_cons_of_mem _ (List.mem_append_right _ h))) hown hK hH 27 0 (by decide) Nat.zero_lt_one rfl rfl 6 (by decide) (hts (.fieldLink RX6 31 "BallotFoundry$SeatGiving" "number" "I") (List.mem_of_getElem? (i := 1) rfl)) (fun _ h => h) rfl dX6_drawLot_34 ?_
    refine lv_iload_n hx hb dX6_drawLot_37 rfl (lv_at hl 1 rfl) ?_
    obtain ⟨h4, q⟩ := q
    refine lv_irem hx hb dX6_drawLot_38 h4 ?_
    refine lv_goto (tgt := 43) hx hb dX6_drawLot_39 (by decide) ?_
    exact (W.iret (v := ((F2 27 0 6) - (F2 27 0 6) / p1 * p1)) hx hb hr (fun t ht hW => ⟨⟨((F2 27 0 6) - (F2 27 0 6) / p1 * p1), F2, rfl, q, gH_at ht hH⟩, hS.F ht⟩) hS.2.2 dX6_drawLot_43)
abbrev rm_X6_nextParty : Room := { frames := 3, cells := 0, slots := 0, locals := 69 }
abbrev q_X6_nextParty (G : GP) (ad : Nat → Nat → Nat) (K : Int32 → GF → Prop) (below : List Frame) (args : Array Value) (s : State) : State → Prop := MQ below (gQi G ad K) args s 0 0 (gA G)
set_option maxHeartbeats 4000000 in
set_option maxRecDepth 100000 in
theorem c_X6_nextParty (l : Launch) (G : GP) (ad : Nat → Nat → Nat) (F : GF) (p1 : Int32) (K : Int32 → GF → Prop) : Met l yX6_nextParty wsX6_nextParty rm_X6_nextParty (va_Pc [.ref (ad 27 0), .int p1] (fun U => gD G ad F U ∧ P_X6_nextParty F p1 K)) (gQi G ad K) 0 0 (gA G) := by
  refine Met.ofW (cc := cX6_nextParty) (maxL := 4) (ret := (some .int)) (by decide) rfl ?_
  intro p e s m args below meth c s₁ Bd hml hv
  obtain ⟨rfl, ⟨hK, hG, hB, hH⟩, q⟩ := hv
  have hx := Bd.exec
  have hb := Bd.bytes
  have hr := Bd.returns
  have hts := atoms_spec (ws := wsX6_nextParty) Bd.pre
  have hown : s.vm.findClass RX6 = some m.cls := findClass_of_methodNamed Bd.named
  have hlocks := Bd.notSynchronized
  have hS : va_S (gA G) s.heap s.heap [] := va_S.rf
  have hl := lv_entry [.ref (ad 27 0), .int p1] (n := 4) (Nat.le_of_ble_eq_true rfl)
  rw [lg_entry_eq]
  generalize (lg_sl [.ref (ad 27 0), .int p1] ++ List.replicate (4 - (lg_sl [.ref (ad 27 0), .int p1]).length) Slot.unset).toArray = ls at hl ⊢
  have hl : lv_has ls 4 [(0, .ref (ad 27 0)), (1, .int p1)] := hl
  unfold P_X6_nextParty at q
  refine lv_aload_n hx hb dX6_nextParty_0 rfl (lv_at hl 0 rfl) ?_
  refine lv_iload_n hx hb dX6_nextParty_1 rfl (lv_at hl 1 rfl) ?_
  refine va_calli (va_runV (As := [.int p1]) (rest := []) ⟨hx, hb, hml, hown, hts⟩ (c_X6_findGreatest l G ad F p1 _) (cwV 1 hts gX6_nextParty_X6_findGreatest rfl rfl rfl (by decide +kernel) ⟨Nat.le_of_ble_eq_true rfl, Nat.le_of_ble_eq_true rfl⟩) ⟨fun a U g mk h => ⟨h.1, gD_blind h.2.1, h.2.2⟩, g_recv (C := RX6) (T := TX6) (N := 7) hK hH 27 0 (by decide) Nat.zero_lt_one rfl rfl, fun U hU hW => ⟨rfl, gD_at hK hG hB hH hS hU hW, q⟩⟩ rfl rfl hl.1 rfl (lv_room (Nat.le_of_ble_eq_true rfl)) dX6_nextParty_2 ⟨Nat.le_of_ble_eq_true rfl, Nat.le_of_ble_eq_true rfl⟩) hS (fun _ _ h => h) (fun _ h => h) (fun r1 F2 t H locs ht hvm q hB1 hz hk hS => ?_)
  have hH : gH G ad F2 H := gH_to ht hB1
  refine lv_istore_n (lv' := [(2, .int r1), (0, .ref (ad 27 0)), (1, .int p1)]) hx hb dX6_nextParty_5 rfl hl (by decide) rfl (fun ls hl => ?_)
  refine lv_iload_n hx hb dX6_nextParty_6 rfl (lv_at hl 0 rfl) ?_
  refine lv_if_gt (tgt := 12) hx hb dX6_nextParty_7 (by decide) (fun c3 => ?_) (fun c3 => ?_)
  · have q := (if_pos c3).mp q
    refine lv_iload_n hx hb dX6_nextParty_12 rfl (lv_at hl 0 rfl) ?_
    refine lv_iconst (v := 1) hx hb dX6_nextParty_13 (by decide) ?_
    refine lv_icmp_ne (tgt := 24) hx hb dX6_nextParty_14 (by decide) (fun c4 => ?_) (fun c4 => ?_)
    · have q := (if_neg c4).mp q
      refine lv_aload_n hx hb dX6_nextParty_24 rfl (lv_at hl 1 rfl) ?_
      refine lv_iload_n hx hb dX6_nextParty_25 rfl (lv_at hl 0 rfl) ?_
      refine va_calli (va_runV (As := [.int r1]) (rest := []) ⟨hx, hb, hml, hown, hts⟩ (c_X6_drawLot l G ad F2 r1 _) (cwV 1 hts gX6_nextParty_X6_drawLot rfl rfl rfl (by decide +kernel) ⟨Nat.le_of_ble_eq_true rfl, Nat.le_of_ble_eq_true rfl⟩) ⟨fun a U g mk h => ⟨h.1, gD_blind h.2.1, h.2.2⟩, g_recv (C := RX6) (T := TX6) (N := 7) hK hH 27 0 (by decide) Nat.zero_lt_one rfl rfl, fun U hU hW => ⟨rfl, gD_at hK hG hB hH hS hU hW, q⟩⟩ rfl rfl hl.1 rfl (lv_room (Nat.le_of_ble_eq_true rfl)) dX6_nextParty_26 ⟨Nat.le_of_ble_eq_true rfl, Nat.le_of_ble_eq_true rfl⟩) hS (fun _ _ h => h) (fun _ h => h) (fun r5 F6 t H locs ht hvm q hB1 hz hk hS => ?_)
      have hH : gH G ad F6 H := gH_to ht hB1
      refine lv_istore_n (lv' := [(3, .int r5), (2, .int r1), (0, .ref (ad 27 0)), (1, .int p1)]) hx hb dX6_nextParty_29 rfl hl (by decide) rfl (fun ls hl => ?_)
      refine lv_iload_n hx hb dX6_nextParty_30 rfl (lv_at hl 0 rfl) ?_
      refine lv_if_lt (tgt := 39) hx hb dX6_nextParty_31 (by decide) (fun c7 => ?_) (fun c7 => ?_)
      · have q := (if_pos c7).mp q
        refine lv_iconst (v := (-1)) hx hb dX6_nextParty_39 (by decide) ?_
        refine lv_goto (tgt := 49) hx hb dX6_nextParty_40 (by decide) ?_
        exact (W.iret (v := (-1)) hx hb hr (fun t ht hW => ⟨⟨(-1), F6, rfl, q, gH_at ht hH⟩, hS.F ht⟩) hS.2.2 dX6_nextParty_49)
      · have q := (if_neg c7).mp q
        refine lv_iload_n hx hb dX6_nextParty_34 rfl (lv_at hl 0 rfl) ?_
        refine lv_iconst (v := 5) hx hb dX6_nextParty_35 (by decide) ?_
        refine lv_icmp_lt (tgt := 43) hx hb dX6_nextParty_36 (by decide) (fun c8 => ?_) (fun c8 => ?_)
        · have q := (if_pos c8).mp q
          refine lv_aload_n hx hb dX6_nextParty_43 rfl (lv_at hl 2 rfl) ?_
          refine g_get (ci := 10) (v := .ref (ad 37 0)) (C := RX6) (T := TX6) (N := 7) hx hb hts (fun _ h => (List.mem_cons_of_mem _ (List.mem_append_left _ (List.mem_append_right _ h)))) hown hK hH 27 0 (by decide) Nat.zero_lt_one rfl rfl 3 (by decide) (hts (.fieldLink RX6 21 "BallotFoundry$SeatGiving" "tied" "[I") (List.mem_of_getElem? (i := 1) rfl)) (fun _ h => h) rfl dX6_nextParty_44 ?_
          refine lv_iload_n hx hb dX6_nextParty_47 rfl (lv_at hl 0 rfl) ?_
          obtain ⟨h9, q⟩ := q
          refine g_iald hx hb hK hH 37 0 (by decide) Nat.zero_lt_one 5 rfl h9 dX6_nextParty_48 ?_
          exact (W.iret (v := (F6 37 0 r5.toNatClampNeg)) hx hb hr (fun t ht hW => ⟨⟨(F6 37 0 r5.toNatClampNeg), F6, rfl, q, gH_at ht hH⟩, hS.F ht⟩) hS.2.2 dX6_nextParty_49)
        · have q := (if_neg c8).mp q
          refine lv_iconst (v := (-1)) hx hb dX6_nextParty_39 (by decide) ?_
          refine lv_goto (tgt := 49) hx hb dX6_nextParty_40 (by decide) ?_
          exact (W.iret (v := (-1)) hx hb hr (fun t ht hW => ⟨⟨(-1), F6, rfl, q, gH_at ht hH⟩, hS.F ht⟩) hS.2.2 dX6_nextParty_49)
    · have q := (if_pos c4).mp q
      refine lv_aload_n hx hb dX6_nextParty_17 rfl (lv_at hl 1 rfl) ?_
      refine g_get (ci := 10) (v := .ref (ad 37 0)) (C := RX6) (T := TX6) (N := 7) hx hb hts (fun _ h => (List.mem_cons_of_mem _ (List.mem_append_left _ (List.mem_append_right _ h)))) hown hK hH 27 0 (by decide) Nat.zero_lt_one rfl rfl 3 (by decide) (hts (.fieldLink RX6 21 "BallotFoundry$SeatGiving" "tied" "[I") (List.mem_of_getElem? (i := 1) rfl)) (fun _ h => h) rfl dX6_nextParty_18 ?_
      refine lv_iconst (v := 0) hx hb dX6_nextParty_21 (by decide) ?_
      obtain ⟨h10, q⟩ := q
      refine g_iald hx hb hK hH 37 0 (by decide) Nat.zero_lt_one 5 rfl h10 dX6_nextParty_22 ?_
      exact (W.iret (v := (F2 37 0 (0 : Int32).toNatClampNeg)) hx hb hr (fun t ht hW => ⟨⟨(F2 37 0 (0 : Int32).toNatClampNeg), F2, rfl, q, gH_at ht hH⟩, hS.F ht⟩) hS.2.2 dX6_nextParty_23)
  · have q := (if_neg c3).mp q
    refine lv_iconst (v := (-1)) hx hb dX6_nextParty_10 (by decide) ?_
    exact (W.iret (v := (-1)) hx hb hr (fun t ht hW => ⟨⟨(-1), F2, rfl, q, gH_at ht hH⟩, hS.F ht⟩) hS.2.2 dX6_nextParty_11)
abbrev rm_X6_give : Room := { frames := 4, cells := 0, slots := 0, locals := 92 }
abbrev q_X6_give (G : GP) (ad : Nat → Nat → Nat) (K : GF → Prop) (below : List Frame) (args : Array Value) (s : State) : State → Prop := MQ below (gQv G ad K) args s 0 0 (gA G)
set_option maxHeartbeats 4000000 in
set_option maxRecDepth 100000 in
theorem c_X6_give (l : Launch) (G : GP) (ad : Nat → Nat → Nat) (F : GF) (p1 : Int32) (p2 : Int32) (p3 : Int32) (K : GF → Prop) : Met l yX6_give wsX6_give rm_X6_give (va_Pc [.ref (ad 27 0), .int p1, .int p2, .int p3] (fun U => gD G ad F U ∧ P_X6_give F p1 p2 p3 K)) (gQv G ad K) 0 0 (gA G) := by
  refine Met.ofW (cc := cX6_give) (maxL := 6) (ret := none) (by decide) rfl ?_
  intro p e s m args below meth c s₁ Bd hml hv
  obtain ⟨rfl, ⟨hK, hG, hB, hH⟩, q⟩ := hv
  have hx := Bd.exec
  have hb := Bd.bytes
  have hr := Bd.returns
  have hts := atoms_spec (ws := wsX6_give) Bd.pre
  have hown : s.vm.findClass RX6 = some m.cls := findClass_of_methodNamed Bd.named
  have hlocks := Bd.notSynchronized
  have hS : va_S (gA G) s.heap s.heap [] := va_S.rf
  have hl := lv_entry [.ref (ad 27 0), .int p1, .int p2, .int p3] (n := 6) (Nat.le_of_ble_eq_true rfl)
  rw [lg_entry_eq]
  generalize (lg_sl [.ref (ad 27 0), .int p1, .int p2, .int p3] ++ List.replicate (6 - (lg_sl [.ref (ad 27 0), .int p1, .int p2, .int p3]).length) Slot.unset).toArray = ls at hl ⊢
  have hl : lv_has ls 6 [(0, .ref (ad 27 0)), (1, .int p1), (2, .int p2), (3, .int p3)] := hl
  show W p l e rm_X6_give s m ([.ref (ad 27 0), .int p1, .int p2, .int p3] : List Value).toArray below meth c s.heap [] 0 0 (q_X6_give G ad K below ([.ref (ad 27 0), .int p1, .int p2, .int p3] : List Value).toArray s) _
  have t_26 : ∀ n : Nat, ∀ (F : GF) (x1 : Int32) (x2 : Int32) (x4 : Int32) (H : Heap) (locs : List Loc) (ls : Array Slot), gH G ad F H → va_S (gA G) s.heap H locs → lv_has ls 6 [(0, .ref (ad 27 0)), (1, .int x1), (2, .int x2), (4, .int x4)] → (P_X6_give_26 K n) F x1 x2 x4 → W p l e rm_X6_give s m ([.ref (ad 27 0), .int p1, .int p2, .int p3] : List Value).toArray below meth c H locs 0 0 (q_X6_give G ad K below ([.ref (ad 27 0), .int p1, .int p2, .int p3] : List Value).toArray s) (F0 m 26 ls []) := by
    intro n
    induction n with
    | zero =>
      intro F x1 x2 x4 H locs ls hH hS hl q
      exact False.elim q
    | succ n ih =>
      intro F x1 x2 x4 H locs ls hH hS hl q
      rw [P_X6_give_26] at q
      refine lv_iload hx hb dX6_give_26 (lv_at hl 3 rfl) ?_
      refine lv_iload_n hx hb dX6_give_28 rfl (lv_at hl 1 rfl) ?_
      refine lv_icmp_ge (tgt := 94) hx hb dX6_give_29 (by decide) (fun c6 => ?_) (fun c6 => ?_)
      · have q := (if_pos c6).mp q
        exact (W.vret hx hb hr (fun t ht hW => ⟨⟨F, rfl, q, gH_at ht hH⟩, hS.F ht⟩) hS.2.2 dX6_give_94)
      · have q := (if_neg c6).mp q
        refine lv_iload hx hb dX6_give_32 (lv_at hl 3 rfl) ?_
        refine lv_bipush (v := 30) hx hb dX6_give_34 (by decide) ?_
        refine lv_icmp_ge (tgt := 94) hx hb dX6_give_36 (by decide) (fun c7 => ?_) (fun c7 => ?_)
        · have q := (if_pos c7).mp q
          exact (W.vret hx hb hr (fun t ht hW => ⟨⟨F, rfl, q, gH_at ht hH⟩, hS.F ht⟩) hS.2.2 dX6_give_94)
        · have q := (if_neg c7).mp q
          refine lv_aload_n hx hb dX6_give_39 rfl (lv_at hl 0 rfl) ?_
          refine lv_iload_n hx hb dX6_give_40 rfl (lv_at hl 2 rfl) ?_
          refine va_calli (va_runV (As := [.int x2]) (rest := []) ⟨hx, hb, hml, hown, hts⟩ (c_X6_nextParty l G ad F x2 _) (cwV 1 hts gX6_give_X6_nextParty rfl rfl rfl (by decide +kernel) ⟨Nat.le_of_ble_eq_true rfl, Nat.le_of_ble_eq_true rfl⟩) ⟨fun a U g mk h => ⟨h.1, gD_blind h.2.1, h.2.2⟩, g_recv (C := RX6) (T := TX6) (N := 7) hK hH 27 0 (by decide) Nat.zero_lt_one rfl rfl, fun U hU hW => ⟨rfl, gD_at hK hG hB hH hS hU hW, q⟩⟩ rfl rfl hl.1 rfl (lv_room (Nat.le_of_ble_eq_true rfl)) dX6_give_41 ⟨Nat.le_of_ble_eq_true rfl, Nat.le_of_ble_eq_true rfl⟩) hS (fun _ _ h => h) (fun _ h => h) (fun r8 F9 t H locs ht hvm q hB1 hz hk hS => ?_)
          have hH : gH G ad F9 H := gH_to ht hB1
          refine lv_istore (lv' := [(5, .int r8), (0, .ref (ad 27 0)), (1, .int x1), (2, .int x2), (4, .int x4)]) hx hb dX6_give_44 hl (by decide) rfl (fun ls hl => ?_)
          refine lv_iload hx hb dX6_give_46 (lv_at hl 0 rfl) ?_
          refine lv_if_lt (tgt := 57) hx hb dX6_give_48 (by decide) (fun c10 => ?_) (fun c10 => ?_)
          · have q := (if_pos c10).mp q
            exact (W.vret hx hb hr (fun t ht hW => ⟨⟨F9, rfl, q, gH_at ht hH⟩, hS.F ht⟩) hS.2.2 dX6_give_57)
          · have q := (if_neg c10).mp q
            refine lv_iload hx hb dX6_give_51 (lv_at hl 0 rfl) ?_
            refine lv_iconst (v := 5) hx hb dX6_give_53 (by decide) ?_
            refine lv_icmp_lt (tgt := 58) hx hb dX6_give_54 (by decide) (fun c11 => ?_) (fun c11 => ?_)
            · have q := (if_pos c11).mp q
              refine lv_aload_n hx hb dX6_give_58 rfl (lv_at hl 1 rfl) ?_
              refine g_get (ci := 10) (v := .ref (ad 36 0)) (C := RX6) (T := TX6) (N := 7) hx hb hts (fun _ h => (List.mem_cons_of_mem _ (List.mem_append_left _ (List.mem_append_right _ h)))) hown hK hH 27 0 (by decide) Nat.zero_lt_one rfl rfl 2 (by decide) (hts (.fieldLink RX6 18 "BallotFoundry$SeatGiving" "parties" "[I") (List.mem_of_getElem? (i := 5) rfl)) (fun _ h => h) rfl dX6_give_59 ?_
              refine lv_iload hx hb dX6_give_62 (lv_at hl 4 rfl) ?_
              refine lv_iload hx hb dX6_give_64 (lv_at hl 0 rfl) ?_
              obtain ⟨h12, q⟩ := q
              refine g_iast hx hb hK hH hS 36 0 (by decide) Nat.zero_lt_one (by decide) 30 (fun _ => rfl) h12 dX6_give_66 (fun H locs hH hS => ?_)
              obtain ⟨F13, eF13⟩ : ∃ z, z = fs F9 36 0 x4.toNatClampNeg r8 := ⟨_, rfl⟩
              have q := q F13 eF13
              rw [← eF13] at hH
              refine lv_aload_n hx hb dX6_give_67 rfl (lv_at hl 1 rfl) ?_
              refine g_get (ci := 10) (v := .ref (ad 35 0)) (C := RX6) (T := TX6) (N := 7) hx hb hts (fun _ h => (List.mem_cons_of_mem _ (List.mem_append_left _ (List.mem_append_right _ h)))) hown hK hH 27 0 (by decide) Nat.zero_lt_one rfl rfl 1 (by decide) (hts (.fieldLink RX6 15 "BallotFoundry$SeatGiving" "seats" "[I") (List.mem_of_getElem? (i := 1) rfl)) (fun _ h => h) rfl dX6_give_68 ?_
              refine lv_iload hx hb dX6_give_71 (lv_at hl 0 rfl) ?_
              refine lv_dup2_11 hx hb dX6_give_73 rfl rfl ?_
              obtain ⟨h14, q⟩ := q
              refine g_iald hx hb hK hH 35 0 (by decide) Nat.zero_lt_one 5 rfl h14 dX6_give_74 ?_
              refine lv_iconst (v := 1) hx hb dX6_give_75 (by decide) ?_
              refine lv_iadd hx hb dX6_give_76 ?_
              obtain ⟨h15, q⟩ := q
              refine g_iast hx hb hK hH hS 35 0 (by decide) Nat.zero_lt_one (by decide) 5 (fun _ => rfl) h15 dX6_give_77 (fun H locs hH hS => ?_)
              obtain ⟨F16, eF16⟩ : ∃ z, z = fs F13 35 0 r8.toNatClampNeg ((F13 35 0 r8.toNatClampNeg) + 1) := ⟨_, rfl⟩
              have q := q F16 eF16
              rw [← eF16] at hH
              refine lv_aload_n hx hb dX6_give_78 rfl (lv_at hl 1 rfl) ?_
              refine lv_dup hx hb dX6_give_79 rfl ?_
              refine g_get (ci := 10) (v := .int (F16 27 0 4)) (C := RX6) (T := TX6) (N := 7) hx hb hts (fun _ h => (List.mem_cons_of_mem _ (List.mem_append_left _ (List.mem_append_right _ h)))) hown hK hH 27 0 (by decide) Nat.zero_lt_one rfl rfl 4 (by decide) (hts (.fieldLink RX6 24 "BallotFoundry$SeatGiving" "given" "I") (List.mem_of_getElem? (i := 2) rfl)) (fun _ h => h) rfl dX6_give_80 ?_
              refine lv_iconst (v := 1) hx hb dX6_give_83 (by decide) ?_
              refine lv_iadd hx hb dX6_give_84 ?_
              refine g_put (ci := 10) (v := .int ((F16 27 0 4) + 1)) (C := RX6) (T := TX6) (N := 7) hx hb hts (fun _ h => (List.mem_cons_of_mem _ (List.mem_append_left _ (List.mem_append_right _ h)))) tyX6 tyX6_ok nmX6 hown hK hH hS 27 0 (by decide) Nat.zero_lt_one (by decide) rfl rfl 4 (by decide) (hts (.fieldLink RX6 24 "BallotFoundry$SeatGiving" "given" "I") (List.mem_of_getElem? (i := 2) rfl)) (fun _ h => h) rfl (ty := .int) (by decide +kernel) rfl rfl (Nat.le_of_ble_eq_true rfl) ((F16 27 0 4) + 1) rfl dX6_give_85 (fun H locs hH hS => ?_)
              obtain ⟨F17, eF17⟩ : ∃ z, z = fs F16 27 0 4 ((F16 27 0 4) + 1) := ⟨_, rfl⟩
              have q := q F17 eF17
              rw [← eF17] at hH
              refine lv_iinc (v := x4 + 1) (lv' := [(4, .int (x4 + 1)), (5, .int r8), (0, .ref (ad 27 0)), (1, .int x1), (2, .int x2)]) hx hb dX6_give_88 hl (k := 4) rfl rfl (by decide) rfl (fun ls hl => ?_)
              refine lv_goto (tgt := 26) hx hb dX6_give_91 (by decide) ?_
              exact ih F17 x1 x2 (x4 + 1) _ _ _ hH hS (lv_sub hl [2, 3, 4, 0] rfl) q
            · have q := (if_neg c11).mp q
              exact (W.vret hx hb hr (fun t ht hW => ⟨⟨F9, rfl, q, gH_at ht hH⟩, hS.F ht⟩) hS.2.2 dX6_give_57)
  unfold P_X6_give at q
  refine lv_aload_n hx hb dX6_give_0 rfl (lv_at hl 0 rfl) ?_
  refine g_get (ci := 10) (v := .ref (ad 35 0)) (C := RX6) (T := TX6) (N := 7) hx hb hts (fun _ h => (List.mem_cons_of_mem _ (List.mem_append_left _ (List.mem_append_right _ h)))) hown hK hH 27 0 (by decide) Nat.zero_lt_one rfl rfl 1 (by decide) (hts (.fieldLink RX6 15 "BallotFoundry$SeatGiving" "seats" "[I") (List.mem_of_getElem? (i := 1) rfl)) (fun _ h => h) rfl dX6_give_1 ?_
  refine lv_iconst (v := 0) hx hb dX6_give_4 (by decide) ?_
  refine va_callv (va_runS (As := [.ref (ad 35 0), .int 0]) (rest := []) ⟨hx, hb, hml, hown, hts⟩ (c_J7_fill_53178 l G ad F 35 0 5 0 (by decide) Nat.zero_lt_one (by decide) (by decide) (fun _ => rfl)) (va_cwS 2 hts gX6_give_J7_fill_53178 rfl rfl rfl (by decide +kernel) ⟨Nat.le_of_ble_eq_true rfl, Nat.le_of_ble_eq_true rfl⟩) ⟨fun a U g mk h => ⟨h.1, gD_blind h.2.1, h.2.2⟩, fun U hU hW => ⟨rfl, gD_at hK hG hB hH hS hU hW, trivial⟩⟩ rfl rfl hl.1 rfl (lv_room (Nat.le_of_ble_eq_true rfl)) dX6_give_5 ⟨Nat.le_of_ble_eq_true rfl, Nat.le_of_ble_eq_true rfl⟩) hS (fun _ _ h => h) (fun _ h => h) (fun F2 t H locs ht hvm q9 hB1 hz hk hS => ?_)
  have q := q F2 q9
  have hH : gH G ad F2 H := gH_to ht hB1
  refine lv_aload_n hx hb dX6_give_8 rfl (lv_at hl 0 rfl) ?_
  refine lv_iconst (v := 0) hx hb dX6_give_9 (by decide) ?_
  refine g_put (ci := 10) (v := .int 0) (C := RX6) (T := TX6) (N := 7) hx hb hts (fun _ h => (List.mem_cons_of_mem _ (List.mem_append_left _ (List.mem_append_right _ h)))) tyX6 tyX6_ok nmX6 hown hK hH hS 27 0 (by decide) Nat.zero_lt_one (by decide) rfl rfl 4 (by decide) (hts (.fieldLink RX6 24 "BallotFoundry$SeatGiving" "given" "I") (List.mem_of_getElem? (i := 2) rfl)) (fun _ h => h) rfl (ty := .int) (by decide +kernel) rfl rfl (Nat.le_of_ble_eq_true rfl) 0 rfl dX6_give_10 (fun H locs hH hS => ?_)
  obtain ⟨F3, eF3⟩ : ∃ z, z = fs F2 27 0 4 0 := ⟨_, rfl⟩
  have q := q F3 eF3
  rw [← eF3] at hH
  refine lv_aload_n hx hb dX6_give_13 rfl (lv_at hl 0 rfl) ?_
  refine lv_iconst (v := 0) hx hb dX6_give_14 (by decide) ?_
  refine g_put (ci := 10) (v := .int 0) (C := RX6) (T := TX6) (N := 7) hx hb hts (fun _ h => (List.mem_cons_of_mem _ (List.mem_append_left _ (List.mem_append_right _ h)))) tyX6 tyX6_ok nmX6 hown hK hH hS 27 0 (by decide) Nat.zero_lt_one (by decide) rfl rfl 5 (by decide) (hts (.fieldLink RX6 28 "BallotFoundry$SeatGiving" "lotsDrawn" "I") (List.mem_of_getElem? (i := 3) rfl)) (fun _ h => h) rfl (ty := .int) (by decide +kernel) rfl rfl (Nat.le_of_ble_eq_true rfl) 0 rfl dX6_give_15 (fun H locs hH hS => ?_)
  obtain ⟨F4, eF4⟩ : ∃ z, z = fs F3 27 0 5 0 := ⟨_, rfl⟩
  have q := q F4 eF4
  rw [← eF4] at hH
  refine lv_aload_n hx hb dX6_give_18 rfl (lv_at hl 0 rfl) ?_
  refine lv_iload_n hx hb dX6_give_19 rfl (lv_at hl 3 rfl) ?_
  refine g_put (ci := 10) (v := .int p3) (C := RX6) (T := TX6) (N := 7) hx hb hts (fun _ h => (List.mem_cons_of_mem _ (List.mem_append_left _ (List.mem_append_right _ h)))) tyX6 tyX6_ok nmX6 hown hK hH hS 27 0 (by decide) Nat.zero_lt_one (by decide) rfl rfl 6 (by decide) (hts (.fieldLink RX6 31 "BallotFoundry$SeatGiving" "number" "I") (List.mem_of_getElem? (i := 4) rfl)) (fun _ h => h) rfl (ty := .int) (by decide +kernel) rfl rfl (Nat.le_of_ble_eq_true rfl) p3 rfl dX6_give_20 (fun H locs hH hS => ?_)
  obtain ⟨F5, eF5⟩ : ∃ z, z = fs F4 27 0 6 p3 := ⟨_, rfl⟩
  have q := q F5 eF5
  rw [← eF5] at hH
  refine lv_iconst (v := 0) hx hb dX6_give_23 (by decide) ?_
  refine lv_istore (lv' := [(4, .int 0), (0, .ref (ad 27 0)), (1, .int p1), (2, .int p2), (3, .int p3)]) hx hb dX6_give_24 hl (by decide) rfl (fun ls hl => ?_)
  obtain ⟨nn, q⟩ := q
  exact t_26 nn F5 p1 p2 0 _ _ _ hH hS (lv_sub hl [1, 2, 3, 0] rfl) q
abbrev rm_X10_giveByNumbers : Room := { frames := 5, cells := 0, slots := 0, locals := 117 }
abbrev q_X10_giveByNumbers (G : GP) (ad : Nat → Nat → Nat) (K : GF → Prop) (below : List Frame) (args : Array Value) (s : State) : State → Prop := MQ below (gQv G ad K) args s 0 0 (gA G)
set_option maxHeartbeats 4000000 in
set_option maxRecDepth 100000 in
theorem c_X10_giveByNumbers (l : Launch) (G : GP) (ad : Nat → Nat → Nat) (F : GF) (K : GF → Prop) : Met l yX10_giveByNumbers wsX10_giveByNumbers rm_X10_giveByNumbers (va_Pc [.ref (ad 0 0)] (fun U => gD G ad F U ∧ P_X10_giveByNumbers F K)) (gQv G ad K) 0 0 (gA G) := by
  refine Met.ofW (cc := cX10_giveByNumbers) (maxL := 2) (ret := none) (by decide) rfl ?_
  intro p e s m args below meth c s₁ Bd hml hv
  obtain ⟨rfl, ⟨hK, hG, hB, hH⟩, q⟩ := hv
  have hx := Bd.exec
  have hb := Bd.bytes
  have hr := Bd.returns
  have hts := atoms_spec (ws := wsX10_giveByNumbers) Bd.pre
  have hown : s.vm.findClass RX10 = some m.cls := findClass_of_methodNamed Bd.named
  have hlocks := Bd.notSynchronized
  have hS : va_S (gA G) s.heap s.heap [] := va_S.rf
  have hl := lv_entry [.ref (ad 0 0)] (n := 2) (Nat.le_of_ble_eq_true rfl)
  rw [lg_entry_eq]
  generalize (lg_sl [.ref (ad 0 0)] ++ List.replicate (2 - (lg_sl [.ref (ad 0 0)]).length) Slot.unset).toArray = ls at hl ⊢
  have hl : lv_has ls 2 [(0, .ref (ad 0 0))] := hl
  show W p l e rm_X10_giveByNumbers s m ([.ref (ad 0 0)] : List Value).toArray below meth c s.heap [] 0 0 (q_X10_giveByNumbers G ad K below ([.ref (ad 0 0)] : List Value).toArray s) _
  have t_2 : ∀ n : Nat, ∀ (F : GF) (x1 : Int32) (H : Heap) (locs : List Loc) (ls : Array Slot), gH G ad F H → va_S (gA G) s.heap H locs → lv_has ls 2 [(0, .ref (ad 0 0)), (1, .int x1)] → (P_X10_giveByNumbers_2 K n) F x1 → W p l e rm_X10_giveByNumbers s m ([.ref (ad 0 0)] : List Value).toArray below meth c H locs 0 0 (q_X10_giveByNumbers G ad K below ([.ref (ad 0 0)] : List Value).toArray s) (F0 m 2 ls []) := by
    intro n
    induction n with
    | zero =>
      intro F x1 H locs ls hH hS hl q
      exact False.elim q
    | succ n ih =>
      intro F x1 H locs ls hH hS hl q
      rw [P_X10_giveByNumbers_2] at q
      refine lv_iload_n hx hb dX10_giveByNumbers_2 rfl (lv_at hl 1 rfl) ?_
      refine lv_iconst (v := 5) hx hb dX10_giveByNumbers_3 (by decide) ?_
      refine lv_icmp_ge (tgt := 30) hx hb dX10_giveByNumbers_4 (by decide) (fun c1 => ?_) (fun c1 => ?_)
      · have q := (if_pos c1).mp q
        refine lv_aload_n hx hb dX10_giveByNumbers_30 rfl (lv_at hl 0 rfl) ?_
        refine g_get (ci := 14) (v := .ref (ad 27 0)) (C := RX10) (T := TX10) (N := 8) hx hb hts (fun _ h => (List.mem_cons_of_mem _ (List.mem_append_left _ (List.mem_append_left _ (List.mem_append_left _ (List.mem_append_left _ (List.mem_append_right _ h))))))) hown hK hH 0 0 (by decide) Nat.zero_lt_one rfl rfl 7 (by decide) (hts (.fieldLink RX10 50 "BallotFoundry" "giving" "LBallotFoundry$SeatGiving;") (List.mem_of_getElem? (i := 1) rfl)) (fun _ h => h) rfl dX10_giveByNumbers_31 ?_
        refine lv_aload_n hx hb dX10_giveByNumbers_34 rfl (lv_at hl 0 rfl) ?_
        refine g_get (ci := 14) (v := .ref (ad 10 0)) (C := RX10) (T := TX10) (N := 8) hx hb hts (fun _ h => (List.mem_cons_of_mem _ (List.mem_append_left _ (List.mem_append_left _ (List.mem_append_left _ (List.mem_append_left _ (List.mem_append_right _ h))))))) hown hK hH 0 0 (by decide) Nat.zero_lt_one rfl rfl 6 (by decide) (hts (.fieldLink RX10 43 "BallotFoundry" "election" "LBallotFoundry$Election;") (List.mem_of_getElem? (i := 2) rfl)) (fun _ h => h) rfl dX10_giveByNumbers_35 ?_
        refine g_getN (ci := 6) (v := .int (F 10 0 2)) (C := RX2) (T := TX2) (N := 10) hx hb hts (fun _ h => (List.mem_cons_of_mem _ (List.mem_append_left _ (List.mem_append_left _ (List.mem_append_right _ h))))) hown hK hH 10 0 (by decide) Nat.zero_lt_one rfl rfl 2 (by decide) (va_Nw.use rfl (hG.1 ("BallotFoundry", 349, "BallotFoundry$Election", "partySeats", "I", "BallotFoundry") (List.mem_of_getElem? (i := 18) rfl))) (fun _ h => h) rfl dX10_giveByNumbers_38 ?_
        refine lv_aload_n hx hb dX10_giveByNumbers_41 rfl (lv_at hl 0 rfl) ?_
        refine g_get (ci := 14) (v := .ref (ad 10 0)) (C := RX10) (T := TX10) (N := 8) hx hb hts (fun _ h => (List.mem_cons_of_mem _ (List.mem_append_left _ (List.mem_append_left _ (List.mem_append_left _ (List.mem_append_left _ (List.mem_append_right _ h))))))) hown hK hH 0 0 (by decide) Nat.zero_lt_one rfl rfl 6 (by decide) (hts (.fieldLink RX10 43 "BallotFoundry" "election" "LBallotFoundry$Election;") (List.mem_of_getElem? (i := 2) rfl)) (fun _ h => h) rfl dX10_giveByNumbers_42 ?_
        refine g_getN (ci := 6) (v := .int (F 10 0 3)) (C := RX2) (T := TX2) (N := 10) hx hb hts (fun _ h => (List.mem_cons_of_mem _ (List.mem_append_left _ (List.mem_append_left _ (List.mem_append_right _ h))))) hown hK hH 10 0 (by decide) Nat.zero_lt_one rfl rfl 3 (by decide) (va_Nw.use rfl (hG.1 ("BallotFoundry", 352, "BallotFoundry$Election", "isOdd", "Z", "BallotFoundry") (List.mem_of_getElem? (i := 19) rfl))) (fun _ h => h) rfl dX10_giveByNumbers_45 ?_
        refine lv_aload_n hx hb dX10_giveByNumbers_48 rfl (lv_at hl 0 rfl) ?_
        refine g_get (ci := 14) (v := .ref (ad 10 0)) (C := RX10) (T := TX10) (N := 8) hx hb hts (fun _ h => (List.mem_cons_of_mem _ (List.mem_append_left _ (List.mem_append_left _ (List.mem_append_left _ (List.mem_append_left _ (List.mem_append_right _ h))))))) hown hK hH 0 0 (by decide) Nat.zero_lt_one rfl rfl 6 (by decide) (hts (.fieldLink RX10 43 "BallotFoundry" "election" "LBallotFoundry$Election;") (List.mem_of_getElem? (i := 2) rfl)) (fun _ h => h) rfl dX10_giveByNumbers_49 ?_
        refine va_calli (va_runV (As := []) (rest := [.int (F 10 0 3), .int (F 10 0 2), .ref (ad 27 0)]) ⟨hx, hb, hml, hown, hts⟩ (c_X2_sumOfSeeds l G ad F _) (cwV 0 hts gX10_giveByNumbers_X2_sumOfSeeds rfl rfl rfl (by decide +kernel) ⟨Nat.le_of_ble_eq_true rfl, Nat.le_of_ble_eq_true rfl⟩) ⟨fun a U g mk h => ⟨h.1, gD_blind h.2.1, h.2.2⟩, g_recv (C := RX2) (T := TX2) (N := 10) hK hH 10 0 (by decide) Nat.zero_lt_one rfl rfl, fun U hU hW => ⟨rfl, gD_at hK hG hB hH hS hU hW, q⟩⟩ rfl rfl hl.1 rfl (lv_room (Nat.le_of_ble_eq_true rfl)) dX10_giveByNumbers_52 ⟨Nat.le_of_ble_eq_true rfl, Nat.le_of_ble_eq_true rfl⟩) hS (fun _ _ h => h) (fun _ h => h) (fun r2 F3 t H locs ht hvm q hB1 hz hk hS => ?_)
        have hH : gH G ad F3 H := gH_to ht hB1
        refine va_callv (va_runV (As := [.int (F 10 0 2), .int (F 10 0 3), .int r2]) (rest := []) ⟨hx, hb, hml, hown, hts⟩ (c_X6_give l G ad F3 (F 10 0 2) (F 10 0 3) r2 _) (cwV 3 hts gX10_giveByNumbers_X6_give rfl rfl rfl (by decide +kernel) ⟨Nat.le_of_ble_eq_true rfl, Nat.le_of_ble_eq_true rfl⟩) ⟨fun a U g mk h => ⟨h.1, gD_blind h.2.1, h.2.2⟩, g_recv (C := RX6) (T := TX6) (N := 7) hK hH 27 0 (by decide) Nat.zero_lt_one rfl rfl, fun U hU hW => ⟨rfl, gD_at hK hG hB hH hS hU hW, q⟩⟩ rfl rfl hl.1 rfl (lv_room (Nat.le_of_ble_eq_true rfl)) dX10_giveByNumbers_55 ⟨Nat.le_of_ble_eq_true rfl, Nat.le_of_ble_eq_true rfl⟩) hS (fun _ _ h => h) (fun _ h => h) (fun F5 t H locs ht hvm q hB1 hz hk hS => ?_)
        have hH : gH G ad F5 H := gH_to ht hB1
        exact (W.vret hx hb hr (fun t ht hW => ⟨⟨F5, rfl, q, gH_at ht hH⟩, hS.F ht⟩) hS.2.2 dX10_giveByNumbers_58)
      · have q := (if_neg c1).mp q
        refine lv_aload_n hx hb dX10_giveByNumbers_7 rfl (lv_at hl 0 rfl) ?_
        refine g_get (ci := 14) (v := .ref (ad 27 0)) (C := RX10) (T := TX10) (N := 8) hx hb hts (fun _ h => (List.mem_cons_of_mem _ (List.mem_append_left _ (List.mem_append_left _ (List.mem_append_left _ (List.mem_append_left _ (List.mem_append_right _ h))))))) hown hK hH 0 0 (by decide) Nat.zero_lt_one rfl rfl 7 (by decide) (hts (.fieldLink RX10 50 "BallotFoundry" "giving" "LBallotFoundry$SeatGiving;") (List.mem_of_getElem? (i := 1) rfl)) (fun _ h => h) rfl dX10_giveByNumbers_8 ?_
        refine g_getN (ci := 10) (v := .ref (ad 34 0)) (C := RX6) (T := TX6) (N := 7) hx hb hts (fun _ h => (List.mem_cons_of_mem _ (List.mem_append_left _ (List.mem_append_left _ (List.mem_append_left _ (List.mem_append_right _ h)))))) hown hK hH 27 0 (by decide) Nat.zero_lt_one rfl rfl 0 (by decide) (va_Nw.use rfl (hG.1 ("BallotFoundry", 346, "BallotFoundry$SeatGiving", "votes", "[I", "BallotFoundry") (List.mem_of_getElem? (i := 26) rfl))) (fun _ h => h) rfl dX10_giveByNumbers_11 ?_
        refine lv_iload_n hx hb dX10_giveByNumbers_14 rfl (lv_at hl 1 rfl) ?_
        refine lv_aload_n hx hb dX10_giveByNumbers_15 rfl (lv_at hl 0 rfl) ?_
        refine g_get (ci := 14) (v := .ref (ad 10 0)) (C := RX10) (T := TX10) (N := 8) hx hb hts (fun _ h => (List.mem_cons_of_mem _ (List.mem_append_left _ (List.mem_append_left _ (List.mem_append_left _ (List.mem_append_left _ (List.mem_append_right _ h))))))) hown hK hH 0 0 (by decide) Nat.zero_lt_one rfl rfl 6 (by decide) (hts (.fieldLink RX10 43 "BallotFoundry" "election" "LBallotFoundry$Election;") (List.mem_of_getElem? (i := 2) rfl)) (fun _ h => h) rfl dX10_giveByNumbers_16 ?_
        refine lv_iload_n hx hb dX10_giveByNumbers_19 rfl (lv_at hl 1 rfl) ?_
        refine va_calli (va_runV (As := [.int x1]) (rest := [.int x1, .ref (ad 34 0)]) ⟨hx, hb, hml, hown, hts⟩ (c_X2_numbersFor l G ad F x1 _) (cwV 1 hts gX10_giveByNumbers_X2_numbersFor rfl rfl rfl (by decide +kernel) ⟨Nat.le_of_ble_eq_true rfl, Nat.le_of_ble_eq_true rfl⟩) ⟨fun a U g mk h => ⟨h.1, gD_blind h.2.1, h.2.2⟩, g_recv (C := RX2) (T := TX2) (N := 10) hK hH 10 0 (by decide) Nat.zero_lt_one rfl rfl, fun U hU hW => ⟨rfl, gD_at hK hG hB hH hS hU hW, q⟩⟩ rfl rfl hl.1 rfl (lv_room (Nat.le_of_ble_eq_true rfl)) dX10_giveByNumbers_20 ⟨Nat.le_of_ble_eq_true rfl, Nat.le_of_ble_eq_true rfl⟩) hS (fun _ _ h => h) (fun _ h => h) (fun r6 F7 t H locs ht hvm q hB1 hz hk hS => ?_)
        have hH : gH G ad F7 H := gH_to ht hB1
        obtain ⟨h8, q⟩ := q
        refine g_iast hx hb hK hH hS 34 0 (by decide) Nat.zero_lt_one (by decide) 5 (fun _ => rfl) h8 dX10_giveByNumbers_23 (fun H locs hH hS => ?_)
        obtain ⟨F9, eF9⟩ : ∃ z, z = fs F7 34 0 x1.toNatClampNeg r6 := ⟨_, rfl⟩
        have q := q F9 eF9
        rw [← eF9] at hH
        refine lv_iinc (v := x1 + 1) (lv' := [(1, .int (x1 + 1)), (0, .ref (ad 0 0))]) hx hb dX10_giveByNumbers_24 hl (k := 1) rfl rfl (by decide) rfl (fun ls hl => ?_)
        refine lv_goto (tgt := 2) hx hb dX10_giveByNumbers_27 (by decide) ?_
        exact ih F9 (x1 + 1) _ _ _ hH hS (lv_sub hl [1, 0] rfl) q
  unfold P_X10_giveByNumbers at q
  refine lv_iconst (v := 0) hx hb dX10_giveByNumbers_0 (by decide) ?_
  refine lv_istore_n (lv' := [(1, .int 0), (0, .ref (ad 0 0))]) hx hb dX10_giveByNumbers_1 rfl hl (by decide) rfl (fun ls hl => ?_)
  obtain ⟨nn, q⟩ := q
  exact t_2 nn F 0 _ _ _ hH hS (lv_sub hl [1, 0] rfl) q
abbrev rm_X10_seats : Room := { frames := 7, cells := 1, slots := 6, locals := 138 }
abbrev q_X10_seats (G : GP) (ad : Nat → Nat → Nat) (K : Int32 → GF → Prop) (X : String → GF → Prop) (below : List Frame) (args : Array Value) (s : State) : State → Prop := vx_MQ below (gQi G ad K) (gX G ad X) args s 1 6 (gA G)
set_option maxHeartbeats 4000000 in
set_option maxRecDepth 100000 in
theorem c_X10_seats (l : Launch) (hfl : l.stackTraces = false) (G : GP) (ad : Nat → Nat → Nat) (F : GF) (p1 : Int32) (K : Int32 → GF → Prop) (X : String → GF → Prop) : vx_Met l yX10_seats wsX10_seats rm_X10_seats (va_Pc [.ref (ad 0 0), .int p1] (fun U => gD G ad F U ∧ P_X10_seats F p1 K X)) (gQi G ad K) (gX G ad X) 1 6 (gA G) := by
  refine vx_ofW (cc := cX10_seats) (maxL := 2) (ret := (some .int)) (by decide) rfl ?_
  intro p e s m args below meth c s₁ Bd hml hno hv
  obtain ⟨rfl, ⟨hK, hG, hB, hH⟩, q⟩ := hv
  have hx := Bd.exec
  have hb := Bd.bytes
  have hr := Bd.returns
  have hts := atoms_spec (ws := wsX10_seats) Bd.pre
  have hown : s.vm.findClass RX10 = some m.cls := findClass_of_methodNamed Bd.named
  have hlocks := Bd.notSynchronized
  have hS : va_S (gA G) s.heap s.heap [] := va_S.rf
  have hl := lv_entry [.ref (ad 0 0), .int p1] (n := 2) (Nat.le_of_ble_eq_true rfl)
  rw [lg_entry_eq]
  generalize (lg_sl [.ref (ad 0 0), .int p1] ++ List.replicate (2 - (lg_sl [.ref (ad 0 0), .int p1]).length) Slot.unset).toArray = ls at hl ⊢
  have hl : lv_has ls 2 [(0, .ref (ad 0 0)), (1, .int p1)] := hl
  unfold P_X10_seats at q
  refine lv_iload_n hx hb dX10_seats_0 rfl (lv_at hl 1 rfl) ?_
  refine vx_callv (vx_runS (As := [.int p1]) (rest := []) ⟨hx, hb, hml, hown, hts⟩ (c_X10_needParty l hfl G ad F p1 _ _) (va_cwS 1 hts gX10_seats_X10_needParty rfl rfl rfl (by decide +kernel) ⟨Nat.le_of_ble_eq_true rfl, Nat.le_of_ble_eq_true rfl⟩) ⟨fun a U g mk h => ⟨h.1, gD_blind h.2.1, h.2.2⟩, fun U hU hW => ⟨rfl, gD_at hK hG hB hH hS hU hW, q⟩⟩ rfl rfl hl.1 rfl (lv_room (Nat.le_of_ble_eq_true rfl)) dX10_seats_1 ⟨Nat.le_of_ble_eq_true rfl, Nat.le_of_ble_eq_true rfl⟩) hS (fun _ _ h => h) (fun _ h => h) (fun _ _ h => h) (fun E ce q9 u t H locs ht hvm _ hq hz hk hS hc9 hv9 hcl9 => vx_widen (Nat.le_of_ble_eq_true rfl) (Nat.le_of_ble_eq_true rfl) (vx_out (fun x hx => (hno x hx).elim) hlocks hc9 hv9 hcl9 (fun t1 ht1 hvm1 => ⟨u, trivial, ⟨hq.1, gH_at ht1 (gH_to ht hq.2)⟩, hS.F ht1⟩) hS.2.2 (Nat.le_refl _) (Nat.le_refl _))) (fun F2 t H locs ht hvm q hB1 hz hk hS => ?_)
  have hH : gH G ad F2 H := gH_to ht hB1
  refine lv_aload_n hx hb dX10_seats_4 rfl (lv_at hl 0 rfl) ?_
  refine g_get (ci := 14) (v := .ref (ad 10 0)) (C := RX10) (T := TX10) (N := 8) hx hb hts (fun _ h => (List.mem_cons_of_mem _ (List.mem_append_left _ (List.mem_append_left _ (List.mem_append_left _ (List.mem_append_left _ (List.mem_append_left _ (List.mem_append_right _ h)))))))) hown hK hH 0 0 (by decide) Nat.zero_lt_one rfl rfl 6 (by decide) (hts (.fieldLink RX10 43 "BallotFoundry" "election" "LBallotFoundry$Election;") (List.mem_of_getElem? (i := 1) rfl)) (fun _ h => h) rfl dX10_seats_5 ?_
  refine g_getN (ci := 6) (v := .int (F2 10 0 0)) (C := RX2) (T := TX2) (N := 10) hx hb hts (fun _ h => (List.mem_cons_of_mem _ (List.mem_append_left _ (List.mem_append_left _ (List.mem_append_left _ (List.mem_append_left _ (List.mem_append_right _ h))))))) hown hK hH 10 0 (by decide) Nat.zero_lt_one rfl rfl 0 (by decide) (va_Nw.use rfl (hG.1 ("BallotFoundry", 135, "BallotFoundry$Election", "stage", "I", "BallotFoundry") (List.mem_of_getElem? (i := 16) rfl))) (fun _ h => h) rfl dX10_seats_8 ?_
  refine lv_iconst (v := 5) hx hb dX10_seats_11 (by decide) ?_
  refine lv_icmp_eq (tgt := 17) hx hb dX10_seats_12 (by decide) (fun c3 => ?_) (fun c3 => ?_)
  · have q := (if_pos c3).mp q
    refine lv_aload_n hx hb dX10_seats_17 rfl (lv_at hl 0 rfl) ?_
    refine va_callv (va_runV (As := []) (rest := []) ⟨hx, hb, hml, hown, hts⟩ (c_X10_giveByNumbers l G ad F2 _) (cwV 0 hts gX10_seats_X10_giveByNumbers rfl rfl rfl (by decide +kernel) ⟨Nat.le_of_ble_eq_true rfl, Nat.le_of_ble_eq_true rfl⟩) ⟨fun a U g mk h => ⟨h.1, gD_blind h.2.1, h.2.2⟩, g_recv (C := RX10) (T := TX10) (N := 8) hK hH 0 0 (by decide) Nat.zero_lt_one rfl rfl, fun U hU hW => ⟨rfl, gD_at hK hG hB hH hS hU hW, q⟩⟩ rfl rfl hl.1 rfl (lv_room (Nat.le_of_ble_eq_true rfl)) dX10_seats_18 ⟨Nat.le_of_ble_eq_true rfl, Nat.le_of_ble_eq_true rfl⟩) hS (fun _ _ h => h) (fun _ h => h) (fun F5 t H locs ht hvm q hB1 hz hk hS => ?_)
    have hH : gH G ad F5 H := gH_to ht hB1
    refine lv_aload_n hx hb dX10_seats_21 rfl (lv_at hl 0 rfl) ?_
    refine g_get (ci := 14) (v := .ref (ad 27 0)) (C := RX10) (T := TX10) (N := 8) hx hb hts (fun _ h => (List.mem_cons_of_mem _ (List.mem_append_left _ (List.mem_append_left _ (List.mem_append_left _ (List.mem_append_left _ (List.mem_append_left _ (List.mem_append_right _ h)))))))) hown hK hH 0 0 (by decide) Nat.zero_lt_one rfl rfl 7 (by decide) (hts (.fieldLink RX10 50 "BallotFoundry" "giving" "LBallotFoundry$SeatGiving;") (List.mem_of_getElem? (i := 2) rfl)) (fun _ h => h) rfl dX10_seats_22 ?_
    refine g_getN (ci := 10) (v := .ref (ad 35 0)) (C := RX6) (T := TX6) (N := 7) hx hb hts (fun _ h => (List.mem_cons_of_mem _ (List.mem_append_left _ (List.mem_append_left _ (List.mem_append_left _ (List.mem_append_right _ h)))))) hown hK hH 27 0 (by decide) Nat.zero_lt_one rfl rfl 1 (by decide) (va_Nw.use rfl (hG.1 ("BallotFoundry", 284, "BallotFoundry$SeatGiving", "seats", "[I", "BallotFoundry") (List.mem_of_getElem? (i := 27) rfl))) (fun _ h => h) rfl dX10_seats_25 ?_
    refine lv_iload_n hx hb dX10_seats_28 rfl (lv_at hl 1 rfl) ?_
    obtain ⟨h6, q⟩ := q
    refine g_iald hx hb hK hH 35 0 (by decide) Nat.zero_lt_one 5 rfl h6 dX10_seats_29 ?_
    exact vx_ret (W.iret (v := (F5 35 0 p1.toNatClampNeg)) hx hb hr (fun t ht hW => ⟨⟨(F5 35 0 p1.toNatClampNeg), F5, rfl, q, gH_at ht hH⟩, hS.F ht⟩) hS.2.2 dX10_seats_30)
  · have q := (if_neg c3).mp q
    refine lv_iconst (v := (-1)) hx hb dX10_seats_15 (by decide) ?_
    exact vx_ret (W.iret (v := (-1)) hx hb hr (fun t ht hW => ⟨⟨(-1), F2, rfl, q, gH_at ht hH⟩, hS.F ht⟩) hS.2.2 dX10_seats_16)
abbrev rm_X6_partyAt : Room := { frames := 0, cells := 0, slots := 0, locals := 0 }
abbrev q_X6_partyAt (G : GP) (ad : Nat → Nat → Nat) (K : Int32 → GF → Prop) (below : List Frame) (args : Array Value) (s : State) : State → Prop := MQ below (gQi G ad K) args s 0 0 (gA G)
set_option maxHeartbeats 4000000 in
set_option maxRecDepth 100000 in
theorem c_X6_partyAt (l : Launch) (G : GP) (ad : Nat → Nat → Nat) (F : GF) (p1 : Int32) (K : Int32 → GF → Prop) : Met l yX6_partyAt wsX6_partyAt rm_X6_partyAt (va_Pc [.ref (ad 27 0), .int p1] (fun U => gD G ad F U ∧ P_X6_partyAt F p1 K)) (gQi G ad K) 0 0 (gA G) := by
  refine Met.ofW (cc := cX6_partyAt) (maxL := 2) (ret := (some .int)) (by decide) rfl ?_
  intro p e s m args below meth c s₁ Bd hml hv
  obtain ⟨rfl, ⟨hK, hG, hB, hH⟩, q⟩ := hv
  have hx := Bd.exec
  have hb := Bd.bytes
  have hr := Bd.returns
  have hts := atoms_spec (ws := wsX6_partyAt) Bd.pre
  have hown : s.vm.findClass RX6 = some m.cls := findClass_of_methodNamed Bd.named
  have hlocks := Bd.notSynchronized
  have hS : va_S (gA G) s.heap s.heap [] := va_S.rf
  have hl := lv_entry [.ref (ad 27 0), .int p1] (n := 2) (Nat.le_of_ble_eq_true rfl)
  rw [lg_entry_eq]
  generalize (lg_sl [.ref (ad 27 0), .int p1] ++ List.replicate (2 - (lg_sl [.ref (ad 27 0), .int p1]).length) Slot.unset).toArray = ls at hl ⊢
  have hl : lv_has ls 2 [(0, .ref (ad 27 0)), (1, .int p1)] := hl
  unfold P_X6_partyAt at q
  refine lv_iload_n hx hb dX6_partyAt_0 rfl (lv_at hl 1 rfl) ?_
  refine lv_if_lt (tgt := 18) hx hb dX6_partyAt_1 (by decide) (fun c1 => ?_) (fun c1 => ?_)
  · have q := (if_pos c1).mp q
    refine lv_iconst (v := (-1)) hx hb dX6_partyAt_18 (by decide) ?_
    exact (W.iret (v := (-1)) hx hb hr (fun t ht hW => ⟨⟨(-1), F, rfl, q, gH_at ht hH⟩, hS.F ht⟩) hS.2.2 dX6_partyAt_19)
  · have q := (if_neg c1).mp q
    refine lv_iload_n hx hb dX6_partyAt_4 rfl (lv_at hl 1 rfl) ?_
    refine lv_aload_n hx hb dX6_partyAt_5 rfl (lv_at hl 0 rfl) ?_
    refine g_get (ci := 10) (v := .int (F 27 0 4)) (C := RX6) (T := TX6) (N := 7) hx hb hts (fun _ h => (List.mem_cons_of_mem _ (List.mem_append_left _ (List.mem_append_right _ h)))) hown hK hH 27 0 (by decide) Nat.zero_lt_one rfl rfl 4 (by decide) (hts (.fieldLink RX6 24 "BallotFoundry$SeatGiving" "given" "I") (List.mem_of_getElem? (i := 1) rfl)) (fun _ h => h) rfl dX6_partyAt_6 ?_
    refine lv_icmp_ge (tgt := 18) hx hb dX6_partyAt_9 (by decide) (fun c2 => ?_) (fun c2 => ?_)
    · have q := (if_pos c2).mp q
      refine lv_iconst (v := (-1)) hx hb dX6_partyAt_18 (by decide) ?_
      exact (W.iret (v := (-1)) hx hb hr (fun t ht hW => ⟨⟨(-1), F, rfl, q, gH_at ht hH⟩, hS.F ht⟩) hS.2.2 dX6_partyAt_19)
    · have q := (if_neg c2).mp q
      refine lv_iload_n hx hb dX6_partyAt_12 rfl (lv_at hl 1 rfl) ?_
      refine lv_bipush (v := 30) hx hb dX6_partyAt_13 (by decide) ?_
      refine lv_icmp_lt (tgt := 20) hx hb dX6_partyAt_15 (by decide) (fun c3 => ?_) (fun c3 => ?_)
      · have q := (if_pos c3).mp q
        refine lv_aload_n hx hb dX6_partyAt_20 rfl (lv_at hl 0 rfl) ?_
        refine g_get (ci := 10) (v := .ref (ad 36 0)) (C := RX6) (T := TX6) (N := 7) hx hb hts (fun _ h => (List.mem_cons_of_mem _ (List.mem_append_left _ (List.mem_append_right _ h)))) hown hK hH 27 0 (by decide) Nat.zero_lt_one rfl rfl 2 (by decide) (hts (.fieldLink RX6 18 "BallotFoundry$SeatGiving" "parties" "[I") (List.mem_of_getElem? (i := 2) rfl)) (fun _ h => h) rfl dX6_partyAt_21 ?_
        refine lv_iload_n hx hb dX6_partyAt_24 rfl (lv_at hl 1 rfl) ?_
        obtain ⟨h4, q⟩ := q
        refine g_iald hx hb hK hH 36 0 (by decide) Nat.zero_lt_one 30 rfl h4 dX6_partyAt_25 ?_
        exact (W.iret (v := (F 36 0 p1.toNatClampNeg)) hx hb hr (fun t ht hW => ⟨⟨(F 36 0 p1.toNatClampNeg), F, rfl, q, gH_at ht hH⟩, hS.F ht⟩) hS.2.2 dX6_partyAt_26)
      · have q := (if_neg c3).mp q
        refine lv_iconst (v := (-1)) hx hb dX6_partyAt_18 (by decide) ?_
        exact (W.iret (v := (-1)) hx hb hr (fun t ht hW => ⟨⟨(-1), F, rfl, q, gH_at ht hH⟩, hS.F ht⟩) hS.2.2 dX6_partyAt_19)
abbrev rm_X10_seatAt : Room := { frames := 6, cells := 1, slots := 6, locals := 138 }
abbrev q_X10_seatAt (G : GP) (ad : Nat → Nat → Nat) (K : Int32 → GF → Prop) (X : String → GF → Prop) (below : List Frame) (args : Array Value) (s : State) : State → Prop := vx_MQ below (gQi G ad K) (gX G ad X) args s 1 6 (gA G)
set_option maxHeartbeats 4000000 in
set_option maxRecDepth 100000 in
theorem c_X10_seatAt (l : Launch) (hfl : l.stackTraces = false) (G : GP) (ad : Nat → Nat → Nat) (F : GF) (p1 : Int32) (K : Int32 → GF → Prop) (X : String → GF → Prop) : vx_Met l yX10_seatAt wsX10_seatAt rm_X10_seatAt (va_Pc [.ref (ad 0 0), .int p1] (fun U => gD G ad F U ∧ P_X10_seatAt F p1 K X)) (gQi G ad K) (gX G ad X) 1 6 (gA G) := by
  refine vx_ofW (cc := cX10_seatAt) (maxL := 2) (ret := (some .int)) (by decide) rfl ?_
  intro p e s m args below meth c s₁ Bd hml hno hv
  obtain ⟨rfl, ⟨hK, hG, hB, hH⟩, q⟩ := hv
  have hx := Bd.exec
  have hb := Bd.bytes
  have hr := Bd.returns
  have hts := atoms_spec (ws := wsX10_seatAt) Bd.pre
  have hown : s.vm.findClass RX10 = some m.cls := findClass_of_methodNamed Bd.named
  have hlocks := Bd.notSynchronized
  have hS : va_S (gA G) s.heap s.heap [] := va_S.rf
  have hl := lv_entry [.ref (ad 0 0), .int p1] (n := 2) (Nat.le_of_ble_eq_true rfl)
  rw [lg_entry_eq]
  generalize (lg_sl [.ref (ad 0 0), .int p1] ++ List.replicate (2 - (lg_sl [.ref (ad 0 0), .int p1]).length) Slot.unset).toArray = ls at hl ⊢
  have hl : lv_has ls 2 [(0, .ref (ad 0 0)), (1, .int p1)] := hl
  unfold P_X10_seatAt at q
  refine lv_iload_n hx hb dX10_seatAt_0 rfl (lv_at hl 1 rfl) ?_
  refine lv_if_ge (tgt := 15) hx hb dX10_seatAt_1 (by decide) (fun c1 => ?_) (fun c1 => ?_)
  · have q := (if_pos c1).mp q
    refine lv_aload_n hx hb dX10_seatAt_15 rfl (lv_at hl 0 rfl) ?_
    refine g_get (ci := 14) (v := .ref (ad 10 0)) (C := RX10) (T := TX10) (N := 8) hx hb hts (fun _ h => (List.mem_cons_of_mem _ (List.mem_append_left _ (List.mem_append_left _ (List.mem_append_left _ (List.mem_append_left _ (List.mem_append_left _ (List.mem_append_right _ h)))))))) hown hK hH 0 0 (by decide) Nat.zero_lt_one rfl rfl 6 (by decide) (hts (.fieldLink RX10 43 "BallotFoundry" "election" "LBallotFoundry$Election;") (List.mem_of_getElem? (i := 3) rfl)) (fun _ h => h) rfl dX10_seatAt_16 ?_
    refine g_getN (ci := 6) (v := .int (F 10 0 0)) (C := RX2) (T := TX2) (N := 10) hx hb hts (fun _ h => (List.mem_cons_of_mem _ (List.mem_append_left _ (List.mem_append_left _ (List.mem_append_left _ (List.mem_append_left _ (List.mem_append_right _ h))))))) hown hK hH 10 0 (by decide) Nat.zero_lt_one rfl rfl 0 (by decide) (va_Nw.use rfl (hG.1 ("BallotFoundry", 135, "BallotFoundry$Election", "stage", "I", "BallotFoundry") (List.mem_of_getElem? (i := 16) rfl))) (fun _ h => h) rfl dX10_seatAt_19 ?_
    refine lv_iconst (v := 5) hx hb dX10_seatAt_22 (by decide) ?_
    refine lv_icmp_eq (tgt := 28) hx hb dX10_seatAt_23 (by decide) (fun c2 => ?_) (fun c2 => ?_)
    · have q := (if_pos c2).mp q
      refine lv_aload_n hx hb dX10_seatAt_28 rfl (lv_at hl 0 rfl) ?_
      refine va_callv (va_runV (As := []) (rest := []) ⟨hx, hb, hml, hown, hts⟩ (c_X10_giveByNumbers l G ad F _) (cwV 0 hts gX10_seatAt_X10_giveByNumbers rfl rfl rfl (by decide +kernel) ⟨Nat.le_of_ble_eq_true rfl, Nat.le_of_ble_eq_true rfl⟩) ⟨fun a U g mk h => ⟨h.1, gD_blind h.2.1, h.2.2⟩, g_recv (C := RX10) (T := TX10) (N := 8) hK hH 0 0 (by decide) Nat.zero_lt_one rfl rfl, fun U hU hW => ⟨rfl, gD_at hK hG hB hH hS hU hW, q⟩⟩ rfl rfl hl.1 rfl (lv_room (Nat.le_of_ble_eq_true rfl)) dX10_seatAt_29 ⟨Nat.le_of_ble_eq_true rfl, Nat.le_of_ble_eq_true rfl⟩) hS (fun _ _ h => h) (fun _ h => h) (fun F4 t H locs ht hvm q hB1 hz hk hS => ?_)
      have hH : gH G ad F4 H := gH_to ht hB1
      refine lv_aload_n hx hb dX10_seatAt_32 rfl (lv_at hl 0 rfl) ?_
      refine g_get (ci := 14) (v := .ref (ad 27 0)) (C := RX10) (T := TX10) (N := 8) hx hb hts (fun _ h => (List.mem_cons_of_mem _ (List.mem_append_left _ (List.mem_append_left _ (List.mem_append_left _ (List.mem_append_left _ (List.mem_append_left _ (List.mem_append_right _ h)))))))) hown hK hH 0 0 (by decide) Nat.zero_lt_one rfl rfl 7 (by decide) (hts (.fieldLink RX10 50 "BallotFoundry" "giving" "LBallotFoundry$SeatGiving;") (List.mem_of_getElem? (i := 4) rfl)) (fun _ h => h) rfl dX10_seatAt_33 ?_
      refine lv_iload_n hx hb dX10_seatAt_36 rfl (lv_at hl 1 rfl) ?_
      refine va_calli (va_runV (As := [.int p1]) (rest := []) ⟨hx, hb, hml, hown, hts⟩ (c_X6_partyAt l G ad F4 p1 _) (cwV 1 hts gX10_seatAt_X6_partyAt rfl rfl rfl (by decide +kernel) ⟨Nat.le_of_ble_eq_true rfl, Nat.le_of_ble_eq_true rfl⟩) ⟨fun a U g mk h => ⟨h.1, gD_blind h.2.1, h.2.2⟩, g_recv (C := RX6) (T := TX6) (N := 7) hK hH 27 0 (by decide) Nat.zero_lt_one rfl rfl, fun U hU hW => ⟨rfl, gD_at hK hG hB hH hS hU hW, q⟩⟩ rfl rfl hl.1 rfl (lv_room (Nat.le_of_ble_eq_true rfl)) dX10_seatAt_37 ⟨Nat.le_of_ble_eq_true rfl, Nat.le_of_ble_eq_true rfl⟩) hS (fun _ _ h => h) (fun _ h => h) (fun r5 F6 t H locs ht hvm q hB1 hz hk hS => ?_)
      have hH : gH G ad F6 H := gH_to ht hB1
      refine W.widen (k := 1) (n := 6) (Nat.le_of_ble_eq_true rfl) (Nat.le_of_ble_eq_true rfl) ?_
      exact vx_ret (W.iret (v := r5) hx hb hr (fun t ht hW => ⟨⟨r5, F6, rfl, q, gH_at ht hH⟩, hS.F ht⟩) hS.2.2 dX10_seatAt_40)
    · have q := (if_neg c2).mp q
      refine lv_iconst (v := (-1)) hx hb dX10_seatAt_26 (by decide) ?_
      refine W.widen (k := 1) (n := 6) (Nat.le_of_ble_eq_true rfl) (Nat.le_of_ble_eq_true rfl) ?_
      exact vx_ret (W.iret (v := (-1)) hx hb hr (fun t ht hW => ⟨⟨(-1), F, rfl, q, gH_at ht hH⟩, hS.F ht⟩) hS.2.2 dX10_seatAt_27)
  · have q := (if_neg c1).mp q
    exact g_throwW (text := "no such place") hx hb hfl hno hown hts hG hS (List.mem_of_getElem? (i := 0) rfl) (List.mem_of_getElem? (i := 26) rfl) (List.mem_of_getElem? (i := 1) rfl) (List.mem_of_getElem? (i := 2) rfl) (fun _ h => (List.mem_cons_of_mem _ (List.mem_append_left _ (List.mem_append_right _ h)))) (hl.1.trans hml.symm) hlocks dX10_seatAt_4 dX10_seatAt_7 dX10_seatAt_8 dX10_seatAt_11 dX10_seatAt_14 (Nat.le_of_ble_eq_true rfl) (Nat.le_of_ble_eq_true rfl) (Nat.le_of_ble_eq_true rfl) (Nat.le_of_ble_eq_true rfl) (fun t hvm hz hk => ⟨F, trivial, ⟨q, gH_grow hH hz hk⟩, gF_grow hS hz hk⟩) hS.2.2 (Nat.le_of_ble_eq_true rfl) (Nat.le_of_ble_eq_true rfl)
abbrev rm_X10_lots : Room := { frames := 6, cells := 0, slots := 0, locals := 138 }
abbrev q_X10_lots (G : GP) (ad : Nat → Nat → Nat) (K : Int32 → GF → Prop) (below : List Frame) (args : Array Value) (s : State) : State → Prop := MQ below (gQi G ad K) args s 0 0 (gA G)
set_option maxHeartbeats 4000000 in
set_option maxRecDepth 100000 in
theorem c_X10_lots (l : Launch) (G : GP) (ad : Nat → Nat → Nat) (F : GF) (K : Int32 → GF → Prop) : Met l yX10_lots wsX10_lots rm_X10_lots (va_Pc [.ref (ad 0 0)] (fun U => gD G ad F U ∧ P_X10_lots F K)) (gQi G ad K) 0 0 (gA G) := by
  refine Met.ofW (cc := cX10_lots) (maxL := 1) (ret := (some .int)) (by decide) rfl ?_
  intro p e s m args below meth c s₁ Bd hml hv
  obtain ⟨rfl, ⟨hK, hG, hB, hH⟩, q⟩ := hv
  have hx := Bd.exec
  have hb := Bd.bytes
  have hr := Bd.returns
  have hts := atoms_spec (ws := wsX10_lots) Bd.pre
  have hown : s.vm.findClass RX10 = some m.cls := findClass_of_methodNamed Bd.named
  have hlocks := Bd.notSynchronized
  have hS : va_S (gA G) s.heap s.heap [] := va_S.rf
  have hl := lv_entry [.ref (ad 0 0)] (n := 1) (Nat.le_of_ble_eq_true rfl)
  rw [lg_entry_eq]
  generalize (lg_sl [.ref (ad 0 0)] ++ List.replicate (1 - (lg_sl [.ref (ad 0 0)]).length) Slot.unset).toArray = ls at hl ⊢
  have hl : lv_has ls 1 [(0, .ref (ad 0 0))] := hl
  unfold P_X10_lots at q
  refine lv_aload_n hx hb dX10_lots_0 rfl (lv_at hl 0 rfl) ?_
  refine g_get (ci := 14) (v := .ref (ad 10 0)) (C := RX10) (T := TX10) (N := 8) hx hb hts (fun _ h => (List.mem_cons_of_mem _ (List.mem_append_left _ (List.mem_append_left _ (List.mem_append_left _ (List.mem_append_left _ (List.mem_append_right _ h))))))) hown hK hH 0 0 (by decide) Nat.zero_lt_one rfl rfl 6 (by decide) (hts (.fieldLink RX10 43 "BallotFoundry" "election" "LBallotFoundry$Election;") (List.mem_of_getElem? (i := 1) rfl)) (fun _ h => h) rfl dX10_lots_1 ?_
  refine g_getN (ci := 6) (v := .int (F 10 0 0)) (C := RX2) (T := TX2) (N := 10) hx hb hts (fun _ h => (List.mem_cons_of_mem _ (List.mem_append_left _ (List.mem_append_left _ (List.mem_append_left _ (List.mem_append_right _ h)))))) hown hK hH 10 0 (by decide) Nat.zero_lt_one rfl rfl 0 (by decide) (va_Nw.use rfl (hG.1 ("BallotFoundry", 135, "BallotFoundry$Election", "stage", "I", "BallotFoundry") (List.mem_of_getElem? (i := 16) rfl))) (fun _ h => h) rfl dX10_lots_4 ?_
  refine lv_iconst (v := 5) hx hb dX10_lots_7 (by decide) ?_
  refine lv_icmp_eq (tgt := 13) hx hb dX10_lots_8 (by decide) (fun c1 => ?_) (fun c1 => ?_)
  · have q := (if_pos c1).mp q
    refine lv_aload_n hx hb dX10_lots_13 rfl (lv_at hl 0 rfl) ?_
    refine va_callv (va_runV (As := []) (rest := []) ⟨hx, hb, hml, hown, hts⟩ (c_X10_giveByNumbers l G ad F _) (cwV 0 hts gX10_lots_X10_giveByNumbers rfl rfl rfl (by decide +kernel) ⟨Nat.le_of_ble_eq_true rfl, Nat.le_of_ble_eq_true rfl⟩) ⟨fun a U g mk h => ⟨h.1, gD_blind h.2.1, h.2.2⟩, g_recv (C := RX10) (T := TX10) (N := 8) hK hH 0 0 (by decide) Nat.zero_lt_one rfl rfl, fun U hU hW => ⟨rfl, gD_at hK hG hB hH hS hU hW, q⟩⟩ rfl rfl hl.1 rfl (lv_room (Nat.le_of_ble_eq_true rfl)) dX10_lots_14 ⟨Nat.le_of_ble_eq_true rfl, Nat.le_of_ble_eq_true rfl⟩) hS (fun _ _ h => h) (fun _ h => h) (fun F3 t H locs ht hvm q hB1 hz hk hS => ?_)
    have hH : gH G ad F3 H := gH_to ht hB1
    refine lv_aload_n hx hb dX10_lots_17 rfl (lv_at hl 0 rfl) ?_
    refine g_get (ci := 14) (v := .ref (ad 27 0)) (C := RX10) (T := TX10) (N := 8) hx hb hts (fun _ h => (List.mem_cons_of_mem _ (List.mem_append_left _ (List.mem_append_left _ (List.mem_append_left _ (List.mem_append_left _ (List.mem_append_right _ h))))))) hown hK hH 0 0 (by decide) Nat.zero_lt_one rfl rfl 7 (by decide) (hts (.fieldLink RX10 50 "BallotFoundry" "giving" "LBallotFoundry$SeatGiving;") (List.mem_of_getElem? (i := 2) rfl)) (fun _ h => h) rfl dX10_lots_18 ?_
    refine g_getN (ci := 10) (v := .int (F3 27 0 5)) (C := RX6) (T := TX6) (N := 7) hx hb hts (fun _ h => (List.mem_cons_of_mem _ (List.mem_append_left _ (List.mem_append_left _ (List.mem_append_right _ h))))) hown hK hH 27 0 (by decide) Nat.zero_lt_one rfl rfl 5 (by decide) (va_Nw.use rfl (hG.1 ("BallotFoundry", 293, "BallotFoundry$SeatGiving", "lotsDrawn", "I", "BallotFoundry") (List.mem_of_getElem? (i := 28) rfl))) (fun _ h => h) rfl dX10_lots_21 ?_
    exact (W.iret (v := (F3 27 0 5)) hx hb hr (fun t ht hW => ⟨⟨(F3 27 0 5), F3, rfl, q, gH_at ht hH⟩, hS.F ht⟩) hS.2.2 dX10_lots_24)
  · have q := (if_neg c1).mp q
    refine lv_iconst (v := (-1)) hx hb dX10_lots_11 (by decide) ?_
    exact (W.iret (v := (-1)) hx hb hr (fun t ht hW => ⟨⟨(-1), F, rfl, q, gH_at ht hH⟩, hS.F ht⟩) hS.2.2 dX10_lots_12)
abbrev rm_X2_ballotsFor : Room := { frames := 1, cells := 0, slots := 0, locals := 23 }
abbrev q_X2_ballotsFor (G : GP) (ad : Nat → Nat → Nat) (K : Int32 → GF → Prop) (below : List Frame) (args : Array Value) (s : State) : State → Prop := MQ below (gQi G ad K) args s 0 0 (gA G)
set_option maxHeartbeats 4000000 in
set_option maxRecDepth 100000 in
theorem c_X2_ballotsFor (l : Launch) (G : GP) (ad : Nat → Nat → Nat) (F : GF) (p1 : Int32) (K : Int32 → GF → Prop) : Met l yX2_ballotsFor wsX2_ballotsFor rm_X2_ballotsFor (va_Pc [.ref (ad 10 0), .int p1] (fun U => gD G ad F U ∧ P_X2_ballotsFor F p1 K)) (gQi G ad K) 0 0 (gA G) := by
  refine Met.ofW (cc := cX2_ballotsFor) (maxL := 4) (ret := (some .int)) (by decide) rfl ?_
  intro p e s m args below meth c s₁ Bd hml hv
  obtain ⟨rfl, ⟨hK, hG, hB, hH⟩, q⟩ := hv
  have hx := Bd.exec
  have hb := Bd.bytes
  have hr := Bd.returns
  have hts := atoms_spec (ws := wsX2_ballotsFor) Bd.pre
  have hown : s.vm.findClass RX2 = some m.cls := findClass_of_methodNamed Bd.named
  have hlocks := Bd.notSynchronized
  have hS : va_S (gA G) s.heap s.heap [] := va_S.rf
  have hl := lv_entry [.ref (ad 10 0), .int p1] (n := 4) (Nat.le_of_ble_eq_true rfl)
  rw [lg_entry_eq]
  generalize (lg_sl [.ref (ad 10 0), .int p1] ++ List.replicate (4 - (lg_sl [.ref (ad 10 0), .int p1]).length) Slot.unset).toArray = ls at hl ⊢
  have hl : lv_has ls 4 [(0, .ref (ad 10 0)), (1, .int p1)] := hl
  show W p l e rm_X2_ballotsFor s m ([.ref (ad 10 0), .int p1] : List Value).toArray below meth c s.heap [] 0 0 (q_X2_ballotsFor G ad K below ([.ref (ad 10 0), .int p1] : List Value).toArray s) _
  have t_4 : ∀ n : Nat, ∀ (F : GF) (x1 : Int32) (x2 : Int32) (x3 : Int32) (H : Heap) (locs : List Loc) (ls : Array Slot), gH G ad F H → va_S (gA G) s.heap H locs → lv_has ls 4 [(0, .ref (ad 10 0)), (1, .int x1), (2, .int x2), (3, .int x3)] → (P_X2_ballotsFor_4 K n) F x1 x2 x3 → W p l e rm_X2_ballotsFor s m ([.ref (ad 10 0), .int p1] : List Value).toArray below meth c H locs 0 0 (q_X2_ballotsFor G ad K below ([.ref (ad 10 0), .int p1] : List Value).toArray s) (F0 m 4 ls []) := by
    intro n
    induction n with
    | zero =>
      intro F x1 x2 x3 H locs ls hH hS hl q
      exact False.elim q
    | succ n ih =>
      intro F x1 x2 x3 H locs ls hH hS hl q
      rw [P_X2_ballotsFor_4] at q
      refine lv_iload_n hx hb dX2_ballotsFor_4 rfl (lv_at hl 3 rfl) ?_
      refine lv_aload_n hx hb dX2_ballotsFor_5 rfl (lv_at hl 0 rfl) ?_
      refine g_get (ci := 6) (v := .int (F 10 0 4)) (C := RX2) (T := TX2) (N := 10) hx hb hts (fun _ h => (List.mem_cons_of_mem _ (List.mem_append_left _ (List.mem_append_left _ (List.mem_append_right _ h))))) hown hK hH 10 0 (by decide) Nat.zero_lt_one rfl rfl 4 (by decide) (hts (.fieldLink RX2 25 "BallotFoundry$Election" "stationsOfIt" "I") (List.mem_of_getElem? (i := 1) rfl)) (fun _ h => h) rfl dX2_ballotsFor_6 ?_
      refine lv_icmp_ge (tgt := 31) hx hb dX2_ballotsFor_9 (by decide) (fun c1 => ?_) (fun c1 => ?_)
      · have q := (if_pos c1).mp q
        refine lv_iload_n hx hb dX2_ballotsFor_31 rfl (lv_at hl 2 rfl) ?_
        exact (W.iret (v := x2) hx hb hr (fun t ht hW => ⟨⟨x2, F, rfl, q, gH_at ht hH⟩, hS.F ht⟩) hS.2.2 dX2_ballotsFor_32)
      · have q := (if_neg c1).mp q
        refine lv_iload_n hx hb dX2_ballotsFor_12 rfl (lv_at hl 2 rfl) ?_
        refine lv_aload_n hx hb dX2_ballotsFor_13 rfl (lv_at hl 0 rfl) ?_
        refine g_get (ci := 6) (v := .ref (ad 20 0)) (C := RX2) (T := TX2) (N := 10) hx hb hts (fun _ h => (List.mem_cons_of_mem _ (List.mem_append_left _ (List.mem_append_left _ (List.mem_append_right _ h))))) hown hK hH 10 0 (by decide) Nat.zero_lt_one rfl rfl 8 (by decide) (hts (.fieldLink RX2 48 "BallotFoundry$Election" "boxes" "[LBallotFoundry$Box;") (List.mem_of_getElem? (i := 2) rfl)) (fun _ h => h) rfl dX2_ballotsFor_14 ?_
        refine lv_iload_n hx hb dX2_ballotsFor_17 rfl (lv_at hl 3 rfl) ?_
        obtain ⟨h2, q⟩ := q
        refine g_aald (a := ad 28 (x3.toNatClampNeg)) hx hb hK hH 20 0 (by decide) Nat.zero_lt_one 4 5 rfl rfl h2 rfl dX2_ballotsFor_18 ?_
        refine lv_iload_n hx hb dX2_ballotsFor_19 rfl (lv_at hl 1 rfl) ?_
        refine va_calli (va_runV (As := [.int x1]) (rest := [.int x2]) ⟨hx, hb, hml, hown, hts⟩ (c_X1_ballotsFor l G ad F x3.toNatClampNeg x1 (gin h2) _) (cwV 1 hts gX2_ballotsFor_X1_ballotsFor rfl rfl rfl (by decide +kernel) ⟨Nat.le_of_ble_eq_true rfl, Nat.le_of_ble_eq_true rfl⟩) ⟨fun a U g mk h => ⟨h.1, gD_blind h.2.1, h.2.2⟩, g_recv (C := RX1) (T := TX1) (N := 6) hK hH 28 x3.toNatClampNeg (by decide) (gin h2) rfl rfl, fun U hU hW => ⟨rfl, gD_at hK hG hB hH hS hU hW, q⟩⟩ rfl rfl hl.1 rfl (lv_room (Nat.le_of_ble_eq_true rfl)) dX2_ballotsFor_20 ⟨Nat.le_of_ble_eq_true rfl, Nat.le_of_ble_eq_true rfl⟩) hS (fun _ _ h => h) (fun _ h => h) (fun r3 F4 t H locs ht hvm q hB1 hz hk hS => ?_)
        have hH : gH G ad F4 H := gH_to ht hB1
        refine lv_iadd hx hb dX2_ballotsFor_23 ?_
        refine lv_istore_n (lv' := [(2, .int (x2 + r3)), (0, .ref (ad 10 0)), (1, .int x1), (3, .int x3)]) hx hb dX2_ballotsFor_24 rfl hl (by decide) rfl (fun ls hl => ?_)
        refine lv_iinc (v := x3 + 1) (lv' := [(3, .int (x3 + 1)), (2, .int (x2 + r3)), (0, .ref (ad 10 0)), (1, .int x1)]) hx hb dX2_ballotsFor_25 hl (k := 3) rfl rfl (by decide) rfl (fun ls hl => ?_)
        refine lv_goto (tgt := 4) hx hb dX2_ballotsFor_28 (by decide) ?_
        exact ih F4 x1 (x2 + r3) (x3 + 1) _ _ _ hH hS (lv_sub hl [2, 3, 1, 0] rfl) q
  unfold P_X2_ballotsFor at q
  refine lv_iconst (v := 0) hx hb dX2_ballotsFor_0 (by decide) ?_
  refine lv_istore_n (lv' := [(2, .int 0), (0, .ref (ad 10 0)), (1, .int p1)]) hx hb dX2_ballotsFor_1 rfl hl (by decide) rfl (fun ls hl => ?_)
  refine lv_iconst (v := 0) hx hb dX2_ballotsFor_2 (by decide) ?_
  refine lv_istore_n (lv' := [(3, .int 0), (2, .int 0), (0, .ref (ad 10 0)), (1, .int p1)]) hx hb dX2_ballotsFor_3 rfl hl (by decide) rfl (fun ls hl => ?_)
  obtain ⟨nn, q⟩ := q
  exact t_4 nn F p1 0 0 _ _ _ hH hS (lv_sub hl [2, 3, 1, 0] rfl) q
abbrev rm_X10_giveByBallots : Room := { frames := 5, cells := 0, slots := 0, locals := 117 }
abbrev q_X10_giveByBallots (G : GP) (ad : Nat → Nat → Nat) (K : GF → Prop) (below : List Frame) (args : Array Value) (s : State) : State → Prop := MQ below (gQv G ad K) args s 0 0 (gA G)
set_option maxHeartbeats 4000000 in
set_option maxRecDepth 100000 in
theorem c_X10_giveByBallots (l : Launch) (G : GP) (ad : Nat → Nat → Nat) (F : GF) (K : GF → Prop) : Met l yX10_giveByBallots wsX10_giveByBallots rm_X10_giveByBallots (va_Pc [.ref (ad 0 0)] (fun U => gD G ad F U ∧ P_X10_giveByBallots F K)) (gQv G ad K) 0 0 (gA G) := by
  refine Met.ofW (cc := cX10_giveByBallots) (maxL := 2) (ret := none) (by decide) rfl ?_
  intro p e s m args below meth c s₁ Bd hml hv
  obtain ⟨rfl, ⟨hK, hG, hB, hH⟩, q⟩ := hv
  have hx := Bd.exec
  have hb := Bd.bytes
  have hr := Bd.returns
  have hts := atoms_spec (ws := wsX10_giveByBallots) Bd.pre
  have hown : s.vm.findClass RX10 = some m.cls := findClass_of_methodNamed Bd.named
  have hlocks := Bd.notSynchronized
  have hS : va_S (gA G) s.heap s.heap [] := va_S.rf
  have hl := lv_entry [.ref (ad 0 0)] (n := 2) (Nat.le_of_ble_eq_true rfl)
  rw [lg_entry_eq]
  generalize (lg_sl [.ref (ad 0 0)] ++ List.replicate (2 - (lg_sl [.ref (ad 0 0)]).length) Slot.unset).toArray = ls at hl ⊢
  have hl : lv_has ls 2 [(0, .ref (ad 0 0))] := hl
  show W p l e rm_X10_giveByBallots s m ([.ref (ad 0 0)] : List Value).toArray below meth c s.heap [] 0 0 (q_X10_giveByBallots G ad K below ([.ref (ad 0 0)] : List Value).toArray s) _
  have t_2 : ∀ n : Nat, ∀ (F : GF) (x1 : Int32) (H : Heap) (locs : List Loc) (ls : Array Slot), gH G ad F H → va_S (gA G) s.heap H locs → lv_has ls 2 [(0, .ref (ad 0 0)), (1, .int x1)] → (P_X10_giveByBallots_2 K n) F x1 → W p l e rm_X10_giveByBallots s m ([.ref (ad 0 0)] : List Value).toArray below meth c H locs 0 0 (q_X10_giveByBallots G ad K below ([.ref (ad 0 0)] : List Value).toArray s) (F0 m 2 ls []) := by
    intro n
    induction n with
    | zero =>
      intro F x1 H locs ls hH hS hl q
      exact False.elim q
    | succ n ih =>
      intro F x1 H locs ls hH hS hl q
      rw [P_X10_giveByBallots_2] at q
      refine lv_iload_n hx hb dX10_giveByBallots_2 rfl (lv_at hl 1 rfl) ?_
      refine lv_iconst (v := 5) hx hb dX10_giveByBallots_3 (by decide) ?_
      refine lv_icmp_ge (tgt := 30) hx hb dX10_giveByBallots_4 (by decide) (fun c1 => ?_) (fun c1 => ?_)
      · have q := (if_pos c1).mp q
        refine lv_aload_n hx hb dX10_giveByBallots_30 rfl (lv_at hl 0 rfl) ?_
        refine g_get (ci := 14) (v := .ref (ad 27 0)) (C := RX10) (T := TX10) (N := 8) hx hb hts (fun _ h => (List.mem_cons_of_mem _ (List.mem_append_left _ (List.mem_append_left _ (List.mem_append_left _ (List.mem_append_left _ (List.mem_append_right _ h))))))) hown hK hH 0 0 (by decide) Nat.zero_lt_one rfl rfl 7 (by decide) (hts (.fieldLink RX10 50 "BallotFoundry" "giving" "LBallotFoundry$SeatGiving;") (List.mem_of_getElem? (i := 1) rfl)) (fun _ h => h) rfl dX10_giveByBallots_31 ?_
        refine lv_aload_n hx hb dX10_giveByBallots_34 rfl (lv_at hl 0 rfl) ?_
        refine g_get (ci := 14) (v := .ref (ad 10 0)) (C := RX10) (T := TX10) (N := 8) hx hb hts (fun _ h => (List.mem_cons_of_mem _ (List.mem_append_left _ (List.mem_append_left _ (List.mem_append_left _ (List.mem_append_left _ (List.mem_append_right _ h))))))) hown hK hH 0 0 (by decide) Nat.zero_lt_one rfl rfl 6 (by decide) (hts (.fieldLink RX10 43 "BallotFoundry" "election" "LBallotFoundry$Election;") (List.mem_of_getElem? (i := 2) rfl)) (fun _ h => h) rfl dX10_giveByBallots_35 ?_
        refine g_getN (ci := 6) (v := .int (F 10 0 2)) (C := RX2) (T := TX2) (N := 10) hx hb hts (fun _ h => (List.mem_cons_of_mem _ (List.mem_append_left _ (List.mem_append_left _ (List.mem_append_right _ h))))) hown hK hH 10 0 (by decide) Nat.zero_lt_one rfl rfl 2 (by decide) (va_Nw.use rfl (hG.1 ("BallotFoundry", 349, "BallotFoundry$Election", "partySeats", "I", "BallotFoundry") (List.mem_of_getElem? (i := 18) rfl))) (fun _ h => h) rfl dX10_giveByBallots_38 ?_
        refine lv_aload_n hx hb dX10_giveByBallots_41 rfl (lv_at hl 0 rfl) ?_
        refine g_get (ci := 14) (v := .ref (ad 10 0)) (C := RX10) (T := TX10) (N := 8) hx hb hts (fun _ h => (List.mem_cons_of_mem _ (List.mem_append_left _ (List.mem_append_left _ (List.mem_append_left _ (List.mem_append_left _ (List.mem_append_right _ h))))))) hown hK hH 0 0 (by decide) Nat.zero_lt_one rfl rfl 6 (by decide) (hts (.fieldLink RX10 43 "BallotFoundry" "election" "LBallotFoundry$Election;") (List.mem_of_getElem? (i := 2) rfl)) (fun _ h => h) rfl dX10_giveByBallots_42 ?_
        refine g_getN (ci := 6) (v := .int (F 10 0 3)) (C := RX2) (T := TX2) (N := 10) hx hb hts (fun _ h => (List.mem_cons_of_mem _ (List.mem_append_left _ (List.mem_append_left _ (List.mem_append_right _ h))))) hown hK hH 10 0 (by decide) Nat.zero_lt_one rfl rfl 3 (by decide) (va_Nw.use rfl (hG.1 ("BallotFoundry", 352, "BallotFoundry$Election", "isOdd", "Z", "BallotFoundry") (List.mem_of_getElem? (i := 19) rfl))) (fun _ h => h) rfl dX10_giveByBallots_45 ?_
        refine lv_aload_n hx hb dX10_giveByBallots_48 rfl (lv_at hl 0 rfl) ?_
        refine g_get (ci := 14) (v := .ref (ad 10 0)) (C := RX10) (T := TX10) (N := 8) hx hb hts (fun _ h => (List.mem_cons_of_mem _ (List.mem_append_left _ (List.mem_append_left _ (List.mem_append_left _ (List.mem_append_left _ (List.mem_append_right _ h))))))) hown hK hH 0 0 (by decide) Nat.zero_lt_one rfl rfl 6 (by decide) (hts (.fieldLink RX10 43 "BallotFoundry" "election" "LBallotFoundry$Election;") (List.mem_of_getElem? (i := 2) rfl)) (fun _ h => h) rfl dX10_giveByBallots_49 ?_
        refine va_calli (va_runV (As := []) (rest := [.int (F 10 0 3), .int (F 10 0 2), .ref (ad 27 0)]) ⟨hx, hb, hml, hown, hts⟩ (c_X2_sumOfSeeds l G ad F _) (cwV 0 hts gX10_giveByBallots_X2_sumOfSeeds rfl rfl rfl (by decide +kernel) ⟨Nat.le_of_ble_eq_true rfl, Nat.le_of_ble_eq_true rfl⟩) ⟨fun a U g mk h => ⟨h.1, gD_blind h.2.1, h.2.2⟩, g_recv (C := RX2) (T := TX2) (N := 10) hK hH 10 0 (by decide) Nat.zero_lt_one rfl rfl, fun U hU hW => ⟨rfl, gD_at hK hG hB hH hS hU hW, q⟩⟩ rfl rfl hl.1 rfl (lv_room (Nat.le_of_ble_eq_true rfl)) dX10_giveByBallots_52 ⟨Nat.le_of_ble_eq_true rfl, Nat.le_of_ble_eq_true rfl⟩) hS (fun _ _ h => h) (fun _ h => h) (fun r2 F3 t H locs ht hvm q hB1 hz hk hS => ?_)
        have hH : gH G ad F3 H := gH_to ht hB1
        refine va_callv (va_runV (As := [.int (F 10 0 2), .int (F 10 0 3), .int r2]) (rest := []) ⟨hx, hb, hml, hown, hts⟩ (c_X6_give l G ad F3 (F 10 0 2) (F 10 0 3) r2 _) (cwV 3 hts gX10_giveByBallots_X6_give rfl rfl rfl (by decide +kernel) ⟨Nat.le_of_ble_eq_true rfl, Nat.le_of_ble_eq_true rfl⟩) ⟨fun a U g mk h => ⟨h.1, gD_blind h.2.1, h.2.2⟩, g_recv (C := RX6) (T := TX6) (N := 7) hK hH 27 0 (by decide) Nat.zero_lt_one rfl rfl, fun U hU hW => ⟨rfl, gD_at hK hG hB hH hS hU hW, q⟩⟩ rfl rfl hl.1 rfl (lv_room (Nat.le_of_ble_eq_true rfl)) dX10_giveByBallots_55 ⟨Nat.le_of_ble_eq_true rfl, Nat.le_of_ble_eq_true rfl⟩) hS (fun _ _ h => h) (fun _ h => h) (fun F5 t H locs ht hvm q hB1 hz hk hS => ?_)
        have hH : gH G ad F5 H := gH_to ht hB1
        exact (W.vret hx hb hr (fun t ht hW => ⟨⟨F5, rfl, q, gH_at ht hH⟩, hS.F ht⟩) hS.2.2 dX10_giveByBallots_58)
      · have q := (if_neg c1).mp q
        refine lv_aload_n hx hb dX10_giveByBallots_7 rfl (lv_at hl 0 rfl) ?_
        refine g_get (ci := 14) (v := .ref (ad 27 0)) (C := RX10) (T := TX10) (N := 8) hx hb hts (fun _ h => (List.mem_cons_of_mem _ (List.mem_append_left _ (List.mem_append_left _ (List.mem_append_left _ (List.mem_append_left _ (List.mem_append_right _ h))))))) hown hK hH 0 0 (by decide) Nat.zero_lt_one rfl rfl 7 (by decide) (hts (.fieldLink RX10 50 "BallotFoundry" "giving" "LBallotFoundry$SeatGiving;") (List.mem_of_getElem? (i := 1) rfl)) (fun _ h => h) rfl dX10_giveByBallots_8 ?_
        refine g_getN (ci := 10) (v := .ref (ad 34 0)) (C := RX6) (T := TX6) (N := 7) hx hb hts (fun _ h => (List.mem_cons_of_mem _ (List.mem_append_left _ (List.mem_append_left _ (List.mem_append_left _ (List.mem_append_right _ h)))))) hown hK hH 27 0 (by decide) Nat.zero_lt_one rfl rfl 0 (by decide) (va_Nw.use rfl (hG.1 ("BallotFoundry", 346, "BallotFoundry$SeatGiving", "votes", "[I", "BallotFoundry") (List.mem_of_getElem? (i := 26) rfl))) (fun _ h => h) rfl dX10_giveByBallots_11 ?_
        refine lv_iload_n hx hb dX10_giveByBallots_14 rfl (lv_at hl 1 rfl) ?_
        refine lv_aload_n hx hb dX10_giveByBallots_15 rfl (lv_at hl 0 rfl) ?_
        refine g_get (ci := 14) (v := .ref (ad 10 0)) (C := RX10) (T := TX10) (N := 8) hx hb hts (fun _ h => (List.mem_cons_of_mem _ (List.mem_append_left _ (List.mem_append_left _ (List.mem_append_left _ (List.mem_append_left _ (List.mem_append_right _ h))))))) hown hK hH 0 0 (by decide) Nat.zero_lt_one rfl rfl 6 (by decide) (hts (.fieldLink RX10 43 "BallotFoundry" "election" "LBallotFoundry$Election;") (List.mem_of_getElem? (i := 2) rfl)) (fun _ h => h) rfl dX10_giveByBallots_16 ?_
        refine lv_iload_n hx hb dX10_giveByBallots_19 rfl (lv_at hl 1 rfl) ?_
        refine va_calli (va_runV (As := [.int x1]) (rest := [.int x1, .ref (ad 34 0)]) ⟨hx, hb, hml, hown, hts⟩ (c_X2_ballotsFor l G ad F x1 _) (cwV 1 hts gX10_giveByBallots_X2_ballotsFor rfl rfl rfl (by decide +kernel) ⟨Nat.le_of_ble_eq_true rfl, Nat.le_of_ble_eq_true rfl⟩) ⟨fun a U g mk h => ⟨h.1, gD_blind h.2.1, h.2.2⟩, g_recv (C := RX2) (T := TX2) (N := 10) hK hH 10 0 (by decide) Nat.zero_lt_one rfl rfl, fun U hU hW => ⟨rfl, gD_at hK hG hB hH hS hU hW, q⟩⟩ rfl rfl hl.1 rfl (lv_room (Nat.le_of_ble_eq_true rfl)) dX10_giveByBallots_20 ⟨Nat.le_of_ble_eq_true rfl, Nat.le_of_ble_eq_true rfl⟩) hS (fun _ _ h => h) (fun _ h => h) (fun r6 F7 t H locs ht hvm q hB1 hz hk hS => ?_)
        have hH : gH G ad F7 H := gH_to ht hB1
        obtain ⟨h8, q⟩ := q
        refine g_iast hx hb hK hH hS 34 0 (by decide) Nat.zero_lt_one (by decide) 5 (fun _ => rfl) h8 dX10_giveByBallots_23 (fun H locs hH hS => ?_)
        obtain ⟨F9, eF9⟩ : ∃ z, z = fs F7 34 0 x1.toNatClampNeg r6 := ⟨_, rfl⟩
        have q := q F9 eF9
        rw [← eF9] at hH
        refine lv_iinc (v := x1 + 1) (lv' := [(1, .int (x1 + 1)), (0, .ref (ad 0 0))]) hx hb dX10_giveByBallots_24 hl (k := 1) rfl rfl (by decide) rfl (fun ls hl => ?_)
        refine lv_goto (tgt := 2) hx hb dX10_giveByBallots_27 (by decide) ?_
        exact ih F9 (x1 + 1) _ _ _ hH hS (lv_sub hl [1, 0] rfl) q
  unfold P_X10_giveByBallots at q
  refine lv_iconst (v := 0) hx hb dX10_giveByBallots_0 (by decide) ?_
  refine lv_istore_n (lv' := [(1, .int 0), (0, .ref (ad 0 0))]) hx hb dX10_giveByBallots_1 rfl hl (by decide) rfl (fun ls hl => ?_)
  obtain ⟨nn, q⟩ := q
  exact t_2 nn F 0 _ _ _ hH hS (lv_sub hl [1, 0] rfl) q
abbrev rm_X10_seatsByBallots : Room := { frames := 7, cells := 1, slots := 6, locals := 138 }
abbrev q_X10_seatsByBallots (G : GP) (ad : Nat → Nat → Nat) (K : Int32 → GF → Prop) (X : String → GF → Prop) (below : List Frame) (args : Array Value) (s : State) : State → Prop := vx_MQ below (gQi G ad K) (gX G ad X) args s 1 6 (gA G)
set_option maxHeartbeats 4000000 in
set_option maxRecDepth 100000 in
theorem c_X10_seatsByBallots (l : Launch) (hfl : l.stackTraces = false) (G : GP) (ad : Nat → Nat → Nat) (F : GF) (p1 : Int32) (K : Int32 → GF → Prop) (X : String → GF → Prop) : vx_Met l yX10_seatsByBallots wsX10_seatsByBallots rm_X10_seatsByBallots (va_Pc [.ref (ad 0 0), .int p1] (fun U => gD G ad F U ∧ P_X10_seatsByBallots F p1 K X)) (gQi G ad K) (gX G ad X) 1 6 (gA G) := by
  refine vx_ofW (cc := cX10_seatsByBallots) (maxL := 2) (ret := (some .int)) (by decide) rfl ?_
  intro p e s m args below meth c s₁ Bd hml hno hv
  obtain ⟨rfl, ⟨hK, hG, hB, hH⟩, q⟩ := hv
  have hx := Bd.exec
  have hb := Bd.bytes
  have hr := Bd.returns
  have hts := atoms_spec (ws := wsX10_seatsByBallots) Bd.pre
  have hown : s.vm.findClass RX10 = some m.cls := findClass_of_methodNamed Bd.named
  have hlocks := Bd.notSynchronized
  have hS : va_S (gA G) s.heap s.heap [] := va_S.rf
  have hl := lv_entry [.ref (ad 0 0), .int p1] (n := 2) (Nat.le_of_ble_eq_true rfl)
  rw [lg_entry_eq]
  generalize (lg_sl [.ref (ad 0 0), .int p1] ++ List.replicate (2 - (lg_sl [.ref (ad 0 0), .int p1]).length) Slot.unset).toArray = ls at hl ⊢
  have hl : lv_has ls 2 [(0, .ref (ad 0 0)), (1, .int p1)] := hl
  show W p l e rm_X10_seatsByBallots s m ([.ref (ad 0 0), .int p1] : List Value).toArray below meth c s.heap [] 0 0 (q_X10_seatsByBallots G ad K X below ([.ref (ad 0 0), .int p1] : List Value).toArray s) _
  have t_28 : ∀ (F : GF) (x1 : Int32) (H : Heap) (locs : List Loc) (ls : Array Slot), gH G ad F H → va_S (gA G) s.heap H locs → lv_has ls 2 [(0, .ref (ad 0 0)), (1, .int x1)] → (P_X10_seatsByBallots_28 K X) F x1 → W p l e rm_X10_seatsByBallots s m ([.ref (ad 0 0), .int p1] : List Value).toArray below meth c H locs 1 6 (q_X10_seatsByBallots G ad K X below ([.ref (ad 0 0), .int p1] : List Value).toArray s) (F0 m 28 ls []) := by
    intro F x1 H locs ls hH hS hl q
    unfold P_X10_seatsByBallots_28 at q
    refine lv_aload_n hx hb dX10_seatsByBallots_28 rfl (lv_at hl 0 rfl) ?_
    refine va_callv (va_runV (As := []) (rest := []) ⟨hx, hb, hml, hown, hts⟩ (c_X10_giveByBallots l G ad F _) (cwV 0 hts gX10_seatsByBallots_X10_giveByBallots rfl rfl rfl (by decide +kernel) ⟨Nat.le_of_ble_eq_true rfl, Nat.le_of_ble_eq_true rfl⟩) ⟨fun a U g mk h => ⟨h.1, gD_blind h.2.1, h.2.2⟩, g_recv (C := RX10) (T := TX10) (N := 8) hK hH 0 0 (by decide) Nat.zero_lt_one rfl rfl, fun U hU hW => ⟨rfl, gD_at hK hG hB hH hS hU hW, q⟩⟩ rfl rfl hl.1 rfl (lv_room (Nat.le_of_ble_eq_true rfl)) dX10_seatsByBallots_29 ⟨Nat.le_of_ble_eq_true rfl, Nat.le_of_ble_eq_true rfl⟩) hS (fun _ _ h => h) (fun _ h => h) (fun F5 t H locs ht hvm q hB1 hz hk hS => ?_)
    have hH : gH G ad F5 H := gH_to ht hB1
    refine lv_aload_n hx hb dX10_seatsByBallots_32 rfl (lv_at hl 0 rfl) ?_
    refine g_get (ci := 14) (v := .ref (ad 27 0)) (C := RX10) (T := TX10) (N := 8) hx hb hts (fun _ h => (List.mem_cons_of_mem _ (List.mem_append_left _ (List.mem_append_left _ (List.mem_append_left _ (List.mem_append_left _ (List.mem_append_left _ (List.mem_append_right _ h)))))))) hown hK hH 0 0 (by decide) Nat.zero_lt_one rfl rfl 7 (by decide) (hts (.fieldLink RX10 50 "BallotFoundry" "giving" "LBallotFoundry$SeatGiving;") (List.mem_of_getElem? (i := 2) rfl)) (fun _ h => h) rfl dX10_seatsByBallots_33 ?_
    refine g_getN (ci := 10) (v := .ref (ad 35 0)) (C := RX6) (T := TX6) (N := 7) hx hb hts (fun _ h => (List.mem_cons_of_mem _ (List.mem_append_left _ (List.mem_append_left _ (List.mem_append_left _ (List.mem_append_right _ h)))))) hown hK hH 27 0 (by decide) Nat.zero_lt_one rfl rfl 1 (by decide) (va_Nw.use rfl (hG.1 ("BallotFoundry", 284, "BallotFoundry$SeatGiving", "seats", "[I", "BallotFoundry") (List.mem_of_getElem? (i := 27) rfl))) (fun _ h => h) rfl dX10_seatsByBallots_36 ?_
    refine lv_iload_n hx hb dX10_seatsByBallots_39 rfl (lv_at hl 1 rfl) ?_
    obtain ⟨h6, q⟩ := q
    refine g_iald hx hb hK hH 35 0 (by decide) Nat.zero_lt_one 5 rfl h6 dX10_seatsByBallots_40 ?_
    exact vx_ret (W.iret (v := (F5 35 0 x1.toNatClampNeg)) hx hb hr (fun t ht hW => ⟨⟨(F5 35 0 x1.toNatClampNeg), F5, rfl, q, gH_at ht hH⟩, hS.F ht⟩) hS.2.2 dX10_seatsByBallots_41)
  unfold P_X10_seatsByBallots at q
  refine lv_iload_n hx hb dX10_seatsByBallots_0 rfl (lv_at hl 1 rfl) ?_
  refine vx_callv (vx_runS (As := [.int p1]) (rest := []) ⟨hx, hb, hml, hown, hts⟩ (c_X10_needParty l hfl G ad F p1 _ _) (va_cwS 1 hts gX10_seatsByBallots_X10_needParty rfl rfl rfl (by decide +kernel) ⟨Nat.le_of_ble_eq_true rfl, Nat.le_of_ble_eq_true rfl⟩) ⟨fun a U g mk h => ⟨h.1, gD_blind h.2.1, h.2.2⟩, fun U hU hW => ⟨rfl, gD_at hK hG hB hH hS hU hW, q⟩⟩ rfl rfl hl.1 rfl (lv_room (Nat.le_of_ble_eq_true rfl)) dX10_seatsByBallots_1 ⟨Nat.le_of_ble_eq_true rfl, Nat.le_of_ble_eq_true rfl⟩) hS (fun _ _ h => h) (fun _ h => h) (fun _ _ h => h) (fun E ce q9 u t H locs ht hvm _ hq hz hk hS hc9 hv9 hcl9 => vx_widen (Nat.le_of_ble_eq_true rfl) (Nat.le_of_ble_eq_true rfl) (vx_out (fun x hx => (hno x hx).elim) hlocks hc9 hv9 hcl9 (fun t1 ht1 hvm1 => ⟨u, trivial, ⟨hq.1, gH_at ht1 (gH_to ht hq.2)⟩, hS.F ht1⟩) hS.2.2 (Nat.le_refl _) (Nat.le_refl _))) (fun F2 t H locs ht hvm q hB1 hz hk hS => ?_)
  have hH : gH G ad F2 H := gH_to ht hB1
  refine lv_aload_n hx hb dX10_seatsByBallots_4 rfl (lv_at hl 0 rfl) ?_
  refine g_get (ci := 14) (v := .ref (ad 10 0)) (C := RX10) (T := TX10) (N := 8) hx hb hts (fun _ h => (List.mem_cons_of_mem _ (List.mem_append_left _ (List.mem_append_left _ (List.mem_append_left _ (List.mem_append_left _ (List.mem_append_left _ (List.mem_append_right _ h)))))))) hown hK hH 0 0 (by decide) Nat.zero_lt_one rfl rfl 6 (by decide) (hts (.fieldLink RX10 43 "BallotFoundry" "election" "LBallotFoundry$Election;") (List.mem_of_getElem? (i := 1) rfl)) (fun _ h => h) rfl dX10_seatsByBallots_5 ?_
  refine g_getN (ci := 6) (v := .int (F2 10 0 0)) (C := RX2) (T := TX2) (N := 10) hx hb hts (fun _ h => (List.mem_cons_of_mem _ (List.mem_append_left _ (List.mem_append_left _ (List.mem_append_left _ (List.mem_append_left _ (List.mem_append_right _ h))))))) hown hK hH 10 0 (by decide) Nat.zero_lt_one rfl rfl 0 (by decide) (va_Nw.use rfl (hG.1 ("BallotFoundry", 135, "BallotFoundry$Election", "stage", "I", "BallotFoundry") (List.mem_of_getElem? (i := 16) rfl))) (fun _ h => h) rfl dX10_seatsByBallots_8 ?_
  refine lv_iconst (v := 4) hx hb dX10_seatsByBallots_11 (by decide) ?_
  refine lv_icmp_eq (tgt := 28) hx hb dX10_seatsByBallots_12 (by decide) (fun c3 => ?_) (fun c3 => ?_)
  · have q := (if_pos c3).mp q
    exact t_28 F2 p1 _ _ _ hH hS (lv_sub hl [0, 1] rfl) q
  · have q := (if_neg c3).mp q
    refine lv_aload_n hx hb dX10_seatsByBallots_15 rfl (lv_at hl 0 rfl) ?_
    refine g_get (ci := 14) (v := .ref (ad 10 0)) (C := RX10) (T := TX10) (N := 8) hx hb hts (fun _ h => (List.mem_cons_of_mem _ (List.mem_append_left _ (List.mem_append_left _ (List.mem_append_left _ (List.mem_append_left _ (List.mem_append_left _ (List.mem_append_right _ h)))))))) hown hK hH 0 0 (by decide) Nat.zero_lt_one rfl rfl 6 (by decide) (hts (.fieldLink RX10 43 "BallotFoundry" "election" "LBallotFoundry$Election;") (List.mem_of_getElem? (i := 1) rfl)) (fun _ h => h) rfl dX10_seatsByBallots_16 ?_
    refine g_getN (ci := 6) (v := .int (F2 10 0 0)) (C := RX2) (T := TX2) (N := 10) hx hb hts (fun _ h => (List.mem_cons_of_mem _ (List.mem_append_left _ (List.mem_append_left _ (List.mem_append_left _ (List.mem_append_left _ (List.mem_append_right _ h))))))) hown hK hH 10 0 (by decide) Nat.zero_lt_one rfl rfl 0 (by decide) (va_Nw.use rfl (hG.1 ("BallotFoundry", 135, "BallotFoundry$Election", "stage", "I", "BallotFoundry") (List.mem_of_getElem? (i := 16) rfl))) (fun _ h => h) rfl dX10_seatsByBallots_19 ?_
    refine lv_iconst (v := 5) hx hb dX10_seatsByBallots_22 (by decide) ?_
    refine lv_icmp_eq (tgt := 28) hx hb dX10_seatsByBallots_23 (by decide) (fun c7 => ?_) (fun c7 => ?_)
    · have q := (if_pos c7).mp q
      exact t_28 F2 p1 _ _ _ hH hS (lv_sub hl [0, 1] rfl) q
    · have q := (if_neg c7).mp q
      refine lv_iconst (v := (-1)) hx hb dX10_seatsByBallots_26 (by decide) ?_
      exact vx_ret (W.iret (v := (-1)) hx hb hr (fun t ht hW => ⟨⟨(-1), F2, rfl, q, gH_at ht hH⟩, hS.F ht⟩) hS.2.2 dX10_seatsByBallots_27)
abbrev rm_X10_notes : Room := { frames := 0, cells := 0, slots := 0, locals := 0 }
abbrev q_X10_notes (G : GP) (ad : Nat → Nat → Nat) (K : Int32 → GF → Prop) (below : List Frame) (args : Array Value) (s : State) : State → Prop := MQ below (gQi G ad K) args s 0 0 (gA G)
set_option maxHeartbeats 4000000 in
set_option maxRecDepth 100000 in
theorem c_X10_notes (l : Launch) (G : GP) (ad : Nat → Nat → Nat) (F : GF) (K : Int32 → GF → Prop) : Met l yX10_notes wsX10_notes rm_X10_notes (va_Pc [.ref (ad 0 0)] (fun U => gD G ad F U ∧ P_X10_notes F K)) (gQi G ad K) 0 0 (gA G) := by
  refine Met.ofW (cc := cX10_notes) (maxL := 1) (ret := (some .int)) (by decide) rfl ?_
  intro p e s m args below meth c s₁ Bd hml hv
  obtain ⟨rfl, ⟨hK, hG, hB, hH⟩, q⟩ := hv
  have hx := Bd.exec
  have hb := Bd.bytes
  have hr := Bd.returns
  have hts := atoms_spec (ws := wsX10_notes) Bd.pre
  have hown : s.vm.findClass RX10 = some m.cls := findClass_of_methodNamed Bd.named
  have hlocks := Bd.notSynchronized
  have hS : va_S (gA G) s.heap s.heap [] := va_S.rf
  have hl := lv_entry [.ref (ad 0 0)] (n := 1) (Nat.le_of_ble_eq_true rfl)
  rw [lg_entry_eq]
  generalize (lg_sl [.ref (ad 0 0)] ++ List.replicate (1 - (lg_sl [.ref (ad 0 0)]).length) Slot.unset).toArray = ls at hl ⊢
  have hl : lv_has ls 1 [(0, .ref (ad 0 0))] := hl
  unfold P_X10_notes at q
  refine lv_aload_n hx hb dX10_notes_0 rfl (lv_at hl 0 rfl) ?_
  refine g_get (ci := 14) (v := .ref (ad 10 0)) (C := RX10) (T := TX10) (N := 8) hx hb hts (fun _ h => (List.mem_cons_of_mem _ (List.mem_append_left _ (List.mem_append_left _ (List.mem_append_right _ h))))) hown hK hH 0 0 (by decide) Nat.zero_lt_one rfl rfl 6 (by decide) (hts (.fieldLink RX10 43 "BallotFoundry" "election" "LBallotFoundry$Election;") (List.mem_of_getElem? (i := 1) rfl)) (fun _ h => h) rfl dX10_notes_1 ?_
  refine g_getN (ci := 6) (v := .ref (ad 21 0)) (C := RX2) (T := TX2) (N := 10) hx hb hts (fun _ h => (List.mem_cons_of_mem _ (List.mem_append_left _ (List.mem_append_right _ h)))) hown hK hH 10 0 (by decide) Nat.zero_lt_one rfl rfl 9 (by decide) (va_Nw.use rfl (hG.1 ("BallotFoundry", 194, "BallotFoundry$Election", "book", "LBallotFoundry$Book;", "BallotFoundry") (List.mem_of_getElem? (i := 25) rfl))) (fun _ h => h) rfl dX10_notes_4 ?_
  refine g_getN (ci := 4) (v := .int (F 21 0 4)) (C := RX0) (T := TX0) (N := 5) hx hb hts (fun _ h => (List.mem_cons_of_mem _ (List.mem_append_right _ h))) hown hK hH 21 0 (by decide) Nat.zero_lt_one rfl rfl 4 (by decide) (va_Nw.use rfl (hG.1 ("BallotFoundry", 299, "BallotFoundry$Book", "size", "I", "BallotFoundry") (List.mem_of_getElem? (i := 13) rfl))) (fun _ h => h) rfl dX10_notes_7 ?_
  exact (W.iret (v := (F 21 0 4)) hx hb hr (fun t ht hW => ⟨⟨(F 21 0 4), F, rfl, q, gH_at ht hH⟩, hS.F ht⟩) hS.2.2 dX10_notes_10)
abbrev rm_X0_characterAt : Room := { frames := 4, cells := 1, slots := 6, locals := 88 }
abbrev q_X0_characterAt (G : GP) (ad : Nat → Nat → Nat) (K : Int32 → GF → Prop) (below : List Frame) (args : Array Value) (s : State) : State → Prop := MQ below (gQi G ad K) args s 1 6 (gA G)
set_option maxHeartbeats 4000000 in
set_option maxRecDepth 100000 in
theorem c_X0_characterAt (l : Launch) (G : GP) (ad : Nat → Nat → Nat) (F : GF) (p1 : Int32) (p2 : Int32) (K : Int32 → GF → Prop) : Met l yX0_characterAt wsX0_characterAt rm_X0_characterAt (va_Pc [.ref (ad 21 0), .int p1, .int p2] (fun U => gD G ad F U ∧ P_X0_characterAt F p1 p2 K)) (gQi G ad K) 1 6 (gA G) := by
  refine Met.ofW (cc := cX0_characterAt) (maxL := 3) (ret := (some .int)) (by decide) rfl ?_
  intro p e s m args below meth c s₁ Bd hml hv
  obtain ⟨rfl, ⟨hK, hG, hB, hH⟩, q⟩ := hv
  have hx := Bd.exec
  have hb := Bd.bytes
  have hr := Bd.returns
  have hts := atoms_spec (ws := wsX0_characterAt) Bd.pre
  have hown : s.vm.findClass RX0 = some m.cls := findClass_of_methodNamed Bd.named
  have hlocks := Bd.notSynchronized
  have hS : va_S (gA G) s.heap s.heap [] := va_S.rf
  have hl := lv_entry [.ref (ad 21 0), .int p1, .int p2] (n := 3) (Nat.le_of_ble_eq_true rfl)
  rw [lg_entry_eq]
  generalize (lg_sl [.ref (ad 21 0), .int p1, .int p2] ++ List.replicate (3 - (lg_sl [.ref (ad 21 0), .int p1, .int p2]).length) Slot.unset).toArray = ls at hl ⊢
  have hl : lv_has ls 3 [(0, .ref (ad 21 0)), (1, .int p1), (2, .int p2)] := hl
  unfold P_X0_characterAt at q
  refine lv_iload_n hx hb dX0_characterAt_0 rfl (lv_at hl 1 rfl) ?_
  refine lv_if_lt (tgt := 12) hx hb dX0_characterAt_1 (by decide) (fun c1 => ?_) (fun c1 => ?_)
  · have q := (if_pos c1).mp q
    refine lv_iconst (v := (-1)) hx hb dX0_characterAt_12 (by decide) ?_
    refine W.widen (k := 1) (n := 6) (Nat.le_of_ble_eq_true rfl) (Nat.le_of_ble_eq_true rfl) ?_
    exact (W.iret (v := (-1)) hx hb hr (fun t ht hW => ⟨⟨(-1), F, rfl, q, gH_at ht hH⟩, hS.F ht⟩) hS.2.2 dX0_characterAt_13)
  · have q := (if_neg c1).mp q
    refine lv_iload_n hx hb dX0_characterAt_4 rfl (lv_at hl 1 rfl) ?_
    refine lv_aload_n hx hb dX0_characterAt_5 rfl (lv_at hl 0 rfl) ?_
    refine g_get (ci := 4) (v := .int (F 21 0 4)) (C := RX0) (T := TX0) (N := 5) hx hb hts (fun _ h => (List.mem_cons_of_mem _ (List.mem_append_left _ (List.mem_append_left _ (List.mem_append_left _ (List.mem_append_left _ (List.mem_append_right _ h))))))) hown hK hH 21 0 (by decide) Nat.zero_lt_one rfl rfl 4 (by decide) (hts (.fieldLink RX0 29 "BallotFoundry$Book" "size" "I") (List.mem_of_getElem? (i := 1) rfl)) (fun _ h => h) rfl dX0_characterAt_6 ?_
    refine lv_icmp_lt (tgt := 14) hx hb dX0_characterAt_9 (by decide) (fun c2 => ?_) (fun c2 => ?_)
    · have q := (if_pos c2).mp q
      refine lv_aload_n hx hb dX0_characterAt_14 rfl (lv_at hl 0 rfl) ?_
      refine g_get (ci := 4) (v := .ref (ad 25 0)) (C := RX0) (T := TX0) (N := 5) hx hb hts (fun _ h => (List.mem_cons_of_mem _ (List.mem_append_left _ (List.mem_append_left _ (List.mem_append_left _ (List.mem_append_left _ (List.mem_append_right _ h))))))) hown hK hH 21 0 (by decide) Nat.zero_lt_one rfl rfl 3 (by decide) (hts (.fieldLink RX0 25 "BallotFoundry$Book" "text" "Ljava/lang/StringBuilder;") (List.mem_of_getElem? (i := 2) rfl)) (fun _ h => h) rfl dX0_characterAt_15 ?_
      refine lv_iconst (v := 0) hx hb dX0_characterAt_18 (by decide) ?_
      refine va_callv (va_runV (As := [.int 0]) (rest := []) ⟨hx, hb, hml, hown, hts⟩ (c_J4_setLength_d00df l G ad F 0 _) (cwV 1 hts gX0_characterAt_J4_setLength_d00df rfl rfl rfl (by decide +kernel) ⟨Nat.le_of_ble_eq_true rfl, Nat.le_of_ble_eq_true rfl⟩) ⟨fun a U g mk h => ⟨h.1, gD_blind h.2.1, h.2.2⟩, g_recv (C := RJ4) (T := TJ4) (N := 4) hK hH 25 0 (by decide) Nat.zero_lt_one rfl rfl, fun U hU hW => ⟨rfl, gD_at hK hG hB hH hS hU hW, q⟩⟩ rfl rfl hl.1 rfl (lv_room (Nat.le_of_ble_eq_true rfl)) dX0_characterAt_19 ⟨Nat.le_of_ble_eq_true rfl, Nat.le_of_ble_eq_true rfl⟩) hS (fun _ _ h => h) (fun _ h => h) (fun F4 t H locs ht hvm q hB1 hz hk hS => ?_)
      have hH : gH G ad F4 H := gH_to ht hB1
      refine lv_aload_n hx hb dX0_characterAt_22 rfl (lv_at hl 0 rfl) ?_
      refine g_get (ci := 4) (v := .ref (ad 25 0)) (C := RX0) (T := TX0) (N := 5) hx hb hts (fun _ h => (List.mem_cons_of_mem _ (List.mem_append_left _ (List.mem_append_left _ (List.mem_append_left _ (List.mem_append_left _ (List.mem_append_right _ h))))))) hown hK hH 21 0 (by decide) Nat.zero_lt_one rfl rfl 3 (by decide) (hts (.fieldLink RX0 25 "BallotFoundry$Book" "text" "Ljava/lang/StringBuilder;") (List.mem_of_getElem? (i := 2) rfl)) (fun _ h => h) rfl dX0_characterAt_23 ?_
      refine lv_aload_n hx hb dX0_characterAt_26 rfl (lv_at hl 0 rfl) ?_
      refine g_get (ci := 4) (v := .ref (ad 22 0)) (C := RX0) (T := TX0) (N := 5) hx hb hts (fun _ h => (List.mem_cons_of_mem _ (List.mem_append_left _ (List.mem_append_left _ (List.mem_append_left _ (List.mem_append_left _ (List.mem_append_right _ h))))))) hown hK hH 21 0 (by decide) Nat.zero_lt_one rfl rfl 0 (by decide) (hts (.fieldLink RX0 9 "BallotFoundry$Book" "days" "[I") (List.mem_of_getElem? (i := 3) rfl)) (fun _ h => h) rfl dX0_characterAt_27 ?_
      refine lv_iload_n hx hb dX0_characterAt_30 rfl (lv_at hl 1 rfl) ?_
      obtain ⟨h5, q⟩ := q
      refine g_iald hx hb hK hH 22 0 (by decide) Nat.zero_lt_one 572 rfl h5 dX0_characterAt_31 ?_
      refine va_callq (va_runV (As := [.int (F4 22 0 p1.toNatClampNeg)]) (rest := []) ⟨hx, hb, hml, hown, hts⟩ (c_J4_append_bf812 l G ad F4 (F4 22 0 p1.toNatClampNeg) _) (cwV 1 hts gX0_characterAt_J4_append_bf812 rfl rfl rfl (by decide +kernel) ⟨Nat.le_of_ble_eq_true rfl, Nat.le_of_ble_eq_true rfl⟩) ⟨fun a U g mk h => ⟨h.1, gD_blind h.2.1, h.2.2⟩, g_recv (C := RJ4) (T := TJ4) (N := 4) hK hH 25 0 (by decide) Nat.zero_lt_one rfl rfl, fun U hU hW => ⟨rfl, gD_at hK hG hB hH hS hU hW, q⟩⟩ rfl rfl hl.1 rfl (lv_room (Nat.le_of_ble_eq_true rfl)) dX0_characterAt_32 ⟨Nat.le_of_ble_eq_true rfl, Nat.le_of_ble_eq_true rfl⟩) hS (fun _ _ h => h) (fun _ h => h) (fun r6o r6u t H locs ht hvm q hB1 hz hk hS => ?_)
      obtain ⟨r6, F7⟩ := r6u
      obtain ⟨r6e, r6h, q⟩ := q
      subst r6e
      have hH : gH G ad F7 H := gH_to ht hB1
      show W p l e rm_X0_characterAt s m ([.ref (ad 21 0), .int p1, .int p2] : List Value).toArray below meth c H locs _ _ _ (F0 m _ ls (.ref (ad 25 r6) :: []))
      refine lv_pop hx hb dX0_characterAt_35 rfl ?_
      refine lv_aload_n hx hb dX0_characterAt_36 rfl (lv_at hl 0 rfl) ?_
      refine g_get (ci := 4) (v := .ref (ad 25 0)) (C := RX0) (T := TX0) (N := 5) hx hb hts (fun _ h => (List.mem_cons_of_mem _ (List.mem_append_left _ (List.mem_append_left _ (List.mem_append_left _ (List.mem_append_left _ (List.mem_append_right _ h))))))) hown hK hH 21 0 (by decide) Nat.zero_lt_one rfl rfl 3 (by decide) (hts (.fieldLink RX0 25 "BallotFoundry$Book" "text" "Ljava/lang/StringBuilder;") (List.mem_of_getElem? (i := 2) rfl)) (fun _ h => h) rfl dX0_characterAt_37 ?_
      refine lv_aload_n hx hb dX0_characterAt_40 rfl (lv_at hl 0 rfl) ?_
      refine g_get (ci := 4) (v := .ref (ad 23 0)) (C := RX0) (T := TX0) (N := 5) hx hb hts (fun _ h => (List.mem_cons_of_mem _ (List.mem_append_left _ (List.mem_append_left _ (List.mem_append_left _ (List.mem_append_left _ (List.mem_append_right _ h))))))) hown hK hH 21 0 (by decide) Nat.zero_lt_one rfl rfl 1 (by decide) (hts (.fieldLink RX0 15 "BallotFoundry$Book" "signs" "[C") (List.mem_of_getElem? (i := 4) rfl)) (fun _ h => h) rfl dX0_characterAt_41 ?_
      refine lv_iload_n hx hb dX0_characterAt_44 rfl (lv_at hl 1 rfl) ?_
      obtain ⟨h8, q⟩ := q
      refine g_cald hx hb hK hH 23 0 (by decide) Nat.zero_lt_one 572 rfl h8 dX0_characterAt_45 ?_
      refine va_callq (va_runV (As := [.int (F7 23 0 p1.toNatClampNeg)]) (rest := []) ⟨hx, hb, hml, hown, hts⟩ (c_J4_append_cf468 l G ad F7 (F7 23 0 p1.toNatClampNeg) _) (cwV 1 hts gX0_characterAt_J4_append_cf468 rfl rfl rfl (by decide +kernel) ⟨Nat.le_of_ble_eq_true rfl, Nat.le_of_ble_eq_true rfl⟩) ⟨fun a U g mk h => ⟨h.1, gD_blind h.2.1, h.2.2⟩, g_recv (C := RJ4) (T := TJ4) (N := 4) hK hH 25 0 (by decide) Nat.zero_lt_one rfl rfl, fun U hU hW => ⟨rfl, gD_at hK hG hB hH hS hU hW, q⟩⟩ rfl rfl hl.1 rfl (lv_room (Nat.le_of_ble_eq_true rfl)) dX0_characterAt_46 ⟨Nat.le_of_ble_eq_true rfl, Nat.le_of_ble_eq_true rfl⟩) hS (fun _ _ h => h) (fun _ h => h) (fun r9o r9u t H locs ht hvm q hB1 hz hk hS => ?_)
      obtain ⟨r9, F10⟩ := r9u
      obtain ⟨r9e, r9h, q⟩ := q
      subst r9e
      have hH : gH G ad F10 H := gH_to ht hB1
      show W p l e rm_X0_characterAt s m ([.ref (ad 21 0), .int p1, .int p2] : List Value).toArray below meth c H locs _ _ _ (F0 m _ ls (.ref (ad 25 r9) :: []))
      refine lv_pop hx hb dX0_characterAt_49 rfl ?_
      refine lv_aload_n hx hb dX0_characterAt_50 rfl (lv_at hl 0 rfl) ?_
      refine g_get (ci := 4) (v := .ref (ad 25 0)) (C := RX0) (T := TX0) (N := 5) hx hb hts (fun _ h => (List.mem_cons_of_mem _ (List.mem_append_left _ (List.mem_append_left _ (List.mem_append_left _ (List.mem_append_left _ (List.mem_append_right _ h))))))) hown hK hH 21 0 (by decide) Nat.zero_lt_one rfl rfl 3 (by decide) (hts (.fieldLink RX0 25 "BallotFoundry$Book" "text" "Ljava/lang/StringBuilder;") (List.mem_of_getElem? (i := 2) rfl)) (fun _ h => h) rfl dX0_characterAt_51 ?_
      refine lv_aload_n hx hb dX0_characterAt_54 rfl (lv_at hl 0 rfl) ?_
      refine g_get (ci := 4) (v := .ref (ad 24 0)) (C := RX0) (T := TX0) (N := 5) hx hb hts (fun _ h => (List.mem_cons_of_mem _ (List.mem_append_left _ (List.mem_append_left _ (List.mem_append_left _ (List.mem_append_left _ (List.mem_append_right _ h))))))) hown hK hH 21 0 (by decide) Nat.zero_lt_one rfl rfl 2 (by decide) (hts (.fieldLink RX0 19 "BallotFoundry$Book" "numbers" "[I") (List.mem_of_getElem? (i := 5) rfl)) (fun _ h => h) rfl dX0_characterAt_55 ?_
      refine lv_iload_n hx hb dX0_characterAt_58 rfl (lv_at hl 1 rfl) ?_
      obtain ⟨h11, q⟩ := q
      refine g_iald hx hb hK hH 24 0 (by decide) Nat.zero_lt_one 572 rfl h11 dX0_characterAt_59 ?_
      refine va_callq (va_runV (As := [.int (F10 24 0 p1.toNatClampNeg)]) (rest := []) ⟨hx, hb, hml, hown, hts⟩ (c_J4_append_bf812 l G ad F10 (F10 24 0 p1.toNatClampNeg) _) (cwV 1 hts gX0_characterAt_J4_append_bf812 rfl rfl rfl (by decide +kernel) ⟨Nat.le_of_ble_eq_true rfl, Nat.le_of_ble_eq_true rfl⟩) ⟨fun a U g mk h => ⟨h.1, gD_blind h.2.1, h.2.2⟩, g_recv (C := RJ4) (T := TJ4) (N := 4) hK hH 25 0 (by decide) Nat.zero_lt_one rfl rfl, fun U hU hW => ⟨rfl, gD_at hK hG hB hH hS hU hW, q⟩⟩ rfl rfl hl.1 rfl (lv_room (Nat.le_of_ble_eq_true rfl)) dX0_characterAt_60 ⟨Nat.le_of_ble_eq_true rfl, Nat.le_of_ble_eq_true rfl⟩) hS (fun _ _ h => h) (fun _ h => h) (fun r12o r12u t H locs ht hvm q hB1 hz hk hS => ?_)
      obtain ⟨r12, F13⟩ := r12u
      obtain ⟨r12e, r12h, q⟩ := q
      subst r12e
      have hH : gH G ad F13 H := gH_to ht hB1
      show W p l e rm_X0_characterAt s m ([.ref (ad 21 0), .int p1, .int p2] : List Value).toArray below meth c H locs _ _ _ (F0 m _ ls (.ref (ad 25 r12) :: []))
      refine lv_pop hx hb dX0_characterAt_63 rfl ?_
      refine lv_iload_n hx hb dX0_characterAt_64 rfl (lv_at hl 2 rfl) ?_
      refine lv_if_lt (tgt := 79) hx hb dX0_characterAt_65 (by decide) (fun c14 => ?_) (fun c14 => ?_)
      · have q := (if_pos c14).mp q
        refine lv_iconst (v := (-1)) hx hb dX0_characterAt_79 (by decide) ?_
        exact (W.iret (v := (-1)) hx hb hr (fun t ht hW => ⟨⟨(-1), F13, rfl, q, gH_at ht hH⟩, hS.F ht⟩) hS.2.2 dX0_characterAt_80)
      · have q := (if_neg c14).mp q
        refine lv_iload_n hx hb dX0_characterAt_68 rfl (lv_at hl 2 rfl) ?_
        refine lv_aload_n hx hb dX0_characterAt_69 rfl (lv_at hl 0 rfl) ?_
        refine g_get (ci := 4) (v := .ref (ad 25 0)) (C := RX0) (T := TX0) (N := 5) hx hb hts (fun _ h => (List.mem_cons_of_mem _ (List.mem_append_left _ (List.mem_append_left _ (List.mem_append_left _ (List.mem_append_left _ (List.mem_append_right _ h))))))) hown hK hH 21 0 (by decide) Nat.zero_lt_one rfl rfl 3 (by decide) (hts (.fieldLink RX0 25 "BallotFoundry$Book" "text" "Ljava/lang/StringBuilder;") (List.mem_of_getElem? (i := 2) rfl)) (fun _ h => h) rfl dX0_characterAt_70 ?_
        refine va_calli (va_runV (As := []) (rest := [.int p2]) ⟨hx, hb, hml, hown, hts⟩ (c_J4_length_8abf5 l G ad F13 _) (cwV 0 hts gX0_characterAt_J4_length_8abf5 rfl rfl rfl (by decide +kernel) ⟨Nat.le_of_ble_eq_true rfl, Nat.le_of_ble_eq_true rfl⟩) ⟨fun a U g mk h => ⟨h.1, gD_blind h.2.1, h.2.2⟩, g_recv (C := RJ4) (T := TJ4) (N := 4) hK hH 25 0 (by decide) Nat.zero_lt_one rfl rfl, fun U hU hW => ⟨rfl, gD_at hK hG hB hH hS hU hW, q⟩⟩ rfl rfl hl.1 rfl (lv_room (Nat.le_of_ble_eq_true rfl)) dX0_characterAt_73 ⟨Nat.le_of_ble_eq_true rfl, Nat.le_of_ble_eq_true rfl⟩) hS (fun _ _ h => h) (fun _ h => h) (fun r15 F16 t H locs ht hvm q hB1 hz hk hS => ?_)
        have hH : gH G ad F16 H := gH_to ht hB1
        refine lv_icmp_lt (tgt := 81) hx hb dX0_characterAt_76 (by decide) (fun c17 => ?_) (fun c17 => ?_)
        · have q := (if_pos c17).mp q
          refine lv_aload_n hx hb dX0_characterAt_81 rfl (lv_at hl 0 rfl) ?_
          refine g_get (ci := 4) (v := .ref (ad 25 0)) (C := RX0) (T := TX0) (N := 5) hx hb hts (fun _ h => (List.mem_cons_of_mem _ (List.mem_append_left _ (List.mem_append_left _ (List.mem_append_left _ (List.mem_append_left _ (List.mem_append_right _ h))))))) hown hK hH 21 0 (by decide) Nat.zero_lt_one rfl rfl 3 (by decide) (hts (.fieldLink RX0 25 "BallotFoundry$Book" "text" "Ljava/lang/StringBuilder;") (List.mem_of_getElem? (i := 2) rfl)) (fun _ h => h) rfl dX0_characterAt_82 ?_
          refine lv_iload_n hx hb dX0_characterAt_85 rfl (lv_at hl 2 rfl) ?_
          refine va_calli (va_runV (As := [.int p2]) (rest := []) ⟨hx, hb, hml, hown, hts⟩ (c_J4_charAt_5068e l G ad F16 p2 _) (cwV 1 hts gX0_characterAt_J4_charAt_5068e rfl rfl rfl (by decide +kernel) ⟨Nat.le_of_ble_eq_true rfl, Nat.le_of_ble_eq_true rfl⟩) ⟨fun a U g mk h => ⟨h.1, gD_blind h.2.1, h.2.2⟩, g_recv (C := RJ4) (T := TJ4) (N := 4) hK hH 25 0 (by decide) Nat.zero_lt_one rfl rfl, fun U hU hW => ⟨rfl, gD_at hK hG hB hH hS hU hW, q⟩⟩ rfl rfl hl.1 rfl (lv_room (Nat.le_of_ble_eq_true rfl)) dX0_characterAt_86 ⟨Nat.le_of_ble_eq_true rfl, Nat.le_of_ble_eq_true rfl⟩) hS (fun _ _ h => h) (fun _ h => h) (fun r18 F19 t H locs ht hvm q hB1 hz hk hS => ?_)
          have hH : gH G ad F19 H := gH_to ht hB1
          exact (W.iret (v := r18) hx hb hr (fun t ht hW => ⟨⟨r18, F19, rfl, q, gH_at ht hH⟩, hS.F ht⟩) hS.2.2 dX0_characterAt_89)
        · have q := (if_neg c17).mp q
          refine lv_iconst (v := (-1)) hx hb dX0_characterAt_79 (by decide) ?_
          exact (W.iret (v := (-1)) hx hb hr (fun t ht hW => ⟨⟨(-1), F16, rfl, q, gH_at ht hH⟩, hS.F ht⟩) hS.2.2 dX0_characterAt_80)
    · have q := (if_neg c2).mp q
      refine lv_iconst (v := (-1)) hx hb dX0_characterAt_12 (by decide) ?_
      refine W.widen (k := 1) (n := 6) (Nat.le_of_ble_eq_true rfl) (Nat.le_of_ble_eq_true rfl) ?_
      exact (W.iret (v := (-1)) hx hb hr (fun t ht hW => ⟨⟨(-1), F, rfl, q, gH_at ht hH⟩, hS.F ht⟩) hS.2.2 dX0_characterAt_13)
abbrev rm_X10_signAt : Room := { frames := 6, cells := 1, slots := 6, locals := 110 }
abbrev q_X10_signAt (G : GP) (ad : Nat → Nat → Nat) (K : Int32 → GF → Prop) (X : String → GF → Prop) (below : List Frame) (args : Array Value) (s : State) : State → Prop := vx_MQ below (gQi G ad K) (gX G ad X) args s 1 6 (gA G)
set_option maxHeartbeats 4000000 in
set_option maxRecDepth 100000 in
theorem c_X10_signAt (l : Launch) (hfl : l.stackTraces = false) (G : GP) (ad : Nat → Nat → Nat) (F : GF) (p1 : Int32) (p2 : Int32) (K : Int32 → GF → Prop) (X : String → GF → Prop) : vx_Met l yX10_signAt wsX10_signAt rm_X10_signAt (va_Pc [.ref (ad 0 0), .int p1, .int p2] (fun U => gD G ad F U ∧ P_X10_signAt F p1 p2 K X)) (gQi G ad K) (gX G ad X) 1 6 (gA G) := by
  refine vx_ofW (cc := cX10_signAt) (maxL := 3) (ret := (some .int)) (by decide) rfl ?_
  intro p e s m args below meth c s₁ Bd hml hno hv
  obtain ⟨rfl, ⟨hK, hG, hB, hH⟩, q⟩ := hv
  have hx := Bd.exec
  have hb := Bd.bytes
  have hr := Bd.returns
  have hts := atoms_spec (ws := wsX10_signAt) Bd.pre
  have hown : s.vm.findClass RX10 = some m.cls := findClass_of_methodNamed Bd.named
  have hlocks := Bd.notSynchronized
  have hS : va_S (gA G) s.heap s.heap [] := va_S.rf
  have hl := lv_entry [.ref (ad 0 0), .int p1, .int p2] (n := 3) (Nat.le_of_ble_eq_true rfl)
  rw [lg_entry_eq]
  generalize (lg_sl [.ref (ad 0 0), .int p1, .int p2] ++ List.replicate (3 - (lg_sl [.ref (ad 0 0), .int p1, .int p2]).length) Slot.unset).toArray = ls at hl ⊢
  have hl : lv_has ls 3 [(0, .ref (ad 0 0)), (1, .int p1), (2, .int p2)] := hl
  unfold P_X10_signAt at q
  refine lv_iload_n hx hb dX10_signAt_0 rfl (lv_at hl 1 rfl) ?_
  refine lv_if_lt (tgt := 18) hx hb dX10_signAt_1 (by decide) (fun c1 => ?_) (fun c1 => ?_)
  · have q := (if_pos c1).mp q
    exact g_throwW (text := "no such note") hx hb hfl hno hown hts hG hS (List.mem_of_getElem? (i := 0) rfl) (List.mem_of_getElem? (i := 27) rfl) (List.mem_of_getElem? (i := 1) rfl) (List.mem_of_getElem? (i := 2) rfl) (fun _ h => (List.mem_cons_of_mem _ (List.mem_append_left _ (List.mem_append_right _ h)))) (hl.1.trans hml.symm) hlocks dX10_signAt_18 dX10_signAt_21 dX10_signAt_22 dX10_signAt_25 dX10_signAt_28 (Nat.le_of_ble_eq_true rfl) (Nat.le_of_ble_eq_true rfl) (Nat.le_of_ble_eq_true rfl) (Nat.le_of_ble_eq_true rfl) (fun t hvm hz hk => ⟨F, trivial, ⟨q, gH_grow hH hz hk⟩, gF_grow hS hz hk⟩) hS.2.2 (Nat.le_of_ble_eq_true rfl) (Nat.le_of_ble_eq_true rfl)
  · have q := (if_neg c1).mp q
    refine lv_iload_n hx hb dX10_signAt_4 rfl (lv_at hl 1 rfl) ?_
    refine lv_aload_n hx hb dX10_signAt_5 rfl (lv_at hl 0 rfl) ?_
    refine g_get (ci := 14) (v := .ref (ad 10 0)) (C := RX10) (T := TX10) (N := 8) hx hb hts (fun _ h => (List.mem_cons_of_mem _ (List.mem_append_left _ (List.mem_append_left _ (List.mem_append_left _ (List.mem_append_left _ (List.mem_append_left _ (List.mem_append_left _ (List.mem_append_left _ (List.mem_append_right _ h)))))))))) hown hK hH 0 0 (by decide) Nat.zero_lt_one rfl rfl 6 (by decide) (hts (.fieldLink RX10 43 "BallotFoundry" "election" "LBallotFoundry$Election;") (List.mem_of_getElem? (i := 3) rfl)) (fun _ h => h) rfl dX10_signAt_6 ?_
    refine g_getN (ci := 6) (v := .ref (ad 21 0)) (C := RX2) (T := TX2) (N := 10) hx hb hts (fun _ h => (List.mem_cons_of_mem _ (List.mem_append_left _ (List.mem_append_left _ (List.mem_append_left _ (List.mem_append_left _ (List.mem_append_left _ (List.mem_append_left _ (List.mem_append_right _ h))))))))) hown hK hH 10 0 (by decide) Nat.zero_lt_one rfl rfl 9 (by decide) (va_Nw.use rfl (hG.1 ("BallotFoundry", 194, "BallotFoundry$Election", "book", "LBallotFoundry$Book;", "BallotFoundry") (List.mem_of_getElem? (i := 25) rfl))) (fun _ h => h) rfl dX10_signAt_9 ?_
    refine g_getN (ci := 4) (v := .int (F 21 0 4)) (C := RX0) (T := TX0) (N := 5) hx hb hts (fun _ h => (List.mem_cons_of_mem _ (List.mem_append_left _ (List.mem_append_left _ (List.mem_append_left _ (List.mem_append_left _ (List.mem_append_left _ (List.mem_append_right _ h)))))))) hown hK hH 21 0 (by decide) Nat.zero_lt_one rfl rfl 4 (by decide) (va_Nw.use rfl (hG.1 ("BallotFoundry", 299, "BallotFoundry$Book", "size", "I", "BallotFoundry") (List.mem_of_getElem? (i := 13) rfl))) (fun _ h => h) rfl dX10_signAt_12 ?_
    refine lv_icmp_lt (tgt := 29) hx hb dX10_signAt_15 (by decide) (fun c2 => ?_) (fun c2 => ?_)
    · have q := (if_pos c2).mp q
      refine lv_iload_n hx hb dX10_signAt_29 rfl (lv_at hl 2 rfl) ?_
      refine lv_if_ge (tgt := 44) hx hb dX10_signAt_30 (by decide) (fun c3 => ?_) (fun c3 => ?_)
      · have q := (if_pos c3).mp q
        refine lv_aload_n hx hb dX10_signAt_44 rfl (lv_at hl 0 rfl) ?_
        refine g_get (ci := 14) (v := .ref (ad 10 0)) (C := RX10) (T := TX10) (N := 8) hx hb hts (fun _ h => (List.mem_cons_of_mem _ (List.mem_append_left _ (List.mem_append_left _ (List.mem_append_left _ (List.mem_append_left _ (List.mem_append_left _ (List.mem_append_left _ (List.mem_append_left _ (List.mem_append_right _ h)))))))))) hown hK hH 0 0 (by decide) Nat.zero_lt_one rfl rfl 6 (by decide) (hts (.fieldLink RX10 43 "BallotFoundry" "election" "LBallotFoundry$Election;") (List.mem_of_getElem? (i := 3) rfl)) (fun _ h => h) rfl dX10_signAt_45 ?_
        refine g_getN (ci := 6) (v := .ref (ad 21 0)) (C := RX2) (T := TX2) (N := 10) hx hb hts (fun _ h => (List.mem_cons_of_mem _ (List.mem_append_left _ (List.mem_append_left _ (List.mem_append_left _ (List.mem_append_left _ (List.mem_append_left _ (List.mem_append_left _ (List.mem_append_right _ h))))))))) hown hK hH 10 0 (by decide) Nat.zero_lt_one rfl rfl 9 (by decide) (va_Nw.use rfl (hG.1 ("BallotFoundry", 194, "BallotFoundry$Election", "book", "LBallotFoundry$Book;", "BallotFoundry") (List.mem_of_getElem? (i := 25) rfl))) (fun _ h => h) rfl dX10_signAt_48 ?_
        refine lv_iload_n hx hb dX10_signAt_51 rfl (lv_at hl 1 rfl) ?_
        refine lv_iload_n hx hb dX10_signAt_52 rfl (lv_at hl 2 rfl) ?_
        refine va_calli (va_runV (As := [.int p1, .int p2]) (rest := []) ⟨hx, hb, hml, hown, hts⟩ (c_X0_characterAt l G ad F p1 p2 _) (cwV 2 hts gX10_signAt_X0_characterAt rfl rfl rfl (by decide +kernel) ⟨Nat.le_of_ble_eq_true rfl, Nat.le_of_ble_eq_true rfl⟩) ⟨fun a U g mk h => ⟨h.1, gD_blind h.2.1, h.2.2⟩, g_recv (C := RX0) (T := TX0) (N := 5) hK hH 21 0 (by decide) Nat.zero_lt_one rfl rfl, fun U hU hW => ⟨rfl, gD_at hK hG hB hH hS hU hW, q⟩⟩ rfl rfl hl.1 rfl (lv_room (Nat.le_of_ble_eq_true rfl)) dX10_signAt_53 ⟨Nat.le_of_ble_eq_true rfl, Nat.le_of_ble_eq_true rfl⟩) hS (fun _ _ h => h) (fun _ h => h) (fun r4 F5 t H locs ht hvm q hB1 hz hk hS => ?_)
        have hH : gH G ad F5 H := gH_to ht hB1
        exact vx_ret (W.iret (v := r4) hx hb hr (fun t ht hW => ⟨⟨r4, F5, rfl, q, gH_at ht hH⟩, hS.F ht⟩) hS.2.2 dX10_signAt_56)
      · have q := (if_neg c3).mp q
        exact g_throwW (text := "no such place") hx hb hfl hno hown hts hG hS (List.mem_of_getElem? (i := 0) rfl) (List.mem_of_getElem? (i := 26) rfl) (List.mem_of_getElem? (i := 1) rfl) (List.mem_of_getElem? (i := 2) rfl) (fun _ h => (List.mem_cons_of_mem _ (List.mem_append_left _ (List.mem_append_right _ h)))) (hl.1.trans hml.symm) hlocks dX10_signAt_33 dX10_signAt_36 dX10_signAt_37 dX10_signAt_40 dX10_signAt_43 (Nat.le_of_ble_eq_true rfl) (Nat.le_of_ble_eq_true rfl) (Nat.le_of_ble_eq_true rfl) (Nat.le_of_ble_eq_true rfl) (fun t hvm hz hk => ⟨F, trivial, ⟨q, gH_grow hH hz hk⟩, gF_grow hS hz hk⟩) hS.2.2 (Nat.le_of_ble_eq_true rfl) (Nat.le_of_ble_eq_true rfl)
    · have q := (if_neg c2).mp q
      exact g_throwW (text := "no such note") hx hb hfl hno hown hts hG hS (List.mem_of_getElem? (i := 0) rfl) (List.mem_of_getElem? (i := 27) rfl) (List.mem_of_getElem? (i := 1) rfl) (List.mem_of_getElem? (i := 2) rfl) (fun _ h => (List.mem_cons_of_mem _ (List.mem_append_left _ (List.mem_append_right _ h)))) (hl.1.trans hml.symm) hlocks dX10_signAt_18 dX10_signAt_21 dX10_signAt_22 dX10_signAt_25 dX10_signAt_28 (Nat.le_of_ble_eq_true rfl) (Nat.le_of_ble_eq_true rfl) (Nat.le_of_ble_eq_true rfl) (Nat.le_of_ble_eq_true rfl) (fun t hvm hz hk => ⟨F, trivial, ⟨q, gH_grow hH hz hk⟩, gF_grow hS hz hk⟩) hS.2.2 (Nat.le_of_ble_eq_true rfl) (Nat.le_of_ble_eq_true rfl)
