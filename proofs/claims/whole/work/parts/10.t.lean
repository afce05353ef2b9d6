def P_X10_needCrossing (F : GF) (p0 : Int32) (K : GF → Prop) (X : String → GF → Prop) : Prop := if p0 < 0 then (X "java/lang/IndexOutOfBoundsException" F) else (if p0 < 36 then (K F) else (X "java/lang/IndexOutOfBoundsException" F))
abbrev rm_X10_needCrossing : Room := { frames := 6, cells := 1, slots := 6, locals := 90 }
abbrev q_X10_needCrossing (G : GP) (ad : Nat → Nat → Nat) (K : GF → Prop) (X : String → GF → Prop) (below : List Frame) (args : Array Value) (s : State) : State → Prop := vx_MQ below (gQv G ad K) (gX G ad X) args s 1 6 (gA G)
set_option maxHeartbeats 4000000 in
set_option maxRecDepth 100000 in
theorem c_X10_needCrossing (l : Launch) (hfl : l.stackTraces = false) (G : GP) (ad : Nat → Nat → Nat) (F : GF) (p0 : Int32) (K : GF → Prop) (X : String → GF → Prop) : vx_Met l yX10_needCrossing wsX10_needCrossing rm_X10_needCrossing (va_Pc [.int p0] (fun U => gD G ad F U ∧ P_X10_needCrossing F p0 K X)) (gQv G ad K) (gX G ad X) 1 6 (gA G) := by
  refine vx_ofW (cc := cX10_needCrossing) (maxL := 1) (ret := none) (by decide) rfl ?_
  intro p e s m args below meth c s₁ Bd hml hno hv
  obtain ⟨rfl, ⟨hK, hG, hB, hH⟩, q⟩ := hv
  have hx := Bd.exec
  have hb := Bd.bytes
  have hr := Bd.returns
  have hts := atoms_spec (ws := wsX10_needCrossing) Bd.pre
  have hown : s.vm.findClass RX10 = some m.cls := findClass_of_methodNamed Bd.named
  have hlocks := Bd.notSynchronized
  have hS : va_S (gA G) s.heap s.heap [] := va_S.rf
  have hl := lv_entry [.int p0] (n := 1) (Nat.le_of_ble_eq_true rfl)
  rw [lg_entry_eq]
  generalize (lg_sl [.int p0] ++ List.replicate (1 - (lg_sl [.int p0]).length) Slot.unset).toArray = ls at hl ⊢
  have hl : lv_has ls 1 [(0, .int p0)] := hl
  unfold P_X10_needCrossing at q
  refine lv_iload_n hx hb dX10_needCrossing_0 rfl (lv_at hl 0 rfl) ?_
  refine lv_if_lt (tgt := 10) hx hb dX10_needCrossing_1 (by decide) (fun c1 => ?_) (fun c1 => ?_)
  · have q := (if_pos c1).mp q
    exact g_throwW (text := "no such crossing") hx hb hfl hno hown hts hG hS (List.mem_of_getElem? (i := 0) rfl) (List.mem_of_getElem? (i := 0) rfl) (List.mem_of_getElem? (i := 1) rfl) (List.mem_of_getElem? (i := 2) rfl) (fun _ h => (List.mem_cons_of_mem _ (List.mem_append_right _ h))) (hl.1.trans hml.symm) hlocks dX10_needCrossing_10 dX10_needCrossing_13 dX10_needCrossing_14 dX10_needCrossing_17 dX10_needCrossing_20 (Nat.le_of_ble_eq_true rfl) (Nat.le_of_ble_eq_true rfl) (Nat.le_of_ble_eq_true rfl) (Nat.le_of_ble_eq_true rfl) (fun t hvm hz hk => ⟨F, trivial, ⟨q, gH_grow hH hz hk⟩, gF_grow hS hz hk⟩) hS.2.2 (Nat.le_of_ble_eq_true rfl) (Nat.le_of_ble_eq_true rfl)
  · have q := (if_neg c1).mp q
    refine lv_iload_n hx hb dX10_needCrossing_4 rfl (lv_at hl 0 rfl) ?_
    refine lv_bipush (v := 36) hx hb dX10_needCrossing_5 (by decide) ?_
    refine lv_icmp_lt (tgt := 21) hx hb dX10_needCrossing_7 (by decide) (fun c2 => ?_) (fun c2 => ?_)
    · have q := (if_pos c2).mp q
      refine W.widen (k := 1) (n := 6) (Nat.le_of_ble_eq_true rfl) (Nat.le_of_ble_eq_true rfl) ?_
      exact vx_ret (W.vret hx hb hr (fun t ht hW => ⟨⟨F, rfl, q, gH_at ht hH⟩, hS.F ht⟩) hS.2.2 dX10_needCrossing_21)
    · have q := (if_neg c2).mp q
      exact g_throwW (text := "no such crossing") hx hb hfl hno hown hts hG hS (List.mem_of_getElem? (i := 0) rfl) (List.mem_of_getElem? (i := 0) rfl) (List.mem_of_getElem? (i := 1) rfl) (List.mem_of_getElem? (i := 2) rfl) (fun _ h => (List.mem_cons_of_mem _ (List.mem_append_right _ h))) (hl.1.trans hml.symm) hlocks dX10_needCrossing_10 dX10_needCrossing_13 dX10_needCrossing_14 dX10_needCrossing_17 dX10_needCrossing_20 (Nat.le_of_ble_eq_true rfl) (Nat.le_of_ble_eq_true rfl) (Nat.le_of_ble_eq_true rfl) (Nat.le_of_ble_eq_true rfl) (fun t hvm hz hk => ⟨F, trivial, ⟨q, gH_grow hH hz hk⟩, gF_grow hS hz hk⟩) hS.2.2 (Nat.le_of_ble_eq_true rfl) (Nat.le_of_ble_eq_true rfl)
def P_X10_needRange (F : GF) (p0 : Int32) (p1 : Int32) (p2 : Int32) (K : GF → Prop) (X : String → GF → Prop) : Prop := if p0 < p1 then (X "java/lang/IllegalArgumentException" F) else (if p0 ≤ p2 then (K F) else (X "java/lang/IllegalArgumentException" F))
abbrev rm_X10_needRange : Room := { frames := 6, cells := 1, slots := 6, locals := 90 }
abbrev q_X10_needRange (G : GP) (ad : Nat → Nat → Nat) (K : GF → Prop) (X : String → GF → Prop) (below : List Frame) (args : Array Value) (s : State) : State → Prop := vx_MQ below (gQv G ad K) (gX G ad X) args s 1 6 (gA G)
set_option maxHeartbeats 4000000 in
set_option maxRecDepth 100000 in
theorem c_X10_needRange (l : Launch) (hfl : l.stackTraces = false) (G : GP) (ad : Nat → Nat → Nat) (F : GF) (p0 : Int32) (p1 : Int32) (p2 : Int32) (K : GF → Prop) (X : String → GF → Prop) : vx_Met l yX10_needRange wsX10_needRange rm_X10_needRange (va_Pc [.int p0, .int p1, .int p2] (fun U => gD G ad F U ∧ P_X10_needRange F p0 p1 p2 K X)) (gQv G ad K) (gX G ad X) 1 6 (gA G) := by
  refine vx_ofW (cc := cX10_needRange) (maxL := 3) (ret := none) (by decide) rfl ?_
  intro p e s m args below meth c s₁ Bd hml hno hv
  obtain ⟨rfl, ⟨hK, hG, hB, hH⟩, q⟩ := hv
  have hx := Bd.exec
  have hb := Bd.bytes
  have hr := Bd.returns
  have hts := atoms_spec (ws := wsX10_needRange) Bd.pre
  have hown : s.vm.findClass RX10 = some m.cls := findClass_of_methodNamed Bd.named
  have hlocks := Bd.notSynchronized
  have hS : va_S (gA G) s.heap s.heap [] := va_S.rf
  have hl := lv_entry [.int p0, .int p1, .int p2] (n := 3) (Nat.le_of_ble_eq_true rfl)
  rw [lg_entry_eq]
  generalize (lg_sl [.int p0, .int p1, .int p2] ++ List.replicate (3 - (lg_sl [.int p0, .int p1, .int p2]).length) Slot.unset).toArray = ls at hl ⊢
  have hl : lv_has ls 3 [(0, .int p0), (1, .int p1), (2, .int p2)] := hl
  unfold P_X10_needRange at q
  refine lv_iload_n hx hb dX10_needRange_0 rfl (lv_at hl 0 rfl) ?_
  refine lv_iload_n hx hb dX10_needRange_1 rfl (lv_at hl 1 rfl) ?_
  refine lv_icmp_lt (tgt := 10) hx hb dX10_needRange_2 (by decide) (fun c1 => ?_) (fun c1 => ?_)
  · have q := (if_pos c1).mp q
    exact g_throwW (text := "out of range") hx hb hfl hno hown hts hG hS (List.mem_of_getElem? (i := 1) rfl) (List.mem_of_getElem? (i := 2) rfl) (List.mem_of_getElem? (i := 1) rfl) (List.mem_of_getElem? (i := 2) rfl) (fun _ h => (List.mem_cons_of_mem _ (List.mem_append_right _ h))) (hl.1.trans hml.symm) hlocks dX10_needRange_10 dX10_needRange_13 dX10_needRange_14 dX10_needRange_17 dX10_needRange_20 (Nat.le_of_ble_eq_true rfl) (Nat.le_of_ble_eq_true rfl) (Nat.le_of_ble_eq_true rfl) (Nat.le_of_ble_eq_true rfl) (fun t hvm hz hk => ⟨F, trivial, ⟨q, gH_grow hH hz hk⟩, gF_grow hS hz hk⟩) hS.2.2 (Nat.le_of_ble_eq_true rfl) (Nat.le_of_ble_eq_true rfl)
  · have q := (if_neg c1).mp q
    refine lv_iload_n hx hb dX10_needRange_5 rfl (lv_at hl 0 rfl) ?_
    refine lv_iload_n hx hb dX10_needRange_6 rfl (lv_at hl 2 rfl) ?_
    refine lv_icmp_le (tgt := 21) hx hb dX10_needRange_7 (by decide) (fun c2 => ?_) (fun c2 => ?_)
    · have q := (if_pos c2).mp q
      refine W.widen (k := 1) (n := 6) (Nat.le_of_ble_eq_true rfl) (Nat.le_of_ble_eq_true rfl) ?_
      exact vx_ret (W.vret hx hb hr (fun t ht hW => ⟨⟨F, rfl, q, gH_at ht hH⟩, hS.F ht⟩) hS.2.2 dX10_needRange_21)
    · have q := (if_neg c2).mp q
      exact g_throwW (text := "out of range") hx hb hfl hno hown hts hG hS (List.mem_of_getElem? (i := 1) rfl) (List.mem_of_getElem? (i := 2) rfl) (List.mem_of_getElem? (i := 1) rfl) (List.mem_of_getElem? (i := 2) rfl) (fun _ h => (List.mem_cons_of_mem _ (List.mem_append_right _ h))) (hl.1.trans hml.symm) hlocks dX10_needRange_10 dX10_needRange_13 dX10_needRange_14 dX10_needRange_17 dX10_needRange_20 (Nat.le_of_ble_eq_true rfl) (Nat.le_of_ble_eq_true rfl) (Nat.le_of_ble_eq_true rfl) (Nat.le_of_ble_eq_true rfl) (fun t hvm hz hk => ⟨F, trivial, ⟨q, gH_grow hH hz hk⟩, gF_grow hS hz hk⟩) hS.2.2 (Nat.le_of_ble_eq_true rfl) (Nat.le_of_ble_eq_true rfl)
def P_X10_needStation (F : GF) (p1 : Int32) (K : GF → Prop) (X : String → GF → Prop) : Prop := if p1 < 0 then (X "java/lang/IndexOutOfBoundsException" F) else (if p1 < (F 6 0 2) then (K F) else (X "java/lang/IndexOutOfBoundsException" F))
abbrev rm_X10_needStation : Room := { frames := 6, cells := 1, slots := 6, locals := 90 }
abbrev q_X10_needStation (G : GP) (ad : Nat → Nat → Nat) (K : GF → Prop) (X : String → GF → Prop) (below : List Frame) (args : Array Value) (s : State) : State → Prop := vx_MQ below (gQv G ad K) (gX G ad X) args s 1 6 (gA G)
set_option maxHeartbeats 4000000 in
set_option maxRecDepth 100000 in
theorem c_X10_needStation (l : Launch) (hfl : l.stackTraces = false) (G : GP) (ad : Nat → Nat → Nat) (F : GF) (p1 : Int32) (K : GF → Prop) (X : String → GF → Prop) : vx_Met l yX10_needStation wsX10_needStation rm_X10_needStation (va_Pc [.ref (ad 0 0), .int p1] (fun U => gD G ad F U ∧ P_X10_needStation F p1 K X)) (gQv G ad K) (gX G ad X) 1 6 (gA G) := by
  refine vx_ofW (cc := cX10_needStation) (maxL := 2) (ret := none) (by decide) rfl ?_
  intro p e s m args below meth c s₁ Bd hml hno hv
  obtain ⟨rfl, ⟨hK, hG, hB, hH⟩, q⟩ := hv
  have hx := Bd.exec
  have hb := Bd.bytes
  have hr := Bd.returns
  have hts := atoms_spec (ws := wsX10_needStation) Bd.pre
  have hown : s.vm.findClass RX10 = some m.cls := findClass_of_methodNamed Bd.named
  have hlocks := Bd.notSynchronized
  have hS : va_S (gA G) s.heap s.heap [] := va_S.rf
  have hl := lv_entry [.ref (ad 0 0), .int p1] (n := 2) (Nat.le_of_ble_eq_true rfl)
  rw [lg_entry_eq]
  generalize (lg_sl [.ref (ad 0 0), .int p1] ++ List.replicate (2 - (lg_sl [.ref (ad 0 0), .int p1]).length) Slot.unset).toArray = ls at hl ⊢
  have hl : lv_has ls 2 [(0, .ref (ad 0 0)), (1, .int p1)] := hl
  unfold P_X10_needStation at q
  refine lv_iload_n hx hb dX10_needStation_0 rfl (lv_at hl 1 rfl) ?_
  refine lv_if_lt (tgt := 15) hx hb dX10_needStation_1 (by decide) (fun c1 => ?_) (fun c1 => ?_)
  · have q := (if_pos c1).mp q
    exact g_throwW (text := "no such station") hx hb hfl hno hown hts hG hS (List.mem_of_getElem? (i := 0) rfl) (List.mem_of_getElem? (i := 4) rfl) (List.mem_of_getElem? (i := 1) rfl) (List.mem_of_getElem? (i := 2) rfl) (fun _ h => (List.mem_cons_of_mem _ (List.mem_append_right _ h))) (hl.1.trans hml.symm) hlocks dX10_needStation_15 dX10_needStation_18 dX10_needStation_19 dX10_needStation_22 dX10_needStation_25 (Nat.le_of_ble_eq_true rfl) (Nat.le_of_ble_eq_true rfl) (Nat.le_of_ble_eq_true rfl) (Nat.le_of_ble_eq_true rfl) (fun t hvm hz hk => ⟨F, trivial, ⟨q, gH_grow hH hz hk⟩, gF_grow hS hz hk⟩) hS.2.2 (Nat.le_of_ble_eq_true rfl) (Nat.le_of_ble_eq_true rfl)
  · have q := (if_neg c1).mp q
    refine lv_iload_n hx hb dX10_needStation_4 rfl (lv_at hl 1 rfl) ?_
    refine lv_aload_n hx hb dX10_needStation_5 rfl (lv_at hl 0 rfl) ?_
    refine g_get (ci := 14) (v := .ref (ad 6 0)) (C := RX10) (T := TX10) (N := 8) hx hb hts (fun _ h => (List.mem_cons_of_mem _ (List.mem_append_left _ (List.mem_append_left _ (List.mem_append_right _ h))))) hown hK hH 0 0 (by decide) Nat.zero_lt_one rfl rfl 3 (by decide) (hts (.fieldLink RX10 29 "BallotFoundry" "stations" "LBallotFoundry$Stations;") (List.mem_of_getElem? (i := 3) rfl)) (fun _ h => h) rfl dX10_needStation_6 ?_
    refine g_getN (ci := 11) (v := .int (F 6 0 2)) (C := RX7) (T := TX7) (N := 3) hx hb hts (fun _ h => (List.mem_cons_of_mem _ (List.mem_append_left _ (List.mem_append_right _ h)))) hown hK hH 6 0 (by decide) Nat.zero_lt_one rfl rfl 2 (by decide) (va_Nw.use rfl (hG.1 ("BallotFoundry", 85, "BallotFoundry$Stations", "size", "I", "BallotFoundry") (List.mem_of_getElem? (i := 2) rfl))) (fun _ h => h) rfl dX10_needStation_9 ?_
    refine lv_icmp_lt (tgt := 26) hx hb dX10_needStation_12 (by decide) (fun c2 => ?_) (fun c2 => ?_)
    · have q := (if_pos c2).mp q
      refine W.widen (k := 1) (n := 6) (Nat.le_of_ble_eq_true rfl) (Nat.le_of_ble_eq_true rfl) ?_
      exact vx_ret (W.vret hx hb hr (fun t ht hW => ⟨⟨F, rfl, q, gH_at ht hH⟩, hS.F ht⟩) hS.2.2 dX10_needStation_26)
    · have q := (if_neg c2).mp q
      exact g_throwW (text := "no such station") hx hb hfl hno hown hts hG hS (List.mem_of_getElem? (i := 0) rfl) (List.mem_of_getElem? (i := 4) rfl) (List.mem_of_getElem? (i := 1) rfl) (List.mem_of_getElem? (i := 2) rfl) (fun _ h => (List.mem_cons_of_mem _ (List.mem_append_right _ h))) (hl.1.trans hml.symm) hlocks dX10_needStation_15 dX10_needStation_18 dX10_needStation_19 dX10_needStation_22 dX10_needStation_25 (Nat.le_of_ble_eq_true rfl) (Nat.le_of_ble_eq_true rfl) (Nat.le_of_ble_eq_true rfl) (Nat.le_of_ble_eq_true rfl) (fun t hvm hz hk => ⟨F, trivial, ⟨q, gH_grow hH hz hk⟩, gF_grow hS hz hk⟩) hS.2.2 (Nat.le_of_ble_eq_true rfl) (Nat.le_of_ble_eq_true rfl)
def P_X9_streetBetween_21  (K : Int32 → GF → Prop) (F : GF) (x2 : Int32) (s0 : Int32) : Prop := if x2 < 0 then (K (-1) F) else (if s0 < 36 then (if (s0 - x2) = 6 then (K ((2 * x2) + 1) F) else (if (s0 - x2) = 1 then (if (s0 - s0 / 6 * 6) = 0 then (K (-1) F) else (K (2 * x2) F)) else (K (-1) F))) else (K (-1) F))
def P_X9_streetBetween_10  (K : Int32 → GF → Prop) (F : GF) (x0 : Int32) (x1 : Int32) (s0 : Int32) : Prop := if x1 ≤ x0 then (P_X9_streetBetween_21 K F s0 x0) else (P_X9_streetBetween_21 K F s0 x1)
def P_X9_streetBetween (F : GF) (p0 : Int32) (p1 : Int32) (K : Int32 → GF → Prop) : Prop := if p1 ≤ p0 then (P_X9_streetBetween_10 K F p0 p1 p1) else (P_X9_streetBetween_10 K F p0 p1 p0)
abbrev rm_X9_streetBetween : Room := { frames := 0, cells := 0, slots := 0, locals := 0 }
abbrev q_X9_streetBetween (G : GP) (ad : Nat → Nat → Nat) (K : Int32 → GF → Prop) (below : List Frame) (args : Array Value) (s : State) : State → Prop := MQ below (gQi G ad K) args s 0 0 (gA G)
set_option maxHeartbeats 4000000 in
set_option maxRecDepth 100000 in
theorem c_X9_streetBetween (l : Launch) (G : GP) (ad : Nat → Nat → Nat) (F : GF) (p0 : Int32) (p1 : Int32) (K : Int32 → GF → Prop) : Met l yX9_streetBetween wsX9_streetBetween rm_X9_streetBetween (va_Pc [.int p0, .int p1] (fun U => gD G ad F U ∧ P_X9_streetBetween F p0 p1 K)) (gQi G ad K) 0 0 (gA G) := by
  refine Met.ofW (cc := cX9_streetBetween) (maxL := 4) (ret := (some .int)) (by decide) rfl ?_
  intro p e s m args below meth c s₁ Bd hml hv
  obtain ⟨rfl, ⟨hK, hG, hB, hH⟩, q⟩ := hv
  have hx := Bd.exec
  have hb := Bd.bytes
  have hr := Bd.returns
  have hts := atoms_spec (ws := wsX9_streetBetween) Bd.pre
  have hown : s.vm.findClass RX9 = some m.cls := findClass_of_methodNamed Bd.named
  have hlocks := Bd.notSynchronized
  have hS : va_S (gA G) s.heap s.heap [] := va_S.rf
  have hl := lv_entry [.int p0, .int p1] (n := 4) (Nat.le_of_ble_eq_true rfl)
  rw [lg_entry_eq]
  generalize (lg_sl [.int p0, .int p1] ++ List.replicate (4 - (lg_sl [.int p0, .int p1]).length) Slot.unset).toArray = ls at hl ⊢
  have hl : lv_has ls 4 [(0, .int p0), (1, .int p1)] := hl
  show W p l e rm_X9_streetBetween s m ([.int p0, .int p1] : List Value).toArray below meth c s.heap [] 0 0 (q_X9_streetBetween G ad K below ([.int p0, .int p1] : List Value).toArray s) _
  have t_21 : ∀ (F : GF) (x2 : Int32) (s0 : Int32) (H : Heap) (locs : List Loc) (ls : Array Slot), gH G ad F H → va_S (gA G) s.heap H locs → lv_has ls 4 [(2, .int x2)] → (P_X9_streetBetween_21 K) F x2 s0 → W p l e rm_X9_streetBetween s m ([.int p0, .int p1] : List Value).toArray below meth c H locs 0 0 (q_X9_streetBetween G ad K below ([.int p0, .int p1] : List Value).toArray s) (F0 m 21 ls [.int s0]) := by
    intro F x2 s0 H locs ls hH hS hl q
    unfold P_X9_streetBetween_21 at q
    refine lv_istore_n (lv' := [(3, .int s0), (2, .int x2)]) hx hb dX9_streetBetween_21 rfl hl (by decide) rfl (fun ls hl => ?_)
    refine lv_iload_n hx hb dX9_streetBetween_22 rfl (lv_at hl 1 rfl) ?_
    refine lv_if_lt (tgt := 32) hx hb dX9_streetBetween_23 (by decide) (fun c3 => ?_) (fun c3 => ?_)
    · have q := (if_pos c3).mp q
      refine lv_iconst (v := (-1)) hx hb dX9_streetBetween_32 (by decide) ?_
      exact (W.iret (v := (-1)) hx hb hr (fun t ht hW => ⟨⟨(-1), F, rfl, q, gH_at ht hH⟩, hS.F ht⟩) hS.2.2 dX9_streetBetween_33)
    · have q := (if_neg c3).mp q
      refine lv_iload_n hx hb dX9_streetBetween_26 rfl (lv_at hl 0 rfl) ?_
      refine lv_bipush (v := 36) hx hb dX9_streetBetween_27 (by decide) ?_
      refine lv_icmp_lt (tgt := 34) hx hb dX9_streetBetween_29 (by decide) (fun c4 => ?_) (fun c4 => ?_)
      · have q := (if_pos c4).mp q
        refine lv_iload_n hx hb dX9_streetBetween_34 rfl (lv_at hl 0 rfl) ?_
        refine lv_iload_n hx hb dX9_streetBetween_35 rfl (lv_at hl 1 rfl) ?_
        refine lv_isub hx hb dX9_streetBetween_36 ?_
        refine lv_bipush (v := 6) hx hb dX9_streetBetween_37 (by decide) ?_
        refine lv_icmp_ne (tgt := 48) hx hb dX9_streetBetween_39 (by decide) (fun c5 => ?_) (fun c5 => ?_)
        · have q := (if_neg c5).mp q
          refine lv_iload_n hx hb dX9_streetBetween_48 rfl (lv_at hl 0 rfl) ?_
          refine lv_iload_n hx hb dX9_streetBetween_49 rfl (lv_at hl 1 rfl) ?_
          refine lv_isub hx hb dX9_streetBetween_50 ?_
          refine lv_iconst (v := 1) hx hb dX9_streetBetween_51 (by decide) ?_
          refine lv_icmp_ne (tgt := 66) hx hb dX9_streetBetween_52 (by decide) (fun c6 => ?_) (fun c6 => ?_)
          · have q := (if_neg c6).mp q
            refine lv_iconst (v := (-1)) hx hb dX9_streetBetween_66 (by decide) ?_
            exact (W.iret (v := (-1)) hx hb hr (fun t ht hW => ⟨⟨(-1), F, rfl, q, gH_at ht hH⟩, hS.F ht⟩) hS.2.2 dX9_streetBetween_67)
          · have q := (if_pos c6).mp q
            refine lv_iload_n hx hb dX9_streetBetween_55 rfl (lv_at hl 0 rfl) ?_
            refine lv_bipush (v := 6) hx hb dX9_streetBetween_56 (by decide) ?_
            refine lv_irem hx hb dX9_streetBetween_58 (by decide) ?_
            refine lv_if_eq (tgt := 66) hx hb dX9_streetBetween_59 (by decide) (fun c7 => ?_) (fun c7 => ?_)
            · have q := (if_pos c7).mp q
              refine lv_iconst (v := (-1)) hx hb dX9_streetBetween_66 (by decide) ?_
              exact (W.iret (v := (-1)) hx hb hr (fun t ht hW => ⟨⟨(-1), F, rfl, q, gH_at ht hH⟩, hS.F ht⟩) hS.2.2 dX9_streetBetween_67)
            · have q := (if_neg c7).mp q
              refine lv_iconst (v := 2) hx hb dX9_streetBetween_62 (by decide) ?_
              refine lv_iload_n hx hb dX9_streetBetween_63 rfl (lv_at hl 1 rfl) ?_
              refine lv_imul hx hb dX9_streetBetween_64 ?_
              exact (W.iret (v := (2 * x2)) hx hb hr (fun t ht hW => ⟨⟨(2 * x2), F, rfl, q, gH_at ht hH⟩, hS.F ht⟩) hS.2.2 dX9_streetBetween_65)
        · have q := (if_pos c5).mp q
          refine lv_iconst (v := 2) hx hb dX9_streetBetween_42 (by decide) ?_
          refine lv_iload_n hx hb dX9_streetBetween_43 rfl (lv_at hl 1 rfl) ?_
          refine lv_imul hx hb dX9_streetBetween_44 ?_
          refine lv_iconst (v := 1) hx hb dX9_streetBetween_45 (by decide) ?_
          refine lv_iadd hx hb dX9_streetBetween_46 ?_
          exact (W.iret (v := ((2 * x2) + 1)) hx hb hr (fun t ht hW => ⟨⟨((2 * x2) + 1), F, rfl, q, gH_at ht hH⟩, hS.F ht⟩) hS.2.2 dX9_streetBetween_47)
      · have q := (if_neg c4).mp q
        refine lv_iconst (v := (-1)) hx hb dX9_streetBetween_32 (by decide) ?_
        exact (W.iret (v := (-1)) hx hb hr (fun t ht hW => ⟨⟨(-1), F, rfl, q, gH_at ht hH⟩, hS.F ht⟩) hS.2.2 dX9_streetBetween_33)
  have t_10 : ∀ (F : GF) (x0 : Int32) (x1 : Int32) (s0 : Int32) (H : Heap) (locs : List Loc) (ls : Array Slot), gH G ad F H → va_S (gA G) s.heap H locs → lv_has ls 4 [(0, .int x0), (1, .int x1)] → (P_X9_streetBetween_10 K) F x0 x1 s0 → W p l e rm_X9_streetBetween s m ([.int p0, .int p1] : List Value).toArray below meth c H locs 0 0 (q_X9_streetBetween G ad K below ([.int p0, .int p1] : List Value).toArray s) (F0 m 10 ls [.int s0]) := by
    intro F x0 x1 s0 H locs ls hH hS hl q
    unfold P_X9_streetBetween_10 at q
    refine lv_istore_n (lv' := [(2, .int s0), (0, .int x0), (1, .int x1)]) hx hb dX9_streetBetween_10 rfl hl (by decide) rfl (fun ls hl => ?_)
    refine lv_iload_n hx hb dX9_streetBetween_11 rfl (lv_at hl 1 rfl) ?_
    refine lv_iload_n hx hb dX9_streetBetween_12 rfl (lv_at hl 2 rfl) ?_
    refine lv_icmp_ge (tgt := 20) hx hb dX9_streetBetween_13 (by decide) (fun c2 => ?_) (fun c2 => ?_)
    · have q := (if_pos c2).mp q
      refine lv_iload_n hx hb dX9_streetBetween_20 rfl (lv_at hl 1 rfl) ?_
      exact t_21 F s0 x0 _ _ _ hH hS (lv_sub hl [0] rfl) q
    · have q := (if_neg c2).mp q
      refine lv_iload_n hx hb dX9_streetBetween_16 rfl (lv_at hl 2 rfl) ?_
      refine lv_goto (tgt := 21) hx hb dX9_streetBetween_17 (by decide) ?_
      exact t_21 F s0 x1 _ _ _ hH hS (lv_sub hl [0] rfl) q
  unfold P_X9_streetBetween at q
  refine lv_iload_n hx hb dX9_streetBetween_0 rfl (lv_at hl 0 rfl) ?_
  refine lv_iload_n hx hb dX9_streetBetween_1 rfl (lv_at hl 1 rfl) ?_
  refine lv_icmp_ge (tgt := 9) hx hb dX9_streetBetween_2 (by decide) (fun c1 => ?_) (fun c1 => ?_)
  · have q := (if_pos c1).mp q
    refine lv_iload_n hx hb dX9_streetBetween_9 rfl (lv_at hl 1 rfl) ?_
    exact t_10 F p0 p1 p1 _ _ _ hH hS (lv_sub hl [0, 1] rfl) q
  · have q := (if_neg c1).mp q
    refine lv_iload_n hx hb dX9_streetBetween_5 rfl (lv_at hl 0 rfl) ?_
    refine lv_goto (tgt := 10) hx hb dX9_streetBetween_6 (by decide) ?_
    exact t_10 F p0 p1 p0 _ _ _ hH hS (lv_sub hl [0, 1] rfl) q
def P_X5_stationFor (F : GF) (p1 : Int32) (K : Int32 → GF → Prop) : Prop := if p1 < 0 then (K (-1) F) else (if p1 < 20 then (vp_in p1 20 ∧ (K (F 13 0 p1.toNatClampNeg) F)) else (K (-1) F))
abbrev rm_X5_stationFor : Room := { frames := 0, cells := 0, slots := 0, locals := 0 }
abbrev q_X5_stationFor (G : GP) (ad : Nat → Nat → Nat) (K : Int32 → GF → Prop) (below : List Frame) (args : Array Value) (s : State) : State → Prop := MQ below (gQi G ad K) args s 0 0 (gA G)
set_option maxHeartbeats 4000000 in
set_option maxRecDepth 100000 in
theorem c_X5_stationFor (l : Launch) (G : GP) (ad : Nat → Nat → Nat) (F : GF) (p1 : Int32) (K : Int32 → GF → Prop) : Met l yX5_stationFor wsX5_stationFor rm_X5_stationFor (va_Pc [.ref (ad 12 0), .int p1] (fun U => gD G ad F U ∧ P_X5_stationFor F p1 K)) (gQi G ad K) 0 0 (gA G) := by
  refine Met.ofW (cc := cX5_stationFor) (maxL := 2) (ret := (some .int)) (by decide) rfl ?_
  intro p e s m args below meth c s₁ Bd hml hv
  obtain ⟨rfl, ⟨hK, hG, hB, hH⟩, q⟩ := hv
  have hx := Bd.exec
  have hb := Bd.bytes
  have hr := Bd.returns
  have hts := atoms_spec (ws := wsX5_stationFor) Bd.pre
  have hown : s.vm.findClass RX5 = some m.cls := findClass_of_methodNamed Bd.named
  have hlocks := Bd.notSynchronized
  have hS : va_S (gA G) s.heap s.heap [] := va_S.rf
  have hl := lv_entry [.ref (ad 12 0), .int p1] (n := 2) (Nat.le_of_ble_eq_true rfl)
  rw [lg_entry_eq]
  generalize (lg_sl [.ref (ad 12 0), .int p1] ++ List.replicate (2 - (lg_sl [.ref (ad 12 0), .int p1]).length) Slot.unset).toArray = ls at hl ⊢
  have hl : lv_has ls 2 [(0, .ref (ad 12 0)), (1, .int p1)] := hl
  unfold P_X5_stationFor at q
  refine lv_iload_n hx hb dX5_stationFor_0 rfl (lv_at hl 1 rfl) ?_
  refine lv_if_lt (tgt := 10) hx hb dX5_stationFor_1 (by decide) (fun c1 => ?_) (fun c1 => ?_)
  · have q := (if_pos c1).mp q
    refine lv_iconst (v := (-1)) hx hb dX5_stationFor_10 (by decide) ?_
    exact (W.iret (v := (-1)) hx hb hr (fun t ht hW => ⟨⟨(-1), F, rfl, q, gH_at ht hH⟩, hS.F ht⟩) hS.2.2 dX5_stationFor_11)
  · have q := (if_neg c1).mp q
    refine lv_iload_n hx hb dX5_stationFor_4 rfl (lv_at hl 1 rfl) ?_
    refine lv_bipush (v := 20) hx hb dX5_stationFor_5 (by decide) ?_
    refine lv_icmp_lt (tgt := 12) hx hb dX5_stationFor_7 (by decide) (fun c2 => ?_) (fun c2 => ?_)
    · have q := (if_pos c2).mp q
      refine lv_aload_n hx hb dX5_stationFor_12 rfl (lv_at hl 0 rfl) ?_
      refine g_get (ci := 9) (v := .ref (ad 13 0)) (C := RX5) (T := TX5) (N := 3) hx hb hts (fun _ h => (List.mem_cons_of_mem _ (List.mem_append_left _ (List.mem_append_right _ h)))) hown hK hH 12 0 (by decide) Nat.zero_lt_one rfl rfl 0 (by decide) (hts (.fieldLink RX5 9 "BallotFoundry$Roll" "stationsOfPeople" "[I") (List.mem_of_getElem? (i := 1) rfl)) (fun _ h => h) rfl dX5_stationFor_13 ?_
      refine lv_iload_n hx hb dX5_stationFor_16 rfl (lv_at hl 1 rfl) ?_
      obtain ⟨h3, q⟩ := q
      refine g_iald hx hb hK hH 13 0 (by decide) Nat.zero_lt_one 20 rfl h3 dX5_stationFor_17 ?_
      exact (W.iret (v := (F 13 0 p1.toNatClampNeg)) hx hb hr (fun t ht hW => ⟨⟨(F 13 0 p1.toNatClampNeg), F, rfl, q, gH_at ht hH⟩, hS.F ht⟩) hS.2.2 dX5_stationFor_18)
    · have q := (if_neg c2).mp q
      refine lv_iconst (v := (-1)) hx hb dX5_stationFor_10 (by decide) ?_
      exact (W.iret (v := (-1)) hx hb hr (fun t ht hW => ⟨⟨(-1), F, rfl, q, gH_at ht hH⟩, hS.F ht⟩) hS.2.2 dX5_stationFor_11)
def P_X0_write (F : GF) (p1 : Int32) (p2 : Int32) (p3 : Int32) (K : GF → Prop) : Prop := if (F 21 0 4) < 572 then (vp_in (F 21 0 4) 572 ∧ (∀ F3 : GF, F3 = fs F 22 0 (F 21 0 4).toNatClampNeg p1 → (vp_in (F3 21 0 4) 572 ∧ (∀ F5 : GF, F5 = fs F3 23 0 (F3 21 0 4).toNatClampNeg (vp_nar .char p2) → (vp_in (F5 21 0 4) 572 ∧ (∀ F7 : GF, F7 = fs F5 24 0 (F5 21 0 4).toNatClampNeg p3 → (∀ F8 : GF, F8 = fs F7 21 0 4 ((F7 21 0 4) + 1) → (K F8)))))))) else (K F)
abbrev rm_X0_write : Room := { frames := 0, cells := 0, slots := 0, locals := 0 }
abbrev q_X0_write (G : GP) (ad : Nat → Nat → Nat) (K : GF → Prop) (below : List Frame) (args : Array Value) (s : State) : State → Prop := MQ below (gQv G ad K) args s 0 0 (gA G)
set_option maxHeartbeats 4000000 in
set_option maxRecDepth 100000 in
theorem c_X0_write (l : Launch) (G : GP) (ad : Nat → Nat → Nat) (F : GF) (p1 : Int32) (p2 : Int32) (p3 : Int32) (K : GF → Prop) : Met l yX0_write wsX0_write rm_X0_write (va_Pc [.ref (ad 21 0), .int p1, .int p2, .int p3] (fun U => gD G ad F U ∧ P_X0_write F p1 p2 p3 K)) (gQv G ad K) 0 0 (gA G) := by
  refine Met.ofW (cc := cX0_write) (maxL := 4) (ret := none) (by decide) rfl ?_
  intro p e s m args below meth c s₁ Bd hml hv
  obtain ⟨rfl, ⟨hK, hG, hB, hH⟩, q⟩ := hv
  have hx := Bd.exec
  have hb := Bd.bytes
  have hr := Bd.returns
  have hts := atoms_spec (ws := wsX0_write) Bd.pre
  have hown : s.vm.findClass RX0 = some m.cls := findClass_of_methodNamed Bd.named
  have hlocks := Bd.notSynchronized
  have hS : va_S (gA G) s.heap s.heap [] := va_S.rf
  have hl := lv_entry [.ref (ad 21 0), .int p1, .int p2, .int p3] (n := 4) (Nat.le_of_ble_eq_true rfl)
  rw [lg_entry_eq]
  generalize (lg_sl [.ref (ad 21 0), .int p1, .int p2, .int p3] ++ List.replicate (4 - (lg_sl [.ref (ad 21 0), .int p1, .int p2, .int p3]).length) Slot.unset).toArray = ls at hl ⊢
  have hl : lv_has ls 4 [(0, .ref (ad 21 0)), (1, .int p1), (2, .int p2), (3, .int p3)] := hl
  unfold P_X0_write at q
  refine lv_aload_n hx hb dX0_write_0 rfl (lv_at hl 0 rfl) ?_
  refine g_get (ci := 4) (v := .int (F 21 0 4)) (C := RX0) (T := TX0) (N := 5) hx hb hts (fun _ h => (List.mem_cons_of_mem _ (List.mem_append_left _ (List.mem_append_right _ h)))) hown hK hH 21 0 (by decide) Nat.zero_lt_one rfl rfl 4 (by decide) (hts (.fieldLink RX0 29 "BallotFoundry$Book" "size" "I") (List.mem_of_getElem? (i := 1) rfl)) (fun _ h => h) rfl dX0_write_1 ?_
  refine lv_sipush (v := 572) hx hb dX0_write_4 (by decide) ?_
  refine lv_icmp_lt (tgt := 11) hx hb dX0_write_7 (by decide) (fun c1 => ?_) (fun c1 => ?_)
  · have q := (if_pos c1).mp q
    refine lv_aload_n hx hb dX0_write_11 rfl (lv_at hl 0 rfl) ?_
    refine g_get (ci := 4) (v := .ref (ad 22 0)) (C := RX0) (T := TX0) (N := 5) hx hb hts (fun _ h => (List.mem_cons_of_mem _ (List.mem_append_left _ (List.mem_append_right _ h)))) hown hK hH 21 0 (by decide) Nat.zero_lt_one rfl rfl 0 (by decide) (hts (.fieldLink RX0 9 "BallotFoundry$Book" "days" "[I") (List.mem_of_getElem? (i := 2) rfl)) (fun _ h => h) rfl dX0_write_12 ?_
    refine lv_aload_n hx hb dX0_write_15 rfl (lv_at hl 0 rfl) ?_
    refine g_get (ci := 4) (v := .int (F 21 0 4)) (C := RX0) (T := TX0) (N := 5) hx hb hts (fun _ h => (List.mem_cons_of_mem _ (List.mem_append_left _ (List.mem_append_right _ h)))) hown hK hH 21 0 (by decide) Nat.zero_lt_one rfl rfl 4 (by decide) (hts (.fieldLink RX0 29 "BallotFoundry$Book" "size" "I") (List.mem_of_getElem? (i := 1) rfl)) (fun _ h => h) rfl dX0_write_16 ?_
    refine lv_iload_n hx hb dX0_write_19 rfl (lv_at hl 1 rfl) ?_
    obtain ⟨h2, q⟩ := q
    refine g_iast hx hb hK hH hS 22 0 (by decide) Nat.zero_lt_one (by decide) 572 (fun _ => rfl) h2 dX0_write_20 (fun H locs hH hS => ?_)
    obtain ⟨F3, eF3⟩ : ∃ z, z = fs F 22 0 (F 21 0 4).toNatClampNeg p1 := ⟨_, rfl⟩
    have q := q F3 eF3
    rw [← eF3] at hH
    refine lv_aload_n hx hb dX0_write_21 rfl (lv_at hl 0 rfl) ?_
    refine g_get (ci := 4) (v := .ref (ad 23 0)) (C := RX0) (T := TX0) (N := 5) hx hb hts (fun _ h => (List.mem_cons_of_mem _ (List.mem_append_left _ (List.mem_append_right _ h)))) hown hK hH 21 0 (by decide) Nat.zero_lt_one rfl rfl 1 (by decide) (hts (.fieldLink RX0 15 "BallotFoundry$Book" "signs" "[C") (List.mem_of_getElem? (i := 3) rfl)) (fun _ h => h) rfl dX0_write_22 ?_
    refine lv_aload_n hx hb dX0_write_25 rfl (lv_at hl 0 rfl) ?_
    refine g_get (ci := 4) (v := .int (F3 21 0 4)) (C := RX0) (T := TX0) (N := 5) hx hb hts (fun _ h => (List.mem_cons_of_mem _ (List.mem_append_left _ (List.mem_append_right _ h)))) hown hK hH 21 0 (by decide) Nat.zero_lt_one rfl rfl 4 (by decide) (hts (.fieldLink RX0 29 "BallotFoundry$Book" "size" "I") (List.mem_of_getElem? (i := 1) rfl)) (fun _ h => h) rfl dX0_write_26 ?_
    refine lv_iload_n hx hb dX0_write_29 rfl (lv_at hl 2 rfl) ?_
    obtain ⟨h4, q⟩ := q
    refine g_cast hx hb hK hH hS 23 0 (by decide) Nat.zero_lt_one (by decide) 572 (fun _ => rfl) h4 dX0_write_30 (fun H locs hH hS => ?_)
    obtain ⟨F5, eF5⟩ : ∃ z, z = fs F3 23 0 (F3 21 0 4).toNatClampNeg (vp_nar .char p2) := ⟨_, rfl⟩
    have q := q F5 eF5
    rw [← eF5] at hH
    refine lv_aload_n hx hb dX0_write_31 rfl (lv_at hl 0 rfl) ?_
    refine g_get (ci := 4) (v := .ref (ad 24 0)) (C := RX0) (T := TX0) (N := 5) hx hb hts (fun _ h => (List.mem_cons_of_mem _ (List.mem_append_left _ (List.mem_append_right _ h)))) hown hK hH 21 0 (by decide) Nat.zero_lt_one rfl rfl 2 (by decide) (hts (.fieldLink RX0 19 "BallotFoundry$Book" "numbers" "[I") (List.mem_of_getElem? (i := 4) rfl)) (fun _ h => h) rfl dX0_write_32 ?_
    refine lv_aload_n hx hb dX0_write_35 rfl (lv_at hl 0 rfl) ?_
    refine g_get (ci := 4) (v := .int (F5 21 0 4)) (C := RX0) (T := TX0) (N := 5) hx hb hts (fun _ h => (List.mem_cons_of_mem _ (List.mem_append_left _ (List.mem_append_right _ h)))) hown hK hH 21 0 (by decide) Nat.zero_lt_one rfl rfl 4 (by decide) (hts (.fieldLink RX0 29 "BallotFoundry$Book" "size" "I") (List.mem_of_getElem? (i := 1) rfl)) (fun _ h => h) rfl dX0_write_36 ?_
    refine lv_iload_n hx hb dX0_write_39 rfl (lv_at hl 3 rfl) ?_
    obtain ⟨h6, q⟩ := q
    refine g_iast hx hb hK hH hS 24 0 (by decide) Nat.zero_lt_one (by decide) 572 (fun _ => rfl) h6 dX0_write_40 (fun H locs hH hS => ?_)
    obtain ⟨F7, eF7⟩ : ∃ z, z = fs F5 24 0 (F5 21 0 4).toNatClampNeg p3 := ⟨_, rfl⟩
    have q := q F7 eF7
    rw [← eF7] at hH
    refine lv_aload_n hx hb dX0_write_41 rfl (lv_at hl 0 rfl) ?_
    refine lv_dup hx hb dX0_write_42 rfl ?_
    refine g_get (ci := 4) (v := .int (F7 21 0 4)) (C := RX0) (T := TX0) (N := 5) hx hb hts (fun _ h => (List.mem_cons_of_mem _ (List.mem_append_left _ (List.mem_append_right _ h)))) hown hK hH 21 0 (by decide) Nat.zero_lt_one rfl rfl 4 (by decide) (hts (.fieldLink RX0 29 "BallotFoundry$Book" "size" "I") (List.mem_of_getElem? (i := 1) rfl)) (fun _ h => h) rfl dX0_write_43 ?_
    refine lv_iconst (v := 1) hx hb dX0_write_46 (by decide) ?_
    refine lv_iadd hx hb dX0_write_47 ?_
    refine g_put (ci := 4) (v := .int ((F7 21 0 4) + 1)) (C := RX0) (T := TX0) (N := 5) hx hb hts (fun _ h => (List.mem_cons_of_mem _ (List.mem_append_left _ (List.mem_append_right _ h)))) tyX0 tyX0_ok nmX0 hown hK hH hS 21 0 (by decide) Nat.zero_lt_one (by decide) rfl rfl 4 (by decide) (hts (.fieldLink RX0 29 "BallotFoundry$Book" "size" "I") (List.mem_of_getElem? (i := 1) rfl)) (fun _ h => h) rfl (ty := .int) (by decide +kernel) rfl rfl (Nat.le_of_ble_eq_true rfl) ((F7 21 0 4) + 1) rfl dX0_write_48 (fun H locs hH hS => ?_)
    obtain ⟨F8, eF8⟩ : ∃ z, z = fs F7 21 0 4 ((F7 21 0 4) + 1) := ⟨_, rfl⟩
    have q := q F8 eF8
    rw [← eF8] at hH
    exact (W.vret hx hb hr (fun t ht hW => ⟨⟨F8, rfl, q, gH_at ht hH⟩, hS.F ht⟩) hS.2.2 dX0_write_51)
  · have q := (if_neg c1).mp q
    exact (W.vret hx hb hr (fun t ht hW => ⟨⟨F, rfl, q, gH_at ht hH⟩, hS.F ht⟩) hS.2.2 dX0_write_10)
def P_X9_measuredTo (F : GF) (p1 : Int32) (K : Int32 → GF → Prop) : Prop := if p1 < 0 then (K (-1) F) else (if p1 < 36 then (vp_in p1 36 ∧ (K (F 3 0 p1.toNatClampNeg) F)) else (K (-1) F))
abbrev rm_X9_measuredTo : Room := { frames := 0, cells := 0, slots := 0, locals := 0 }
abbrev q_X9_measuredTo (G : GP) (ad : Nat → Nat → Nat) (K : Int32 → GF → Prop) (below : List Frame) (args : Array Value) (s : State) : State → Prop := MQ below (gQi G ad K) args s 0 0 (gA G)
set_option maxHeartbeats 4000000 in
set_option maxRecDepth 100000 in
theorem c_X9_measuredTo (l : Launch) (G : GP) (ad : Nat → Nat → Nat) (F : GF) (p1 : Int32) (K : Int32 → GF → Prop) : Met l yX9_measuredTo wsX9_measuredTo rm_X9_measuredTo (va_Pc [.ref (ad 1 0), .int p1] (fun U => gD G ad F U ∧ P_X9_measuredTo F p1 K)) (gQi G ad K) 0 0 (gA G) := by
  refine Met.ofW (cc := cX9_measuredTo) (maxL := 2) (ret := (some .int)) (by decide) rfl ?_
  intro p e s m args below meth c s₁ Bd hml hv
  obtain ⟨rfl, ⟨hK, hG, hB, hH⟩, q⟩ := hv
  have hx := Bd.exec
  have hb := Bd.bytes
  have hr := Bd.returns
  have hts := atoms_spec (ws := wsX9_measuredTo) Bd.pre
  have hown : s.vm.findClass RX9 = some m.cls := findClass_of_methodNamed Bd.named
  have hlocks := Bd.notSynchronized
  have hS : va_S (gA G) s.heap s.heap [] := va_S.rf
  have hl := lv_entry [.ref (ad 1 0), .int p1] (n := 2) (Nat.le_of_ble_eq_true rfl)
  rw [lg_entry_eq]
  generalize (lg_sl [.ref (ad 1 0), .int p1] ++ List.replicate (2 - (lg_sl [.ref (ad 1 0), .int p1]).length) Slot.unset).toArray = ls at hl ⊢
  have hl : lv_has ls 2 [(0, .ref (ad 1 0)), (1, .int p1)] := hl
  unfold P_X9_measuredTo at q
  refine lv_iload_n hx hb dX9_measuredTo_0 rfl (lv_at hl 1 rfl) ?_
  refine lv_if_lt (tgt := 10) hx hb dX9_measuredTo_1 (by decide) (fun c1 => ?_) (fun c1 => ?_)
  · have q := (if_pos c1).mp q
    refine lv_iconst (v := (-1)) hx hb dX9_measuredTo_10 (by decide) ?_
    exact (W.iret (v := (-1)) hx hb hr (fun t ht hW => ⟨⟨(-1), F, rfl, q, gH_at ht hH⟩, hS.F ht⟩) hS.2.2 dX9_measuredTo_11)
  · have q := (if_neg c1).mp q
    refine lv_iload_n hx hb dX9_measuredTo_4 rfl (lv_at hl 1 rfl) ?_
    refine lv_bipush (v := 36) hx hb dX9_measuredTo_5 (by decide) ?_
    refine lv_icmp_lt (tgt := 12) hx hb dX9_measuredTo_7 (by decide) (fun c2 => ?_) (fun c2 => ?_)
    · have q := (if_pos c2).mp q
      refine lv_aload_n hx hb dX9_measuredTo_12 rfl (lv_at hl 0 rfl) ?_
      refine g_get (ci := 13) (v := .ref (ad 3 0)) (C := RX9) (T := TX9) (N := 3) hx hb hts (fun _ h => (List.mem_cons_of_mem _ (List.mem_append_left _ (List.mem_append_right _ h)))) hown hK hH 1 0 (by decide) Nat.zero_lt_one rfl rfl 1 (by decide) (hts (.fieldLink RX9 15 "BallotFoundry$Town" "measured" "[I") (List.mem_of_getElem? (i := 1) rfl)) (fun _ h => h) rfl dX9_measuredTo_13 ?_
      refine lv_iload_n hx hb dX9_measuredTo_16 rfl (lv_at hl 1 rfl) ?_
      obtain ⟨h3, q⟩ := q
      refine g_iald hx hb hK hH 3 0 (by decide) Nat.zero_lt_one 36 rfl h3 dX9_measuredTo_17 ?_
      exact (W.iret (v := (F 3 0 p1.toNatClampNeg)) hx hb hr (fun t ht hW => ⟨⟨(F 3 0 p1.toNatClampNeg), F, rfl, q, gH_at ht hH⟩, hS.F ht⟩) hS.2.2 dX9_measuredTo_18)
    · have q := (if_neg c2).mp q
      refine lv_iconst (v := (-1)) hx hb dX9_measuredTo_10 (by decide) ?_
      exact (W.iret (v := (-1)) hx hb hr (fun t ht hW => ⟨⟨(-1), F, rfl, q, gH_at ht hH⟩, hS.F ht⟩) hS.2.2 dX9_measuredTo_11)
def P_X9_reach (F : GF) (p1 : Int32) (p2 : Int32) (p3 : Int32) (K : Int32 → GF → Prop) : Prop := P_X9_streetBetween F p1 p2 (fun r1 F2 => if r1 = (-1) then (K p3 F2) else (vp_in r1 72 ∧ (if (F2 2 0 r1.toNatClampNeg) = 0 then (vp_in p2 36 ∧ (if (F2 3 0 p2.toNatClampNeg) = (-1) then (if p3 < 36 then (vp_in p1 36 ∧ (vp_in p2 36 ∧ (∀ F11 : GF, F11 = fs F2 3 0 p2.toNatClampNeg ((F2 3 0 p1.toNatClampNeg) + 1) → (vp_in p3 36 ∧ (∀ F13 : GF, F13 = fs F11 4 0 p3.toNatClampNeg p2 → (K (p3 + 1) F13)))))) else (K p3 F2)) else (K p3 F2))) else (K p3 F2))))
abbrev rm_X9_reach : Room := { frames := 1, cells := 0, slots := 0, locals := 23 }
abbrev q_X9_reach (G : GP) (ad : Nat → Nat → Nat) (K : Int32 → GF → Prop) (below : List Frame) (args : Array Value) (s : State) : State → Prop := MQ below (gQi G ad K) args s 0 0 (gA G)
set_option maxHeartbeats 4000000 in
set_option maxRecDepth 100000 in
theorem c_X9_reach (l : Launch) (G : GP) (ad : Nat → Nat → Nat) (F : GF) (p1 : Int32) (p2 : Int32) (p3 : Int32) (K : Int32 → GF → Prop) : Met l yX9_reach wsX9_reach rm_X9_reach (va_Pc [.ref (ad 1 0), .int p1, .int p2, .int p3] (fun U => gD G ad F U ∧ P_X9_reach F p1 p2 p3 K)) (gQi G ad K) 0 0 (gA G) := by
  refine Met.ofW (cc := cX9_reach) (maxL := 5) (ret := (some .int)) (by decide) rfl ?_
  intro p e s m args below meth c s₁ Bd hml hv
  obtain ⟨rfl, ⟨hK, hG, hB, hH⟩, q⟩ := hv
  have hx := Bd.exec
  have hb := Bd.bytes
  have hr := Bd.returns
  have hts := atoms_spec (ws := wsX9_reach) Bd.pre
  have hown : s.vm.findClass RX9 = some m.cls := findClass_of_methodNamed Bd.named
  have hlocks := Bd.notSynchronized
  have hS : va_S (gA G) s.heap s.heap [] := va_S.rf
  have hl := lv_entry [.ref (ad 1 0), .int p1, .int p2, .int p3] (n := 5) (Nat.le_of_ble_eq_true rfl)
  rw [lg_entry_eq]
  generalize (lg_sl [.ref (ad 1 0), .int p1, .int p2, .int p3] ++ List.replicate (5 - (lg_sl [.ref (ad 1 0), .int p1, .int p2, .int p3]).length) Slot.unset).toArray = ls at hl ⊢
  have hl : lv_has ls 5 [(0, .ref (ad 1 0)), (1, .int p1), (2, .int p2), (3, .int p3)] := hl
  unfold P_X9_reach at q
  refine lv_iload_n hx hb dX9_reach_0 rfl (lv_at hl 1 rfl) ?_
  refine lv_iload_n hx hb dX9_reach_1 rfl (lv_at hl 2 rfl) ?_
  refine va_calli (va_runS (As := [.int p1, .int p2]) (rest := []) ⟨hx, hb, hml, hown, hts⟩ (c_X9_streetBetween l G ad F p1 p2 _) (va_cwS 2 hts gX9_reach_X9_streetBetween rfl rfl rfl (by decide +kernel) ⟨Nat.le_of_ble_eq_true rfl, Nat.le_of_ble_eq_true rfl⟩) ⟨fun a U g mk h => ⟨h.1, gD_blind h.2.1, h.2.2⟩, fun U hU hW => ⟨rfl, gD_at hK hG hB hH hS hU hW, q⟩⟩ rfl rfl hl.1 rfl (lv_room (Nat.le_of_ble_eq_true rfl)) dX9_reach_2 ⟨Nat.le_of_ble_eq_true rfl, Nat.le_of_ble_eq_true rfl⟩) hS (fun _ _ h => h) (fun _ h => h) (fun r1 F2 t H locs ht hvm q hB1 hz hk hS => ?_)
  have hH : gH G ad F2 H := gH_to ht hB1
  refine lv_istore (lv' := [(4, .int r1), (0, .ref (ad 1 0)), (1, .int p1), (2, .int p2), (3, .int p3)]) hx hb dX9_reach_5 hl (by decide) rfl (fun ls hl => ?_)
  refine lv_iload hx hb dX9_reach_7 (lv_at hl 0 rfl) ?_
  refine lv_iconst (v := (-1)) hx hb dX9_reach_9 (by decide) ?_
  refine lv_icmp_eq (tgt := 39) hx hb dX9_reach_10 (by decide) (fun c3 => ?_) (fun c3 => ?_)
  · have q := (if_pos c3).mp q
    refine lv_iload_n hx hb dX9_reach_39 rfl (lv_at hl 4 rfl) ?_
    exact (W.iret (v := p3) hx hb hr (fun t ht hW => ⟨⟨p3, F2, rfl, q, gH_at ht hH⟩, hS.F ht⟩) hS.2.2 dX9_reach_40)
  · have q := (if_neg c3).mp q
    refine lv_aload_n hx hb dX9_reach_13 rfl (lv_at hl 1 rfl) ?_
    refine g_get (ci := 13) (v := .ref (ad 2 0)) (C := RX9) (T := TX9) (N := 3) hx hb hts (fun _ h => (List.mem_cons_of_mem _ (List.mem_append_left _ (List.mem_append_right _ h)))) hown hK hH 1 0 (by decide) Nat.zero_lt_one rfl rfl 0 (by decide) (hts (.fieldLink RX9 9 "BallotFoundry$Town" "barred" "[Z") (List.mem_of_getElem? (i := 1) rfl)) (fun _ h => h) rfl dX9_reach_14 ?_
    refine lv_iload hx hb dX9_reach_17 (lv_at hl 0 rfl) ?_
    obtain ⟨h4, q⟩ := q
    refine g_zald hx hb hK hH 2 0 (by decide) Nat.zero_lt_one 72 rfl h4 dX9_reach_19 ?_
    refine lv_if_ne (tgt := 39) hx hb dX9_reach_20 (by decide) (fun c5 => ?_) (fun c5 => ?_)
    · have q := (if_neg c5).mp q
      refine lv_iload_n hx hb dX9_reach_39 rfl (lv_at hl 4 rfl) ?_
      exact (W.iret (v := p3) hx hb hr (fun t ht hW => ⟨⟨p3, F2, rfl, q, gH_at ht hH⟩, hS.F ht⟩) hS.2.2 dX9_reach_40)
    · have q := (if_pos c5).mp q
      refine lv_aload_n hx hb dX9_reach_23 rfl (lv_at hl 1 rfl) ?_
      refine g_get (ci := 13) (v := .ref (ad 3 0)) (C := RX9) (T := TX9) (N := 3) hx hb hts (fun _ h => (List.mem_cons_of_mem _ (List.mem_append_left _ (List.mem_append_right _ h)))) hown hK hH 1 0 (by decide) Nat.zero_lt_one rfl rfl 1 (by decide) (hts (.fieldLink RX9 15 "BallotFoundry$Town" "measured" "[I") (List.mem_of_getElem? (i := 2) rfl)) (fun _ h => h) rfl dX9_reach_24 ?_
      refine lv_iload_n hx hb dX9_reach_27 rfl (lv_at hl 3 rfl) ?_
      obtain ⟨h6, q⟩ := q
      refine g_iald hx hb hK hH 3 0 (by decide) Nat.zero_lt_one 36 rfl h6 dX9_reach_28 ?_
      refine lv_iconst (v := (-1)) hx hb dX9_reach_29 (by decide) ?_
      refine lv_icmp_ne (tgt := 39) hx hb dX9_reach_30 (by decide) (fun c7 => ?_) (fun c7 => ?_)
      · have q := (if_neg c7).mp q
        refine lv_iload_n hx hb dX9_reach_39 rfl (lv_at hl 4 rfl) ?_
        exact (W.iret (v := p3) hx hb hr (fun t ht hW => ⟨⟨p3, F2, rfl, q, gH_at ht hH⟩, hS.F ht⟩) hS.2.2 dX9_reach_40)
      · have q := (if_pos c7).mp q
        refine lv_iload_n hx hb dX9_reach_33 rfl (lv_at hl 4 rfl) ?_
        refine lv_bipush (v := 36) hx hb dX9_reach_34 (by decide) ?_
        refine lv_icmp_lt (tgt := 41) hx hb dX9_reach_36 (by decide) (fun c8 => ?_) (fun c8 => ?_)
        · have q := (if_pos c8).mp q
          refine lv_aload_n hx hb dX9_reach_41 rfl (lv_at hl 1 rfl) ?_
          refine g_get (ci := 13) (v := .ref (ad 3 0)) (C := RX9) (T := TX9) (N := 3) hx hb hts (fun _ h => (List.mem_cons_of_mem _ (List.mem_append_left _ (List.mem_append_right _ h)))) hown hK hH 1 0 (by decide) Nat.zero_lt_one rfl rfl 1 (by decide) (hts (.fieldLink RX9 15 "BallotFoundry$Town" "measured" "[I") (List.mem_of_getElem? (i := 2) rfl)) (fun _ h => h) rfl dX9_reach_42 ?_
          refine lv_iload_n hx hb dX9_reach_45 rfl (lv_at hl 3 rfl) ?_
          refine lv_aload_n hx hb dX9_reach_46 rfl (lv_at hl 1 rfl) ?_
          refine g_get (ci := 13) (v := .ref (ad 3 0)) (C := RX9) (T := TX9) (N := 3) hx hb hts (fun _ h => (List.mem_cons_of_mem _ (List.mem_append_left _ (List.mem_append_right _ h)))) hown hK hH 1 0 (by decide) Nat.zero_lt_one rfl rfl 1 (by decide) (hts (.fieldLink RX9 15 "BallotFoundry$Town" "measured" "[I") (List.mem_of_getElem? (i := 2) rfl)) (fun _ h => h) rfl dX9_reach_47 ?_
          refine lv_iload_n hx hb dX9_reach_50 rfl (lv_at hl 2 rfl) ?_
          obtain ⟨h9, q⟩ := q
          refine g_iald hx hb hK hH 3 0 (by decide) Nat.zero_lt_one 36 rfl h9 dX9_reach_51 ?_
          refine lv_iconst (v := 1) hx hb dX9_reach_52 (by decide) ?_
          refine lv_iadd hx hb dX9_reach_53 ?_
          obtain ⟨h10, q⟩ := q
          refine g_iast hx hb hK hH hS 3 0 (by decide) Nat.zero_lt_one (by decide) 36 (fun _ => rfl) h10 dX9_reach_54 (fun H locs hH hS => ?_)
          obtain ⟨F11, eF11⟩ : ∃ z, z = fs F2 3 0 p2.toNatClampNeg ((F2 3 0 p1.toNatClampNeg) + 1) := ⟨_, rfl⟩
          have q := q F11 eF11
          rw [← eF11] at hH
          refine lv_aload_n hx hb dX9_reach_55 rfl (lv_at hl 1 rfl) ?_
          refine g_get (ci := 13) (v := .ref (ad 4 0)) (C := RX9) (T := TX9) (N := 3) hx hb hts (fun _ h => (List.mem_cons_of_mem _ (List.mem_append_left _ (List.mem_append_right _ h)))) hown hK hH 1 0 (by decide) Nat.zero_lt_one rfl rfl 2 (by decide) (hts (.fieldLink RX9 19 "BallotFoundry$Town" "reached" "[I") (List.mem_of_getElem? (i := 3) rfl)) (fun _ h => h) rfl dX9_reach_56 ?_
          refine lv_iload_n hx hb dX9_reach_59 rfl (lv_at hl 4 rfl) ?_
          refine lv_iload_n hx hb dX9_reach_60 rfl (lv_at hl 3 rfl) ?_
          obtain ⟨h12, q⟩ := q
          refine g_iast hx hb hK hH hS 4 0 (by decide) Nat.zero_lt_one (by decide) 36 (fun _ => rfl) h12 dX9_reach_61 (fun H locs hH hS => ?_)
          obtain ⟨F13, eF13⟩ : ∃ z, z = fs F11 4 0 p3.toNatClampNeg p2 := ⟨_, rfl⟩
          have q := q F13 eF13
          rw [← eF13] at hH
          refine lv_iload_n hx hb dX9_reach_62 rfl (lv_at hl 4 rfl) ?_
          refine lv_iconst (v := 1) hx hb dX9_reach_63 (by decide) ?_
          refine lv_iadd hx hb dX9_reach_64 ?_
          exact (W.iret (v := (p3 + 1)) hx hb hr (fun t ht hW => ⟨⟨(p3 + 1), F13, rfl, q, gH_at ht hH⟩, hS.F ht⟩) hS.2.2 dX9_reach_65)
        · have q := (if_neg c8).mp q
          refine lv_iload_n hx hb dX9_reach_39 rfl (lv_at hl 4 rfl) ?_
          exact (W.iret (v := p3) hx hb hr (fun t ht hW => ⟨⟨p3, F2, rfl, q, gH_at ht hH⟩, hS.F ht⟩) hS.2.2 dX9_reach_40)
def P_X3_sealedOf_31  (k2 : GF → Int32 → Int32 → Prop) (K : Int32 → GF → Prop) (F : GF) (x1 : Int32) (x2 : Int32) : Prop := k2 F x1 (x2 + 1)
def P_X3_sealedOf_2  (K : Int32 → GF → Prop) : Nat → GF → Int32 → Int32 → Prop
  | 0, _, _, _ => False
  | n + 1, F, x1, x2 => if (F 16 0 3) ≤ x2 then (K (-1) F) else (vp_in x2 60 ∧ (if (F 17 0 x2.toNatClampNeg) = x1 then (vp_in x2 60 ∧ (if (F 19 0 x2.toNatClampNeg) = 0 then (K x2 F) else (P_X3_sealedOf_31 (P_X3_sealedOf_2 K n) K F x1 x2))) else (P_X3_sealedOf_31 (P_X3_sealedOf_2 K n) K F x1 x2)))
def P_X3_sealedOf (F : GF) (p1 : Int32) (K : Int32 → GF → Prop) : Prop := (∃ n : Nat, P_X3_sealedOf_2 K n F p1 0)
abbrev rm_X3_sealedOf : Room := { frames := 0, cells := 0, slots := 0, locals := 0 }
abbrev q_X3_sealedOf (G : GP) (ad : Nat → Nat → Nat) (K : Int32 → GF → Prop) (below : List Frame) (args : Array Value) (s : State) : State → Prop := MQ below (gQi G ad K) args s 0 0 (gA G)
set_option maxHeartbeats 4000000 in
set_option maxRecDepth 100000 in
theorem c_X3_sealedOf (l : Launch) (G : GP) (ad : Nat → Nat → Nat) (F : GF) (p1 : Int32) (K : Int32 → GF → Prop) : Met l yX3_sealedOf wsX3_sealedOf rm_X3_sealedOf (va_Pc [.ref (ad 16 0), .int p1] (fun U => gD G ad F U ∧ P_X3_sealedOf F p1 K)) (gQi G ad K) 0 0 (gA G) := by
  refine Met.ofW (cc := cX3_sealedOf) (maxL := 3) (ret := (some .int)) (by decide) rfl ?_
  intro p e s m args below meth c s₁ Bd hml hv
  obtain ⟨rfl, ⟨hK, hG, hB, hH⟩, q⟩ := hv
  have hx := Bd.exec
  have hb := Bd.bytes
  have hr := Bd.returns
  have hts := atoms_spec (ws := wsX3_sealedOf) Bd.pre
  have hown : s.vm.findClass RX3 = some m.cls := findClass_of_methodNamed Bd.named
  have hlocks := Bd.notSynchronized
  have hS : va_S (gA G) s.heap s.heap [] := va_S.rf
  have hl := lv_entry [.ref (ad 16 0), .int p1] (n := 3) (Nat.le_of_ble_eq_true rfl)
  rw [lg_entry_eq]
  generalize (lg_sl [.ref (ad 16 0), .int p1] ++ List.replicate (3 - (lg_sl [.ref (ad 16 0), .int p1]).length) Slot.unset).toArray = ls at hl ⊢
  have hl : lv_has ls 3 [(0, .ref (ad 16 0)), (1, .int p1)] := hl
  show W p l e rm_X3_sealedOf s m ([.ref (ad 16 0), .int p1] : List Value).toArray below meth c s.heap [] 0 0 (q_X3_sealedOf G ad K below ([.ref (ad 16 0), .int p1] : List Value).toArray s) _
  have t_31 : ∀ (k2 : GF → Int32 → Int32 → Prop), (∀ (F : GF) (x1 : Int32) (x2 : Int32) (H : Heap) (locs : List Loc) (ls : Array Slot), gH G ad F H → va_S (gA G) s.heap H locs → lv_has ls 3 [(0, .ref (ad 16 0)), (1, .int x1), (2, .int x2)] → k2 F x1 x2 → W p l e rm_X3_sealedOf s m ([.ref (ad 16 0), .int p1] : List Value).toArray below meth c H locs 0 0 (q_X3_sealedOf G ad K below ([.ref (ad 16 0), .int p1] : List Value).toArray s) (F0 m 2 ls [])) → ∀ (F : GF) (x1 : Int32) (x2 : Int32) (H : Heap) (locs : List Loc) (ls : Array Slot), gH G ad F H → va_S (gA G) s.heap H locs → lv_has ls 3 [(0, .ref (ad 16 0)), (1, .int x1), (2, .int x2)] → (P_X3_sealedOf_31 k2 K) F x1 x2 → W p l e rm_X3_sealedOf s m ([.ref (ad 16 0), .int p1] : List Value).toArray below meth c H locs 0 0 (q_X3_sealedOf G ad K below ([.ref (ad 16 0), .int p1] : List Value).toArray s) (F0 m 31 ls []) := by
    intro k2 hk2 F x1 x2 H locs ls hH hS hl q
    unfold P_X3_sealedOf_31 at q
    refine lv_iinc (v := x2 + 1) (lv' := [(2, .int (x2 + 1)), (0, .ref (ad 16 0)), (1, .int x1)]) hx hb dX3_sealedOf_31 hl (k := 2) rfl rfl (by decide) rfl (fun ls hl => ?_)
    refine lv_goto (tgt := 2) hx hb dX3_sealedOf_34 (by decide) ?_
    exact hk2 F x1 (x2 + 1) _ _ _ hH hS (lv_sub hl [1, 2, 0] rfl) q
  have t_2 : ∀ n : Nat, ∀ (F : GF) (x1 : Int32) (x2 : Int32) (H : Heap) (locs : List Loc) (ls : Array Slot), gH G ad F H → va_S (gA G) s.heap H locs → lv_has ls 3 [(0, .ref (ad 16 0)), (1, .int x1), (2, .int x2)] → (P_X3_sealedOf_2 K n) F x1 x2 → W p l e rm_X3_sealedOf s m ([.ref (ad 16 0), .int p1] : List Value).toArray below meth c H locs 0 0 (q_X3_sealedOf G ad K below ([.ref (ad 16 0), .int p1] : List Value).toArray s) (F0 m 2 ls []) := by
    intro n
    induction n with
    | zero =>
      intro F x1 x2 H locs ls hH hS hl q
      exact False.elim q
    | succ n ih =>
      intro F x1 x2 H locs ls hH hS hl q
      rw [P_X3_sealedOf_2] at q
      refine lv_iload_n hx hb dX3_sealedOf_2 rfl (lv_at hl 2 rfl) ?_
      refine lv_aload_n hx hb dX3_sealedOf_3 rfl (lv_at hl 0 rfl) ?_
      refine g_get (ci := 7) (v := .int (F 16 0 3)) (C := RX3) (T := TX3) (N := 4) hx hb hts (fun _ h => (List.mem_cons_of_mem _ (List.mem_append_left _ (List.mem_append_right _ h)))) hown hK hH 16 0 (by decide) Nat.zero_lt_one rfl rfl 3 (by decide) (hts (.fieldLink RX3 21 "BallotFoundry$Envelopes" "size" "I") (List.mem_of_getElem? (i := 1) rfl)) (fun _ h => h) rfl dX3_sealedOf_4 ?_
      refine lv_icmp_ge (tgt := 37) hx hb dX3_sealedOf_7 (by decide) (fun c1 => ?_) (fun c1 => ?_)
      · have q := (if_pos c1).mp q
        refine lv_iconst (v := (-1)) hx hb dX3_sealedOf_37 (by decide) ?_
        exact (W.iret (v := (-1)) hx hb hr (fun t ht hW => ⟨⟨(-1), F, rfl, q, gH_at ht hH⟩, hS.F ht⟩) hS.2.2 dX3_sealedOf_38)
      · have q := (if_neg c1).mp q
        refine lv_aload_n hx hb dX3_sealedOf_10 rfl (lv_at hl 0 rfl) ?_
        refine g_get (ci := 7) (v := .ref (ad 17 0)) (C := RX3) (T := TX3) (N := 4) hx hb hts (fun _ h => (List.mem_cons_of_mem _ (List.mem_append_left _ (List.mem_append_right _ h)))) hown hK hH 16 0 (by decide) Nat.zero_lt_one rfl rfl 0 (by decide) (hts (.fieldLink RX3 9 "BallotFoundry$Envelopes" "people" "[I") (List.mem_of_getElem? (i := 2) rfl)) (fun _ h => h) rfl dX3_sealedOf_11 ?_
        refine lv_iload_n hx hb dX3_sealedOf_14 rfl (lv_at hl 2 rfl) ?_
        obtain ⟨h2, q⟩ := q
        refine g_iald hx hb hK hH 17 0 (by decide) Nat.zero_lt_one 60 rfl h2 dX3_sealedOf_15 ?_
        refine lv_iload_n hx hb dX3_sealedOf_16 rfl (lv_at hl 1 rfl) ?_
        refine lv_icmp_ne (tgt := 31) hx hb dX3_sealedOf_17 (by decide) (fun c3 => ?_) (fun c3 => ?_)
        · have q := (if_neg c3).mp q
          exact t_31 (P_X3_sealedOf_2 K n) ih F x1 x2 _ _ _ hH hS (lv_sub hl [0, 1, 2] rfl) q
        · have q := (if_pos c3).mp q
          refine lv_aload_n hx hb dX3_sealedOf_20 rfl (lv_at hl 0 rfl) ?_
          refine g_get (ci := 7) (v := .ref (ad 19 0)) (C := RX3) (T := TX3) (N := 4) hx hb hts (fun _ h => (List.mem_cons_of_mem _ (List.mem_append_left _ (List.mem_append_right _ h)))) hown hK hH 16 0 (by decide) Nat.zero_lt_one rfl rfl 2 (by decide) (hts (.fieldLink RX3 18 "BallotFoundry$Envelopes" "states" "[I") (List.mem_of_getElem? (i := 3) rfl)) (fun _ h => h) rfl dX3_sealedOf_21 ?_
          refine lv_iload_n hx hb dX3_sealedOf_24 rfl (lv_at hl 2 rfl) ?_
          obtain ⟨h4, q⟩ := q
          refine g_iald hx hb hK hH 19 0 (by decide) Nat.zero_lt_one 60 rfl h4 dX3_sealedOf_25 ?_
          refine lv_if_ne (tgt := 31) hx hb dX3_sealedOf_26 (by decide) (fun c5 => ?_) (fun c5 => ?_)
          · have q := (if_neg c5).mp q
            exact t_31 (P_X3_sealedOf_2 K n) ih F x1 x2 _ _ _ hH hS (lv_sub hl [0, 1, 2] rfl) q
          · have q := (if_pos c5).mp q
            refine lv_iload_n hx hb dX3_sealedOf_29 rfl (lv_at hl 2 rfl) ?_
            exact (W.iret (v := x2) hx hb hr (fun t ht hW => ⟨⟨x2, F, rfl, q, gH_at ht hH⟩, hS.F ht⟩) hS.2.2 dX3_sealedOf_30)
  unfold P_X3_sealedOf at q
  refine lv_iconst (v := 0) hx hb dX3_sealedOf_0 (by decide) ?_
  refine lv_istore_n (lv' := [(2, .int 0), (0, .ref (ad 16 0)), (1, .int p1)]) hx hb dX3_sealedOf_1 rfl hl (by decide) rfl (fun ls hl => ?_)
  obtain ⟨n, q⟩ := q
  exact t_2 n F p1 0 _ _ _ hH hS (lv_sub hl [1, 2, 0] rfl) q
