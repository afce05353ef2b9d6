abbrev rm_X11_thrown : Room := { frames := 0, cells := 0, slots := 0, locals := 0 }
abbrev q_X11_thrown (G : GP) (ad : Nat → Nat → Nat) (K : Int32 → GF → Prop) (below : List Frame) (args : Array Value) (s : State) : State → Prop := MQ below (gQi G ad K) args s 0 0 (gA G)
set_option maxHeartbeats 4000000 in
set_option maxRecDepth 100000 in
theorem c_X11_thrown (l : Launch) (G : GP) (ad : Nat → Nat → Nat) (F : GF) (K : Int32 → GF → Prop) : Met l yX11_thrown wsX11_thrown rm_X11_thrown (va_Pc [.ref (ad 40 0)] (fun U => gD G ad F U ∧ P_X11_thrown F K)) (gQi G ad K) 0 0 (gA G) := by
  refine Met.ofW (cc := cX11_thrown) (maxL := 1) (ret := (some .int)) (by decide) rfl ?_
  intro p e s m args below meth c s₁ Bd hml hv
  obtain ⟨rfl, ⟨hK, hG, hB, hH⟩, q⟩ := hv
  have hx := Bd.exec
  have hb := Bd.bytes
  have hr := Bd.returns
  have hts := atoms_spec (ws := wsX11_thrown) Bd.pre
  have hown : s.vm.findClass RX11 = some m.cls := findClass_of_methodNamed Bd.named
  have hlocks := Bd.notSynchronized
  have hS : va_S (gA G) s.heap s.heap [] := va_S.rf
  have hl := lv_entry [.ref (ad 40 0)] (n := 1) (Nat.le_of_ble_eq_true rfl)
  rw [lg_entry_eq]
  generalize (lg_sl [.ref (ad 40 0)] ++ List.replicate (1 - (lg_sl [.ref (ad 40 0)]).length) Slot.unset).toArray = ls at hl ⊢
  have hl : lv_has ls 1 [(0, .ref (ad 40 0))] := hl
  unfold P_X11_thrown at q
  refine lv_aload_n hx hb dX11_thrown_0 rfl (lv_at hl 0 rfl) ?_
  refine g_get (ci := 15) (v := .int (F 40 0 43)) (C := RX11) (T := TX11) (N := 44) hx hb hts (fun _ h => (List.mem_cons_of_mem _ (List.mem_append_right _ h))) hown hK hH 40 0 (by decide) Nat.zero_lt_one rfl rfl 43 (by decide) (hts (.fieldLink RX11 108 "BallotFoundryModel" "thrown" "I") (List.mem_of_getElem? (i := 1) rfl)) (fun _ h => h) rfl dX11_thrown_1 ?_
  exact (W.iret (v := (F 40 0 43)) hx hb hr (fun t ht hW => ⟨⟨(F 40 0 43), F, rfl, q, gH_at ht hH⟩, hS.F ht⟩) hS.2.2 dX11_thrown_4)
abbrev rm_X11_in : Room := { frames := 0, cells := 0, slots := 0, locals := 0 }
abbrev q_X11_in (G : GP) (ad : Nat → Nat → Nat) (K : Int32 → GF → Prop) (below : List Frame) (args : Array Value) (s : State) : State → Prop := MQ below (gQi G ad K) args s 0 0 (gA G)
set_option maxHeartbeats 4000000 in
set_option maxRecDepth 100000 in
theorem c_X11_in (l : Launch) (G : GP) (ad : Nat → Nat → Nat) (F : GF) (p0 : Int32) (p1 : Int32) (p2 : Int32) (K : Int32 → GF → Prop) : Met l yX11_in wsX11_in rm_X11_in (va_Pc [.int p0, .int p1, .int p2] (fun U => gD G ad F U ∧ P_X11_in F p0 p1 p2 K)) (gQi G ad K) 0 0 (gA G) := by
  refine Met.ofW (cc := cX11_in) (maxL := 3) (ret := (some .boolean)) (by decide) rfl ?_
  intro p e s m args below meth c s₁ Bd hml hv
  obtain ⟨rfl, ⟨hK, hG, hB, hH⟩, q⟩ := hv
  have hx := Bd.exec
  have hb := Bd.bytes
  have hr := Bd.returns
  have hts := atoms_spec (ws := wsX11_in) Bd.pre
  have hown : s.vm.findClass RX11 = some m.cls := findClass_of_methodNamed Bd.named
  have hlocks := Bd.notSynchronized
  have hS : va_S (gA G) s.heap s.heap [] := va_S.rf
  have hl := lv_entry [.int p0, .int p1, .int p2] (n := 3) (Nat.le_of_ble_eq_true rfl)
  rw [lg_entry_eq]
  generalize (lg_sl [.int p0, .int p1, .int p2] ++ List.replicate (3 - (lg_sl [.int p0, .int p1, .int p2]).length) Slot.unset).toArray = ls at hl ⊢
  have hl : lv_has ls 3 [(0, .int p0), (1, .int p1), (2, .int p2)] := hl
  unfold P_X11_in at q
  refine lv_iload_n hx hb dX11_in_0 rfl (lv_at hl 0 rfl) ?_
  refine lv_iload_n hx hb dX11_in_1 rfl (lv_at hl 1 rfl) ?_
  refine lv_icmp_lt (tgt := 14) hx hb dX11_in_2 (by decide) (fun c1 => ?_) (fun c1 => ?_)
  · have q := (if_pos c1).mp q
    refine lv_iconst (v := 0) hx hb dX11_in_14 (by decide) ?_
    exact (W.zret (v := 0) hx hb hr rfl (fun t ht hW => ⟨⟨0, F, rfl, q, gH_at ht hH⟩, hS.F ht⟩) hS.2.2 dX11_in_15)
  · have q := (if_neg c1).mp q
    refine lv_iload_n hx hb dX11_in_5 rfl (lv_at hl 0 rfl) ?_
    refine lv_iload_n hx hb dX11_in_6 rfl (lv_at hl 2 rfl) ?_
    refine lv_icmp_gt (tgt := 14) hx hb dX11_in_7 (by decide) (fun c2 => ?_) (fun c2 => ?_)
    · have q := (if_pos c2).mp q
      refine lv_iconst (v := 0) hx hb dX11_in_14 (by decide) ?_
      exact (W.zret (v := 0) hx hb hr rfl (fun t ht hW => ⟨⟨0, F, rfl, q, gH_at ht hH⟩, hS.F ht⟩) hS.2.2 dX11_in_15)
    · have q := (if_neg c2).mp q
      refine lv_iconst (v := 1) hx hb dX11_in_10 (by decide) ?_
      refine lv_goto (tgt := 15) hx hb dX11_in_11 (by decide) ?_
      exact (W.zret (v := 1) hx hb hr rfl (fun t ht hW => ⟨⟨1, F, rfl, q, gH_at ht hH⟩, hS.F ht⟩) hS.2.2 dX11_in_15)
abbrev rm_X11_asked : Room := { frames := 0, cells := 0, slots := 0, locals := 0 }
abbrev q_X11_asked (G : GP) (ad : Nat → Nat → Nat) (K : Int32 → GF → Prop) (below : List Frame) (args : Array Value) (s : State) : State → Prop := MQ below (gQi G ad K) args s 0 0 (gA G)
set_option maxHeartbeats 4000000 in
set_option maxRecDepth 100000 in
theorem c_X11_asked (l : Launch) (G : GP) (ad : Nat → Nat → Nat) (F : GF) (p1 : Int32) (K : Int32 → GF → Prop) : Met l yX11_asked wsX11_asked rm_X11_asked (va_Pc [.ref (ad 40 0), .int p1] (fun U => gD G ad F U ∧ P_X11_asked F p1 K)) (gQi G ad K) 0 0 (gA G) := by
  refine Met.ofW (cc := cX11_asked) (maxL := 2) (ret := (some .boolean)) (by decide) rfl ?_
  intro p e s m args below meth c s₁ Bd hml hv
  obtain ⟨rfl, ⟨hK, hG, hB, hH⟩, q⟩ := hv
  have hx := Bd.exec
  have hb := Bd.bytes
  have hr := Bd.returns
  have hts := atoms_spec (ws := wsX11_asked) Bd.pre
  have hown : s.vm.findClass RX11 = some m.cls := findClass_of_methodNamed Bd.named
  have hlocks := Bd.notSynchronized
  have hS : va_S (gA G) s.heap s.heap [] := va_S.rf
  have hl := lv_entry [.ref (ad 40 0), .int p1] (n := 2) (Nat.le_of_ble_eq_true rfl)
  rw [lg_entry_eq]
  generalize (lg_sl [.ref (ad 40 0), .int p1] ++ List.replicate (2 - (lg_sl [.ref (ad 40 0), .int p1]).length) Slot.unset).toArray = ls at hl ⊢
  have hl : lv_has ls 2 [(0, .ref (ad 40 0)), (1, .int p1)] := hl
  show W p l e rm_X11_asked s m ([.ref (ad 40 0), .int p1] : List Value).toArray below meth c s.heap [] 0 0 (q_X11_asked G ad K below ([.ref (ad 40 0), .int p1] : List Value).toArray s) _
  have t_10 : ∀ (F : GF) (x1 : Int32) (s1 : Int32) (H : Heap) (locs : List Loc) (ls : Array Slot), gH G ad F H → va_S (gA G) s.heap H locs → lv_has ls 2 [(1, .int x1)] → (P_X11_asked_10 K) F x1 s1 → W p l e rm_X11_asked s m ([.ref (ad 40 0), .int p1] : List Value).toArray below meth c H locs 0 0 (q_X11_asked G ad K below ([.ref (ad 40 0), .int p1] : List Value).toArray s) (F0 m 10 ls [.int s1, .ref (ad 40 0)]) := by
    intro F x1 s1 H locs ls hH hS hl q
    unfold P_X11_asked_10 at q
    refine g_put (ci := 15) (v := .int s1) (C := RX11) (T := TX11) (N := 44) hx hb hts (fun _ h => (List.mem_cons_of_mem _ (List.mem_append_right _ h))) tyX11 tyX11_ok nmX11 hown hK hH hS 40 0 (by decide) Nat.zero_lt_one (by decide) rfl rfl 43 (by decide) (hts (.fieldLink RX11 108 "BallotFoundryModel" "thrown" "I") (List.mem_of_getElem? (i := 1) rfl)) (fun _ h => h) rfl (ty := .int) (by decide +kernel) rfl rfl (Nat.le_of_ble_eq_true rfl) s1 rfl dX11_asked_10 (fun H locs hH hS => ?_)
    obtain ⟨F2, eF2⟩ : ∃ z, z = fs F 40 0 43 s1 := ⟨_, rfl⟩
    have q := q F2 eF2
    rw [← eF2] at hH
    refine lv_iload_n hx hb dX11_asked_13 rfl (lv_at hl 0 rfl) ?_
    obtain ⟨h3, q⟩ := q
    exact (W.zret (v := x1) hx hb hr (gz_nar h3) (fun t ht hW => ⟨⟨x1, F2, rfl, q, gH_at ht hH⟩, hS.F ht⟩) hS.2.2 dX11_asked_14)
  unfold P_X11_asked at q
  refine lv_aload_n hx hb dX11_asked_0 rfl (lv_at hl 0 rfl) ?_
  refine lv_iload_n hx hb dX11_asked_1 rfl (lv_at hl 1 rfl) ?_
  refine lv_if_eq (tgt := 9) hx hb dX11_asked_2 (by decide) (fun c1 => ?_) (fun c1 => ?_)
  · have q := (if_pos c1).mp q
    refine lv_iconst (v := 1) hx hb dX11_asked_9 (by decide) ?_
    exact t_10 F p1 1 _ _ _ hH hS (lv_sub hl [1] rfl) q
  · have q := (if_neg c1).mp q
    refine lv_iconst (v := 0) hx hb dX11_asked_5 (by decide) ?_
    refine lv_goto (tgt := 10) hx hb dX11_asked_6 (by decide) ?_
    exact t_10 F p1 0 _ _ _ hH hS (lv_sub hl [1] rfl) q
abbrev rm_X11_asked_ : Room := { frames := 0, cells := 0, slots := 0, locals := 0 }
abbrev q_X11_asked_ (G : GP) (ad : Nat → Nat → Nat) (K : Int32 → GF → Prop) (below : List Frame) (args : Array Value) (s : State) : State → Prop := MQ below (gQi G ad K) args s 0 0 (gA G)
set_option maxHeartbeats 4000000 in
set_option maxRecDepth 100000 in
theorem c_X11_asked_ (l : Launch) (G : GP) (ad : Nat → Nat → Nat) (F : GF) (p1 : Int32) (p2 : Int32) (K : Int32 → GF → Prop) : Met l yX11_asked_ wsX11_asked_ rm_X11_asked_ (va_Pc [.ref (ad 40 0), .int p1, .int p2] (fun U => gD G ad F U ∧ P_X11_asked_ F p1 p2 K)) (gQi G ad K) 0 0 (gA G) := by
  refine Met.ofW (cc := cX11_asked_) (maxL := 3) (ret := (some .boolean)) (by decide) rfl ?_
  intro p e s m args below meth c s₁ Bd hml hv
  obtain ⟨rfl, ⟨hK, hG, hB, hH⟩, q⟩ := hv
  have hx := Bd.exec
  have hb := Bd.bytes
  have hr := Bd.returns
  have hts := atoms_spec (ws := wsX11_asked_) Bd.pre
  have hown : s.vm.findClass RX11 = some m.cls := findClass_of_methodNamed Bd.named
  have hlocks := Bd.notSynchronized
  have hS : va_S (gA G) s.heap s.heap [] := va_S.rf
  have hl := lv_entry [.ref (ad 40 0), .int p1, .int p2] (n := 3) (Nat.le_of_ble_eq_true rfl)
  rw [lg_entry_eq]
  generalize (lg_sl [.ref (ad 40 0), .int p1, .int p2] ++ List.replicate (3 - (lg_sl [.ref (ad 40 0), .int p1, .int p2]).length) Slot.unset).toArray = ls at hl ⊢
  have hl : lv_has ls 3 [(0, .ref (ad 40 0)), (1, .int p1), (2, .int p2)] := hl
  show W p l e rm_X11_asked_ s m ([.ref (ad 40 0), .int p1, .int p2] : List Value).toArray below meth c s.heap [] 0 0 (q_X11_asked_ G ad K below ([.ref (ad 40 0), .int p1, .int p2] : List Value).toArray s) _
  have t_18 : ∀ (F : GF) (s1 : Int32) (H : Heap) (locs : List Loc) (ls : Array Slot), gH G ad F H → va_S (gA G) s.heap H locs → lv_has ls 3 [(0, .ref (ad 40 0))] → (P_X11_asked__18 K) F s1 → W p l e rm_X11_asked_ s m ([.ref (ad 40 0), .int p1, .int p2] : List Value).toArray below meth c H locs 0 0 (q_X11_asked_ G ad K below ([.ref (ad 40 0), .int p1, .int p2] : List Value).toArray s) (F0 m 18 ls [.int s1, .ref (ad 40 0)]) := by
    intro F s1 H locs ls hH hS hl q
    unfold P_X11_asked__18 at q
    refine g_put (ci := 15) (v := .int s1) (C := RX11) (T := TX11) (N := 44) hx hb hts (fun _ h => (List.mem_cons_of_mem _ (List.mem_append_right _ h))) tyX11 tyX11_ok nmX11 hown hK hH hS 40 0 (by decide) Nat.zero_lt_one (by decide) rfl rfl 43 (by decide) (hts (.fieldLink RX11 108 "BallotFoundryModel" "thrown" "I") (List.mem_of_getElem? (i := 1) rfl)) (fun _ h => h) rfl (ty := .int) (by decide +kernel) rfl rfl (Nat.le_of_ble_eq_true rfl) s1 rfl dX11_asked__18 (fun H locs hH hS => ?_)
    obtain ⟨F3, eF3⟩ : ∃ z, z = fs F 40 0 43 s1 := ⟨_, rfl⟩
    have q := q F3 eF3
    rw [← eF3] at hH
    refine lv_aload_n hx hb dX11_asked__21 rfl (lv_at hl 0 rfl) ?_
    refine g_get (ci := 15) (v := .int (F3 40 0 43)) (C := RX11) (T := TX11) (N := 44) hx hb hts (fun _ h => (List.mem_cons_of_mem _ (List.mem_append_right _ h))) hown hK hH 40 0 (by decide) Nat.zero_lt_one rfl rfl 43 (by decide) (hts (.fieldLink RX11 108 "BallotFoundryModel" "thrown" "I") (List.mem_of_getElem? (i := 1) rfl)) (fun _ h => h) rfl dX11_asked__22 ?_
    refine lv_if_ne (tgt := 32) hx hb dX11_asked__25 (by decide) (fun c4 => ?_) (fun c4 => ?_)
    · have q := (if_neg c4).mp q
      refine lv_iconst (v := 0) hx hb dX11_asked__32 (by decide) ?_
      exact (W.zret (v := 0) hx hb hr rfl (fun t ht hW => ⟨⟨0, F3, rfl, q, gH_at ht hH⟩, hS.F ht⟩) hS.2.2 dX11_asked__33)
    · have q := (if_pos c4).mp q
      refine lv_iconst (v := 1) hx hb dX11_asked__28 (by decide) ?_
      refine lv_goto (tgt := 33) hx hb dX11_asked__29 (by decide) ?_
      exact (W.zret (v := 1) hx hb hr rfl (fun t ht hW => ⟨⟨1, F3, rfl, q, gH_at ht hH⟩, hS.F ht⟩) hS.2.2 dX11_asked__33)
  unfold P_X11_asked_ at q
  refine lv_aload_n hx hb dX11_asked__0 rfl (lv_at hl 0 rfl) ?_
  refine lv_iload_n hx hb dX11_asked__1 rfl (lv_at hl 1 rfl) ?_
  refine lv_if_ne (tgt := 9) hx hb dX11_asked__2 (by decide) (fun c1 => ?_) (fun c1 => ?_)
  · have q := (if_neg c1).mp q
    refine lv_iload_n hx hb dX11_asked__9 rfl (lv_at hl 2 rfl) ?_
    refine lv_if_eq (tgt := 17) hx hb dX11_asked__10 (by decide) (fun c2 => ?_) (fun c2 => ?_)
    · have q := (if_pos c2).mp q
      refine lv_iconst (v := 2) hx hb dX11_asked__17 (by decide) ?_
      exact t_18 F 2 _ _ _ hH hS (lv_sub hl [0] rfl) q
    · have q := (if_neg c2).mp q
      refine lv_iconst (v := 0) hx hb dX11_asked__13 (by decide) ?_
      refine lv_goto (tgt := 18) hx hb dX11_asked__14 (by decide) ?_
      exact t_18 F 0 _ _ _ hH hS (lv_sub hl [0] rfl) q
  · have q := (if_pos c1).mp q
    refine lv_iconst (v := 1) hx hb dX11_asked__5 (by decide) ?_
    refine lv_goto (tgt := 18) hx hb dX11_asked__6 (by decide) ?_
    exact t_18 F 1 _ _ _ hH hS (lv_sub hl [0] rfl) q
abbrev rm_X11_asked__ : Room := { frames := 0, cells := 0, slots := 0, locals := 0 }
abbrev q_X11_asked__ (G : GP) (ad : Nat → Nat → Nat) (K : Int32 → GF → Prop) (below : List Frame) (args : Array Value) (s : State) : State → Prop := MQ below (gQi G ad K) args s 0 0 (gA G)
set_option maxHeartbeats 4000000 in
set_option maxRecDepth 100000 in
theorem c_X11_asked__ (l : Launch) (G : GP) (ad : Nat → Nat → Nat) (F : GF) (p1 : Int32) (p2 : Int32) (p3 : Int32) (K : Int32 → GF → Prop) : Met l yX11_asked__ wsX11_asked__ rm_X11_asked__ (va_Pc [.ref (ad 40 0), .int p1, .int p2, .int p3] (fun U => gD G ad F U ∧ P_X11_asked__ F p1 p2 p3 K)) (gQi G ad K) 0 0 (gA G) := by
  refine Met.ofW (cc := cX11_asked__) (maxL := 4) (ret := (some .boolean)) (by decide) rfl ?_
  intro p e s m args below meth c s₁ Bd hml hv
  obtain ⟨rfl, ⟨hK, hG, hB, hH⟩, q⟩ := hv
  have hx := Bd.exec
  have hb := Bd.bytes
  have hr := Bd.returns
  have hts := atoms_spec (ws := wsX11_asked__) Bd.pre
  have hown : s.vm.findClass RX11 = some m.cls := findClass_of_methodNamed Bd.named
  have hlocks := Bd.notSynchronized
  have hS : va_S (gA G) s.heap s.heap [] := va_S.rf
  have hl := lv_entry [.ref (ad 40 0), .int p1, .int p2, .int p3] (n := 4) (Nat.le_of_ble_eq_true rfl)
  rw [lg_entry_eq]
  generalize (lg_sl [.ref (ad 40 0), .int p1, .int p2, .int p3] ++ List.replicate (4 - (lg_sl [.ref (ad 40 0), .int p1, .int p2, .int p3]).length) Slot.unset).toArray = ls at hl ⊢
  have hl : lv_has ls 4 [(0, .ref (ad 40 0)), (1, .int p1), (2, .int p2), (3, .int p3)] := hl
  show W p l e rm_X11_asked__ s m ([.ref (ad 40 0), .int p1, .int p2, .int p3] : List Value).toArray below meth c s.heap [] 0 0 (q_X11_asked__ G ad K below ([.ref (ad 40 0), .int p1, .int p2, .int p3] : List Value).toArray s) _
  have t_26 : ∀ (F : GF) (s1 : Int32) (H : Heap) (locs : List Loc) (ls : Array Slot), gH G ad F H → va_S (gA G) s.heap H locs → lv_has ls 4 [(0, .ref (ad 40 0))] → (P_X11_asked___26 K) F s1 → W p l e rm_X11_asked__ s m ([.ref (ad 40 0), .int p1, .int p2, .int p3] : List Value).toArray below meth c H locs 0 0 (q_X11_asked__ G ad K below ([.ref (ad 40 0), .int p1, .int p2, .int p3] : List Value).toArray s) (F0 m 26 ls [.int s1, .ref (ad 40 0)]) := by
    intro F s1 H locs ls hH hS hl q
    unfold P_X11_asked___26 at q
    refine g_put (ci := 15) (v := .int s1) (C := RX11) (T := TX11) (N := 44) hx hb hts (fun _ h => (List.mem_cons_of_mem _ (List.mem_append_right _ h))) tyX11 tyX11_ok nmX11 hown hK hH hS 40 0 (by decide) Nat.zero_lt_one (by decide) rfl rfl 43 (by decide) (hts (.fieldLink RX11 108 "BallotFoundryModel" "thrown" "I") (List.mem_of_getElem? (i := 1) rfl)) (fun _ h => h) rfl (ty := .int) (by decide +kernel) rfl rfl (Nat.le_of_ble_eq_true rfl) s1 rfl dX11_asked___26 (fun H locs hH hS => ?_)
    obtain ⟨F4, eF4⟩ : ∃ z, z = fs F 40 0 43 s1 := ⟨_, rfl⟩
    have q := q F4 eF4
    rw [← eF4] at hH
    refine lv_aload_n hx hb dX11_asked___29 rfl (lv_at hl 0 rfl) ?_
    refine g_get (ci := 15) (v := .int (F4 40 0 43)) (C := RX11) (T := TX11) (N := 44) hx hb hts (fun _ h => (List.mem_cons_of_mem _ (List.mem_append_right _ h))) hown hK hH 40 0 (by decide) Nat.zero_lt_one rfl rfl 43 (by decide) (hts (.fieldLink RX11 108 "BallotFoundryModel" "thrown" "I") (List.mem_of_getElem? (i := 1) rfl)) (fun _ h => h) rfl dX11_asked___30 ?_
    refine lv_if_ne (tgt := 40) hx hb dX11_asked___33 (by decide) (fun c5 => ?_) (fun c5 => ?_)
    · have q := (if_neg c5).mp q
      refine lv_iconst (v := 0) hx hb dX11_asked___40 (by decide) ?_
      exact (W.zret (v := 0) hx hb hr rfl (fun t ht hW => ⟨⟨0, F4, rfl, q, gH_at ht hH⟩, hS.F ht⟩) hS.2.2 dX11_asked___41)
    · have q := (if_pos c5).mp q
      refine lv_iconst (v := 1) hx hb dX11_asked___36 (by decide) ?_
      refine lv_goto (tgt := 41) hx hb dX11_asked___37 (by decide) ?_
      exact (W.zret (v := 1) hx hb hr rfl (fun t ht hW => ⟨⟨1, F4, rfl, q, gH_at ht hH⟩, hS.F ht⟩) hS.2.2 dX11_asked___41)
  unfold P_X11_asked__ at q
  refine lv_aload_n hx hb dX11_asked___0 rfl (lv_at hl 0 rfl) ?_
  refine lv_iload_n hx hb dX11_asked___1 rfl (lv_at hl 1 rfl) ?_
  refine lv_if_ne (tgt := 9) hx hb dX11_asked___2 (by decide) (fun c1 => ?_) (fun c1 => ?_)
  · have q := (if_neg c1).mp q
    refine lv_iload_n hx hb dX11_asked___9 rfl (lv_at hl 2 rfl) ?_
    refine lv_if_ne (tgt := 17) hx hb dX11_asked___10 (by decide) (fun c2 => ?_) (fun c2 => ?_)
    · have q := (if_neg c2).mp q
      refine lv_iload_n hx hb dX11_asked___17 rfl (lv_at hl 3 rfl) ?_
      refine lv_if_eq (tgt := 25) hx hb dX11_asked___18 (by decide) (fun c3 => ?_) (fun c3 => ?_)
      · have q := (if_pos c3).mp q
        refine lv_iconst (v := 3) hx hb dX11_asked___25 (by decide) ?_
        exact t_26 F 3 _ _ _ hH hS (lv_sub hl [0] rfl) q
      · have q := (if_neg c3).mp q
        refine lv_iconst (v := 0) hx hb dX11_asked___21 (by decide) ?_
        refine lv_goto (tgt := 26) hx hb dX11_asked___22 (by decide) ?_
        exact t_26 F 0 _ _ _ hH hS (lv_sub hl [0] rfl) q
    · have q := (if_pos c2).mp q
      refine lv_iconst (v := 2) hx hb dX11_asked___13 (by decide) ?_
      refine lv_goto (tgt := 26) hx hb dX11_asked___14 (by decide) ?_
      exact t_26 F 2 _ _ _ hH hS (lv_sub hl [0] rfl) q
  · have q := (if_pos c1).mp q
    refine lv_iconst (v := 1) hx hb dX11_asked___5 (by decide) ?_
    refine lv_goto (tgt := 26) hx hb dX11_asked___6 (by decide) ?_
    exact t_26 F 1 _ _ _ hH hS (lv_sub hl [0] rfl) q
abbrev rm_X11_told : Room := { frames := 0, cells := 0, slots := 0, locals := 0 }
abbrev q_X11_told (G : GP) (ad : Nat → Nat → Nat) (K : Int32 → GF → Prop) (below : List Frame) (args : Array Value) (s : State) : State → Prop := MQ below (gQi G ad K) args s 0 0 (gA G)
set_option maxHeartbeats 4000000 in
set_option maxRecDepth 100000 in
theorem c_X11_told (l : Launch) (G : GP) (ad : Nat → Nat → Nat) (F : GF) (p1 : Int32) (K : Int32 → GF → Prop) : Met l yX11_told wsX11_told rm_X11_told (va_Pc [.ref (ad 40 0), .int p1] (fun U => gD G ad F U ∧ P_X11_told F p1 K)) (gQi G ad K) 0 0 (gA G) := by
  refine Met.ofW (cc := cX11_told) (maxL := 2) (ret := (some .int)) (by decide) rfl ?_
  intro p e s m args below meth c s₁ Bd hml hv
  obtain ⟨rfl, ⟨hK, hG, hB, hH⟩, q⟩ := hv
  have hx := Bd.exec
  have hb := Bd.bytes
  have hr := Bd.returns
  have hts := atoms_spec (ws := wsX11_told) Bd.pre
  have hown : s.vm.findClass RX11 = some m.cls := findClass_of_methodNamed Bd.named
  have hlocks := Bd.notSynchronized
  have hS : va_S (gA G) s.heap s.heap [] := va_S.rf
  have hl := lv_entry [.ref (ad 40 0), .int p1] (n := 2) (Nat.le_of_ble_eq_true rfl)
  rw [lg_entry_eq]
  generalize (lg_sl [.ref (ad 40 0), .int p1] ++ List.replicate (2 - (lg_sl [.ref (ad 40 0), .int p1]).length) Slot.unset).toArray = ls at hl ⊢
  have hl : lv_has ls 2 [(0, .ref (ad 40 0)), (1, .int p1)] := hl
  unfold P_X11_told at q
  refine lv_aload_n hx hb dX11_told_0 rfl (lv_at hl 0 rfl) ?_
  refine lv_iconst (v := 0) hx hb dX11_told_1 (by decide) ?_
  refine g_put (ci := 15) (v := .int 0) (C := RX11) (T := TX11) (N := 44) hx hb hts (fun _ h => (List.mem_cons_of_mem _ (List.mem_append_right _ h))) tyX11 tyX11_ok nmX11 hown hK hH hS 40 0 (by decide) Nat.zero_lt_one (by decide) rfl rfl 43 (by decide) (hts (.fieldLink RX11 108 "BallotFoundryModel" "thrown" "I") (List.mem_of_getElem? (i := 1) rfl)) (fun _ h => h) rfl (ty := .int) (by decide +kernel) rfl rfl (Nat.le_of_ble_eq_true rfl) 0 rfl dX11_told_2 (fun H locs hH hS => ?_)
  obtain ⟨F1, eF1⟩ : ∃ z, z = fs F 40 0 43 0 := ⟨_, rfl⟩
  have q := q F1 eF1
  rw [← eF1] at hH
  refine lv_iload_n hx hb dX11_told_5 rfl (lv_at hl 1 rfl) ?_
  exact (W.iret (v := p1) hx hb hr (fun t ht hW => ⟨⟨p1, F1, rfl, q, gH_at ht hH⟩, hS.F ht⟩) hS.2.2 dX11_told_6)
abbrev rm_X11_isCrossing : Room := { frames := 1, cells := 0, slots := 0, locals := 22 }
abbrev q_X11_isCrossing (G : GP) (ad : Nat → Nat → Nat) (K : Int32 → GF → Prop) (below : List Frame) (args : Array Value) (s : State) : State → Prop := MQ below (gQi G ad K) args s 0 0 (gA G)
set_option maxHeartbeats 4000000 in
set_option maxRecDepth 100000 in
theorem c_X11_isCrossing (l : Launch) (G : GP) (ad : Nat → Nat → Nat) (F : GF) (p0 : Int32) (K : Int32 → GF → Prop) : Met l yX11_isCrossing wsX11_isCrossing rm_X11_isCrossing (va_Pc [.int p0] (fun U => gD G ad F U ∧ P_X11_isCrossing F p0 K)) (gQi G ad K) 0 0 (gA G) := by
  refine Met.ofW (cc := cX11_isCrossing) (maxL := 1) (ret := (some .boolean)) (by decide) rfl ?_
  intro p e s m args below meth c s₁ Bd hml hv
  obtain ⟨rfl, ⟨hK, hG, hB, hH⟩, q⟩ := hv
  have hx := Bd.exec
  have hb := Bd.bytes
  have hr := Bd.returns
  have hts := atoms_spec (ws := wsX11_isCrossing) Bd.pre
  have hown : s.vm.findClass RX11 = some m.cls := findClass_of_methodNamed Bd.named
  have hlocks := Bd.notSynchronized
  have hS : va_S (gA G) s.heap s.heap [] := va_S.rf
  have hl := lv_entry [.int p0] (n := 1) (Nat.le_of_ble_eq_true rfl)
  rw [lg_entry_eq]
  generalize (lg_sl [.int p0] ++ List.replicate (1 - (lg_sl [.int p0]).length) Slot.unset).toArray = ls at hl ⊢
  have hl : lv_has ls 1 [(0, .int p0)] := hl
  unfold P_X11_isCrossing at q
  refine lv_iload_n hx hb dX11_isCrossing_0 rfl (lv_at hl 0 rfl) ?_
  refine lv_iconst (v := 0) hx hb dX11_isCrossing_1 (by decide) ?_
  refine lv_bipush (v := 35) hx hb dX11_isCrossing_2 (by decide) ?_
  refine va_calli (va_runS (As := [.int p0, .int 0, .int 35]) (rest := []) ⟨hx, hb, hml, hown, hts⟩ (c_X11_in l G ad F p0 0 35 _) (va_cwS 3 hts gX11_isCrossing_X11_in rfl rfl rfl (by decide +kernel) ⟨Nat.le_of_ble_eq_true rfl, Nat.le_of_ble_eq_true rfl⟩) ⟨fun a U g mk h => ⟨h.1, gD_blind h.2.1, h.2.2⟩, fun U hU hW => ⟨rfl, gD_at hK hG hB hH hS hU hW, q⟩⟩ rfl rfl hl.1 rfl (lv_room (Nat.le_of_ble_eq_true rfl)) dX11_isCrossing_4 ⟨Nat.le_of_ble_eq_true rfl, Nat.le_of_ble_eq_true rfl⟩) hS (fun _ _ h => h) (fun _ h => h) (fun r1 F2 t H locs ht hvm q hB1 hz hk hS => ?_)
  have hH : gH G ad F2 H := gH_to ht hB1
  obtain ⟨h3, q⟩ := q
  exact (W.zret (v := r1) hx hb hr (gz_nar h3) (fun t ht hW => ⟨⟨r1, F2, rfl, q, gH_at ht hH⟩, hS.F ht⟩) hS.2.2 dX11_isCrossing_7)
abbrev rm_X11_isStation : Room := { frames := 1, cells := 0, slots := 0, locals := 22 }
abbrev q_X11_isStation (G : GP) (ad : Nat → Nat → Nat) (K : Int32 → GF → Prop) (below : List Frame) (args : Array Value) (s : State) : State → Prop := MQ below (gQi G ad K) args s 0 0 (gA G)
set_option maxHeartbeats 4000000 in
set_option maxRecDepth 100000 in
theorem c_X11_isStation (l : Launch) (G : GP) (ad : Nat → Nat → Nat) (F : GF) (p1 : Int32) (K : Int32 → GF → Prop) : Met l yX11_isStation wsX11_isStation rm_X11_isStation (va_Pc [.ref (ad 40 0), .int p1] (fun U => gD G ad F U ∧ P_X11_isStation F p1 K)) (gQi G ad K) 0 0 (gA G) := by
  refine Met.ofW (cc := cX11_isStation) (maxL := 2) (ret := (some .boolean)) (by decide) rfl ?_
  intro p e s m args below meth c s₁ Bd hml hv
  obtain ⟨rfl, ⟨hK, hG, hB, hH⟩, q⟩ := hv
  have hx := Bd.exec
  have hb := Bd.bytes
  have hr := Bd.returns
  have hts := atoms_spec (ws := wsX11_isStation) Bd.pre
  have hown : s.vm.findClass RX11 = some m.cls := findClass_of_methodNamed Bd.named
  have hlocks := Bd.notSynchronized
  have hS : va_S (gA G) s.heap s.heap [] := va_S.rf
  have hl := lv_entry [.ref (ad 40 0), .int p1] (n := 2) (Nat.le_of_ble_eq_true rfl)
  rw [lg_entry_eq]
  generalize (lg_sl [.ref (ad 40 0), .int p1] ++ List.replicate (2 - (lg_sl [.ref (ad 40 0), .int p1]).length) Slot.unset).toArray = ls at hl ⊢
  have hl : lv_has ls 2 [(0, .ref (ad 40 0)), (1, .int p1)] := hl
  unfold P_X11_isStation at q
  refine lv_iload_n hx hb dX11_isStation_0 rfl (lv_at hl 1 rfl) ?_
  refine lv_iconst (v := 0) hx hb dX11_isStation_1 (by decide) ?_
  refine lv_aload_n hx hb dX11_isStation_2 rfl (lv_at hl 0 rfl) ?_
  refine g_get (ci := 15) (v := .int (F 40 0 6)) (C := RX11) (T := TX11) (N := 44) hx hb hts (fun _ h => (List.mem_cons_of_mem _ (List.mem_append_right _ h))) hown hK hH 40 0 (by decide) Nat.zero_lt_one rfl rfl 6 (by decide) (hts (.fieldLink RX11 115 "BallotFoundryModel" "stations" "I") (List.mem_of_getElem? (i := 1) rfl)) (fun _ h => h) rfl dX11_isStation_3 ?_
  refine lv_iconst (v := 1) hx hb dX11_isStation_6 (by decide) ?_
  refine lv_isub hx hb dX11_isStation_7 ?_
  refine va_calli (va_runS (As := [.int p1, .int 0, .int ((F 40 0 6) - 1)]) (rest := []) ⟨hx, hb, hml, hown, hts⟩ (c_X11_in l G ad F p1 0 ((F 40 0 6) - 1) _) (va_cwS 3 hts gX11_isStation_X11_in rfl rfl rfl (by decide +kernel) ⟨Nat.le_of_ble_eq_true rfl, Nat.le_of_ble_eq_true rfl⟩) ⟨fun a U g mk h => ⟨h.1, gD_blind h.2.1, h.2.2⟩, fun U hU hW => ⟨rfl, gD_at hK hG hB hH hS hU hW, q⟩⟩ rfl rfl hl.1 rfl (lv_room (Nat.le_of_ble_eq_true rfl)) dX11_isStation_8 ⟨Nat.le_of_ble_eq_true rfl, Nat.le_of_ble_eq_true rfl⟩) hS (fun _ _ h => h) (fun _ h => h) (fun r1 F2 t H locs ht hvm q hB1 hz hk hS => ?_)
  have hH : gH G ad F2 H := gH_to ht hB1
  obtain ⟨h3, q⟩ := q
  exact (W.zret (v := r1) hx hb hr (gz_nar h3) (fun t ht hW => ⟨⟨r1, F2, rfl, q, gH_at ht hH⟩, hS.F ht⟩) hS.2.2 dX11_isStation_11)
abbrev rm_X11_isPerson : Room := { frames := 1, cells := 0, slots := 0, locals := 22 }
abbrev q_X11_isPerson (G : GP) (ad : Nat → Nat → Nat) (K : Int32 → GF → Prop) (below : List Frame) (args : Array Value) (s : State) : State → Prop := MQ below (gQi G ad K) args s 0 0 (gA G)
set_option maxHeartbeats 4000000 in
set_option maxRecDepth 100000 in
theorem c_X11_isPerson (l : Launch) (G : GP) (ad : Nat → Nat → Nat) (F : GF) (p1 : Int32) (K : Int32 → GF → Prop) : Met l yX11_isPerson wsX11_isPerson rm_X11_isPerson (va_Pc [.ref (ad 40 0), .int p1] (fun U => gD G ad F U ∧ P_X11_isPerson F p1 K)) (gQi G ad K) 0 0 (gA G) := by
  refine Met.ofW (cc := cX11_isPerson) (maxL := 2) (ret := (some .boolean)) (by decide) rfl ?_
  intro p e s m args below meth c s₁ Bd hml hv
  obtain ⟨rfl, ⟨hK, hG, hB, hH⟩, q⟩ := hv
  have hx := Bd.exec
  have hb := Bd.bytes
  have hr := Bd.returns
  have hts := atoms_spec (ws := wsX11_isPerson) Bd.pre
  have hown : s.vm.findClass RX11 = some m.cls := findClass_of_methodNamed Bd.named
  have hlocks := Bd.notSynchronized
  have hS : va_S (gA G) s.heap s.heap [] := va_S.rf
  have hl := lv_entry [.ref (ad 40 0), .int p1] (n := 2) (Nat.le_of_ble_eq_true rfl)
  rw [lg_entry_eq]
  generalize (lg_sl [.ref (ad 40 0), .int p1] ++ List.replicate (2 - (lg_sl [.ref (ad 40 0), .int p1]).length) Slot.unset).toArray = ls at hl ⊢
  have hl : lv_has ls 2 [(0, .ref (ad 40 0)), (1, .int p1)] := hl
  unfold P_X11_isPerson at q
  refine lv_iload_n hx hb dX11_isPerson_0 rfl (lv_at hl 1 rfl) ?_
  refine lv_iconst (v := 0) hx hb dX11_isPerson_1 (by decide) ?_
  refine lv_aload_n hx hb dX11_isPerson_2 rfl (lv_at hl 0 rfl) ?_
  refine g_get (ci := 15) (v := .int (F 40 0 9)) (C := RX11) (T := TX11) (N := 44) hx hb hts (fun _ h => (List.mem_cons_of_mem _ (List.mem_append_right _ h))) hown hK hH 40 0 (by decide) Nat.zero_lt_one rfl rfl 9 (by decide) (hts (.fieldLink RX11 118 "BallotFoundryModel" "people" "I") (List.mem_of_getElem? (i := 1) rfl)) (fun _ h => h) rfl dX11_isPerson_3 ?_
  refine lv_iconst (v := 1) hx hb dX11_isPerson_6 (by decide) ?_
  refine lv_isub hx hb dX11_isPerson_7 ?_
  refine va_calli (va_runS (As := [.int p1, .int 0, .int ((F 40 0 9) - 1)]) (rest := []) ⟨hx, hb, hml, hown, hts⟩ (c_X11_in l G ad F p1 0 ((F 40 0 9) - 1) _) (va_cwS 3 hts gX11_isPerson_X11_in rfl rfl rfl (by decide +kernel) ⟨Nat.le_of_ble_eq_true rfl, Nat.le_of_ble_eq_true rfl⟩) ⟨fun a U g mk h => ⟨h.1, gD_blind h.2.1, h.2.2⟩, fun U hU hW => ⟨rfl, gD_at hK hG hB hH hS hU hW, q⟩⟩ rfl rfl hl.1 rfl (lv_room (Nat.le_of_ble_eq_true rfl)) dX11_isPerson_8 ⟨Nat.le_of_ble_eq_true rfl, Nat.le_of_ble_eq_true rfl⟩) hS (fun _ _ h => h) (fun _ h => h) (fun r1 F2 t H locs ht hvm q hB1 hz hk hS => ?_)
  have hH : gH G ad F2 H := gH_to ht hB1
  obtain ⟨h3, q⟩ := q
  exact (W.zret (v := r1) hx hb hr (gz_nar h3) (fun t ht hW => ⟨⟨r1, F2, rfl, q, gH_at ht hH⟩, hS.F ht⟩) hS.2.2 dX11_isPerson_11)
abbrev rm_X11_street : Room := { frames := 0, cells := 0, slots := 0, locals := 0 }
abbrev q_X11_street (G : GP) (ad : Nat → Nat → Nat) (K : Int32 → GF → Prop) (below : List Frame) (args : Array Value) (s : State) : State → Prop := MQ below (gQi G ad K) args s 0 0 (gA G)
set_option maxHeartbeats 4000000 in
set_option maxRecDepth 100000 in
theorem c_X11_street (l : Launch) (G : GP) (ad : Nat → Nat → Nat) (F : GF) (p0 : Int32) (p1 : Int32) (K : Int32 → GF → Prop) : Met l yX11_street wsX11_street rm_X11_street (va_Pc [.int p0, .int p1] (fun U => gD G ad F U ∧ P_X11_street F p0 p1 K)) (gQi G ad K) 0 0 (gA G) := by
  refine Met.ofW (cc := cX11_street) (maxL := 4) (ret := (some .int)) (by decide) rfl ?_
  intro p e s m args below meth c s₁ Bd hml hv
  obtain ⟨rfl, ⟨hK, hG, hB, hH⟩, q⟩ := hv
  have hx := Bd.exec
  have hb := Bd.bytes
  have hr := Bd.returns
  have hts := atoms_spec (ws := wsX11_street) Bd.pre
  have hown : s.vm.findClass RX11 = some m.cls := findClass_of_methodNamed Bd.named
  have hlocks := Bd.notSynchronized
  have hS : va_S (gA G) s.heap s.heap [] := va_S.rf
  have hl := lv_entry [.int p0, .int p1] (n := 4) (Nat.le_of_ble_eq_true rfl)
  rw [lg_entry_eq]
  generalize (lg_sl [.int p0, .int p1] ++ List.replicate (4 - (lg_sl [.int p0, .int p1]).length) Slot.unset).toArray = ls at hl ⊢
  have hl : lv_has ls 4 [(0, .int p0), (1, .int p1)] := hl
  show W p l e rm_X11_street s m ([.int p0, .int p1] : List Value).toArray below meth c s.heap [] 0 0 (q_X11_street G ad K below ([.int p0, .int p1] : List Value).toArray s) _
  have t_40 : ∀ (F : GF) (x2 : Int32) (x3 : Int32) (H : Heap) (locs : List Loc) (ls : Array Slot), gH G ad F H → va_S (gA G) s.heap H locs → lv_has ls 4 [(2, .int x2), (3, .int x3)] → (P_X11_street_40 K) F x2 x3 → W p l e rm_X11_street s m ([.int p0, .int p1] : List Value).toArray below meth c H locs 0 0 (q_X11_street G ad K below ([.int p0, .int p1] : List Value).toArray s) (F0 m 40 ls []) := by
    intro F x2 x3 H locs ls hH hS hl q
    unfold P_X11_street_40 at q
    refine lv_iload_n hx hb dX11_street_40 rfl (lv_at hl 1 rfl) ?_
    refine lv_iload_n hx hb dX11_street_41 rfl (lv_at hl 0 rfl) ?_
    refine lv_isub hx hb dX11_street_42 ?_
    refine lv_bipush (v := 6) hx hb dX11_street_43 (by decide) ?_
    refine lv_icmp_ne (tgt := 55) hx hb dX11_street_45 (by decide) (fun c4 => ?_) (fun c4 => ?_)
    · have q := (if_neg c4).mp q
      refine lv_iconst (v := (-1)) hx hb dX11_street_55 (by decide) ?_
      exact (W.iret (v := (-1)) hx hb hr (fun t ht hW => ⟨⟨(-1), F, rfl, q, gH_at ht hH⟩, hS.F ht⟩) hS.2.2 dX11_street_56)
    · have q := (if_pos c4).mp q
      refine lv_bipush (v := 36) hx hb dX11_street_48 (by decide) ?_
      refine lv_iload_n hx hb dX11_street_50 rfl (lv_at hl 0 rfl) ?_
      refine lv_iadd hx hb dX11_street_51 ?_
      refine lv_goto (tgt := 56) hx hb dX11_street_52 (by decide) ?_
      exact (W.iret (v := (36 + x2)) hx hb hr (fun t ht hW => ⟨⟨(36 + x2), F, rfl, q, gH_at ht hH⟩, hS.F ht⟩) hS.2.2 dX11_street_56)
  have t_21 : ∀ (F : GF) (x2 : Int32) (s0 : Int32) (H : Heap) (locs : List Loc) (ls : Array Slot), gH G ad F H → va_S (gA G) s.heap H locs → lv_has ls 4 [(2, .int x2)] → (P_X11_street_21 K) F x2 s0 → W p l e rm_X11_street s m ([.int p0, .int p1] : List Value).toArray below meth c H locs 0 0 (q_X11_street G ad K below ([.int p0, .int p1] : List Value).toArray s) (F0 m 21 ls [.int s0]) := by
    intro F x2 s0 H locs ls hH hS hl q
    unfold P_X11_street_21 at q
    refine lv_istore_n (lv' := [(3, .int s0), (2, .int x2)]) hx hb dX11_street_21 rfl hl (by decide) rfl (fun ls hl => ?_)
    refine lv_iload_n hx hb dX11_street_22 rfl (lv_at hl 0 rfl) ?_
    refine lv_iload_n hx hb dX11_street_23 rfl (lv_at hl 1 rfl) ?_
    refine lv_isub hx hb dX11_street_24 ?_
    refine lv_iconst (v := 1) hx hb dX11_street_25 (by decide) ?_
    refine lv_icmp_ne (tgt := 40) hx hb dX11_street_26 (by decide) (fun c3 => ?_) (fun c3 => ?_)
    · have q := (if_neg c3).mp q
      exact t_40 F x2 s0 _ _ _ hH hS (lv_sub hl [1, 0] rfl) q
    · have q := (if_pos c3).mp q
      refine lv_iload_n hx hb dX11_street_29 rfl (lv_at hl 0 rfl) ?_
      refine lv_bipush (v := 6) hx hb dX11_street_30 (by decide) ?_
      refine lv_irem hx hb dX11_street_32 (by decide) ?_
      refine lv_if_le (tgt := 40) hx hb dX11_street_33 (by decide) (fun c5 => ?_) (fun c5 => ?_)
      · have q := (if_pos c5).mp q
        exact t_40 F x2 s0 _ _ _ hH hS (lv_sub hl [1, 0] rfl) q
      · have q := (if_neg c5).mp q
        refine lv_iload_n hx hb dX11_street_36 rfl (lv_at hl 1 rfl) ?_
        refine lv_goto (tgt := 56) hx hb dX11_street_37 (by decide) ?_
        exact (W.iret (v := x2) hx hb hr (fun t ht hW => ⟨⟨x2, F, rfl, q, gH_at ht hH⟩, hS.F ht⟩) hS.2.2 dX11_street_56)
  have t_10 : ∀ (F : GF) (x0 : Int32) (x1 : Int32) (s0 : Int32) (H : Heap) (locs : List Loc) (ls : Array Slot), gH G ad F H → va_S (gA G) s.heap H locs → lv_has ls 4 [(0, .int x0), (1, .int x1)] → (P_X11_street_10 K) F x0 x1 s0 → W p l e rm_X11_street s m ([.int p0, .int p1] : List Value).toArray below meth c H locs 0 0 (q_X11_street G ad K below ([.int p0, .int p1] : List Value).toArray s) (F0 m 10 ls [.int s0]) := by
    intro F x0 x1 s0 H locs ls hH hS hl q
    unfold P_X11_street_10 at q
    refine lv_istore_n (lv' := [(2, .int s0), (0, .int x0), (1, .int x1)]) hx hb dX11_street_10 rfl hl (by decide) rfl (fun ls hl => ?_)
    refine lv_iload_n hx hb dX11_street_11 rfl (lv_at hl 1 rfl) ?_
    refine lv_iload_n hx hb dX11_street_12 rfl (lv_at hl 2 rfl) ?_
    refine lv_icmp_ge (tgt := 20) hx hb dX11_street_13 (by decide) (fun c2 => ?_) (fun c2 => ?_)
    · have q := (if_pos c2).mp q
      refine lv_iload_n hx hb dX11_street_20 rfl (lv_at hl 1 rfl) ?_
      exact t_21 F s0 x0 _ _ _ hH hS (lv_sub hl [0] rfl) q
    · have q := (if_neg c2).mp q
      refine lv_iload_n hx hb dX11_street_16 rfl (lv_at hl 2 rfl) ?_
      refine lv_goto (tgt := 21) hx hb dX11_street_17 (by decide) ?_
      exact t_21 F s0 x1 _ _ _ hH hS (lv_sub hl [0] rfl) q
  unfold P_X11_street at q
  refine lv_iload_n hx hb dX11_street_0 rfl (lv_at hl 0 rfl) ?_
  refine lv_iload_n hx hb dX11_street_1 rfl (lv_at hl 1 rfl) ?_
  refine lv_icmp_ge (tgt := 9) hx hb dX11_street_2 (by decide) (fun c1 => ?_) (fun c1 => ?_)
  · have q := (if_pos c1).mp q
    refine lv_iload_n hx hb dX11_street_9 rfl (lv_at hl 1 rfl) ?_
    exact t_10 F p0 p1 p1 _ _ _ hH hS (lv_sub hl [0, 1] rfl) q
  · have q := (if_neg c1).mp q
    refine lv_iload_n hx hb dX11_street_5 rfl (lv_at hl 0 rfl) ?_
    refine lv_goto (tgt := 10) hx hb dX11_street_6 (by decide) ?_
    exact t_10 F p0 p1 p0 _ _ _ hH hS (lv_sub hl [0, 1] rfl) q
abbrev rm_X11_bar : Room := { frames := 2, cells := 0, slots := 0, locals := 42 }
abbrev q_X11_bar (G : GP) (ad : Nat → Nat → Nat) (K : Int32 → GF → Prop) (below : List Frame) (args : Array Value) (s : State) : State → Prop := MQ below (gQi G ad K) args s 0 0 (gA G)
set_option maxHeartbeats 4000000 in
set_option maxRecDepth 100000 in
theorem c_X11_bar (l : Launch) (G : GP) (ad : Nat → Nat → Nat) (F : GF) (p1 : Int32) (p2 : Int32) (p3 : Int32) (K : Int32 → GF → Prop) : Met l yX11_bar wsX11_bar rm_X11_bar (va_Pc [.ref (ad 40 0), .int p1, .int p2, .int p3] (fun U => gD G ad F U ∧ P_X11_bar F p1 p2 p3 K)) (gQi G ad K) 0 0 (gA G) := by
  refine Met.ofW (cc := cX11_bar) (maxL := 7) (ret := (some .boolean)) (by decide) rfl ?_
  intro p e s m args below meth c s₁ Bd hml hv
  obtain ⟨rfl, ⟨hK, hG, hB, hH⟩, q⟩ := hv
  have hx := Bd.exec
  have hb := Bd.bytes
  have hr := Bd.returns
  have hts := atoms_spec (ws := wsX11_bar) Bd.pre
  have hown : s.vm.findClass RX11 = some m.cls := findClass_of_methodNamed Bd.named
  have hlocks := Bd.notSynchronized
  have hS : va_S (gA G) s.heap s.heap [] := va_S.rf
  have hl := lv_entry [.ref (ad 40 0), .int p1, .int p2, .int p3] (n := 7) (Nat.le_of_ble_eq_true rfl)
  rw [lg_entry_eq]
  generalize (lg_sl [.ref (ad 40 0), .int p1, .int p2, .int p3] ++ List.replicate (7 - (lg_sl [.ref (ad 40 0), .int p1, .int p2, .int p3]).length) Slot.unset).toArray = ls at hl ⊢
  have hl : lv_has ls 7 [(0, .ref (ad 40 0)), (1, .int p1), (2, .int p2), (3, .int p3)] := hl
  show W p l e rm_X11_bar s m ([.ref (ad 40 0), .int p1, .int p2, .int p3] : List Value).toArray below meth c s.heap [] 0 0 (q_X11_bar G ad K below ([.ref (ad 40 0), .int p1, .int p2, .int p3] : List Value).toArray s) _
  have t_51 : ∀ (F : GF) (x3 : Int32) (x5 : Int32) (s1 : Int32) (s2 : Int32) (H : Heap) (locs : List Loc) (ls : Array Slot), gH G ad F H → va_S (gA G) s.heap H locs → lv_has ls 7 [(0, .ref (ad 40 0)), (3, .int x3), (5, .int x5)] → (P_X11_bar_51 K) F x3 x5 s1 s2 → W p l e rm_X11_bar s m ([.ref (ad 40 0), .int p1, .int p2, .int p3] : List Value).toArray below meth c H locs 0 0 (q_X11_bar G ad K below ([.ref (ad 40 0), .int p1, .int p2, .int p3] : List Value).toArray s) (F0 m 51 ls [.int s2, .int s1, .ref (ad 40 0)]) := by
    intro F x3 x5 s1 s2 H locs ls hH hS hl q
    unfold P_X11_bar_51 at q
    refine va_calli (va_runV (As := [.int s1, .int s2]) (rest := []) ⟨hx, hb, hml, hown, hts⟩ (c_X11_asked_ l G ad F s1 s2 _) (cwV 2 hts gX11_bar_X11_asked_ rfl rfl rfl (by decide +kernel) ⟨Nat.le_of_ble_eq_true rfl, Nat.le_of_ble_eq_true rfl⟩) ⟨fun a U g mk h => ⟨h.1, gD_blind h.2.1, h.2.2⟩, g_recv (C := RX11) (T := TX11) (N := 44) hK hH 40 0 (by decide) Nat.zero_lt_one rfl rfl, fun U hU hW => ⟨rfl, gD_at hK hG hB hH hS hU hW, q⟩⟩ rfl rfl hl.1 rfl (lv_room (Nat.le_of_ble_eq_true rfl)) dX11_bar_51 ⟨Nat.le_of_ble_eq_true rfl, Nat.le_of_ble_eq_true rfl⟩) hS (fun _ _ h => h) (fun _ h => h) (fun r6 F7 t H locs ht hvm q hB1 hz hk hS => ?_)
    have hH : gH G ad F7 H := gH_to ht hB1
    refine lv_if_ne (tgt := 59) hx hb dX11_bar_54 (by decide) (fun c8 => ?_) (fun c8 => ?_)
    · have q := (if_neg c8).mp q
      refine lv_aload_n hx hb dX11_bar_59 rfl (lv_at hl 0 rfl) ?_
      refine g_get (ci := 15) (v := .ref (ad 41 0)) (C := RX11) (T := TX11) (N := 44) hx hb hts (fun _ h => (List.mem_cons_of_mem _ (List.mem_append_left _ (List.mem_append_right _ h)))) hown hK hH 40 0 (by decide) Nat.zero_lt_one rfl rfl 1 (by decide) (hts (.fieldLink RX11 7 "BallotFoundryModel" "barred" "[Z") (List.mem_of_getElem? (i := 1) rfl)) (fun _ h => h) rfl dX11_bar_60 ?_
      refine lv_iload hx hb dX11_bar_63 (lv_at hl 2 rfl) ?_
      obtain ⟨h9, q⟩ := q
      refine g_zald hx hb hK hH 41 0 (by decide) Nat.zero_lt_one 72 rfl h9 dX11_bar_65 ?_
      refine lv_istore (lv' := [(6, .int (F7 41 0 x5.toNatClampNeg)), (0, .ref (ad 40 0)), (3, .int x3), (5, .int x5)]) hx hb dX11_bar_66 hl (by decide) rfl (fun ls hl => ?_)
      refine lv_aload_n hx hb dX11_bar_68 rfl (lv_at hl 1 rfl) ?_
      refine g_get (ci := 15) (v := .ref (ad 41 0)) (C := RX11) (T := TX11) (N := 44) hx hb hts (fun _ h => (List.mem_cons_of_mem _ (List.mem_append_left _ (List.mem_append_right _ h)))) hown hK hH 40 0 (by decide) Nat.zero_lt_one rfl rfl 1 (by decide) (hts (.fieldLink RX11 7 "BallotFoundryModel" "barred" "[Z") (List.mem_of_getElem? (i := 1) rfl)) (fun _ h => h) rfl dX11_bar_69 ?_
      refine lv_iload hx hb dX11_bar_72 (lv_at hl 3 rfl) ?_
      refine lv_iload_n hx hb dX11_bar_74 rfl (lv_at hl 2 rfl) ?_
      obtain ⟨h10, q⟩ := q
      obtain ⟨h12, q⟩ := q
      refine g_zast hx hb hK hH hS 41 0 (by decide) Nat.zero_lt_one (by decide) 72 (fun _ => rfl) h10 dX11_bar_75 (fun H locs hH hS => ?_)
      rw [gz_vp h12] at hH
      obtain ⟨F11, eF11⟩ : ∃ z, z = fs F7 41 0 x5.toNatClampNeg x3 := ⟨_, rfl⟩
      have q := q F11 eF11
      rw [← eF11] at hH
      refine lv_iload hx hb dX11_bar_76 (lv_at hl 0 rfl) ?_
      obtain ⟨h13, q⟩ := q
      exact (W.zret (v := (F7 41 0 x5.toNatClampNeg)) hx hb hr (gz_nar h13) (fun t ht hW => ⟨⟨(F7 41 0 x5.toNatClampNeg), F11, rfl, q, gH_at ht hH⟩, hS.F ht⟩) hS.2.2 dX11_bar_78)
    · have q := (if_pos c8).mp q
      refine lv_iconst (v := 0) hx hb dX11_bar_57 (by decide) ?_
      exact (W.zret (v := 0) hx hb hr rfl (fun t ht hW => ⟨⟨0, F7, rfl, q, gH_at ht hH⟩, hS.F ht⟩) hS.2.2 dX11_bar_58)
  have t_35 : ∀ (F : GF) (x3 : Int32) (x4 : Int32) (s0 : Int32) (H : Heap) (locs : List Loc) (ls : Array Slot), gH G ad F H → va_S (gA G) s.heap H locs → lv_has ls 7 [(0, .ref (ad 40 0)), (3, .int x3), (4, .int x4)] → (P_X11_bar_35 K) F x3 x4 s0 → W p l e rm_X11_bar s m ([.ref (ad 40 0), .int p1, .int p2, .int p3] : List Value).toArray below meth c H locs 0 0 (q_X11_bar G ad K below ([.ref (ad 40 0), .int p1, .int p2, .int p3] : List Value).toArray s) (F0 m 35 ls [.int s0]) := by
    intro F x3 x4 s0 H locs ls hH hS hl q
    unfold P_X11_bar_35 at q
    refine lv_istore (lv' := [(5, .int s0), (0, .ref (ad 40 0)), (3, .int x3), (4, .int x4)]) hx hb dX11_bar_35 hl (by decide) rfl (fun ls hl => ?_)
    refine lv_aload_n hx hb dX11_bar_37 rfl (lv_at hl 1 rfl) ?_
    refine lv_iload hx hb dX11_bar_38 (lv_at hl 3 rfl) ?_
    refine lv_iload hx hb dX11_bar_40 (lv_at hl 0 rfl) ?_
    refine lv_iconst (v := (-1)) hx hb dX11_bar_42 (by decide) ?_
    refine lv_icmp_eq (tgt := 50) hx hb dX11_bar_43 (by decide) (fun c5 => ?_) (fun c5 => ?_)
    · have q := (if_pos c5).mp q
      refine lv_iconst (v := 0) hx hb dX11_bar_50 (by decide) ?_
      exact t_51 F x3 s0 x4 0 _ _ _ hH hS (lv_sub hl [1, 2, 0] rfl) q
    · have q := (if_neg c5).mp q
      refine lv_iconst (v := 1) hx hb dX11_bar_46 (by decide) ?_
      refine lv_goto (tgt := 51) hx hb dX11_bar_47 (by decide) ?_
      exact t_51 F x3 s0 x4 1 _ _ _ hH hS (lv_sub hl [1, 2, 0] rfl) q
  have t_19 : ∀ (F : GF) (x1 : Int32) (x2 : Int32) (x3 : Int32) (s0 : Int32) (H : Heap) (locs : List Loc) (ls : Array Slot), gH G ad F H → va_S (gA G) s.heap H locs → lv_has ls 7 [(0, .ref (ad 40 0)), (1, .int x1), (2, .int x2), (3, .int x3)] → (P_X11_bar_19 K) F x1 x2 x3 s0 → W p l e rm_X11_bar s m ([.ref (ad 40 0), .int p1, .int p2, .int p3] : List Value).toArray below meth c H locs 0 0 (q_X11_bar G ad K below ([.ref (ad 40 0), .int p1, .int p2, .int p3] : List Value).toArray s) (F0 m 19 ls [.int s0]) := by
    intro F x1 x2 x3 s0 H locs ls hH hS hl q
    unfold P_X11_bar_19 at q
    refine lv_istore (lv' := [(4, .int s0), (0, .ref (ad 40 0)), (1, .int x1), (2, .int x2), (3, .int x3)]) hx hb dX11_bar_19 hl (by decide) rfl (fun ls hl => ?_)
    refine lv_iload hx hb dX11_bar_21 (lv_at hl 0 rfl) ?_
    refine lv_if_eq (tgt := 34) hx hb dX11_bar_23 (by decide) (fun c4 => ?_) (fun c4 => ?_)
    · have q := (if_pos c4).mp q
      refine lv_iconst (v := (-1)) hx hb dX11_bar_34 (by decide) ?_
      exact t_35 F x3 s0 (-1) _ _ _ hH hS (lv_sub hl [1, 4, 0] rfl) q
    · have q := (if_neg c4).mp q
      refine lv_iload_n hx hb dX11_bar_26 rfl (lv_at hl 2 rfl) ?_
      refine lv_iload_n hx hb dX11_bar_27 rfl (lv_at hl 3 rfl) ?_
      refine va_calli (va_runS (As := [.int x1, .int x2]) (rest := []) ⟨hx, hb, hml, hown, hts⟩ (c_X11_street l G ad F x1 x2 _) (va_cwS 2 hts gX11_bar_X11_street rfl rfl rfl (by decide +kernel) ⟨Nat.le_of_ble_eq_true rfl, Nat.le_of_ble_eq_true rfl⟩) ⟨fun a U g mk h => ⟨h.1, gD_blind h.2.1, h.2.2⟩, fun U hU hW => ⟨rfl, gD_at hK hG hB hH hS hU hW, q⟩⟩ rfl rfl hl.1 rfl (lv_room (Nat.le_of_ble_eq_true rfl)) dX11_bar_28 ⟨Nat.le_of_ble_eq_true rfl, Nat.le_of_ble_eq_true rfl⟩) hS (fun _ _ h => h) (fun _ h => h) (fun r14 F15 t H locs ht hvm q hB1 hz hk hS => ?_)
      have hH : gH G ad F15 H := gH_to ht hB1
      refine lv_goto (tgt := 35) hx hb dX11_bar_31 (by decide) ?_
      exact t_35 F15 x3 s0 r14 _ _ _ hH hS (lv_sub hl [1, 4, 0] rfl) q
  have t_18 : ∀ (F : GF) (x1 : Int32) (x2 : Int32) (x3 : Int32) (H : Heap) (locs : List Loc) (ls : Array Slot), gH G ad F H → va_S (gA G) s.heap H locs → lv_has ls 7 [(0, .ref (ad 40 0)), (1, .int x1), (2, .int x2), (3, .int x3)] → (P_X11_bar_18 K) F x1 x2 x3 → W p l e rm_X11_bar s m ([.ref (ad 40 0), .int p1, .int p2, .int p3] : List Value).toArray below meth c H locs 0 0 (q_X11_bar G ad K below ([.ref (ad 40 0), .int p1, .int p2, .int p3] : List Value).toArray s) (F0 m 18 ls []) := by
    intro F x1 x2 x3 H locs ls hH hS hl q
    unfold P_X11_bar_18 at q
    refine lv_iconst (v := 0) hx hb dX11_bar_18 (by decide) ?_
    exact t_19 F x1 x2 x3 0 _ _ _ hH hS (lv_sub hl [0, 1, 2, 3] rfl) q
  unfold P_X11_bar at q
  refine lv_iload_n hx hb dX11_bar_0 rfl (lv_at hl 1 rfl) ?_
  refine va_calli (va_runS (As := [.int p1]) (rest := []) ⟨hx, hb, hml, hown, hts⟩ (c_X11_isCrossing l G ad F p1 _) (va_cwS 1 hts gX11_bar_X11_isCrossing rfl rfl rfl (by decide +kernel) ⟨Nat.le_of_ble_eq_true rfl, Nat.le_of_ble_eq_true rfl⟩) ⟨fun a U g mk h => ⟨h.1, gD_blind h.2.1, h.2.2⟩, fun U hU hW => ⟨rfl, gD_at hK hG hB hH hS hU hW, q⟩⟩ rfl rfl hl.1 rfl (lv_room (Nat.le_of_ble_eq_true rfl)) dX11_bar_1 ⟨Nat.le_of_ble_eq_true rfl, Nat.le_of_ble_eq_true rfl⟩) hS (fun _ _ h => h) (fun _ h => h) (fun r1 F2 t H locs ht hvm q hB1 hz hk hS => ?_)
  have hH : gH G ad F2 H := gH_to ht hB1
  refine lv_if_eq (tgt := 18) hx hb dX11_bar_4 (by decide) (fun c3 => ?_) (fun c3 => ?_)
  · have q := (if_pos c3).mp q
    exact t_18 F2 p1 p2 p3 _ _ _ hH hS (lv_sub hl [0, 1, 2, 3] rfl) q
  · have q := (if_neg c3).mp q
    refine lv_iload_n hx hb dX11_bar_7 rfl (lv_at hl 2 rfl) ?_
    refine va_calli (va_runS (As := [.int p2]) (rest := []) ⟨hx, hb, hml, hown, hts⟩ (c_X11_isCrossing l G ad F2 p2 _) (va_cwS 1 hts gX11_bar_X11_isCrossing rfl rfl rfl (by decide +kernel) ⟨Nat.le_of_ble_eq_true rfl, Nat.le_of_ble_eq_true rfl⟩) ⟨fun a U g mk h => ⟨h.1, gD_blind h.2.1, h.2.2⟩, fun U hU hW => ⟨rfl, gD_at hK hG hB hH hS hU hW, q⟩⟩ rfl rfl hl.1 rfl (lv_room (Nat.le_of_ble_eq_true rfl)) dX11_bar_8 ⟨Nat.le_of_ble_eq_true rfl, Nat.le_of_ble_eq_true rfl⟩) hS (fun _ _ h => h) (fun _ h => h) (fun r16 F17 t H locs ht hvm q hB1 hz hk hS => ?_)
    have hH : gH G ad F17 H := gH_to ht hB1
    refine lv_if_eq (tgt := 18) hx hb dX11_bar_11 (by decide) (fun c18 => ?_) (fun c18 => ?_)
    · have q := (if_pos c18).mp q
      exact t_18 F17 p1 p2 p3 _ _ _ hH hS (lv_sub hl [0, 1, 2, 3] rfl) q
    · have q := (if_neg c18).mp q
      refine lv_iconst (v := 1) hx hb dX11_bar_14 (by decide) ?_
      refine lv_goto (tgt := 19) hx hb dX11_bar_15 (by decide) ?_
      exact t_19 F17 p1 p2 p3 1 _ _ _ hH hS (lv_sub hl [0, 1, 2, 3] rfl) q
abbrev rm_X11_finds : Room := { frames := 1, cells := 0, slots := 0, locals := 23 }
abbrev q_X11_finds (G : GP) (ad : Nat → Nat → Nat) (K : GF → Prop) (below : List Frame) (args : Array Value) (s : State) : State → Prop := MQ below (gQv G ad K) args s 0 0 (gA G)
set_option maxHeartbeats 4000000 in
set_option maxRecDepth 100000 in
theorem c_X11_finds (l : Launch) (G : GP) (ad : Nat → Nat → Nat) (F : GF) (p1 : Int32) (K : GF → Prop) : Met l yX11_finds wsX11_finds rm_X11_finds (va_Pc [.ref (ad 40 0), .int p1] (fun U => gD G ad F U ∧ P_X11_finds F p1 K)) (gQv G ad K) 0 0 (gA G) := by
  refine Met.ofW (cc := cX11_finds) (maxL := 6) (ret := none) (by decide) rfl ?_
  intro p e s m args below meth c s₁ Bd hml hv
  obtain ⟨rfl, ⟨hK, hG, hB, hH⟩, q⟩ := hv
  have hx := Bd.exec
  have hb := Bd.bytes
  have hr := Bd.returns
  have hts := atoms_spec (ws := wsX11_finds) Bd.pre
  have hown : s.vm.findClass RX11 = some m.cls := findClass_of_methodNamed Bd.named
  have hlocks := Bd.notSynchronized
  have hS : va_S (gA G) s.heap s.heap [] := va_S.rf
  have hl := lv_entry [.ref (ad 40 0), .int p1] (n := 6) (Nat.le_of_ble_eq_true rfl)
  rw [lg_entry_eq]
  generalize (lg_sl [.ref (ad 40 0), .int p1] ++ List.replicate (6 - (lg_sl [.ref (ad 40 0), .int p1]).length) Slot.unset).toArray = ls at hl ⊢
  have hl : lv_has ls 6 [(0, .ref (ad 40 0)), (1, .int p1)] := hl
  show W p l e rm_X11_finds s m ([.ref (ad 40 0), .int p1] : List Value).toArray below meth c s.heap [] 0 0 (q_X11_finds G ad K below ([.ref (ad 40 0), .int p1] : List Value).toArray s) _
  have t_125 : ∀ (k39 : GF → Int32 → Int32 → Prop), (∀ (F : GF) (x2 : Int32) (x3 : Int32) (H : Heap) (locs : List Loc) (ls : Array Slot), gH G ad F H → va_S (gA G) s.heap H locs → lv_has ls 6 [(0, .ref (ad 40 0)), (2, .int x2), (3, .int x3)] → k39 F x2 x3 → W p l e rm_X11_finds s m ([.ref (ad 40 0), .int p1] : List Value).toArray below meth c H locs 0 0 (q_X11_finds G ad K below ([.ref (ad 40 0), .int p1] : List Value).toArray s) (F0 m 39 ls [])) → ∀ (k47 : GF → Int32 → Int32 → Int32 → Prop), (∀ (F : GF) (x2 : Int32) (x3 : Int32) (x4 : Int32) (H : Heap) (locs : List Loc) (ls : Array Slot), gH G ad F H → va_S (gA G) s.heap H locs → lv_has ls 6 [(0, .ref (ad 40 0)), (2, .int x2), (3, .int x3), (4, .int x4)] → k47 F x2 x3 x4 → W p l e rm_X11_finds s m ([.ref (ad 40 0), .int p1] : List Value).toArray below meth c H locs 0 0 (q_X11_finds G ad K below ([.ref (ad 40 0), .int p1] : List Value).toArray s) (F0 m 47 ls [])) → ∀ (F : GF) (x2 : Int32) (x3 : Int32) (x4 : Int32) (H : Heap) (locs : List Loc) (ls : Array Slot), gH G ad F H → va_S (gA G) s.heap H locs → lv_has ls 6 [(0, .ref (ad 40 0)), (2, .int x2), (3, .int x3), (4, .int x4)] → (P_X11_finds_125 k39 k47 K) F x2 x3 x4 → W p l e rm_X11_finds s m ([.ref (ad 40 0), .int p1] : List Value).toArray below meth c H locs 0 0 (q_X11_finds G ad K below ([.ref (ad 40 0), .int p1] : List Value).toArray s) (F0 m 125 ls []) := by
    intro k39 hk39 k47 hk47 F x2 x3 x4 H locs ls hH hS hl q
    unfold P_X11_finds_125 at q
    refine lv_iinc (v := x4 + 1) (lv' := [(4, .int (x4 + 1)), (0, .ref (ad 40 0)), (2, .int x2), (3, .int x3)]) hx hb dX11_finds_125 hl (k := 3) rfl rfl (by decide) rfl (fun ls hl => ?_)
    refine lv_goto (tgt := 47) hx hb dX11_finds_128 (by decide) ?_
    exact hk47 F x2 x3 (x4 + 1) _ _ _ hH hS (lv_sub hl [1, 2, 3, 0] rfl) q
  have t_47 : ∀ (k39 : GF → Int32 → Int32 → Prop), (∀ (F : GF) (x2 : Int32) (x3 : Int32) (H : Heap) (locs : List Loc) (ls : Array Slot), gH G ad F H → va_S (gA G) s.heap H locs → lv_has ls 6 [(0, .ref (ad 40 0)), (2, .int x2), (3, .int x3)] → k39 F x2 x3 → W p l e rm_X11_finds s m ([.ref (ad 40 0), .int p1] : List Value).toArray below meth c H locs 0 0 (q_X11_finds G ad K below ([.ref (ad 40 0), .int p1] : List Value).toArray s) (F0 m 39 ls [])) → ∀ n : Nat, ∀ (F : GF) (x2 : Int32) (x3 : Int32) (x4 : Int32) (H : Heap) (locs : List Loc) (ls : Array Slot), gH G ad F H → va_S (gA G) s.heap H locs → lv_has ls 6 [(0, .ref (ad 40 0)), (2, .int x2), (3, .int x3), (4, .int x4)] → (P_X11_finds_47 k39 K n) F x2 x3 x4 → W p l e rm_X11_finds s m ([.ref (ad 40 0), .int p1] : List Value).toArray below meth c H locs 0 0 (q_X11_finds G ad K below ([.ref (ad 40 0), .int p1] : List Value).toArray s) (F0 m 47 ls []) := by
    intro k39 hk39
    intro n
    induction n with
    | zero =>
      intro F x2 x3 x4 H locs ls hH hS hl q
      exact False.elim q
    | succ n ih =>
      intro F x2 x3 x4 H locs ls hH hS hl q
      rw [P_X11_finds_47] at q
      refine lv_iload hx hb dX11_finds_47 (lv_at hl 3 rfl) ?_
      refine lv_bipush (v := 36) hx hb dX11_finds_49 (by decide) ?_
      refine lv_icmp_ge (tgt := 131) hx hb dX11_finds_51 (by decide) (fun c7 => ?_) (fun c7 => ?_)
      · have q := (if_pos c7).mp q
        refine lv_iinc (v := x3 + 1) (lv' := [(3, .int (x3 + 1)), (0, .ref (ad 40 0)), (2, .int x2), (4, .int x4)]) hx hb dX11_finds_131 hl (k := 2) rfl rfl (by decide) rfl (fun ls hl => ?_)
        refine lv_goto (tgt := 39) hx hb dX11_finds_134 (by decide) ?_
        exact hk39 F x2 (x3 + 1) _ _ _ hH hS (lv_sub hl [1, 2, 0] rfl) q
      · have q := (if_neg c7).mp q
        refine lv_aload_n hx hb dX11_finds_54 rfl (lv_at hl 0 rfl) ?_
        refine g_get (ci := 15) (v := .ref (ad 43 0)) (C := RX11) (T := TX11) (N := 44) hx hb hts (fun _ h => (List.mem_cons_of_mem _ (List.mem_append_left _ (List.mem_append_right _ h)))) hown hK hH 40 0 (by decide) Nat.zero_lt_one rfl rfl 3 (by decide) (hts (.fieldLink RX11 17 "BallotFoundryModel" "row" "[I") (List.mem_of_getElem? (i := 2) rfl)) (fun _ h => h) rfl dX11_finds_55 ?_
        refine lv_iload_n hx hb dX11_finds_58 rfl (lv_at hl 2 rfl) ?_
        obtain ⟨h8, q⟩ := q
        refine g_iald hx hb hK hH 43 0 (by decide) Nat.zero_lt_one 36 rfl h8 dX11_finds_59 ?_
        refine lv_iload hx hb dX11_finds_60 (lv_at hl 3 rfl) ?_
        refine va_calli (va_runS (As := [.int (F 43 0 x3.toNatClampNeg), .int x4]) (rest := []) ⟨hx, hb, hml, hown, hts⟩ (c_X11_street l G ad F (F 43 0 x3.toNatClampNeg) x4 _) (va_cwS 2 hts gX11_finds_X11_street rfl rfl rfl (by decide +kernel) ⟨Nat.le_of_ble_eq_true rfl, Nat.le_of_ble_eq_true rfl⟩) ⟨fun a U g mk h => ⟨h.1, gD_blind h.2.1, h.2.2⟩, fun U hU hW => ⟨rfl, gD_at hK hG hB hH hS hU hW, q⟩⟩ rfl rfl hl.1 rfl (lv_room (Nat.le_of_ble_eq_true rfl)) dX11_finds_62 ⟨Nat.le_of_ble_eq_true rfl, Nat.le_of_ble_eq_true rfl⟩) hS (fun _ _ h => h) (fun _ h => h) (fun r9 F10 t H locs ht hvm q hB1 hz hk hS => ?_)
        have hH : gH G ad F10 H := gH_to ht hB1
        refine lv_istore (lv' := [(5, .int r9), (0, .ref (ad 40 0)), (2, .int x2), (3, .int x3), (4, .int x4)]) hx hb dX11_finds_65 hl (by decide) rfl (fun ls hl => ?_)
        refine lv_iload hx hb dX11_finds_67 (lv_at hl 0 rfl) ?_
        refine lv_iconst (v := (-1)) hx hb dX11_finds_69 (by decide) ?_
        refine lv_icmp_eq (tgt := 125) hx hb dX11_finds_70 (by decide) (fun c11 => ?_) (fun c11 => ?_)
        · have q := (if_pos c11).mp q
          exact t_125 k39 hk39 (fun F a0 a1 a2 => P_X11_finds_47 k39 K n F a0 a1 a2) ih F10 x2 x3 x4 _ _ _ hH hS (lv_sub hl [1, 2, 3, 4] rfl) q
        · have q := (if_neg c11).mp q
          refine lv_aload_n hx hb dX11_finds_73 rfl (lv_at hl 1 rfl) ?_
          refine g_get (ci := 15) (v := .ref (ad 41 0)) (C := RX11) (T := TX11) (N := 44) hx hb hts (fun _ h => (List.mem_cons_of_mem _ (List.mem_append_left _ (List.mem_append_right _ h)))) hown hK hH 40 0 (by decide) Nat.zero_lt_one rfl rfl 1 (by decide) (hts (.fieldLink RX11 7 "BallotFoundryModel" "barred" "[Z") (List.mem_of_getElem? (i := 3) rfl)) (fun _ h => h) rfl dX11_finds_74 ?_
          refine lv_iload hx hb dX11_finds_77 (lv_at hl 0 rfl) ?_
          obtain ⟨h12, q⟩ := q
          refine g_zald hx hb hK hH 41 0 (by decide) Nat.zero_lt_one 72 rfl h12 dX11_finds_79 ?_
          refine lv_if_ne (tgt := 125) hx hb dX11_finds_80 (by decide) (fun c13 => ?_) (fun c13 => ?_)
          · have q := (if_neg c13).mp q
            exact t_125 k39 hk39 (fun F a0 a1 a2 => P_X11_finds_47 k39 K n F a0 a1 a2) ih F10 x2 x3 x4 _ _ _ hH hS (lv_sub hl [1, 2, 3, 4] rfl) q
          · have q := (if_pos c13).mp q
            refine lv_aload_n hx hb dX11_finds_83 rfl (lv_at hl 1 rfl) ?_
            refine g_get (ci := 15) (v := .ref (ad 42 0)) (C := RX11) (T := TX11) (N := 44) hx hb hts (fun _ h => (List.mem_cons_of_mem _ (List.mem_append_left _ (List.mem_append_right _ h)))) hown hK hH 40 0 (by decide) Nat.zero_lt_one rfl rfl 2 (by decide) (hts (.fieldLink RX11 13 "BallotFoundryModel" "far" "[I") (List.mem_of_getElem? (i := 1) rfl)) (fun _ h => h) rfl dX11_finds_84 ?_
            refine lv_iload hx hb dX11_finds_87 (lv_at hl 4 rfl) ?_
            obtain ⟨h14, q⟩ := q
            refine g_iald hx hb hK hH 42 0 (by decide) Nat.zero_lt_one 36 rfl h14 dX11_finds_89 ?_
            refine lv_iconst (v := (-1)) hx hb dX11_finds_90 (by decide) ?_
            refine lv_icmp_ne (tgt := 125) hx hb dX11_finds_91 (by decide) (fun c15 => ?_) (fun c15 => ?_)
            · have q := (if_neg c15).mp q
              exact t_125 k39 hk39 (fun F a0 a1 a2 => P_X11_finds_47 k39 K n F a0 a1 a2) ih F10 x2 x3 x4 _ _ _ hH hS (lv_sub hl [1, 2, 3, 4] rfl) q
            · have q := (if_pos c15).mp q
              refine lv_aload_n hx hb dX11_finds_94 rfl (lv_at hl 1 rfl) ?_
              refine g_get (ci := 15) (v := .ref (ad 42 0)) (C := RX11) (T := TX11) (N := 44) hx hb hts (fun _ h => (List.mem_cons_of_mem _ (List.mem_append_left _ (List.mem_append_right _ h)))) hown hK hH 40 0 (by decide) Nat.zero_lt_one rfl rfl 2 (by decide) (hts (.fieldLink RX11 13 "BallotFoundryModel" "far" "[I") (List.mem_of_getElem? (i := 1) rfl)) (fun _ h => h) rfl dX11_finds_95 ?_
              refine lv_iload hx hb dX11_finds_98 (lv_at hl 4 rfl) ?_
              refine lv_aload_n hx hb dX11_finds_100 rfl (lv_at hl 1 rfl) ?_
              refine g_get (ci := 15) (v := .ref (ad 42 0)) (C := RX11) (T := TX11) (N := 44) hx hb hts (fun _ h => (List.mem_cons_of_mem _ (List.mem_append_left _ (List.mem_append_right _ h)))) hown hK hH 40 0 (by decide) Nat.zero_lt_one rfl rfl 2 (by decide) (hts (.fieldLink RX11 13 "BallotFoundryModel" "far" "[I") (List.mem_of_getElem? (i := 1) rfl)) (fun _ h => h) rfl dX11_finds_101 ?_
              refine lv_aload_n hx hb dX11_finds_104 rfl (lv_at hl 1 rfl) ?_
              refine g_get (ci := 15) (v := .ref (ad 43 0)) (C := RX11) (T := TX11) (N := 44) hx hb hts (fun _ h => (List.mem_cons_of_mem _ (List.mem_append_left _ (List.mem_append_right _ h)))) hown hK hH 40 0 (by decide) Nat.zero_lt_one rfl rfl 3 (by decide) (hts (.fieldLink RX11 17 "BallotFoundryModel" "row" "[I") (List.mem_of_getElem? (i := 2) rfl)) (fun _ h => h) rfl dX11_finds_105 ?_
              refine lv_iload_n hx hb dX11_finds_108 rfl (lv_at hl 3 rfl) ?_
              obtain ⟨h16, q⟩ := q
              refine g_iald hx hb hK hH 43 0 (by decide) Nat.zero_lt_one 36 rfl h16 dX11_finds_109 ?_
              obtain ⟨h17, q⟩ := q
              refine g_iald hx hb hK hH 42 0 (by decide) Nat.zero_lt_one 36 rfl h17 dX11_finds_110 ?_
              refine lv_iconst (v := 1) hx hb dX11_finds_111 (by decide) ?_
              refine lv_iadd hx hb dX11_finds_112 ?_
              obtain ⟨h18, q⟩ := q
              refine g_iast hx hb hK hH hS 42 0 (by decide) Nat.zero_lt_one (by decide) 36 (fun _ => rfl) h18 dX11_finds_113 (fun H locs hH hS => ?_)
              obtain ⟨F19, eF19⟩ : ∃ z, z = fs F10 42 0 x4.toNatClampNeg ((F10 42 0 (F10 43 0 x3.toNatClampNeg).toNatClampNeg) + 1) := ⟨_, rfl⟩
              have q := q F19 eF19
              rw [← eF19] at hH
              refine lv_aload_n hx hb dX11_finds_114 rfl (lv_at hl 1 rfl) ?_
              refine g_get (ci := 15) (v := .ref (ad 43 0)) (C := RX11) (T := TX11) (N := 44) hx hb hts (fun _ h => (List.mem_cons_of_mem _ (List.mem_append_left _ (List.mem_append_right _ h)))) hown hK hH 40 0 (by decide) Nat.zero_lt_one rfl rfl 3 (by decide) (hts (.fieldLink RX11 17 "BallotFoundryModel" "row" "[I") (List.mem_of_getElem? (i := 2) rfl)) (fun _ h => h) rfl dX11_finds_115 ?_
              refine lv_iload_n hx hb dX11_finds_118 rfl (lv_at hl 2 rfl) ?_
              refine lv_iload hx hb dX11_finds_119 (lv_at hl 4 rfl) ?_
              obtain ⟨h20, q⟩ := q
              refine g_iast hx hb hK hH hS 43 0 (by decide) Nat.zero_lt_one (by decide) 36 (fun _ => rfl) h20 dX11_finds_121 (fun H locs hH hS => ?_)
              obtain ⟨F21, eF21⟩ : ∃ z, z = fs F19 43 0 x2.toNatClampNeg x4 := ⟨_, rfl⟩
              have q := q F21 eF21
              rw [← eF21] at hH
              refine lv_iinc (v := x2 + 1) (lv' := [(2, .int (x2 + 1)), (5, .int r9), (0, .ref (ad 40 0)), (3, .int x3), (4, .int x4)]) hx hb dX11_finds_122 hl (k := 2) rfl rfl (by decide) rfl (fun ls hl => ?_)
              exact t_125 k39 hk39 (fun F a0 a1 a2 => P_X11_finds_47 k39 K n F a0 a1 a2) ih F21 (x2 + 1) x3 x4 _ _ _ hH hS (lv_sub hl [2, 0, 3, 4] rfl) q
  have t_39 : ∀ n : Nat, ∀ (F : GF) (x2 : Int32) (x3 : Int32) (H : Heap) (locs : List Loc) (ls : Array Slot), gH G ad F H → va_S (gA G) s.heap H locs → lv_has ls 6 [(0, .ref (ad 40 0)), (2, .int x2), (3, .int x3)] → (P_X11_finds_39 K n) F x2 x3 → W p l e rm_X11_finds s m ([.ref (ad 40 0), .int p1] : List Value).toArray below meth c H locs 0 0 (q_X11_finds G ad K below ([.ref (ad 40 0), .int p1] : List Value).toArray s) (F0 m 39 ls []) := by
    intro n
    induction n with
    | zero =>
      intro F x2 x3 H locs ls hH hS hl q
      exact False.elim q
    | succ n ih =>
      intro F x2 x3 H locs ls hH hS hl q
      rw [P_X11_finds_39] at q
      refine lv_iload_n hx hb dX11_finds_39 rfl (lv_at hl 2 rfl) ?_
      refine lv_iload_n hx hb dX11_finds_40 rfl (lv_at hl 1 rfl) ?_
      refine lv_icmp_ge (tgt := 137) hx hb dX11_finds_41 (by decide) (fun c6 => ?_) (fun c6 => ?_)
      · have q := (if_pos c6).mp q
        exact (W.vret hx hb hr (fun t ht hW => ⟨⟨F, rfl, q, gH_at ht hH⟩, hS.F ht⟩) hS.2.2 dX11_finds_137)
      · have q := (if_neg c6).mp q
        refine lv_iconst (v := 0) hx hb dX11_finds_44 (by decide) ?_
        refine lv_istore (lv' := [(4, .int 0), (0, .ref (ad 40 0)), (2, .int x2), (3, .int x3)]) hx hb dX11_finds_45 hl (by decide) rfl (fun ls hl => ?_)
        obtain ⟨nn, q⟩ := q
        exact t_47 (fun F a0 a1 => P_X11_finds_39 K n F a0 a1) ih nn F x2 x3 0 _ _ _ hH hS (lv_sub hl [1, 2, 3, 0] rfl) q
  have t_2 : ∀ n : Nat, ∀ (F : GF) (x1 : Int32) (x2 : Int32) (H : Heap) (locs : List Loc) (ls : Array Slot), gH G ad F H → va_S (gA G) s.heap H locs → lv_has ls 6 [(0, .ref (ad 40 0)), (1, .int x1), (2, .int x2)] → (P_X11_finds_2 K n) F x1 x2 → W p l e rm_X11_finds s m ([.ref (ad 40 0), .int p1] : List Value).toArray below meth c H locs 0 0 (q_X11_finds G ad K below ([.ref (ad 40 0), .int p1] : List Value).toArray s) (F0 m 2 ls []) := by
    intro n
    induction n with
    | zero =>
      intro F x1 x2 H locs ls hH hS hl q
      exact False.elim q
    | succ n ih =>
      intro F x1 x2 H locs ls hH hS hl q
      rw [P_X11_finds_2] at q
      refine lv_iload_n hx hb dX11_finds_2 rfl (lv_at hl 2 rfl) ?_
      refine lv_bipush (v := 36) hx hb dX11_finds_3 (by decide) ?_
      refine lv_icmp_ge (tgt := 21) hx hb dX11_finds_5 (by decide) (fun c1 => ?_) (fun c1 => ?_)
      · have q := (if_pos c1).mp q
        refine lv_aload_n hx hb dX11_finds_21 rfl (lv_at hl 0 rfl) ?_
        refine g_get (ci := 15) (v := .ref (ad 42 0)) (C := RX11) (T := TX11) (N := 44) hx hb hts (fun _ h => (List.mem_cons_of_mem _ (List.mem_append_left _ (List.mem_append_right _ h)))) hown hK hH 40 0 (by decide) Nat.zero_lt_one rfl rfl 2 (by decide) (hts (.fieldLink RX11 13 "BallotFoundryModel" "far" "[I") (List.mem_of_getElem? (i := 1) rfl)) (fun _ h => h) rfl dX11_finds_22 ?_
        refine lv_iload_n hx hb dX11_finds_25 rfl (lv_at hl 1 rfl) ?_
        refine lv_iconst (v := 0) hx hb dX11_finds_26 (by decide) ?_
        obtain ⟨h2, q⟩ := q
        refine g_iast hx hb hK hH hS 42 0 (by decide) Nat.zero_lt_one (by decide) 36 (fun _ => rfl) h2 dX11_finds_27 (fun H locs hH hS => ?_)
        obtain ⟨F3, eF3⟩ : ∃ z, z = fs F 42 0 x1.toNatClampNeg 0 := ⟨_, rfl⟩
        have q := q F3 eF3
        rw [← eF3] at hH
        refine lv_aload_n hx hb dX11_finds_28 rfl (lv_at hl 0 rfl) ?_
        refine g_get (ci := 15) (v := .ref (ad 43 0)) (C := RX11) (T := TX11) (N := 44) hx hb hts (fun _ h => (List.mem_cons_of_mem _ (List.mem_append_left _ (List.mem_append_right _ h)))) hown hK hH 40 0 (by decide) Nat.zero_lt_one rfl rfl 3 (by decide) (hts (.fieldLink RX11 17 "BallotFoundryModel" "row" "[I") (List.mem_of_getElem? (i := 2) rfl)) (fun _ h => h) rfl dX11_finds_29 ?_
        refine lv_iconst (v := 0) hx hb dX11_finds_32 (by decide) ?_
        refine lv_iload_n hx hb dX11_finds_33 rfl (lv_at hl 1 rfl) ?_
        obtain ⟨h4, q⟩ := q
        refine g_iast hx hb hK hH hS 43 0 (by decide) Nat.zero_lt_one (by decide) 36 (fun _ => rfl) h4 dX11_finds_34 (fun H locs hH hS => ?_)
        obtain ⟨F5, eF5⟩ : ∃ z, z = fs F3 43 0 (0 : Int32).toNatClampNeg x1 := ⟨_, rfl⟩
        have q := q F5 eF5
        rw [← eF5] at hH
        refine lv_iconst (v := 1) hx hb dX11_finds_35 (by decide) ?_
        refine lv_istore_n (lv' := [(2, .int 1), (0, .ref (ad 40 0)), (1, .int x1)]) hx hb dX11_finds_36 rfl hl (by decide) rfl (fun ls hl => ?_)
        refine lv_iconst (v := 0) hx hb dX11_finds_37 (by decide) ?_
        refine lv_istore_n (lv' := [(3, .int 0), (2, .int 1), (0, .ref (ad 40 0)), (1, .int x1)]) hx hb dX11_finds_38 rfl hl (by decide) rfl (fun ls hl => ?_)
        obtain ⟨nn, q⟩ := q
        exact t_39 nn F5 1 0 _ _ _ hH hS (lv_sub hl [2, 1, 0] rfl) q
      · have q := (if_neg c1).mp q
        refine lv_aload_n hx hb dX11_finds_8 rfl (lv_at hl 0 rfl) ?_
        refine g_get (ci := 15) (v := .ref (ad 42 0)) (C := RX11) (T := TX11) (N := 44) hx hb hts (fun _ h => (List.mem_cons_of_mem _ (List.mem_append_left _ (List.mem_append_right _ h)))) hown hK hH 40 0 (by decide) Nat.zero_lt_one rfl rfl 2 (by decide) (hts (.fieldLink RX11 13 "BallotFoundryModel" "far" "[I") (List.mem_of_getElem? (i := 1) rfl)) (fun _ h => h) rfl dX11_finds_9 ?_
        refine lv_iload_n hx hb dX11_finds_12 rfl (lv_at hl 2 rfl) ?_
        refine lv_iconst (v := (-1)) hx hb dX11_finds_13 (by decide) ?_
        obtain ⟨h22, q⟩ := q
        refine g_iast hx hb hK hH hS 42 0 (by decide) Nat.zero_lt_one (by decide) 36 (fun _ => rfl) h22 dX11_finds_14 (fun H locs hH hS => ?_)
        obtain ⟨F23, eF23⟩ : ∃ z, z = fs F 42 0 x2.toNatClampNeg (-1) := ⟨_, rfl⟩
        have q := q F23 eF23
        rw [← eF23] at hH
        refine lv_iinc (v := x2 + 1) (lv' := [(2, .int (x2 + 1)), (0, .ref (ad 40 0)), (1, .int x1)]) hx hb dX11_finds_15 hl (k := 2) rfl rfl (by decide) rfl (fun ls hl => ?_)
        refine lv_goto (tgt := 2) hx hb dX11_finds_18 (by decide) ?_
        exact ih F23 x1 (x2 + 1) _ _ _ hH hS (lv_sub hl [1, 2, 0] rfl) q
  unfold P_X11_finds at q
  refine lv_iconst (v := 0) hx hb dX11_finds_0 (by decide) ?_
  refine lv_istore_n (lv' := [(2, .int 0), (0, .ref (ad 40 0)), (1, .int p1)]) hx hb dX11_finds_1 rfl hl (by decide) rfl (fun ls hl => ?_)
  obtain ⟨nn, q⟩ := q
  exact t_2 nn F p1 0 _ _ _ hH hS (lv_sub hl [1, 2, 0] rfl) q
abbrev rm_X11_way : Room := { frames := 2, cells := 0, slots := 0, locals := 48 }
abbrev q_X11_way (G : GP) (ad : Nat → Nat → Nat) (K : Int32 → GF → Prop) (below : List Frame) (args : Array Value) (s : State) : State → Prop := MQ below (gQi G ad K) args s 0 0 (gA G)
set_option maxHeartbeats 4000000 in
set_option maxRecDepth 100000 in
theorem c_X11_way (l : Launch) (G : GP) (ad : Nat → Nat → Nat) (F : GF) (p1 : Int32) (p2 : Int32) (K : Int32 → GF → Prop) : Met l yX11_way wsX11_way rm_X11_way (va_Pc [.ref (ad 40 0), .int p1, .int p2] (fun U => gD G ad F U ∧ P_X11_way F p1 p2 K)) (gQi G ad K) 0 0 (gA G) := by
  refine Met.ofW (cc := cX11_way) (maxL := 3) (ret := (some .int)) (by decide) rfl ?_
  intro p e s m args below meth c s₁ Bd hml hv
  obtain ⟨rfl, ⟨hK, hG, hB, hH⟩, q⟩ := hv
  have hx := Bd.exec
  have hb := Bd.bytes
  have hr := Bd.returns
  have hts := atoms_spec (ws := wsX11_way) Bd.pre
  have hown : s.vm.findClass RX11 = some m.cls := findClass_of_methodNamed Bd.named
  have hlocks := Bd.notSynchronized
  have hS : va_S (gA G) s.heap s.heap [] := va_S.rf
  have hl := lv_entry [.ref (ad 40 0), .int p1, .int p2] (n := 3) (Nat.le_of_ble_eq_true rfl)
  rw [lg_entry_eq]
  generalize (lg_sl [.ref (ad 40 0), .int p1, .int p2] ++ List.replicate (3 - (lg_sl [.ref (ad 40 0), .int p1, .int p2]).length) Slot.unset).toArray = ls at hl ⊢
  have hl : lv_has ls 3 [(0, .ref (ad 40 0)), (1, .int p1), (2, .int p2)] := hl
  show W p l e rm_X11_way s m ([.ref (ad 40 0), .int p1, .int p2] : List Value).toArray below meth c s.heap [] 0 0 (q_X11_way G ad K below ([.ref (ad 40 0), .int p1, .int p2] : List Value).toArray s) _
  have t_20 : ∀ (F : GF) (x1 : Int32) (x2 : Int32) (s1 : Int32) (H : Heap) (locs : List Loc) (ls : Array Slot), gH G ad F H → va_S (gA G) s.heap H locs → lv_has ls 3 [(0, .ref (ad 40 0)), (1, .int x1), (2, .int x2)] → (P_X11_way_20 K) F x1 x2 s1 → W p l e rm_X11_way s m ([.ref (ad 40 0), .int p1, .int p2] : List Value).toArray below meth c H locs 0 0 (q_X11_way G ad K below ([.ref (ad 40 0), .int p1, .int p2] : List Value).toArray s) (F0 m 20 ls [.int s1, .ref (ad 40 0)]) := by
    intro F x1 x2 s1 H locs ls hH hS hl q
    unfold P_X11_way_20 at q
    refine va_calli (va_runV (As := [.int s1]) (rest := []) ⟨hx, hb, hml, hown, hts⟩ (c_X11_asked l G ad F s1 _) (cwV 1 hts gX11_way_X11_asked rfl rfl rfl (by decide +kernel) ⟨Nat.le_of_ble_eq_true rfl, Nat.le_of_ble_eq_true rfl⟩) ⟨fun a U g mk h => ⟨h.1, gD_blind h.2.1, h.2.2⟩, g_recv (C := RX11) (T := TX11) (N := 44) hK hH 40 0 (by decide) Nat.zero_lt_one rfl rfl, fun U hU hW => ⟨rfl, gD_at hK hG hB hH hS hU hW, q⟩⟩ rfl rfl hl.1 rfl (lv_room (Nat.le_of_ble_eq_true rfl)) dX11_way_20 ⟨Nat.le_of_ble_eq_true rfl, Nat.le_of_ble_eq_true rfl⟩) hS (fun _ _ h => h) (fun _ h => h) (fun r4 F5 t H locs ht hvm q hB1 hz hk hS => ?_)
    have hH : gH G ad F5 H := gH_to ht hB1
    refine lv_if_ne (tgt := 28) hx hb dX11_way_23 (by decide) (fun c6 => ?_) (fun c6 => ?_)
    · have q := (if_neg c6).mp q
      refine lv_aload_n hx hb dX11_way_28 rfl (lv_at hl 0 rfl) ?_
      refine lv_iload_n hx hb dX11_way_29 rfl (lv_at hl 1 rfl) ?_
      refine va_callv (va_runV (As := [.int x1]) (rest := []) ⟨hx, hb, hml, hown, hts⟩ (c_X11_finds l G ad F5 x1 _) (cwV 1 hts gX11_way_X11_finds rfl rfl rfl (by decide +kernel) ⟨Nat.le_of_ble_eq_true rfl, Nat.le_of_ble_eq_true rfl⟩) ⟨fun a U g mk h => ⟨h.1, gD_blind h.2.1, h.2.2⟩, g_recv (C := RX11) (T := TX11) (N := 44) hK hH 40 0 (by decide) Nat.zero_lt_one rfl rfl, fun U hU hW => ⟨rfl, gD_at hK hG hB hH hS hU hW, q⟩⟩ rfl rfl hl.1 rfl (lv_room (Nat.le_of_ble_eq_true rfl)) dX11_way_30 ⟨Nat.le_of_ble_eq_true rfl, Nat.le_of_ble_eq_true rfl⟩) hS (fun _ _ h => h) (fun _ h => h) (fun F8 t H locs ht hvm q hB1 hz hk hS => ?_)
      have hH : gH G ad F8 H := gH_to ht hB1
      refine lv_aload_n hx hb dX11_way_33 rfl (lv_at hl 0 rfl) ?_
      refine g_get (ci := 15) (v := .ref (ad 42 0)) (C := RX11) (T := TX11) (N := 44) hx hb hts (fun _ h => (List.mem_cons_of_mem _ (List.mem_append_left _ (List.mem_append_right _ h)))) hown hK hH 40 0 (by decide) Nat.zero_lt_one rfl rfl 2 (by decide) (hts (.fieldLink RX11 13 "BallotFoundryModel" "far" "[I") (List.mem_of_getElem? (i := 1) rfl)) (fun _ h => h) rfl dX11_way_34 ?_
      refine lv_iload_n hx hb dX11_way_37 rfl (lv_at hl 2 rfl) ?_
      obtain ⟨h9, q⟩ := q
      refine g_iald hx hb hK hH 42 0 (by decide) Nat.zero_lt_one 36 rfl h9 dX11_way_38 ?_
      exact (W.iret (v := (F8 42 0 x2.toNatClampNeg)) hx hb hr (fun t ht hW => ⟨⟨(F8 42 0 x2.toNatClampNeg), F8, rfl, q, gH_at ht hH⟩, hS.F ht⟩) hS.2.2 dX11_way_39)
    · have q := (if_pos c6).mp q
      refine lv_iconst (v := 0) hx hb dX11_way_26 (by decide) ?_
      exact (W.iret (v := 0) hx hb hr (fun t ht hW => ⟨⟨0, F5, rfl, q, gH_at ht hH⟩, hS.F ht⟩) hS.2.2 dX11_way_27)
  have t_19 : ∀ (F : GF) (x1 : Int32) (x2 : Int32) (H : Heap) (locs : List Loc) (ls : Array Slot), gH G ad F H → va_S (gA G) s.heap H locs → lv_has ls 3 [(0, .ref (ad 40 0)), (1, .int x1), (2, .int x2)] → (P_X11_way_19 K) F x1 x2 → W p l e rm_X11_way s m ([.ref (ad 40 0), .int p1, .int p2] : List Value).toArray below meth c H locs 0 0 (q_X11_way G ad K below ([.ref (ad 40 0), .int p1, .int p2] : List Value).toArray s) (F0 m 19 ls [.ref (ad 40 0)]) := by
    intro F x1 x2 H locs ls hH hS hl q
    unfold P_X11_way_19 at q
    refine lv_iconst (v := 0) hx hb dX11_way_19 (by decide) ?_
    exact t_20 F x1 x2 0 _ _ _ hH hS (lv_sub hl [0, 1, 2] rfl) q
  unfold P_X11_way at q
  refine lv_aload_n hx hb dX11_way_0 rfl (lv_at hl 0 rfl) ?_
  refine lv_iload_n hx hb dX11_way_1 rfl (lv_at hl 1 rfl) ?_
  refine va_calli (va_runS (As := [.int p1]) (rest := [.ref (ad 40 0)]) ⟨hx, hb, hml, hown, hts⟩ (c_X11_isCrossing l G ad F p1 _) (va_cwS 1 hts gX11_way_X11_isCrossing rfl rfl rfl (by decide +kernel) ⟨Nat.le_of_ble_eq_true rfl, Nat.le_of_ble_eq_true rfl⟩) ⟨fun a U g mk h => ⟨h.1, gD_blind h.2.1, h.2.2⟩, fun U hU hW => ⟨rfl, gD_at hK hG hB hH hS hU hW, q⟩⟩ rfl rfl hl.1 rfl (lv_room (Nat.le_of_ble_eq_true rfl)) dX11_way_2 ⟨Nat.le_of_ble_eq_true rfl, Nat.le_of_ble_eq_true rfl⟩) hS (fun _ _ h => h) (fun _ h => h) (fun r1 F2 t H locs ht hvm q hB1 hz hk hS => ?_)
  have hH : gH G ad F2 H := gH_to ht hB1
  refine lv_if_eq (tgt := 19) hx hb dX11_way_5 (by decide) (fun c3 => ?_) (fun c3 => ?_)
  · have q := (if_pos c3).mp q
    exact t_19 F2 p1 p2 _ _ _ hH hS (lv_sub hl [0, 1, 2] rfl) q
  · have q := (if_neg c3).mp q
    refine lv_iload_n hx hb dX11_way_8 rfl (lv_at hl 2 rfl) ?_
    refine va_calli (va_runS (As := [.int p2]) (rest := [.ref (ad 40 0)]) ⟨hx, hb, hml, hown, hts⟩ (c_X11_isCrossing l G ad F2 p2 _) (va_cwS 1 hts gX11_way_X11_isCrossing rfl rfl rfl (by decide +kernel) ⟨Nat.le_of_ble_eq_true rfl, Nat.le_of_ble_eq_true rfl⟩) ⟨fun a U g mk h => ⟨h.1, gD_blind h.2.1, h.2.2⟩, fun U hU hW => ⟨rfl, gD_at hK hG hB hH hS hU hW, q⟩⟩ rfl rfl hl.1 rfl (lv_room (Nat.le_of_ble_eq_true rfl)) dX11_way_9 ⟨Nat.le_of_ble_eq_true rfl, Nat.le_of_ble_eq_true rfl⟩) hS (fun _ _ h => h) (fun _ h => h) (fun r10 F11 t H locs ht hvm q hB1 hz hk hS => ?_)
    have hH : gH G ad F11 H := gH_to ht hB1
    refine lv_if_eq (tgt := 19) hx hb dX11_way_12 (by decide) (fun c12 => ?_) (fun c12 => ?_)
    · have q := (if_pos c12).mp q
      exact t_19 F11 p1 p2 _ _ _ hH hS (lv_sub hl [0, 1, 2] rfl) q
    · have q := (if_neg c12).mp q
      refine lv_iconst (v := 1) hx hb dX11_way_15 (by decide) ?_
      refine lv_goto (tgt := 20) hx hb dX11_way_16 (by decide) ?_
      exact t_20 F11 p1 p2 1 _ _ _ hH hS (lv_sub hl [0, 1, 2] rfl) q
abbrev rm_X11_station : Room := { frames := 2, cells := 0, slots := 0, locals := 42 }
abbrev q_X11_station (G : GP) (ad : Nat → Nat → Nat) (K : Int32 → GF → Prop) (below : List Frame) (args : Array Value) (s : State) : State → Prop := MQ below (gQi G ad K) args s 0 0 (gA G)
set_option maxHeartbeats 4000000 in
set_option maxRecDepth 100000 in
theorem c_X11_station (l : Launch) (G : GP) (ad : Nat → Nat → Nat) (F : GF) (p1 : Int32) (p2 : Int32) (K : Int32 → GF → Prop) : Met l yX11_station wsX11_station rm_X11_station (va_Pc [.ref (ad 40 0), .int p1, .int p2] (fun U => gD G ad F U ∧ P_X11_station F p1 p2 K)) (gQi G ad K) 0 0 (gA G) := by
  refine Met.ofW (cc := cX11_station) (maxL := 3) (ret := (some .int)) (by decide) rfl ?_
  intro p e s m args below meth c s₁ Bd hml hv
  obtain ⟨rfl, ⟨hK, hG, hB, hH⟩, q⟩ := hv
  have hx := Bd.exec
  have hb := Bd.bytes
  have hr := Bd.returns
  have hts := atoms_spec (ws := wsX11_station) Bd.pre
  have hown : s.vm.findClass RX11 = some m.cls := findClass_of_methodNamed Bd.named
  have hlocks := Bd.notSynchronized
  have hS : va_S (gA G) s.heap s.heap [] := va_S.rf
  have hl := lv_entry [.ref (ad 40 0), .int p1, .int p2] (n := 3) (Nat.le_of_ble_eq_true rfl)
  rw [lg_entry_eq]
  generalize (lg_sl [.ref (ad 40 0), .int p1, .int p2] ++ List.replicate (3 - (lg_sl [.ref (ad 40 0), .int p1, .int p2]).length) Slot.unset).toArray = ls at hl ⊢
  have hl : lv_has ls 3 [(0, .ref (ad 40 0)), (1, .int p1), (2, .int p2)] := hl
  show W p l e rm_X11_station s m ([.ref (ad 40 0), .int p1, .int p2] : List Value).toArray below meth c s.heap [] 0 0 (q_X11_station G ad K below ([.ref (ad 40 0), .int p1, .int p2] : List Value).toArray s) _
  have t_25 : ∀ (F : GF) (x1 : Int32) (x2 : Int32) (s1 : Int32) (s2 : Int32) (s3 : Int32) (H : Heap) (locs : List Loc) (ls : Array Slot), gH G ad F H → va_S (gA G) s.heap H locs → lv_has ls 3 [(0, .ref (ad 40 0)), (1, .int x1), (2, .int x2)] → (P_X11_station_25 K) F x1 x2 s1 s2 s3 → W p l e rm_X11_station s m ([.ref (ad 40 0), .int p1, .int p2] : List Value).toArray below meth c H locs 0 0 (q_X11_station G ad K below ([.ref (ad 40 0), .int p1, .int p2] : List Value).toArray s) (F0 m 25 ls [.int s3, .int s2, .int s1, .ref (ad 40 0)]) := by
    intro F x1 x2 s1 s2 s3 H locs ls hH hS hl q
    unfold P_X11_station_25 at q
    refine va_calli (va_runV (As := [.int s1, .int s2, .int s3]) (rest := []) ⟨hx, hb, hml, hown, hts⟩ (c_X11_asked__ l G ad F s1 s2 s3 _) (cwV 3 hts gX11_station_X11_asked__ rfl rfl rfl (by decide +kernel) ⟨Nat.le_of_ble_eq_true rfl, Nat.le_of_ble_eq_true rfl⟩) ⟨fun a U g mk h => ⟨h.1, gD_blind h.2.1, h.2.2⟩, g_recv (C := RX11) (T := TX11) (N := 44) hK hH 40 0 (by decide) Nat.zero_lt_one rfl rfl, fun U hU hW => ⟨rfl, gD_at hK hG hB hH hS hU hW, q⟩⟩ rfl rfl hl.1 rfl (lv_room (Nat.le_of_ble_eq_true rfl)) dX11_station_25 ⟨Nat.le_of_ble_eq_true rfl, Nat.le_of_ble_eq_true rfl⟩) hS (fun _ _ h => h) (fun _ h => h) (fun r6 F7 t H locs ht hvm q hB1 hz hk hS => ?_)
    have hH : gH G ad F7 H := gH_to ht hB1
    refine lv_if_ne (tgt := 33) hx hb dX11_station_28 (by decide) (fun c8 => ?_) (fun c8 => ?_)
    · have q := (if_neg c8).mp q
      refine lv_aload_n hx hb dX11_station_33 rfl (lv_at hl 0 rfl) ?_
      refine g_get (ci := 15) (v := .ref (ad 44 0)) (C := RX11) (T := TX11) (N := 44) hx hb hts (fun _ h => (List.mem_cons_of_mem _ (List.mem_append_left _ (List.mem_append_right _ h)))) hown hK hH 40 0 (by decide) Nat.zero_lt_one rfl rfl 4 (by decide) (hts (.fieldLink RX11 20 "BallotFoundryModel" "stationAt" "[I") (List.mem_of_getElem? (i := 2) rfl)) (fun _ h => h) rfl dX11_station_34 ?_
      refine lv_aload_n hx hb dX11_station_37 rfl (lv_at hl 0 rfl) ?_
      refine g_get (ci := 15) (v := .int (F7 40 0 6)) (C := RX11) (T := TX11) (N := 44) hx hb hts (fun _ h => (List.mem_cons_of_mem _ (List.mem_append_left _ (List.mem_append_right _ h)))) hown hK hH 40 0 (by decide) Nat.zero_lt_one rfl rfl 6 (by decide) (hts (.fieldLink RX11 115 "BallotFoundryModel" "stations" "I") (List.mem_of_getElem? (i := 1) rfl)) (fun _ h => h) rfl dX11_station_38 ?_
      refine lv_iload_n hx hb dX11_station_41 rfl (lv_at hl 1 rfl) ?_
      obtain ⟨h9, q⟩ := q
      refine g_iast hx hb hK hH hS 44 0 (by decide) Nat.zero_lt_one (by decide) 5 (fun _ => rfl) h9 dX11_station_42 (fun H locs hH hS => ?_)
      obtain ⟨F10, eF10⟩ : ∃ z, z = fs F7 44 0 (F7 40 0 6).toNatClampNeg x1 := ⟨_, rfl⟩
      have q := q F10 eF10
      rw [← eF10] at hH
      refine lv_aload_n hx hb dX11_station_43 rfl (lv_at hl 0 rfl) ?_
      refine g_get (ci := 15) (v := .ref (ad 45 0)) (C := RX11) (T := TX11) (N := 44) hx hb hts (fun _ h => (List.mem_cons_of_mem _ (List.mem_append_left _ (List.mem_append_right _ h)))) hown hK hH 40 0 (by decide) Nat.zero_lt_one rfl rfl 5 (by decide) (hts (.fieldLink RX11 23 "BallotFoundryModel" "room" "[I") (List.mem_of_getElem? (i := 3) rfl)) (fun _ h => h) rfl dX11_station_44 ?_
      refine lv_aload_n hx hb dX11_station_47 rfl (lv_at hl 0 rfl) ?_
      refine g_get (ci := 15) (v := .int (F10 40 0 6)) (C := RX11) (T := TX11) (N := 44) hx hb hts (fun _ h => (List.mem_cons_of_mem _ (List.mem_append_left _ (List.mem_append_right _ h)))) hown hK hH 40 0 (by decide) Nat.zero_lt_one rfl rfl 6 (by decide) (hts (.fieldLink RX11 115 "BallotFoundryModel" "stations" "I") (List.mem_of_getElem? (i := 1) rfl)) (fun _ h => h) rfl dX11_station_48 ?_
      refine lv_iload_n hx hb dX11_station_51 rfl (lv_at hl 2 rfl) ?_
      obtain ⟨h11, q⟩ := q
      refine g_iast hx hb hK hH hS 45 0 (by decide) Nat.zero_lt_one (by decide) 5 (fun _ => rfl) h11 dX11_station_52 (fun H locs hH hS => ?_)
      obtain ⟨F12, eF12⟩ : ∃ z, z = fs F10 45 0 (F10 40 0 6).toNatClampNeg x2 := ⟨_, rfl⟩
      have q := q F12 eF12
      rw [← eF12] at hH
      refine lv_aload_n hx hb dX11_station_53 rfl (lv_at hl 0 rfl) ?_
      refine lv_dup hx hb dX11_station_54 rfl ?_
      refine g_get (ci := 15) (v := .int (F12 40 0 6)) (C := RX11) (T := TX11) (N := 44) hx hb hts (fun _ h => (List.mem_cons_of_mem _ (List.mem_append_left _ (List.mem_append_right _ h)))) hown hK hH 40 0 (by decide) Nat.zero_lt_one rfl rfl 6 (by decide) (hts (.fieldLink RX11 115 "BallotFoundryModel" "stations" "I") (List.mem_of_getElem? (i := 1) rfl)) (fun _ h => h) rfl dX11_station_55 ?_
      refine lv_iconst (v := 1) hx hb dX11_station_58 (by decide) ?_
      refine lv_iadd hx hb dX11_station_59 ?_
      refine g_put (ci := 15) (v := .int ((F12 40 0 6) + 1)) (C := RX11) (T := TX11) (N := 44) hx hb hts (fun _ h => (List.mem_cons_of_mem _ (List.mem_append_left _ (List.mem_append_right _ h)))) tyX11 tyX11_ok nmX11 hown hK hH hS 40 0 (by decide) Nat.zero_lt_one (by decide) rfl rfl 6 (by decide) (hts (.fieldLink RX11 115 "BallotFoundryModel" "stations" "I") (List.mem_of_getElem? (i := 1) rfl)) (fun _ h => h) rfl (ty := .int) (by decide +kernel) rfl rfl (Nat.le_of_ble_eq_true rfl) ((F12 40 0 6) + 1) rfl dX11_station_60 (fun H locs hH hS => ?_)
      obtain ⟨F13, eF13⟩ : ∃ z, z = fs F12 40 0 6 ((F12 40 0 6) + 1) := ⟨_, rfl⟩
      have q := q F13 eF13
      rw [← eF13] at hH
      refine lv_aload_n hx hb dX11_station_63 rfl (lv_at hl 0 rfl) ?_
      refine g_get (ci := 15) (v := .int (F13 40 0 6)) (C := RX11) (T := TX11) (N := 44) hx hb hts (fun _ h => (List.mem_cons_of_mem _ (List.mem_append_left _ (List.mem_append_right _ h)))) hown hK hH 40 0 (by decide) Nat.zero_lt_one rfl rfl 6 (by decide) (hts (.fieldLink RX11 115 "BallotFoundryModel" "stations" "I") (List.mem_of_getElem? (i := 1) rfl)) (fun _ h => h) rfl dX11_station_64 ?_
      refine lv_iconst (v := 1) hx hb dX11_station_67 (by decide) ?_
      refine lv_isub hx hb dX11_station_68 ?_
      exact (W.iret (v := ((F13 40 0 6) - 1)) hx hb hr (fun t ht hW => ⟨⟨((F13 40 0 6) - 1), F13, rfl, q, gH_at ht hH⟩, hS.F ht⟩) hS.2.2 dX11_station_69)
    · have q := (if_pos c8).mp q
      refine lv_iconst (v := 0) hx hb dX11_station_31 (by decide) ?_
      exact (W.iret (v := 0) hx hb hr (fun t ht hW => ⟨⟨0, F7, rfl, q, gH_at ht hH⟩, hS.F ht⟩) hS.2.2 dX11_station_32)
  unfold P_X11_station at q
  refine lv_aload_n hx hb dX11_station_0 rfl (lv_at hl 0 rfl) ?_
  refine lv_iload_n hx hb dX11_station_1 rfl (lv_at hl 1 rfl) ?_
  refine va_calli (va_runS (As := [.int p1]) (rest := [.ref (ad 40 0)]) ⟨hx, hb, hml, hown, hts⟩ (c_X11_isCrossing l G ad F p1 _) (va_cwS 1 hts gX11_station_X11_isCrossing rfl rfl rfl (by decide +kernel) ⟨Nat.le_of_ble_eq_true rfl, Nat.le_of_ble_eq_true rfl⟩) ⟨fun a U g mk h => ⟨h.1, gD_blind h.2.1, h.2.2⟩, fun U hU hW => ⟨rfl, gD_at hK hG hB hH hS hU hW, q⟩⟩ rfl rfl hl.1 rfl (lv_room (Nat.le_of_ble_eq_true rfl)) dX11_station_2 ⟨Nat.le_of_ble_eq_true rfl, Nat.le_of_ble_eq_true rfl⟩) hS (fun _ _ h => h) (fun _ h => h) (fun r1 F2 t H locs ht hvm q hB1 hz hk hS => ?_)
  have hH : gH G ad F2 H := gH_to ht hB1
  refine lv_iload_n hx hb dX11_station_5 rfl (lv_at hl 2 rfl) ?_
  refine lv_iconst (v := 0) hx hb dX11_station_6 (by decide) ?_
  refine lv_bipush (v := 20) hx hb dX11_station_7 (by decide) ?_
  refine va_calli (va_runS (As := [.int p2, .int 0, .int 20]) (rest := [.int r1, .ref (ad 40 0)]) ⟨hx, hb, hml, hown, hts⟩ (c_X11_in l G ad F2 p2 0 20 _) (va_cwS 3 hts gX11_station_X11_in rfl rfl rfl (by decide +kernel) ⟨Nat.le_of_ble_eq_true rfl, Nat.le_of_ble_eq_true rfl⟩) ⟨fun a U g mk h => ⟨h.1, gD_blind h.2.1, h.2.2⟩, fun U hU hW => ⟨rfl, gD_at hK hG hB hH hS hU hW, q⟩⟩ rfl rfl hl.1 rfl (lv_room (Nat.le_of_ble_eq_true rfl)) dX11_station_9 ⟨Nat.le_of_ble_eq_true rfl, Nat.le_of_ble_eq_true rfl⟩) hS (fun _ _ h => h) (fun _ h => h) (fun r3 F4 t H locs ht hvm q hB1 hz hk hS => ?_)
  have hH : gH G ad F4 H := gH_to ht hB1
  refine lv_aload_n hx hb dX11_station_12 rfl (lv_at hl 0 rfl) ?_
  refine g_get (ci := 15) (v := .int (F4 40 0 6)) (C := RX11) (T := TX11) (N := 44) hx hb hts (fun _ h => (List.mem_cons_of_mem _ (List.mem_append_left _ (List.mem_append_right _ h)))) hown hK hH 40 0 (by decide) Nat.zero_lt_one rfl rfl 6 (by decide) (hts (.fieldLink RX11 115 "BallotFoundryModel" "stations" "I") (List.mem_of_getElem? (i := 1) rfl)) (fun _ h => h) rfl dX11_station_13 ?_
  refine lv_iconst (v := 5) hx hb dX11_station_16 (by decide) ?_
  refine lv_icmp_ge (tgt := 24) hx hb dX11_station_17 (by decide) (fun c5 => ?_) (fun c5 => ?_)
  · have q := (if_pos c5).mp q
    refine lv_iconst (v := 0) hx hb dX11_station_24 (by decide) ?_
    exact t_25 F4 p1 p2 r1 r3 0 _ _ _ hH hS (lv_sub hl [0, 1, 2] rfl) q
  · have q := (if_neg c5).mp q
    refine lv_iconst (v := 1) hx hb dX11_station_20 (by decide) ?_
    refine lv_goto (tgt := 25) hx hb dX11_station_21 (by decide) ?_
    exact t_25 F4 p1 p2 r1 r3 1 _ _ _ hH hS (lv_sub hl [0, 1, 2] rfl) q
abbrev rm_X11_setSeats : Room := { frames := 2, cells := 0, slots := 0, locals := 43 }
abbrev q_X11_setSeats (G : GP) (ad : Nat → Nat → Nat) (K : Int32 → GF → Prop) (below : List Frame) (args : Array Value) (s : State) : State → Prop := MQ below (gQi G ad K) args s 0 0 (gA G)
set_option maxHeartbeats 4000000 in
set_option maxRecDepth 100000 in
theorem c_X11_setSeats (l : Launch) (G : GP) (ad : Nat → Nat → Nat) (F : GF) (p1 : Int32) (p2 : Int32) (K : Int32 → GF → Prop) : Met l yX11_setSeats wsX11_setSeats rm_X11_setSeats (va_Pc [.ref (ad 40 0), .int p1, .int p2] (fun U => gD G ad F U ∧ P_X11_setSeats F p1 p2 K)) (gQi G ad K) 0 0 (gA G) := by
  refine Met.ofW (cc := cX11_setSeats) (maxL := 4) (ret := (some .int)) (by decide) rfl ?_
  intro p e s m args below meth c s₁ Bd hml hv
  obtain ⟨rfl, ⟨hK, hG, hB, hH⟩, q⟩ := hv
  have hx := Bd.exec
  have hb := Bd.bytes
  have hr := Bd.returns
  have hts := atoms_spec (ws := wsX11_setSeats) Bd.pre
  have hown : s.vm.findClass RX11 = some m.cls := findClass_of_methodNamed Bd.named
  have hlocks := Bd.notSynchronized
  have hS : va_S (gA G) s.heap s.heap [] := va_S.rf
  have hl := lv_entry [.ref (ad 40 0), .int p1, .int p2] (n := 4) (Nat.le_of_ble_eq_true rfl)
  rw [lg_entry_eq]
  generalize (lg_sl [.ref (ad 40 0), .int p1, .int p2] ++ List.replicate (4 - (lg_sl [.ref (ad 40 0), .int p1, .int p2]).length) Slot.unset).toArray = ls at hl ⊢
  have hl : lv_has ls 4 [(0, .ref (ad 40 0)), (1, .int p1), (2, .int p2)] := hl
  unfold P_X11_setSeats at q
  refine lv_aload_n hx hb dX11_setSeats_0 rfl (lv_at hl 0 rfl) ?_
  refine lv_aload_n hx hb dX11_setSeats_1 rfl (lv_at hl 0 rfl) ?_
  refine lv_iload_n hx hb dX11_setSeats_2 rfl (lv_at hl 1 rfl) ?_
  refine va_calli (va_runV (As := [.int p1]) (rest := [.ref (ad 40 0)]) ⟨hx, hb, hml, hown, hts⟩ (c_X11_isStation l G ad F p1 _) (cwV 1 hts gX11_setSeats_X11_isStation rfl rfl rfl (by decide +kernel) ⟨Nat.le_of_ble_eq_true rfl, Nat.le_of_ble_eq_true rfl⟩) ⟨fun a U g mk h => ⟨h.1, gD_blind h.2.1, h.2.2⟩, g_recv (C := RX11) (T := TX11) (N := 44) hK hH 40 0 (by decide) Nat.zero_lt_one rfl rfl, fun U hU hW => ⟨rfl, gD_at hK hG hB hH hS hU hW, q⟩⟩ rfl rfl hl.1 rfl (lv_room (Nat.le_of_ble_eq_true rfl)) dX11_setSeats_3 ⟨Nat.le_of_ble_eq_true rfl, Nat.le_of_ble_eq_true rfl⟩) hS (fun _ _ h => h) (fun _ h => h) (fun r1 F2 t H locs ht hvm q hB1 hz hk hS => ?_)
  have hH : gH G ad F2 H := gH_to ht hB1
  refine lv_iload_n hx hb dX11_setSeats_6 rfl (lv_at hl 2 rfl) ?_
  refine lv_iconst (v := 0) hx hb dX11_setSeats_7 (by decide) ?_
  refine lv_bipush (v := 20) hx hb dX11_setSeats_8 (by decide) ?_
  refine va_calli (va_runS (As := [.int p2, .int 0, .int 20]) (rest := [.int r1, .ref (ad 40 0)]) ⟨hx, hb, hml, hown, hts⟩ (c_X11_in l G ad F2 p2 0 20 _) (va_cwS 3 hts gX11_setSeats_X11_in rfl rfl rfl (by decide +kernel) ⟨Nat.le_of_ble_eq_true rfl, Nat.le_of_ble_eq_true rfl⟩) ⟨fun a U g mk h => ⟨h.1, gD_blind h.2.1, h.2.2⟩, fun U hU hW => ⟨rfl, gD_at hK hG hB hH hS hU hW, q⟩⟩ rfl rfl hl.1 rfl (lv_room (Nat.le_of_ble_eq_true rfl)) dX11_setSeats_10 ⟨Nat.le_of_ble_eq_true rfl, Nat.le_of_ble_eq_true rfl⟩) hS (fun _ _ h => h) (fun _ h => h) (fun r3 F4 t H locs ht hvm q hB1 hz hk hS => ?_)
  have hH : gH G ad F4 H := gH_to ht hB1
  refine va_calli (va_runV (As := [.int r1, .int r3]) (rest := []) ⟨hx, hb, hml, hown, hts⟩ (c_X11_asked_ l G ad F4 r1 r3 _) (cwV 2 hts gX11_setSeats_X11_asked_ rfl rfl rfl (by decide +kernel) ⟨Nat.le_of_ble_eq_true rfl, Nat.le_of_ble_eq_true rfl⟩) ⟨fun a U g mk h => ⟨h.1, gD_blind h.2.1, h.2.2⟩, g_recv (C := RX11) (T := TX11) (N := 44) hK hH 40 0 (by decide) Nat.zero_lt_one rfl rfl, fun U hU hW => ⟨rfl, gD_at hK hG hB hH hS hU hW, q⟩⟩ rfl rfl hl.1 rfl (lv_room (Nat.le_of_ble_eq_true rfl)) dX11_setSeats_13 ⟨Nat.le_of_ble_eq_true rfl, Nat.le_of_ble_eq_true rfl⟩) hS (fun _ _ h => h) (fun _ h => h) (fun r5 F6 t H locs ht hvm q hB1 hz hk hS => ?_)
  have hH : gH G ad F6 H := gH_to ht hB1
  refine lv_if_ne (tgt := 21) hx hb dX11_setSeats_16 (by decide) (fun c7 => ?_) (fun c7 => ?_)
  · have q := (if_neg c7).mp q
    refine lv_aload_n hx hb dX11_setSeats_21 rfl (lv_at hl 0 rfl) ?_
    refine g_get (ci := 15) (v := .ref (ad 45 0)) (C := RX11) (T := TX11) (N := 44) hx hb hts (fun _ h => (List.mem_cons_of_mem _ (List.mem_append_left _ (List.mem_append_right _ h)))) hown hK hH 40 0 (by decide) Nat.zero_lt_one rfl rfl 5 (by decide) (hts (.fieldLink RX11 23 "BallotFoundryModel" "room" "[I") (List.mem_of_getElem? (i := 1) rfl)) (fun _ h => h) rfl dX11_setSeats_22 ?_
    refine lv_iload_n hx hb dX11_setSeats_25 rfl (lv_at hl 1 rfl) ?_
    obtain ⟨h8, q⟩ := q
    refine g_iald hx hb hK hH 45 0 (by decide) Nat.zero_lt_one 5 rfl h8 dX11_setSeats_26 ?_
    refine lv_istore_n (lv' := [(3, .int (F6 45 0 p1.toNatClampNeg)), (0, .ref (ad 40 0)), (1, .int p1), (2, .int p2)]) hx hb dX11_setSeats_27 rfl hl (by decide) rfl (fun ls hl => ?_)
    refine lv_aload_n hx hb dX11_setSeats_28 rfl (lv_at hl 1 rfl) ?_
    refine g_get (ci := 15) (v := .ref (ad 45 0)) (C := RX11) (T := TX11) (N := 44) hx hb hts (fun _ h => (List.mem_cons_of_mem _ (List.mem_append_left _ (List.mem_append_right _ h)))) hown hK hH 40 0 (by decide) Nat.zero_lt_one rfl rfl 5 (by decide) (hts (.fieldLink RX11 23 "BallotFoundryModel" "room" "[I") (List.mem_of_getElem? (i := 1) rfl)) (fun _ h => h) rfl dX11_setSeats_29 ?_
    refine lv_iload_n hx hb dX11_setSeats_32 rfl (lv_at hl 2 rfl) ?_
    refine lv_iload_n hx hb dX11_setSeats_33 rfl (lv_at hl 3 rfl) ?_
    obtain ⟨h9, q⟩ := q
    refine g_iast hx hb hK hH hS 45 0 (by decide) Nat.zero_lt_one (by decide) 5 (fun _ => rfl) h9 dX11_setSeats_34 (fun H locs hH hS => ?_)
    obtain ⟨F10, eF10⟩ : ∃ z, z = fs F6 45 0 p1.toNatClampNeg p2 := ⟨_, rfl⟩
    have q := q F10 eF10
    rw [← eF10] at hH
    refine lv_iload_n hx hb dX11_setSeats_35 rfl (lv_at hl 0 rfl) ?_
    exact (W.iret (v := (F6 45 0 p1.toNatClampNeg)) hx hb hr (fun t ht hW => ⟨⟨(F6 45 0 p1.toNatClampNeg), F10, rfl, q, gH_at ht hH⟩, hS.F ht⟩) hS.2.2 dX11_setSeats_36)
  · have q := (if_pos c7).mp q
    refine lv_iconst (v := 0) hx hb dX11_setSeats_19 (by decide) ?_
    exact (W.iret (v := 0) hx hb hr (fun t ht hW => ⟨⟨0, F6, rfl, q, gH_at ht hH⟩, hS.F ht⟩) hS.2.2 dX11_setSeats_20)
abbrev rm_X11_comes : Room := { frames := 0, cells := 0, slots := 0, locals := 0 }
abbrev q_X11_comes (G : GP) (ad : Nat → Nat → Nat) (K : GF → Prop) (below : List Frame) (args : Array Value) (s : State) : State → Prop := MQ below (gQv G ad K) args s 0 0 (gA G)
set_option maxHeartbeats 4000000 in
set_option maxRecDepth 100000 in
theorem c_X11_comes (l : Launch) (G : GP) (ad : Nat → Nat → Nat) (F : GF) (p1 : Int32) (p2 : Int32) (K : GF → Prop) : Met l yX11_comes wsX11_comes rm_X11_comes (va_Pc [.ref (ad 40 0), .int p1, .int p2] (fun U => gD G ad F U ∧ P_X11_comes F p1 p2 K)) (gQv G ad K) 0 0 (gA G) := by
  refine Met.ofW (cc := cX11_comes) (maxL := 3) (ret := none) (by decide) rfl ?_
  intro p e s m args below meth c s₁ Bd hml hv
  obtain ⟨rfl, ⟨hK, hG, hB, hH⟩, q⟩ := hv
  have hx := Bd.exec
  have hb := Bd.bytes
  have hr := Bd.returns
  have hts := atoms_spec (ws := wsX11_comes) Bd.pre
  have hown : s.vm.findClass RX11 = some m.cls := findClass_of_methodNamed Bd.named
  have hlocks := Bd.notSynchronized
  have hS : va_S (gA G) s.heap s.heap [] := va_S.rf
  have hl := lv_entry [.ref (ad 40 0), .int p1, .int p2] (n := 3) (Nat.le_of_ble_eq_true rfl)
  rw [lg_entry_eq]
  generalize (lg_sl [.ref (ad 40 0), .int p1, .int p2] ++ List.replicate (3 - (lg_sl [.ref (ad 40 0), .int p1, .int p2]).length) Slot.unset).toArray = ls at hl ⊢
  have hl : lv_has ls 3 [(0, .ref (ad 40 0)), (1, .int p1), (2, .int p2)] := hl
  unfold P_X11_comes at q
  refine lv_aload_n hx hb dX11_comes_0 rfl (lv_at hl 0 rfl) ?_
  refine g_get (ci := 15) (v := .ref (ad 48 0)) (C := RX11) (T := TX11) (N := 44) hx hb hts (fun _ h => (List.mem_cons_of_mem _ (List.mem_append_left _ (List.mem_append_right _ h)))) hown hK hH 40 0 (by decide) Nat.zero_lt_one rfl rfl 10 (by decide) (hts (.fieldLink RX11 32 "BallotFoundryModel" "who" "[I") (List.mem_of_getElem? (i := 1) rfl)) (fun _ h => h) rfl dX11_comes_1 ?_
  refine lv_aload_n hx hb dX11_comes_4 rfl (lv_at hl 0 rfl) ?_
  refine g_get (ci := 15) (v := .int (F 40 0 13)) (C := RX11) (T := TX11) (N := 44) hx hb hts (fun _ h => (List.mem_cons_of_mem _ (List.mem_append_left _ (List.mem_append_right _ h)))) hown hK hH 40 0 (by decide) Nat.zero_lt_one rfl rfl 13 (by decide) (hts (.fieldLink RX11 146 "BallotFoundryModel" "moves" "I") (List.mem_of_getElem? (i := 2) rfl)) (fun _ h => h) rfl dX11_comes_5 ?_
  refine lv_iload_n hx hb dX11_comes_8 rfl (lv_at hl 1 rfl) ?_
  obtain ⟨h1, q⟩ := q
  refine g_iast hx hb hK hH hS 48 0 (by decide) Nat.zero_lt_one (by decide) 540 (fun _ => rfl) h1 dX11_comes_9 (fun H locs hH hS => ?_)
  obtain ⟨F2, eF2⟩ : ∃ z, z = fs F 48 0 (F 40 0 13).toNatClampNeg p1 := ⟨_, rfl⟩
  have q := q F2 eF2
  rw [← eF2] at hH
  refine lv_aload_n hx hb dX11_comes_10 rfl (lv_at hl 0 rfl) ?_
  refine g_get (ci := 15) (v := .ref (ad 49 0)) (C := RX11) (T := TX11) (N := 44) hx hb hts (fun _ h => (List.mem_cons_of_mem _ (List.mem_append_left _ (List.mem_append_right _ h)))) hown hK hH 40 0 (by decide) Nat.zero_lt_one rfl rfl 11 (by decide) (hts (.fieldLink RX11 35 "BallotFoundryModel" "when" "[I") (List.mem_of_getElem? (i := 3) rfl)) (fun _ h => h) rfl dX11_comes_11 ?_
  refine lv_aload_n hx hb dX11_comes_14 rfl (lv_at hl 0 rfl) ?_
  refine g_get (ci := 15) (v := .int (F2 40 0 13)) (C := RX11) (T := TX11) (N := 44) hx hb hts (fun _ h => (List.mem_cons_of_mem _ (List.mem_append_left _ (List.mem_append_right _ h)))) hown hK hH 40 0 (by decide) Nat.zero_lt_one rfl rfl 13 (by decide) (hts (.fieldLink RX11 146 "BallotFoundryModel" "moves" "I") (List.mem_of_getElem? (i := 2) rfl)) (fun _ h => h) rfl dX11_comes_15 ?_
  refine lv_aload_n hx hb dX11_comes_18 rfl (lv_at hl 0 rfl) ?_
  refine g_get (ci := 15) (v := .int (F2 40 0 0)) (C := RX11) (T := TX11) (N := 44) hx hb hts (fun _ h => (List.mem_cons_of_mem _ (List.mem_append_left _ (List.mem_append_right _ h)))) hown hK hH 40 0 (by decide) Nat.zero_lt_one rfl rfl 0 (by decide) (hts (.fieldLink RX11 149 "BallotFoundryModel" "today" "I") (List.mem_of_getElem? (i := 4) rfl)) (fun _ h => h) rfl dX11_comes_19 ?_
  obtain ⟨h3, q⟩ := q
  refine g_iast hx hb hK hH hS 49 0 (by decide) Nat.zero_lt_one (by decide) 540 (fun _ => rfl) h3 dX11_comes_22 (fun H locs hH hS => ?_)
  obtain ⟨F4, eF4⟩ : ∃ z, z = fs F2 49 0 (F2 40 0 13).toNatClampNeg (F2 40 0 0) := ⟨_, rfl⟩
  have q := q F4 eF4
  rw [← eF4] at hH
  refine lv_aload_n hx hb dX11_comes_23 rfl (lv_at hl 0 rfl) ?_
  refine g_get (ci := 15) (v := .ref (ad 50 0)) (C := RX11) (T := TX11) (N := 44) hx hb hts (fun _ h => (List.mem_cons_of_mem _ (List.mem_append_left _ (List.mem_append_right _ h)))) hown hK hH 40 0 (by decide) Nat.zero_lt_one rfl rfl 12 (by decide) (hts (.fieldLink RX11 38 "BallotFoundryModel" "where" "[I") (List.mem_of_getElem? (i := 5) rfl)) (fun _ h => h) rfl dX11_comes_24 ?_
  refine lv_aload_n hx hb dX11_comes_27 rfl (lv_at hl 0 rfl) ?_
  refine g_get (ci := 15) (v := .int (F4 40 0 13)) (C := RX11) (T := TX11) (N := 44) hx hb hts (fun _ h => (List.mem_cons_of_mem _ (List.mem_append_left _ (List.mem_append_right _ h)))) hown hK hH 40 0 (by decide) Nat.zero_lt_one rfl rfl 13 (by decide) (hts (.fieldLink RX11 146 "BallotFoundryModel" "moves" "I") (List.mem_of_getElem? (i := 2) rfl)) (fun _ h => h) rfl dX11_comes_28 ?_
  refine lv_iload_n hx hb dX11_comes_31 rfl (lv_at hl 2 rfl) ?_
  obtain ⟨h5, q⟩ := q
  refine g_iast hx hb hK hH hS 50 0 (by decide) Nat.zero_lt_one (by decide) 540 (fun _ => rfl) h5 dX11_comes_32 (fun H locs hH hS => ?_)
  obtain ⟨F6, eF6⟩ : ∃ z, z = fs F4 50 0 (F4 40 0 13).toNatClampNeg p2 := ⟨_, rfl⟩
  have q := q F6 eF6
  rw [← eF6] at hH
  refine lv_aload_n hx hb dX11_comes_33 rfl (lv_at hl 0 rfl) ?_
  refine lv_dup hx hb dX11_comes_34 rfl ?_
  refine g_get (ci := 15) (v := .int (F6 40 0 13)) (C := RX11) (T := TX11) (N := 44) hx hb hts (fun _ h => (List.mem_cons_of_mem _ (List.mem_append_left _ (List.mem_append_right _ h)))) hown hK hH 40 0 (by decide) Nat.zero_lt_one rfl rfl 13 (by decide) (hts (.fieldLink RX11 146 "BallotFoundryModel" "moves" "I") (List.mem_of_getElem? (i := 2) rfl)) (fun _ h => h) rfl dX11_comes_35 ?_
  refine lv_iconst (v := 1) hx hb dX11_comes_38 (by decide) ?_
  refine lv_iadd hx hb dX11_comes_39 ?_
  refine g_put (ci := 15) (v := .int ((F6 40 0 13) + 1)) (C := RX11) (T := TX11) (N := 44) hx hb hts (fun _ h => (List.mem_cons_of_mem _ (List.mem_append_left _ (List.mem_append_right _ h)))) tyX11 tyX11_ok nmX11 hown hK hH hS 40 0 (by decide) Nat.zero_lt_one (by decide) rfl rfl 13 (by decide) (hts (.fieldLink RX11 146 "BallotFoundryModel" "moves" "I") (List.mem_of_getElem? (i := 2) rfl)) (fun _ h => h) rfl (ty := .int) (by decide +kernel) rfl rfl (Nat.le_of_ble_eq_true rfl) ((F6 40 0 13) + 1) rfl dX11_comes_40 (fun H locs hH hS => ?_)
  obtain ⟨F7, eF7⟩ : ∃ z, z = fs F6 40 0 13 ((F6 40 0 13) + 1) := ⟨_, rfl⟩
  have q := q F7 eF7
  rw [← eF7] at hH
  exact (W.vret hx hb hr (fun t ht hW => ⟨⟨F7, rfl, q, gH_at ht hH⟩, hS.F ht⟩) hS.2.2 dX11_comes_43)
abbrev rm_X11_dwelt : Room := { frames := 0, cells := 0, slots := 0, locals := 0 }
abbrev q_X11_dwelt (G : GP) (ad : Nat → Nat → Nat) (K : Int32 → GF → Prop) (below : List Frame) (args : Array Value) (s : State) : State → Prop := MQ below (gQi G ad K) args s 0 0 (gA G)
set_option maxHeartbeats 4000000 in
set_option maxRecDepth 100000 in
theorem c_X11_dwelt (l : Launch) (G : GP) (ad : Nat → Nat → Nat) (F : GF) (p1 : Int32) (p2 : Int32) (K : Int32 → GF → Prop) : Met l yX11_dwelt wsX11_dwelt rm_X11_dwelt (va_Pc [.ref (ad 40 0), .int p1, .int p2] (fun U => gD G ad F U ∧ P_X11_dwelt F p1 p2 K)) (gQi G ad K) 0 0 (gA G) := by
  refine Met.ofW (cc := cX11_dwelt) (maxL := 5) (ret := (some .int)) (by decide) rfl ?_
  intro p e s m args below meth c s₁ Bd hml hv
  obtain ⟨rfl, ⟨hK, hG, hB, hH⟩, q⟩ := hv
  have hx := Bd.exec
  have hb := Bd.bytes
  have hr := Bd.returns
  have hts := atoms_spec (ws := wsX11_dwelt) Bd.pre
  have hown : s.vm.findClass RX11 = some m.cls := findClass_of_methodNamed Bd.named
  have hlocks := Bd.notSynchronized
  have hS : va_S (gA G) s.heap s.heap [] := va_S.rf
  have hl := lv_entry [.ref (ad 40 0), .int p1, .int p2] (n := 5) (Nat.le_of_ble_eq_true rfl)
  rw [lg_entry_eq]
  generalize (lg_sl [.ref (ad 40 0), .int p1, .int p2] ++ List.replicate (5 - (lg_sl [.ref (ad 40 0), .int p1, .int p2]).length) Slot.unset).toArray = ls at hl ⊢
  have hl : lv_has ls 5 [(0, .ref (ad 40 0)), (1, .int p1), (2, .int p2)] := hl
  show W p l e rm_X11_dwelt s m ([.ref (ad 40 0), .int p1, .int p2] : List Value).toArray below meth c s.heap [] 0 0 (q_X11_dwelt G ad K below ([.ref (ad 40 0), .int p1, .int p2] : List Value).toArray s) _
  have t_47 : ∀ (k5 : GF → Int32 → Int32 → Int32 → Int32 → Prop), (∀ (F : GF) (x1 : Int32) (x2 : Int32) (x3 : Int32) (x4 : Int32) (H : Heap) (locs : List Loc) (ls : Array Slot), gH G ad F H → va_S (gA G) s.heap H locs → lv_has ls 5 [(0, .ref (ad 40 0)), (1, .int x1), (2, .int x2), (3, .int x3), (4, .int x4)] → k5 F x1 x2 x3 x4 → W p l e rm_X11_dwelt s m ([.ref (ad 40 0), .int p1, .int p2] : List Value).toArray below meth c H locs 0 0 (q_X11_dwelt G ad K below ([.ref (ad 40 0), .int p1, .int p2] : List Value).toArray s) (F0 m 5 ls [])) → ∀ (F : GF) (x1 : Int32) (x2 : Int32) (x4 : Int32) (s0 : Int32) (H : Heap) (locs : List Loc) (ls : Array Slot), gH G ad F H → va_S (gA G) s.heap H locs → lv_has ls 5 [(0, .ref (ad 40 0)), (1, .int x1), (2, .int x2), (4, .int x4)] → (P_X11_dwelt_47 k5 K) F x1 x2 x4 s0 → W p l e rm_X11_dwelt s m ([.ref (ad 40 0), .int p1, .int p2] : List Value).toArray below meth c H locs 0 0 (q_X11_dwelt G ad K below ([.ref (ad 40 0), .int p1, .int p2] : List Value).toArray s) (F0 m 47 ls [.int s0]) := by
    intro k5 hk5 F x1 x2 x4 s0 H locs ls hH hS hl q
    unfold P_X11_dwelt_47 at q
    refine lv_istore_n (lv' := [(3, .int s0), (0, .ref (ad 40 0)), (1, .int x1), (2, .int x2), (4, .int x4)]) hx hb dX11_dwelt_47 rfl hl (by decide) rfl (fun ls hl => ?_)
    refine lv_iinc (v := x4 + 1) (lv' := [(4, .int (x4 + 1)), (3, .int s0), (0, .ref (ad 40 0)), (1, .int x1), (2, .int x2)]) hx hb dX11_dwelt_48 hl (k := 4) rfl rfl (by decide) rfl (fun ls hl => ?_)
    refine lv_goto (tgt := 5) hx hb dX11_dwelt_51 (by decide) ?_
    exact hk5 F x1 x2 s0 (x4 + 1) _ _ _ hH hS (lv_sub hl [2, 3, 4, 1, 0] rfl) q
  have t_46 : ∀ (k5 : GF → Int32 → Int32 → Int32 → Int32 → Prop), (∀ (F : GF) (x1 : Int32) (x2 : Int32) (x3 : Int32) (x4 : Int32) (H : Heap) (locs : List Loc) (ls : Array Slot), gH G ad F H → va_S (gA G) s.heap H locs → lv_has ls 5 [(0, .ref (ad 40 0)), (1, .int x1), (2, .int x2), (3, .int x3), (4, .int x4)] → k5 F x1 x2 x3 x4 → W p l e rm_X11_dwelt s m ([.ref (ad 40 0), .int p1, .int p2] : List Value).toArray below meth c H locs 0 0 (q_X11_dwelt G ad K below ([.ref (ad 40 0), .int p1, .int p2] : List Value).toArray s) (F0 m 5 ls [])) → ∀ (F : GF) (x1 : Int32) (x2 : Int32) (x3 : Int32) (x4 : Int32) (H : Heap) (locs : List Loc) (ls : Array Slot), gH G ad F H → va_S (gA G) s.heap H locs → lv_has ls 5 [(0, .ref (ad 40 0)), (1, .int x1), (2, .int x2), (3, .int x3), (4, .int x4)] → (P_X11_dwelt_46 k5 K) F x1 x2 x3 x4 → W p l e rm_X11_dwelt s m ([.ref (ad 40 0), .int p1, .int p2] : List Value).toArray below meth c H locs 0 0 (q_X11_dwelt G ad K below ([.ref (ad 40 0), .int p1, .int p2] : List Value).toArray s) (F0 m 46 ls []) := by
    intro k5 hk5 F x1 x2 x3 x4 H locs ls hH hS hl q
    unfold P_X11_dwelt_46 at q
    refine lv_iload_n hx hb dX11_dwelt_46 rfl (lv_at hl 3 rfl) ?_
    exact t_47 k5 hk5 F x1 x2 x4 x3 _ _ _ hH hS (lv_sub hl [0, 1, 2, 4] rfl) q
  have t_5 : ∀ n : Nat, ∀ (F : GF) (x1 : Int32) (x2 : Int32) (x3 : Int32) (x4 : Int32) (H : Heap) (locs : List Loc) (ls : Array Slot), gH G ad F H → va_S (gA G) s.heap H locs → lv_has ls 5 [(0, .ref (ad 40 0)), (1, .int x1), (2, .int x2), (3, .int x3), (4, .int x4)] → (P_X11_dwelt_5 K n) F x1 x2 x3 x4 → W p l e rm_X11_dwelt s m ([.ref (ad 40 0), .int p1, .int p2] : List Value).toArray below meth c H locs 0 0 (q_X11_dwelt G ad K below ([.ref (ad 40 0), .int p1, .int p2] : List Value).toArray s) (F0 m 5 ls []) := by
    intro n
    induction n with
    | zero =>
      intro F x1 x2 x3 x4 H locs ls hH hS hl q
      exact False.elim q
    | succ n ih =>
      intro F x1 x2 x3 x4 H locs ls hH hS hl q
      rw [P_X11_dwelt_5] at q
      refine lv_iload hx hb dX11_dwelt_5 (lv_at hl 4 rfl) ?_
      refine lv_aload_n hx hb dX11_dwelt_7 rfl (lv_at hl 0 rfl) ?_
      refine g_get (ci := 15) (v := .int (F 40 0 13)) (C := RX11) (T := TX11) (N := 44) hx hb hts (fun _ h => (List.mem_cons_of_mem _ (List.mem_append_left _ (List.mem_append_right _ h)))) hown hK hH 40 0 (by decide) Nat.zero_lt_one rfl rfl 13 (by decide) (hts (.fieldLink RX11 146 "BallotFoundryModel" "moves" "I") (List.mem_of_getElem? (i := 1) rfl)) (fun _ h => h) rfl dX11_dwelt_8 ?_
      refine lv_icmp_ge (tgt := 54) hx hb dX11_dwelt_11 (by decide) (fun c1 => ?_) (fun c1 => ?_)
      · have q := (if_pos c1).mp q
        refine lv_iload_n hx hb dX11_dwelt_54 rfl (lv_at hl 3 rfl) ?_
        exact (W.iret (v := x3) hx hb hr (fun t ht hW => ⟨⟨x3, F, rfl, q, gH_at ht hH⟩, hS.F ht⟩) hS.2.2 dX11_dwelt_55)
      · have q := (if_neg c1).mp q
        refine lv_aload_n hx hb dX11_dwelt_14 rfl (lv_at hl 0 rfl) ?_
        refine g_get (ci := 15) (v := .ref (ad 48 0)) (C := RX11) (T := TX11) (N := 44) hx hb hts (fun _ h => (List.mem_cons_of_mem _ (List.mem_append_left _ (List.mem_append_right _ h)))) hown hK hH 40 0 (by decide) Nat.zero_lt_one rfl rfl 10 (by decide) (hts (.fieldLink RX11 32 "BallotFoundryModel" "who" "[I") (List.mem_of_getElem? (i := 2) rfl)) (fun _ h => h) rfl dX11_dwelt_15 ?_
        refine lv_iload hx hb dX11_dwelt_18 (lv_at hl 4 rfl) ?_
        obtain ⟨h2, q⟩ := q
        refine g_iald hx hb hK hH 48 0 (by decide) Nat.zero_lt_one 540 rfl h2 dX11_dwelt_20 ?_
        refine lv_iload_n hx hb dX11_dwelt_21 rfl (lv_at hl 1 rfl) ?_
        refine lv_icmp_ne (tgt := 46) hx hb dX11_dwelt_22 (by decide) (fun c3 => ?_) (fun c3 => ?_)
        · have q := (if_neg c3).mp q
          exact t_46 (fun F a0 a1 a2 a3 => P_X11_dwelt_5 K n F a0 a1 a2 a3) ih F x1 x2 x3 x4 _ _ _ hH hS (lv_sub hl [0, 1, 2, 3, 4] rfl) q
        · have q := (if_pos c3).mp q
          refine lv_aload_n hx hb dX11_dwelt_25 rfl (lv_at hl 0 rfl) ?_
          refine g_get (ci := 15) (v := .ref (ad 49 0)) (C := RX11) (T := TX11) (N := 44) hx hb hts (fun _ h => (List.mem_cons_of_mem _ (List.mem_append_left _ (List.mem_append_right _ h)))) hown hK hH 40 0 (by decide) Nat.zero_lt_one rfl rfl 11 (by decide) (hts (.fieldLink RX11 35 "BallotFoundryModel" "when" "[I") (List.mem_of_getElem? (i := 3) rfl)) (fun _ h => h) rfl dX11_dwelt_26 ?_
          refine lv_iload hx hb dX11_dwelt_29 (lv_at hl 4 rfl) ?_
          obtain ⟨h4, q⟩ := q
          refine g_iald hx hb hK hH 49 0 (by decide) Nat.zero_lt_one 540 rfl h4 dX11_dwelt_31 ?_
          refine lv_iload_n hx hb dX11_dwelt_32 rfl (lv_at hl 2 rfl) ?_
          refine lv_icmp_gt (tgt := 46) hx hb dX11_dwelt_33 (by decide) (fun c5 => ?_) (fun c5 => ?_)
          · have q := (if_pos c5).mp q
            exact t_46 (fun F a0 a1 a2 a3 => P_X11_dwelt_5 K n F a0 a1 a2 a3) ih F x1 x2 x3 x4 _ _ _ hH hS (lv_sub hl [0, 1, 2, 3, 4] rfl) q
          · have q := (if_neg c5).mp q
            refine lv_aload_n hx hb dX11_dwelt_36 rfl (lv_at hl 0 rfl) ?_
            refine g_get (ci := 15) (v := .ref (ad 50 0)) (C := RX11) (T := TX11) (N := 44) hx hb hts (fun _ h => (List.mem_cons_of_mem _ (List.mem_append_left _ (List.mem_append_right _ h)))) hown hK hH 40 0 (by decide) Nat.zero_lt_one rfl rfl 12 (by decide) (hts (.fieldLink RX11 38 "BallotFoundryModel" "where" "[I") (List.mem_of_getElem? (i := 4) rfl)) (fun _ h => h) rfl dX11_dwelt_37 ?_
            refine lv_iload hx hb dX11_dwelt_40 (lv_at hl 4 rfl) ?_
            obtain ⟨h6, q⟩ := q
            refine g_iald hx hb hK hH 50 0 (by decide) Nat.zero_lt_one 540 rfl h6 dX11_dwelt_42 ?_
            refine lv_goto (tgt := 47) hx hb dX11_dwelt_43 (by decide) ?_
            exact t_47 (fun F a0 a1 a2 a3 => P_X11_dwelt_5 K n F a0 a1 a2 a3) ih F x1 x2 x4 (F 50 0 x4.toNatClampNeg) _ _ _ hH hS (lv_sub hl [0, 1, 2, 4] rfl) q
  unfold P_X11_dwelt at q
  refine lv_iconst (v := (-1)) hx hb dX11_dwelt_0 (by decide) ?_
  refine lv_istore_n (lv' := [(3, .int (-1)), (0, .ref (ad 40 0)), (1, .int p1), (2, .int p2)]) hx hb dX11_dwelt_1 rfl hl (by decide) rfl (fun ls hl => ?_)
  refine lv_iconst (v := 0) hx hb dX11_dwelt_2 (by decide) ?_
  refine lv_istore (lv' := [(4, .int 0), (3, .int (-1)), (0, .ref (ad 40 0)), (1, .int p1), (2, .int p2)]) hx hb dX11_dwelt_3 hl (by decide) rfl (fun ls hl => ?_)
  obtain ⟨nn, q⟩ := q
  exact t_5 nn F p1 p2 (-1) 0 _ _ _ hH hS (lv_sub hl [2, 3, 4, 1, 0] rfl) q
abbrev rm_X11_person : Room := { frames := 2, cells := 0, slots := 0, locals := 42 }
abbrev q_X11_person (G : GP) (ad : Nat → Nat → Nat) (K : Int32 → GF → Prop) (below : List Frame) (args : Array Value) (s : State) : State → Prop := MQ below (gQi G ad K) args s 0 0 (gA G)
set_option maxHeartbeats 4000000 in
set_option maxRecDepth 100000 in
theorem c_X11_person (l : Launch) (G : GP) (ad : Nat → Nat → Nat) (F : GF) (p1 : Int32) (p2 : Int32) (K : Int32 → GF → Prop) : Met l yX11_person wsX11_person rm_X11_person (va_Pc [.ref (ad 40 0), .int p1, .int p2] (fun U => gD G ad F U ∧ P_X11_person F p1 p2 K)) (gQi G ad K) 0 0 (gA G) := by
  refine Met.ofW (cc := cX11_person) (maxL := 3) (ret := (some .int)) (by decide) rfl ?_
  intro p e s m args below meth c s₁ Bd hml hv
  obtain ⟨rfl, ⟨hK, hG, hB, hH⟩, q⟩ := hv
  have hx := Bd.exec
  have hb := Bd.bytes
  have hr := Bd.returns
  have hts := atoms_spec (ws := wsX11_person) Bd.pre
  have hown : s.vm.findClass RX11 = some m.cls := findClass_of_methodNamed Bd.named
  have hlocks := Bd.notSynchronized
  have hS : va_S (gA G) s.heap s.heap [] := va_S.rf
  have hl := lv_entry [.ref (ad 40 0), .int p1, .int p2] (n := 3) (Nat.le_of_ble_eq_true rfl)
  rw [lg_entry_eq]
  generalize (lg_sl [.ref (ad 40 0), .int p1, .int p2] ++ List.replicate (3 - (lg_sl [.ref (ad 40 0), .int p1, .int p2]).length) Slot.unset).toArray = ls at hl ⊢
  have hl : lv_has ls 3 [(0, .ref (ad 40 0)), (1, .int p1), (2, .int p2)] := hl
  show W p l e rm_X11_person s m ([.ref (ad 40 0), .int p1, .int p2] : List Value).toArray below meth c s.heap [] 0 0 (q_X11_person G ad K below ([.ref (ad 40 0), .int p1, .int p2] : List Value).toArray s) _
  have t_27 : ∀ (F : GF) (x1 : Int32) (x2 : Int32) (s1 : Int32) (s2 : Int32) (s3 : Int32) (H : Heap) (locs : List Loc) (ls : Array Slot), gH G ad F H → va_S (gA G) s.heap H locs → lv_has ls 3 [(0, .ref (ad 40 0)), (1, .int x1), (2, .int x2)] → (P_X11_person_27 K) F x1 x2 s1 s2 s3 → W p l e rm_X11_person s m ([.ref (ad 40 0), .int p1, .int p2] : List Value).toArray below meth c H locs 0 0 (q_X11_person G ad K below ([.ref (ad 40 0), .int p1, .int p2] : List Value).toArray s) (F0 m 27 ls [.int s3, .int s2, .int s1, .ref (ad 40 0)]) := by
    intro F x1 x2 s1 s2 s3 H locs ls hH hS hl q
    unfold P_X11_person_27 at q
    refine va_calli (va_runV (As := [.int s1, .int s2, .int s3]) (rest := []) ⟨hx, hb, hml, hown, hts⟩ (c_X11_asked__ l G ad F s1 s2 s3 _) (cwV 3 hts gX11_person_X11_asked__ rfl rfl rfl (by decide +kernel) ⟨Nat.le_of_ble_eq_true rfl, Nat.le_of_ble_eq_true rfl⟩) ⟨fun a U g mk h => ⟨h.1, gD_blind h.2.1, h.2.2⟩, g_recv (C := RX11) (T := TX11) (N := 44) hK hH 40 0 (by decide) Nat.zero_lt_one rfl rfl, fun U hU hW => ⟨rfl, gD_at hK hG hB hH hS hU hW, q⟩⟩ rfl rfl hl.1 rfl (lv_room (Nat.le_of_ble_eq_true rfl)) dX11_person_27 ⟨Nat.le_of_ble_eq_true rfl, Nat.le_of_ble_eq_true rfl⟩) hS (fun _ _ h => h) (fun _ h => h) (fun r6 F7 t H locs ht hvm q hB1 hz hk hS => ?_)
    have hH : gH G ad F7 H := gH_to ht hB1
    refine lv_if_ne (tgt := 35) hx hb dX11_person_30 (by decide) (fun c8 => ?_) (fun c8 => ?_)
    · have q := (if_neg c8).mp q
      refine lv_aload_n hx hb dX11_person_35 rfl (lv_at hl 0 rfl) ?_
      refine g_get (ci := 15) (v := .ref (ad 46 0)) (C := RX11) (T := TX11) (N := 44) hx hb hts (fun _ h => (List.mem_cons_of_mem _ (List.mem_append_left _ (List.mem_append_right _ h)))) hown hK hH 40 0 (by decide) Nat.zero_lt_one rfl rfl 7 (by decide) (hts (.fieldLink RX11 26 "BallotFoundryModel" "ofAge" "[I") (List.mem_of_getElem? (i := 2) rfl)) (fun _ h => h) rfl dX11_person_36 ?_
      refine lv_aload_n hx hb dX11_person_39 rfl (lv_at hl 0 rfl) ?_
      refine g_get (ci := 15) (v := .int (F7 40 0 9)) (C := RX11) (T := TX11) (N := 44) hx hb hts (fun _ h => (List.mem_cons_of_mem _ (List.mem_append_left _ (List.mem_append_right _ h)))) hown hK hH 40 0 (by decide) Nat.zero_lt_one rfl rfl 9 (by decide) (hts (.fieldLink RX11 118 "BallotFoundryModel" "people" "I") (List.mem_of_getElem? (i := 1) rfl)) (fun _ h => h) rfl dX11_person_40 ?_
      refine lv_iload_n hx hb dX11_person_43 rfl (lv_at hl 2 rfl) ?_
      obtain ⟨h9, q⟩ := q
      refine g_iast hx hb hK hH hS 46 0 (by decide) Nat.zero_lt_one (by decide) 20 (fun _ => rfl) h9 dX11_person_44 (fun H locs hH hS => ?_)
      obtain ⟨F10, eF10⟩ : ∃ z, z = fs F7 46 0 (F7 40 0 9).toNatClampNeg x2 := ⟨_, rfl⟩
      have q := q F10 eF10
      rw [← eF10] at hH
      refine lv_aload_n hx hb dX11_person_45 rfl (lv_at hl 0 rfl) ?_
      refine lv_dup hx hb dX11_person_46 rfl ?_
      refine g_get (ci := 15) (v := .int (F10 40 0 9)) (C := RX11) (T := TX11) (N := 44) hx hb hts (fun _ h => (List.mem_cons_of_mem _ (List.mem_append_left _ (List.mem_append_right _ h)))) hown hK hH 40 0 (by decide) Nat.zero_lt_one rfl rfl 9 (by decide) (hts (.fieldLink RX11 118 "BallotFoundryModel" "people" "I") (List.mem_of_getElem? (i := 1) rfl)) (fun _ h => h) rfl dX11_person_47 ?_
      refine lv_iconst (v := 1) hx hb dX11_person_50 (by decide) ?_
      refine lv_iadd hx hb dX11_person_51 ?_
      refine g_put (ci := 15) (v := .int ((F10 40 0 9) + 1)) (C := RX11) (T := TX11) (N := 44) hx hb hts (fun _ h => (List.mem_cons_of_mem _ (List.mem_append_left _ (List.mem_append_right _ h)))) tyX11 tyX11_ok nmX11 hown hK hH hS 40 0 (by decide) Nat.zero_lt_one (by decide) rfl rfl 9 (by decide) (hts (.fieldLink RX11 118 "BallotFoundryModel" "people" "I") (List.mem_of_getElem? (i := 1) rfl)) (fun _ h => h) rfl (ty := .int) (by decide +kernel) rfl rfl (Nat.le_of_ble_eq_true rfl) ((F10 40 0 9) + 1) rfl dX11_person_52 (fun H locs hH hS => ?_)
      obtain ⟨F11, eF11⟩ : ∃ z, z = fs F10 40 0 9 ((F10 40 0 9) + 1) := ⟨_, rfl⟩
      have q := q F11 eF11
      rw [← eF11] at hH
      refine lv_aload_n hx hb dX11_person_55 rfl (lv_at hl 0 rfl) ?_
      refine lv_aload_n hx hb dX11_person_56 rfl (lv_at hl 0 rfl) ?_
      refine g_get (ci := 15) (v := .int (F11 40 0 9)) (C := RX11) (T := TX11) (N := 44) hx hb hts (fun _ h => (List.mem_cons_of_mem _ (List.mem_append_left _ (List.mem_append_right _ h)))) hown hK hH 40 0 (by decide) Nat.zero_lt_one rfl rfl 9 (by decide) (hts (.fieldLink RX11 118 "BallotFoundryModel" "people" "I") (List.mem_of_getElem? (i := 1) rfl)) (fun _ h => h) rfl dX11_person_57 ?_
      refine lv_iconst (v := 1) hx hb dX11_person_60 (by decide) ?_
      refine lv_isub hx hb dX11_person_61 ?_
      refine lv_iload_n hx hb dX11_person_62 rfl (lv_at hl 1 rfl) ?_
      refine va_callv (va_runV (As := [.int ((F11 40 0 9) - 1), .int x1]) (rest := []) ⟨hx, hb, hml, hown, hts⟩ (c_X11_comes l G ad F11 ((F11 40 0 9) - 1) x1 _) (cwV 2 hts gX11_person_X11_comes rfl rfl rfl (by decide +kernel) ⟨Nat.le_of_ble_eq_true rfl, Nat.le_of_ble_eq_true rfl⟩) ⟨fun a U g mk h => ⟨h.1, gD_blind h.2.1, h.2.2⟩, g_recv (C := RX11) (T := TX11) (N := 44) hK hH 40 0 (by decide) Nat.zero_lt_one rfl rfl, fun U hU hW => ⟨rfl, gD_at hK hG hB hH hS hU hW, q⟩⟩ rfl rfl hl.1 rfl (lv_room (Nat.le_of_ble_eq_true rfl)) dX11_person_63 ⟨Nat.le_of_ble_eq_true rfl, Nat.le_of_ble_eq_true rfl⟩) hS (fun _ _ h => h) (fun _ h => h) (fun F13 t H locs ht hvm q hB1 hz hk hS => ?_)
      have hH : gH G ad F13 H := gH_to ht hB1
      refine lv_aload_n hx hb dX11_person_66 rfl (lv_at hl 0 rfl) ?_
      refine g_get (ci := 15) (v := .int (F13 40 0 9)) (C := RX11) (T := TX11) (N := 44) hx hb hts (fun _ h => (List.mem_cons_of_mem _ (List.mem_append_left _ (List.mem_append_right _ h)))) hown hK hH 40 0 (by decide) Nat.zero_lt_one rfl rfl 9 (by decide) (hts (.fieldLink RX11 118 "BallotFoundryModel" "people" "I") (List.mem_of_getElem? (i := 1) rfl)) (fun _ h => h) rfl dX11_person_67 ?_
      refine lv_iconst (v := 1) hx hb dX11_person_70 (by decide) ?_
      refine lv_isub hx hb dX11_person_71 ?_
      exact (W.iret (v := ((F13 40 0 9) - 1)) hx hb hr (fun t ht hW => ⟨⟨((F13 40 0 9) - 1), F13, rfl, q, gH_at ht hH⟩, hS.F ht⟩) hS.2.2 dX11_person_72)
    · have q := (if_pos c8).mp q
      refine lv_iconst (v := 0) hx hb dX11_person_33 (by decide) ?_
      exact (W.iret (v := 0) hx hb hr (fun t ht hW => ⟨⟨0, F7, rfl, q, gH_at ht hH⟩, hS.F ht⟩) hS.2.2 dX11_person_34)
  unfold P_X11_person at q
  refine lv_aload_n hx hb dX11_person_0 rfl (lv_at hl 0 rfl) ?_
  refine lv_iload_n hx hb dX11_person_1 rfl (lv_at hl 1 rfl) ?_
  refine va_calli (va_runS (As := [.int p1]) (rest := [.ref (ad 40 0)]) ⟨hx, hb, hml, hown, hts⟩ (c_X11_isCrossing l G ad F p1 _) (va_cwS 1 hts gX11_person_X11_isCrossing rfl rfl rfl (by decide +kernel) ⟨Nat.le_of_ble_eq_true rfl, Nat.le_of_ble_eq_true rfl⟩) ⟨fun a U g mk h => ⟨h.1, gD_blind h.2.1, h.2.2⟩, fun U hU hW => ⟨rfl, gD_at hK hG hB hH hS hU hW, q⟩⟩ rfl rfl hl.1 rfl (lv_room (Nat.le_of_ble_eq_true rfl)) dX11_person_2 ⟨Nat.le_of_ble_eq_true rfl, Nat.le_of_ble_eq_true rfl⟩) hS (fun _ _ h => h) (fun _ h => h) (fun r1 F2 t H locs ht hvm q hB1 hz hk hS => ?_)
  have hH : gH G ad F2 H := gH_to ht hB1
  refine lv_iload_n hx hb dX11_person_5 rfl (lv_at hl 2 rfl) ?_
  refine lv_iconst (v := 0) hx hb dX11_person_6 (by decide) ?_
  refine lv_sipush (v := 2000) hx hb dX11_person_7 (by decide) ?_
  refine va_calli (va_runS (As := [.int p2, .int 0, .int 2000]) (rest := [.int r1, .ref (ad 40 0)]) ⟨hx, hb, hml, hown, hts⟩ (c_X11_in l G ad F2 p2 0 2000 _) (va_cwS 3 hts gX11_person_X11_in rfl rfl rfl (by decide +kernel) ⟨Nat.le_of_ble_eq_true rfl, Nat.le_of_ble_eq_true rfl⟩) ⟨fun a U g mk h => ⟨h.1, gD_blind h.2.1, h.2.2⟩, fun U hU hW => ⟨rfl, gD_at hK hG hB hH hS hU hW, q⟩⟩ rfl rfl hl.1 rfl (lv_room (Nat.le_of_ble_eq_true rfl)) dX11_person_10 ⟨Nat.le_of_ble_eq_true rfl, Nat.le_of_ble_eq_true rfl⟩) hS (fun _ _ h => h) (fun _ h => h) (fun r3 F4 t H locs ht hvm q hB1 hz hk hS => ?_)
  have hH : gH G ad F4 H := gH_to ht hB1
  refine lv_aload_n hx hb dX11_person_13 rfl (lv_at hl 0 rfl) ?_
  refine g_get (ci := 15) (v := .int (F4 40 0 9)) (C := RX11) (T := TX11) (N := 44) hx hb hts (fun _ h => (List.mem_cons_of_mem _ (List.mem_append_left _ (List.mem_append_right _ h)))) hown hK hH 40 0 (by decide) Nat.zero_lt_one rfl rfl 9 (by decide) (hts (.fieldLink RX11 118 "BallotFoundryModel" "people" "I") (List.mem_of_getElem? (i := 1) rfl)) (fun _ h => h) rfl dX11_person_14 ?_
  refine lv_bipush (v := 20) hx hb dX11_person_17 (by decide) ?_
  refine lv_icmp_ge (tgt := 26) hx hb dX11_person_19 (by decide) (fun c5 => ?_) (fun c5 => ?_)
  · have q := (if_pos c5).mp q
    refine lv_iconst (v := 0) hx hb dX11_person_26 (by decide) ?_
    exact t_27 F4 p1 p2 r1 r3 0 _ _ _ hH hS (lv_sub hl [0, 1, 2] rfl) q
  · have q := (if_neg c5).mp q
    refine lv_iconst (v := 1) hx hb dX11_person_22 (by decide) ?_
    refine lv_goto (tgt := 27) hx hb dX11_person_23 (by decide) ?_
    exact t_27 F4 p1 p2 r1 r3 1 _ _ _ hH hS (lv_sub hl [0, 1, 2] rfl) q
abbrev rm_X11_move : Room := { frames := 2, cells := 0, slots := 0, locals := 43 }
abbrev q_X11_move (G : GP) (ad : Nat → Nat → Nat) (K : Int32 → GF → Prop) (below : List Frame) (args : Array Value) (s : State) : State → Prop := MQ below (gQi G ad K) args s 0 0 (gA G)
set_option maxHeartbeats 4000000 in
set_option maxRecDepth 100000 in
theorem c_X11_move (l : Launch) (G : GP) (ad : Nat → Nat → Nat) (F : GF) (p1 : Int32) (p2 : Int32) (K : Int32 → GF → Prop) : Met l yX11_move wsX11_move rm_X11_move (va_Pc [.ref (ad 40 0), .int p1, .int p2] (fun U => gD G ad F U ∧ P_X11_move F p1 p2 K)) (gQi G ad K) 0 0 (gA G) := by
  refine Met.ofW (cc := cX11_move) (maxL := 5) (ret := (some .int)) (by decide) rfl ?_
  intro p e s m args below meth c s₁ Bd hml hv
  obtain ⟨rfl, ⟨hK, hG, hB, hH⟩, q⟩ := hv
  have hx := Bd.exec
  have hb := Bd.bytes
  have hr := Bd.returns
  have hts := atoms_spec (ws := wsX11_move) Bd.pre
  have hown : s.vm.findClass RX11 = some m.cls := findClass_of_methodNamed Bd.named
  have hlocks := Bd.notSynchronized
  have hS : va_S (gA G) s.heap s.heap [] := va_S.rf
  have hl := lv_entry [.ref (ad 40 0), .int p1, .int p2] (n := 5) (Nat.le_of_ble_eq_true rfl)
  rw [lg_entry_eq]
  generalize (lg_sl [.ref (ad 40 0), .int p1, .int p2] ++ List.replicate (5 - (lg_sl [.ref (ad 40 0), .int p1, .int p2]).length) Slot.unset).toArray = ls at hl ⊢
  have hl : lv_has ls 5 [(0, .ref (ad 40 0)), (1, .int p1), (2, .int p2)] := hl
  show W p l e rm_X11_move s m ([.ref (ad 40 0), .int p1, .int p2] : List Value).toArray below meth c s.heap [] 0 0 (q_X11_move G ad K below ([.ref (ad 40 0), .int p1, .int p2] : List Value).toArray s) _
  have t_41 : ∀ (F : GF) (x1 : Int32) (x2 : Int32) (s1 : Int32) (s2 : Int32) (H : Heap) (locs : List Loc) (ls : Array Slot), gH G ad F H → va_S (gA G) s.heap H locs → lv_has ls 5 [(0, .ref (ad 40 0)), (1, .int x1), (2, .int x2)] → (P_X11_move_41 K) F x1 x2 s1 s2 → W p l e rm_X11_move s m ([.ref (ad 40 0), .int p1, .int p2] : List Value).toArray below meth c H locs 0 0 (q_X11_move G ad K below ([.ref (ad 40 0), .int p1, .int p2] : List Value).toArray s) (F0 m 41 ls [.int s2, .int s1, .ref (ad 40 0)]) := by
    intro F x1 x2 s1 s2 H locs ls hH hS hl q
    unfold P_X11_move_41 at q
    refine va_calli (va_runV (As := [.int s1, .int s2]) (rest := []) ⟨hx, hb, hml, hown, hts⟩ (c_X11_asked_ l G ad F s1 s2 _) (cwV 2 hts gX11_move_X11_asked_ rfl rfl rfl (by decide +kernel) ⟨Nat.le_of_ble_eq_true rfl, Nat.le_of_ble_eq_true rfl⟩) ⟨fun a U g mk h => ⟨h.1, gD_blind h.2.1, h.2.2⟩, g_recv (C := RX11) (T := TX11) (N := 44) hK hH 40 0 (by decide) Nat.zero_lt_one rfl rfl, fun U hU hW => ⟨rfl, gD_at hK hG hB hH hS hU hW, q⟩⟩ rfl rfl hl.1 rfl (lv_room (Nat.le_of_ble_eq_true rfl)) dX11_move_41 ⟨Nat.le_of_ble_eq_true rfl, Nat.le_of_ble_eq_true rfl⟩) hS (fun _ _ h => h) (fun _ h => h) (fun r5 F6 t H locs ht hvm q hB1 hz hk hS => ?_)
    have hH : gH G ad F6 H := gH_to ht hB1
    refine lv_if_ne (tgt := 49) hx hb dX11_move_44 (by decide) (fun c7 => ?_) (fun c7 => ?_)
    · have q := (if_neg c7).mp q
      refine lv_aload_n hx hb dX11_move_49 rfl (lv_at hl 0 rfl) ?_
      refine lv_iload_n hx hb dX11_move_50 rfl (lv_at hl 1 rfl) ?_
      refine lv_aload_n hx hb dX11_move_51 rfl (lv_at hl 0 rfl) ?_
      refine g_get (ci := 15) (v := .int (F6 40 0 0)) (C := RX11) (T := TX11) (N := 44) hx hb hts (fun _ h => (List.mem_cons_of_mem _ (List.mem_append_left _ (List.mem_append_right _ h)))) hown hK hH 40 0 (by decide) Nat.zero_lt_one rfl rfl 0 (by decide) (hts (.fieldLink RX11 149 "BallotFoundryModel" "today" "I") (List.mem_of_getElem? (i := 2) rfl)) (fun _ h => h) rfl dX11_move_52 ?_
      refine va_calli (va_runV (As := [.int x1, .int (F6 40 0 0)]) (rest := []) ⟨hx, hb, hml, hown, hts⟩ (c_X11_dwelt l G ad F6 x1 (F6 40 0 0) _) (cwV 2 hts gX11_move_X11_dwelt rfl rfl rfl (by decide +kernel) ⟨Nat.le_of_ble_eq_true rfl, Nat.le_of_ble_eq_true rfl⟩) ⟨fun a U g mk h => ⟨h.1, gD_blind h.2.1, h.2.2⟩, g_recv (C := RX11) (T := TX11) (N := 44) hK hH 40 0 (by decide) Nat.zero_lt_one rfl rfl, fun U hU hW => ⟨rfl, gD_at hK hG hB hH hS hU hW, q⟩⟩ rfl rfl hl.1 rfl (lv_room (Nat.le_of_ble_eq_true rfl)) dX11_move_55 ⟨Nat.le_of_ble_eq_true rfl, Nat.le_of_ble_eq_true rfl⟩) hS (fun _ _ h => h) (fun _ h => h) (fun r8 F9 t H locs ht hvm q hB1 hz hk hS => ?_)
      have hH : gH G ad F9 H := gH_to ht hB1
      refine lv_istore (lv' := [(4, .int r8), (0, .ref (ad 40 0)), (1, .int x1), (2, .int x2)]) hx hb dX11_move_58 hl (by decide) rfl (fun ls hl => ?_)
      refine lv_aload_n hx hb dX11_move_60 rfl (lv_at hl 1 rfl) ?_
      refine lv_iload_n hx hb dX11_move_61 rfl (lv_at hl 2 rfl) ?_
      refine lv_iload_n hx hb dX11_move_62 rfl (lv_at hl 3 rfl) ?_
      refine va_callv (va_runV (As := [.int x1, .int x2]) (rest := []) ⟨hx, hb, hml, hown, hts⟩ (c_X11_comes l G ad F9 x1 x2 _) (cwV 2 hts gX11_move_X11_comes rfl rfl rfl (by decide +kernel) ⟨Nat.le_of_ble_eq_true rfl, Nat.le_of_ble_eq_true rfl⟩) ⟨fun a U g mk h => ⟨h.1, gD_blind h.2.1, h.2.2⟩, g_recv (C := RX11) (T := TX11) (N := 44) hK hH 40 0 (by decide) Nat.zero_lt_one rfl rfl, fun U hU hW => ⟨rfl, gD_at hK hG hB hH hS hU hW, q⟩⟩ rfl rfl hl.1 rfl (lv_room (Nat.le_of_ble_eq_true rfl)) dX11_move_63 ⟨Nat.le_of_ble_eq_true rfl, Nat.le_of_ble_eq_true rfl⟩) hS (fun _ _ h => h) (fun _ h => h) (fun F11 t H locs ht hvm q hB1 hz hk hS => ?_)
      have hH : gH G ad F11 H := gH_to ht hB1
      refine lv_iload hx hb dX11_move_66 (lv_at hl 0 rfl) ?_
      exact (W.iret (v := r8) hx hb hr (fun t ht hW => ⟨⟨r8, F11, rfl, q, gH_at ht hH⟩, hS.F ht⟩) hS.2.2 dX11_move_68)
    · have q := (if_pos c7).mp q
      refine lv_iconst (v := 0) hx hb dX11_move_47 (by decide) ?_
      exact (W.iret (v := 0) hx hb hr (fun t ht hW => ⟨⟨0, F6, rfl, q, gH_at ht hH⟩, hS.F ht⟩) hS.2.2 dX11_move_48)
  have t_40 : ∀ (F : GF) (x1 : Int32) (x2 : Int32) (s1 : Int32) (H : Heap) (locs : List Loc) (ls : Array Slot), gH G ad F H → va_S (gA G) s.heap H locs → lv_has ls 5 [(0, .ref (ad 40 0)), (1, .int x1), (2, .int x2)] → (P_X11_move_40 K) F x1 x2 s1 → W p l e rm_X11_move s m ([.ref (ad 40 0), .int p1, .int p2] : List Value).toArray below meth c H locs 0 0 (q_X11_move G ad K below ([.ref (ad 40 0), .int p1, .int p2] : List Value).toArray s) (F0 m 40 ls [.int s1, .ref (ad 40 0)]) := by
    intro F x1 x2 s1 H locs ls hH hS hl q
    unfold P_X11_move_40 at q
    refine lv_iconst (v := 0) hx hb dX11_move_40 (by decide) ?_
    exact t_41 F x1 x2 s1 0 _ _ _ hH hS (lv_sub hl [0, 1, 2] rfl) q
  have t_20 : ∀ (F : GF) (x1 : Int32) (x2 : Int32) (s0 : Int32) (H : Heap) (locs : List Loc) (ls : Array Slot), gH G ad F H → va_S (gA G) s.heap H locs → lv_has ls 5 [(0, .ref (ad 40 0)), (1, .int x1), (2, .int x2)] → (P_X11_move_20 K) F x1 x2 s0 → W p l e rm_X11_move s m ([.ref (ad 40 0), .int p1, .int p2] : List Value).toArray below meth c H locs 0 0 (q_X11_move G ad K below ([.ref (ad 40 0), .int p1, .int p2] : List Value).toArray s) (F0 m 20 ls [.int s0]) := by
    intro F x1 x2 s0 H locs ls hH hS hl q
    unfold P_X11_move_20 at q
    refine lv_istore_n (lv' := [(3, .int s0), (0, .ref (ad 40 0)), (1, .int x1), (2, .int x2)]) hx hb dX11_move_20 rfl hl (by decide) rfl (fun ls hl => ?_)
    refine lv_aload_n hx hb dX11_move_21 rfl (lv_at hl 1 rfl) ?_
    refine lv_iload_n hx hb dX11_move_22 rfl (lv_at hl 0 rfl) ?_
    refine lv_iload_n hx hb dX11_move_23 rfl (lv_at hl 0 rfl) ?_
    refine lv_if_eq (tgt := 40) hx hb dX11_move_24 (by decide) (fun c4 => ?_) (fun c4 => ?_)
    · have q := (if_pos c4).mp q
      exact t_40 F x1 x2 s0 _ _ _ hH hS (lv_sub hl [1, 2, 3] rfl) q
    · have q := (if_neg c4).mp q
      refine lv_aload_n hx hb dX11_move_27 rfl (lv_at hl 1 rfl) ?_
      refine g_get (ci := 15) (v := .ref (ad 47 0)) (C := RX11) (T := TX11) (N := 44) hx hb hts (fun _ h => (List.mem_cons_of_mem _ (List.mem_append_left _ (List.mem_append_right _ h)))) hown hK hH 40 0 (by decide) Nat.zero_lt_one rfl rfl 8 (by decide) (hts (.fieldLink RX11 29 "BallotFoundryModel" "died" "[Z") (List.mem_of_getElem? (i := 1) rfl)) (fun _ h => h) rfl dX11_move_28 ?_
      refine lv_iload_n hx hb dX11_move_31 rfl (lv_at hl 2 rfl) ?_
      obtain ⟨h12, q⟩ := q
      refine g_zald hx hb hK hH 47 0 (by decide) Nat.zero_lt_one 20 rfl h12 dX11_move_32 ?_
      refine lv_if_ne (tgt := 40) hx hb dX11_move_33 (by decide) (fun c13 => ?_) (fun c13 => ?_)
      · have q := (if_neg c13).mp q
        exact t_40 F x1 x2 s0 _ _ _ hH hS (lv_sub hl [1, 2, 3] rfl) q
      · have q := (if_pos c13).mp q
        refine lv_iconst (v := 1) hx hb dX11_move_36 (by decide) ?_
        refine lv_goto (tgt := 41) hx hb dX11_move_37 (by decide) ?_
        exact t_41 F x1 x2 s0 1 _ _ _ hH hS (lv_sub hl [1, 2, 3] rfl) q
  have t_19 : ∀ (F : GF) (x1 : Int32) (x2 : Int32) (H : Heap) (locs : List Loc) (ls : Array Slot), gH G ad F H → va_S (gA G) s.heap H locs → lv_has ls 5 [(0, .ref (ad 40 0)), (1, .int x1), (2, .int x2)] → (P_X11_move_19 K) F x1 x2 → W p l e rm_X11_move s m ([.ref (ad 40 0), .int p1, .int p2] : List Value).toArray below meth c H locs 0 0 (q_X11_move G ad K below ([.ref (ad 40 0), .int p1, .int p2] : List Value).toArray s) (F0 m 19 ls []) := by
    intro F x1 x2 H locs ls hH hS hl q
    unfold P_X11_move_19 at q
    refine lv_iconst (v := 0) hx hb dX11_move_19 (by decide) ?_
    exact t_20 F x1 x2 0 _ _ _ hH hS (lv_sub hl [0, 1, 2] rfl) q
  unfold P_X11_move at q
  refine lv_aload_n hx hb dX11_move_0 rfl (lv_at hl 0 rfl) ?_
  refine lv_iload_n hx hb dX11_move_1 rfl (lv_at hl 1 rfl) ?_
  refine va_calli (va_runV (As := [.int p1]) (rest := []) ⟨hx, hb, hml, hown, hts⟩ (c_X11_isPerson l G ad F p1 _) (cwV 1 hts gX11_move_X11_isPerson rfl rfl rfl (by decide +kernel) ⟨Nat.le_of_ble_eq_true rfl, Nat.le_of_ble_eq_true rfl⟩) ⟨fun a U g mk h => ⟨h.1, gD_blind h.2.1, h.2.2⟩, g_recv (C := RX11) (T := TX11) (N := 44) hK hH 40 0 (by decide) Nat.zero_lt_one rfl rfl, fun U hU hW => ⟨rfl, gD_at hK hG hB hH hS hU hW, q⟩⟩ rfl rfl hl.1 rfl (lv_room (Nat.le_of_ble_eq_true rfl)) dX11_move_2 ⟨Nat.le_of_ble_eq_true rfl, Nat.le_of_ble_eq_true rfl⟩) hS (fun _ _ h => h) (fun _ h => h) (fun r1 F2 t H locs ht hvm q hB1 hz hk hS => ?_)
  have hH : gH G ad F2 H := gH_to ht hB1
  refine lv_if_eq (tgt := 19) hx hb dX11_move_5 (by decide) (fun c3 => ?_) (fun c3 => ?_)
  · have q := (if_pos c3).mp q
    exact t_19 F2 p1 p2 _ _ _ hH hS (lv_sub hl [0, 1, 2] rfl) q
  · have q := (if_neg c3).mp q
    refine lv_iload_n hx hb dX11_move_8 rfl (lv_at hl 2 rfl) ?_
    refine va_calli (va_runS (As := [.int p2]) (rest := []) ⟨hx, hb, hml, hown, hts⟩ (c_X11_isCrossing l G ad F2 p2 _) (va_cwS 1 hts gX11_move_X11_isCrossing rfl rfl rfl (by decide +kernel) ⟨Nat.le_of_ble_eq_true rfl, Nat.le_of_ble_eq_true rfl⟩) ⟨fun a U g mk h => ⟨h.1, gD_blind h.2.1, h.2.2⟩, fun U hU hW => ⟨rfl, gD_at hK hG hB hH hS hU hW, q⟩⟩ rfl rfl hl.1 rfl (lv_room (Nat.le_of_ble_eq_true rfl)) dX11_move_9 ⟨Nat.le_of_ble_eq_true rfl, Nat.le_of_ble_eq_true rfl⟩) hS (fun _ _ h => h) (fun _ h => h) (fun r14 F15 t H locs ht hvm q hB1 hz hk hS => ?_)
    have hH : gH G ad F15 H := gH_to ht hB1
    refine lv_if_eq (tgt := 19) hx hb dX11_move_12 (by decide) (fun c16 => ?_) (fun c16 => ?_)
    · have q := (if_pos c16).mp q
      exact t_19 F15 p1 p2 _ _ _ hH hS (lv_sub hl [0, 1, 2] rfl) q
    · have q := (if_neg c16).mp q
      refine lv_iconst (v := 1) hx hb dX11_move_15 (by decide) ?_
      refine lv_goto (tgt := 20) hx hb dX11_move_16 (by decide) ?_
      exact t_20 F15 p1 p2 1 _ _ _ hH hS (lv_sub hl [0, 1, 2] rfl) q
abbrev rm_X11_notes : Room := { frames := 0, cells := 0, slots := 0, locals := 0 }
abbrev q_X11_notes (G : GP) (ad : Nat → Nat → Nat) (K : GF → Prop) (below : List Frame) (args : Array Value) (s : State) : State → Prop := MQ below (gQv G ad K) args s 0 0 (gA G)
set_option maxHeartbeats 4000000 in
set_option maxRecDepth 100000 in
theorem c_X11_notes (l : Launch) (G : GP) (ad : Nat → Nat → Nat) (F : GF) (p1 : Int32) (p2 : Int32) (p3 : Int32) (K : GF → Prop) : Met l yX11_notes wsX11_notes rm_X11_notes (va_Pc [.ref (ad 40 0), .int p1, .int p2, .int p3] (fun U => gD G ad F U ∧ P_X11_notes F p1 p2 p3 K)) (gQv G ad K) 0 0 (gA G) := by
  refine Met.ofW (cc := cX11_notes) (maxL := 4) (ret := none) (by decide) rfl ?_
  intro p e s m args below meth c s₁ Bd hml hv
  obtain ⟨rfl, ⟨hK, hG, hB, hH⟩, q⟩ := hv
  have hx := Bd.exec
  have hb := Bd.bytes
  have hr := Bd.returns
  have hts := atoms_spec (ws := wsX11_notes) Bd.pre
  have hown : s.vm.findClass RX11 = some m.cls := findClass_of_methodNamed Bd.named
  have hlocks := Bd.notSynchronized
  have hS : va_S (gA G) s.heap s.heap [] := va_S.rf
  have hl := lv_entry [.ref (ad 40 0), .int p1, .int p2, .int p3] (n := 4) (Nat.le_of_ble_eq_true rfl)
  rw [lg_entry_eq]
  generalize (lg_sl [.ref (ad 40 0), .int p1, .int p2, .int p3] ++ List.replicate (4 - (lg_sl [.ref (ad 40 0), .int p1, .int p2, .int p3]).length) Slot.unset).toArray = ls at hl ⊢
  have hl : lv_has ls 4 [(0, .ref (ad 40 0)), (1, .int p1), (2, .int p2), (3, .int p3)] := hl
  unfold P_X11_notes at q
  refine lv_aload_n hx hb dX11_notes_0 rfl (lv_at hl 0 rfl) ?_
  refine g_get (ci := 15) (v := .ref (ad 68 0)) (C := RX11) (T := TX11) (N := 44) hx hb hts (fun _ h => (List.mem_cons_of_mem _ (List.mem_append_left _ (List.mem_append_right _ h)))) hown hK hH 40 0 (by decide) Nat.zero_lt_one rfl rfl 39 (by decide) (hts (.fieldLink RX11 96 "BallotFoundryModel" "noteDay" "[I") (List.mem_of_getElem? (i := 1) rfl)) (fun _ h => h) rfl dX11_notes_1 ?_
  refine lv_aload_n hx hb dX11_notes_4 rfl (lv_at hl 0 rfl) ?_
  refine g_get (ci := 15) (v := .int (F 40 0 42)) (C := RX11) (T := TX11) (N := 44) hx hb hts (fun _ h => (List.mem_cons_of_mem _ (List.mem_append_left _ (List.mem_append_right _ h)))) hown hK hH 40 0 (by decide) Nat.zero_lt_one rfl rfl 42 (by decide) (hts (.fieldLink RX11 162 "BallotFoundryModel" "notes" "I") (List.mem_of_getElem? (i := 2) rfl)) (fun _ h => h) rfl dX11_notes_5 ?_
  refine lv_iload_n hx hb dX11_notes_8 rfl (lv_at hl 1 rfl) ?_
  obtain ⟨h1, q⟩ := q
  refine g_iast hx hb hK hH hS 68 0 (by decide) Nat.zero_lt_one (by decide) 1000 (fun _ => rfl) h1 dX11_notes_9 (fun H locs hH hS => ?_)
  obtain ⟨F2, eF2⟩ : ∃ z, z = fs F 68 0 (F 40 0 42).toNatClampNeg p1 := ⟨_, rfl⟩
  have q := q F2 eF2
  rw [← eF2] at hH
  refine lv_aload_n hx hb dX11_notes_10 rfl (lv_at hl 0 rfl) ?_
  refine g_get (ci := 15) (v := .ref (ad 69 0)) (C := RX11) (T := TX11) (N := 44) hx hb hts (fun _ h => (List.mem_cons_of_mem _ (List.mem_append_left _ (List.mem_append_right _ h)))) hown hK hH 40 0 (by decide) Nat.zero_lt_one rfl rfl 40 (by decide) (hts (.fieldLink RX11 99 "BallotFoundryModel" "noteSign" "[I") (List.mem_of_getElem? (i := 3) rfl)) (fun _ h => h) rfl dX11_notes_11 ?_
  refine lv_aload_n hx hb dX11_notes_14 rfl (lv_at hl 0 rfl) ?_
  refine g_get (ci := 15) (v := .int (F2 40 0 42)) (C := RX11) (T := TX11) (N := 44) hx hb hts (fun _ h => (List.mem_cons_of_mem _ (List.mem_append_left _ (List.mem_append_right _ h)))) hown hK hH 40 0 (by decide) Nat.zero_lt_one rfl rfl 42 (by decide) (hts (.fieldLink RX11 162 "BallotFoundryModel" "notes" "I") (List.mem_of_getElem? (i := 2) rfl)) (fun _ h => h) rfl dX11_notes_15 ?_
  refine lv_iload_n hx hb dX11_notes_18 rfl (lv_at hl 2 rfl) ?_
  obtain ⟨h3, q⟩ := q
  refine g_iast hx hb hK hH hS 69 0 (by decide) Nat.zero_lt_one (by decide) 1000 (fun _ => rfl) h3 dX11_notes_19 (fun H locs hH hS => ?_)
  obtain ⟨F4, eF4⟩ : ∃ z, z = fs F2 69 0 (F2 40 0 42).toNatClampNeg p2 := ⟨_, rfl⟩
  have q := q F4 eF4
  rw [← eF4] at hH
  refine lv_aload_n hx hb dX11_notes_20 rfl (lv_at hl 0 rfl) ?_
  refine g_get (ci := 15) (v := .ref (ad 70 0)) (C := RX11) (T := TX11) (N := 44) hx hb hts (fun _ h => (List.mem_cons_of_mem _ (List.mem_append_left _ (List.mem_append_right _ h)))) hown hK hH 40 0 (by decide) Nat.zero_lt_one rfl rfl 41 (by decide) (hts (.fieldLink RX11 102 "BallotFoundryModel" "noteNumber" "[I") (List.mem_of_getElem? (i := 4) rfl)) (fun _ h => h) rfl dX11_notes_21 ?_
  refine lv_aload_n hx hb dX11_notes_24 rfl (lv_at hl 0 rfl) ?_
  refine g_get (ci := 15) (v := .int (F4 40 0 42)) (C := RX11) (T := TX11) (N := 44) hx hb hts (fun _ h => (List.mem_cons_of_mem _ (List.mem_append_left _ (List.mem_append_right _ h)))) hown hK hH 40 0 (by decide) Nat.zero_lt_one rfl rfl 42 (by decide) (hts (.fieldLink RX11 162 "BallotFoundryModel" "notes" "I") (List.mem_of_getElem? (i := 2) rfl)) (fun _ h => h) rfl dX11_notes_25 ?_
  refine lv_iload_n hx hb dX11_notes_28 rfl (lv_at hl 3 rfl) ?_
  obtain ⟨h5, q⟩ := q
  refine g_iast hx hb hK hH hS 70 0 (by decide) Nat.zero_lt_one (by decide) 1000 (fun _ => rfl) h5 dX11_notes_29 (fun H locs hH hS => ?_)
  obtain ⟨F6, eF6⟩ : ∃ z, z = fs F4 70 0 (F4 40 0 42).toNatClampNeg p3 := ⟨_, rfl⟩
  have q := q F6 eF6
  rw [← eF6] at hH
  refine lv_aload_n hx hb dX11_notes_30 rfl (lv_at hl 0 rfl) ?_
  refine lv_dup hx hb dX11_notes_31 rfl ?_
  refine g_get (ci := 15) (v := .int (F6 40 0 42)) (C := RX11) (T := TX11) (N := 44) hx hb hts (fun _ h => (List.mem_cons_of_mem _ (List.mem_append_left _ (List.mem_append_right _ h)))) hown hK hH 40 0 (by decide) Nat.zero_lt_one rfl rfl 42 (by decide) (hts (.fieldLink RX11 162 "BallotFoundryModel" "notes" "I") (List.mem_of_getElem? (i := 2) rfl)) (fun _ h => h) rfl dX11_notes_32 ?_
  refine lv_iconst (v := 1) hx hb dX11_notes_35 (by decide) ?_
  refine lv_iadd hx hb dX11_notes_36 ?_
  refine g_put (ci := 15) (v := .int ((F6 40 0 42) + 1)) (C := RX11) (T := TX11) (N := 44) hx hb hts (fun _ h => (List.mem_cons_of_mem _ (List.mem_append_left _ (List.mem_append_right _ h)))) tyX11 tyX11_ok nmX11 hown hK hH hS 40 0 (by decide) Nat.zero_lt_one (by decide) rfl rfl 42 (by decide) (hts (.fieldLink RX11 162 "BallotFoundryModel" "notes" "I") (List.mem_of_getElem? (i := 2) rfl)) (fun _ h => h) rfl (ty := .int) (by decide +kernel) rfl rfl (Nat.le_of_ble_eq_true rfl) ((F6 40 0 42) + 1) rfl dX11_notes_37 (fun H locs hH hS => ?_)
  obtain ⟨F7, eF7⟩ : ∃ z, z = fs F6 40 0 42 ((F6 40 0 42) + 1) := ⟨_, rfl⟩
  have q := q F7 eF7
  rw [← eF7] at hH
  exact (W.vret hx hb hr (fun t ht hW => ⟨⟨F7, rfl, q, gH_at ht hH⟩, hS.F ht⟩) hS.2.2 dX11_notes_40)
abbrev rm_X11_sealedOf : Room := { frames := 0, cells := 0, slots := 0, locals := 0 }
abbrev q_X11_sealedOf (G : GP) (ad : Nat → Nat → Nat) (K : Int32 → GF → Prop) (below : List Frame) (args : Array Value) (s : State) : State → Prop := MQ below (gQi G ad K) args s 0 0 (gA G)
set_option maxHeartbeats 4000000 in
set_option maxRecDepth 100000 in
theorem c_X11_sealedOf (l : Launch) (G : GP) (ad : Nat → Nat → Nat) (F : GF) (p1 : Int32) (K : Int32 → GF → Prop) : Met l yX11_sealedOf wsX11_sealedOf rm_X11_sealedOf (va_Pc [.ref (ad 40 0), .int p1] (fun U => gD G ad F U ∧ P_X11_sealedOf F p1 K)) (gQi G ad K) 0 0 (gA G) := by
  refine Met.ofW (cc := cX11_sealedOf) (maxL := 4) (ret := (some .int)) (by decide) rfl ?_
  intro p e s m args below meth c s₁ Bd hml hv
  obtain ⟨rfl, ⟨hK, hG, hB, hH⟩, q⟩ := hv
  have hx := Bd.exec
  have hb := Bd.bytes
  have hr := Bd.returns
  have hts := atoms_spec (ws := wsX11_sealedOf) Bd.pre
  have hown : s.vm.findClass RX11 = some m.cls := findClass_of_methodNamed Bd.named
  have hlocks := Bd.notSynchronized
  have hS : va_S (gA G) s.heap s.heap [] := va_S.rf
  have hl := lv_entry [.ref (ad 40 0), .int p1] (n := 4) (Nat.le_of_ble_eq_true rfl)
  rw [lg_entry_eq]
  generalize (lg_sl [.ref (ad 40 0), .int p1] ++ List.replicate (4 - (lg_sl [.ref (ad 40 0), .int p1]).length) Slot.unset).toArray = ls at hl ⊢
  have hl : lv_has ls 4 [(0, .ref (ad 40 0)), (1, .int p1)] := hl
  show W p l e rm_X11_sealedOf s m ([.ref (ad 40 0), .int p1] : List Value).toArray below meth c s.heap [] 0 0 (q_X11_sealedOf G ad K below ([.ref (ad 40 0), .int p1] : List Value).toArray s) _
  have t_36 : ∀ (k4 : GF → Int32 → Int32 → Int32 → Prop), (∀ (F : GF) (x1 : Int32) (x2 : Int32) (x3 : Int32) (H : Heap) (locs : List Loc) (ls : Array Slot), gH G ad F H → va_S (gA G) s.heap H locs → lv_has ls 4 [(0, .ref (ad 40 0)), (1, .int x1), (2, .int x2), (3, .int x3)] → k4 F x1 x2 x3 → W p l e rm_X11_sealedOf s m ([.ref (ad 40 0), .int p1] : List Value).toArray below meth c H locs 0 0 (q_X11_sealedOf G ad K below ([.ref (ad 40 0), .int p1] : List Value).toArray s) (F0 m 4 ls [])) → ∀ (F : GF) (x1 : Int32) (x3 : Int32) (s0 : Int32) (H : Heap) (locs : List Loc) (ls : Array Slot), gH G ad F H → va_S (gA G) s.heap H locs → lv_has ls 4 [(0, .ref (ad 40 0)), (1, .int x1), (3, .int x3)] → (P_X11_sealedOf_36 k4 K) F x1 x3 s0 → W p l e rm_X11_sealedOf s m ([.ref (ad 40 0), .int p1] : List Value).toArray below meth c H locs 0 0 (q_X11_sealedOf G ad K below ([.ref (ad 40 0), .int p1] : List Value).toArray s) (F0 m 36 ls [.int s0]) := by
    intro k4 hk4 F x1 x3 s0 H locs ls hH hS hl q
    unfold P_X11_sealedOf_36 at q
    refine lv_istore_n (lv' := [(2, .int s0), (0, .ref (ad 40 0)), (1, .int x1), (3, .int x3)]) hx hb dX11_sealedOf_36 rfl hl (by decide) rfl (fun ls hl => ?_)
    refine lv_iinc (v := x3 + 1) (lv' := [(3, .int (x3 + 1)), (2, .int s0), (0, .ref (ad 40 0)), (1, .int x1)]) hx hb dX11_sealedOf_37 hl (k := 3) rfl rfl (by decide) rfl (fun ls hl => ?_)
    refine lv_goto (tgt := 4) hx hb dX11_sealedOf_40 (by decide) ?_
    exact hk4 F x1 s0 (x3 + 1) _ _ _ hH hS (lv_sub hl [2, 3, 1, 0] rfl) q
  have t_35 : ∀ (k4 : GF → Int32 → Int32 → Int32 → Prop), (∀ (F : GF) (x1 : Int32) (x2 : Int32) (x3 : Int32) (H : Heap) (locs : List Loc) (ls : Array Slot), gH G ad F H → va_S (gA G) s.heap H locs → lv_has ls 4 [(0, .ref (ad 40 0)), (1, .int x1), (2, .int x2), (3, .int x3)] → k4 F x1 x2 x3 → W p l e rm_X11_sealedOf s m ([.ref (ad 40 0), .int p1] : List Value).toArray below meth c H locs 0 0 (q_X11_sealedOf G ad K below ([.ref (ad 40 0), .int p1] : List Value).toArray s) (F0 m 4 ls [])) → ∀ (F : GF) (x1 : Int32) (x2 : Int32) (x3 : Int32) (H : Heap) (locs : List Loc) (ls : Array Slot), gH G ad F H → va_S (gA G) s.heap H locs → lv_has ls 4 [(0, .ref (ad 40 0)), (1, .int x1), (2, .int x2), (3, .int x3)] → (P_X11_sealedOf_35 k4 K) F x1 x2 x3 → W p l e rm_X11_sealedOf s m ([.ref (ad 40 0), .int p1] : List Value).toArray below meth c H locs 0 0 (q_X11_sealedOf G ad K below ([.ref (ad 40 0), .int p1] : List Value).toArray s) (F0 m 35 ls []) := by
    intro k4 hk4 F x1 x2 x3 H locs ls hH hS hl q
    unfold P_X11_sealedOf_35 at q
    refine lv_iload_n hx hb dX11_sealedOf_35 rfl (lv_at hl 2 rfl) ?_
    exact t_36 k4 hk4 F x1 x3 x2 _ _ _ hH hS (lv_sub hl [0, 1, 3] rfl) q
  have t_4 : ∀ n : Nat, ∀ (F : GF) (x1 : Int32) (x2 : Int32) (x3 : Int32) (H : Heap) (locs : List Loc) (ls : Array Slot), gH G ad F H → va_S (gA G) s.heap H locs → lv_has ls 4 [(0, .ref (ad 40 0)), (1, .int x1), (2, .int x2), (3, .int x3)] → (P_X11_sealedOf_4 K n) F x1 x2 x3 → W p l e rm_X11_sealedOf s m ([.ref (ad 40 0), .int p1] : List Value).toArray below meth c H locs 0 0 (q_X11_sealedOf G ad K below ([.ref (ad 40 0), .int p1] : List Value).toArray s) (F0 m 4 ls []) := by
    intro n
    induction n with
    | zero =>
      intro F x1 x2 x3 H locs ls hH hS hl q
      exact False.elim q
    | succ n ih =>
      intro F x1 x2 x3 H locs ls hH hS hl q
      rw [P_X11_sealedOf_4] at q
      refine lv_iload_n hx hb dX11_sealedOf_4 rfl (lv_at hl 3 rfl) ?_
      refine lv_aload_n hx hb dX11_sealedOf_5 rfl (lv_at hl 0 rfl) ?_
      refine g_get (ci := 15) (v := .int (F 40 0 26)) (C := RX11) (T := TX11) (N := 44) hx hb hts (fun _ h => (List.mem_cons_of_mem _ (List.mem_append_left _ (List.mem_append_right _ h)))) hown hK hH 40 0 (by decide) Nat.zero_lt_one rfl rfl 26 (by decide) (hts (.fieldLink RX11 165 "BallotFoundryModel" "envelopes" "I") (List.mem_of_getElem? (i := 1) rfl)) (fun _ h => h) rfl dX11_sealedOf_6 ?_
      refine lv_icmp_ge (tgt := 43) hx hb dX11_sealedOf_9 (by decide) (fun c1 => ?_) (fun c1 => ?_)
      · have q := (if_pos c1).mp q
        refine lv_iload_n hx hb dX11_sealedOf_43 rfl (lv_at hl 2 rfl) ?_
        exact (W.iret (v := x2) hx hb hr (fun t ht hW => ⟨⟨x2, F, rfl, q, gH_at ht hH⟩, hS.F ht⟩) hS.2.2 dX11_sealedOf_44)
      · have q := (if_neg c1).mp q
        refine lv_aload_n hx hb dX11_sealedOf_12 rfl (lv_at hl 0 rfl) ?_
        refine g_get (ci := 15) (v := .ref (ad 55 0)) (C := RX11) (T := TX11) (N := 44) hx hb hts (fun _ h => (List.mem_cons_of_mem _ (List.mem_append_left _ (List.mem_append_right _ h)))) hown hK hH 40 0 (by decide) Nat.zero_lt_one rfl rfl 23 (by decide) (hts (.fieldLink RX11 57 "BallotFoundryModel" "envelopeOf" "[I") (List.mem_of_getElem? (i := 2) rfl)) (fun _ h => h) rfl dX11_sealedOf_13 ?_
        refine lv_iload_n hx hb dX11_sealedOf_16 rfl (lv_at hl 3 rfl) ?_
        obtain ⟨h2, q⟩ := q
        refine g_iald hx hb hK hH 55 0 (by decide) Nat.zero_lt_one 60 rfl h2 dX11_sealedOf_17 ?_
        refine lv_iload_n hx hb dX11_sealedOf_18 rfl (lv_at hl 1 rfl) ?_
        refine lv_icmp_ne (tgt := 35) hx hb dX11_sealedOf_19 (by decide) (fun c3 => ?_) (fun c3 => ?_)
        · have q := (if_neg c3).mp q
          exact t_35 (fun F a0 a1 a2 => P_X11_sealedOf_4 K n F a0 a1 a2) ih F x1 x2 x3 _ _ _ hH hS (lv_sub hl [0, 1, 2, 3] rfl) q
        · have q := (if_pos c3).mp q
          refine lv_aload_n hx hb dX11_sealedOf_22 rfl (lv_at hl 0 rfl) ?_
          refine g_get (ci := 15) (v := .ref (ad 57 0)) (C := RX11) (T := TX11) (N := 44) hx hb hts (fun _ h => (List.mem_cons_of_mem _ (List.mem_append_left _ (List.mem_append_right _ h)))) hown hK hH 40 0 (by decide) Nat.zero_lt_one rfl rfl 25 (by decide) (hts (.fieldLink RX11 63 "BallotFoundryModel" "state" "[I") (List.mem_of_getElem? (i := 3) rfl)) (fun _ h => h) rfl dX11_sealedOf_23 ?_
          refine lv_iload_n hx hb dX11_sealedOf_26 rfl (lv_at hl 3 rfl) ?_
          obtain ⟨h4, q⟩ := q
          refine g_iald hx hb hK hH 57 0 (by decide) Nat.zero_lt_one 60 rfl h4 dX11_sealedOf_27 ?_
          refine lv_if_ne (tgt := 35) hx hb dX11_sealedOf_28 (by decide) (fun c5 => ?_) (fun c5 => ?_)
          · have q := (if_neg c5).mp q
            exact t_35 (fun F a0 a1 a2 => P_X11_sealedOf_4 K n F a0 a1 a2) ih F x1 x2 x3 _ _ _ hH hS (lv_sub hl [0, 1, 2, 3] rfl) q
          · have q := (if_pos c5).mp q
            refine lv_iload_n hx hb dX11_sealedOf_31 rfl (lv_at hl 3 rfl) ?_
            refine lv_goto (tgt := 36) hx hb dX11_sealedOf_32 (by decide) ?_
            exact t_36 (fun F a0 a1 a2 => P_X11_sealedOf_4 K n F a0 a1 a2) ih F x1 x3 x3 _ _ _ hH hS (lv_sub hl [0, 1, 3] rfl) q
  unfold P_X11_sealedOf at q
  refine lv_iconst (v := (-1)) hx hb dX11_sealedOf_0 (by decide) ?_
  refine lv_istore_n (lv' := [(2, .int (-1)), (0, .ref (ad 40 0)), (1, .int p1)]) hx hb dX11_sealedOf_1 rfl hl (by decide) rfl (fun ls hl => ?_)
  refine lv_iconst (v := 0) hx hb dX11_sealedOf_2 (by decide) ?_
  refine lv_istore_n (lv' := [(3, .int 0), (2, .int (-1)), (0, .ref (ad 40 0)), (1, .int p1)]) hx hb dX11_sealedOf_3 rfl hl (by decide) rfl (fun ls hl => ?_)
  obtain ⟨nn, q⟩ := q
  exact t_4 nn F p1 (-1) 0 _ _ _ hH hS (lv_sub hl [2, 3, 1, 0] rfl) q
abbrev rm_X11_voids : Room := { frames := 1, cells := 0, slots := 0, locals := 23 }
abbrev q_X11_voids (G : GP) (ad : Nat → Nat → Nat) (K : Int32 → GF → Prop) (below : List Frame) (args : Array Value) (s : State) : State → Prop := MQ below (gQi G ad K) args s 0 0 (gA G)
set_option maxHeartbeats 4000000 in
set_option maxRecDepth 100000 in
theorem c_X11_voids (l : Launch) (G : GP) (ad : Nat → Nat → Nat) (F : GF) (p1 : Int32) (K : Int32 → GF → Prop) : Met l yX11_voids wsX11_voids rm_X11_voids (va_Pc [.ref (ad 40 0), .int p1] (fun U => gD G ad F U ∧ P_X11_voids F p1 K)) (gQi G ad K) 0 0 (gA G) := by
  refine Met.ofW (cc := cX11_voids) (maxL := 3) (ret := (some .boolean)) (by decide) rfl ?_
  intro p e s m args below meth c s₁ Bd hml hv
  obtain ⟨rfl, ⟨hK, hG, hB, hH⟩, q⟩ := hv
  have hx := Bd.exec
  have hb := Bd.bytes
  have hr := Bd.returns
  have hts := atoms_spec (ws := wsX11_voids) Bd.pre
  have hown : s.vm.findClass RX11 = some m.cls := findClass_of_methodNamed Bd.named
  have hlocks := Bd.notSynchronized
  have hS : va_S (gA G) s.heap s.heap [] := va_S.rf
  have hl := lv_entry [.ref (ad 40 0), .int p1] (n := 3) (Nat.le_of_ble_eq_true rfl)
  rw [lg_entry_eq]
  generalize (lg_sl [.ref (ad 40 0), .int p1] ++ List.replicate (3 - (lg_sl [.ref (ad 40 0), .int p1]).length) Slot.unset).toArray = ls at hl ⊢
  have hl : lv_has ls 3 [(0, .ref (ad 40 0)), (1, .int p1)] := hl
  show W p l e rm_X11_voids s m ([.ref (ad 40 0), .int p1] : List Value).toArray below meth c s.heap [] 0 0 (q_X11_voids G ad K below ([.ref (ad 40 0), .int p1] : List Value).toArray s) _
  have t_29 : ∀ (F : GF) (x2 : Int32) (H : Heap) (locs : List Loc) (ls : Array Slot), gH G ad F H → va_S (gA G) s.heap H locs → lv_has ls 3 [(2, .int x2)] → (P_X11_voids_29 K) F x2 → W p l e rm_X11_voids s m ([.ref (ad 40 0), .int p1] : List Value).toArray below meth c H locs 0 0 (q_X11_voids G ad K below ([.ref (ad 40 0), .int p1] : List Value).toArray s) (F0 m 29 ls []) := by
    intro F x2 H locs ls hH hS hl q
    unfold P_X11_voids_29 at q
    refine lv_iload_n hx hb dX11_voids_29 rfl (lv_at hl 0 rfl) ?_
    refine lv_iconst (v := (-1)) hx hb dX11_voids_30 (by decide) ?_
    refine lv_icmp_eq (tgt := 38) hx hb dX11_voids_31 (by decide) (fun c4 => ?_) (fun c4 => ?_)
    · have q := (if_pos c4).mp q
      refine lv_iconst (v := 0) hx hb dX11_voids_38 (by decide) ?_
      exact (W.zret (v := 0) hx hb hr rfl (fun t ht hW => ⟨⟨0, F, rfl, q, gH_at ht hH⟩, hS.F ht⟩) hS.2.2 dX11_voids_39)
    · have q := (if_neg c4).mp q
      refine lv_iconst (v := 1) hx hb dX11_voids_34 (by decide) ?_
      refine lv_goto (tgt := 39) hx hb dX11_voids_35 (by decide) ?_
      exact (W.zret (v := 1) hx hb hr rfl (fun t ht hW => ⟨⟨1, F, rfl, q, gH_at ht hH⟩, hS.F ht⟩) hS.2.2 dX11_voids_39)
  unfold P_X11_voids at q
  refine lv_aload_n hx hb dX11_voids_0 rfl (lv_at hl 0 rfl) ?_
  refine lv_iload_n hx hb dX11_voids_1 rfl (lv_at hl 1 rfl) ?_
  refine va_calli (va_runV (As := [.int p1]) (rest := []) ⟨hx, hb, hml, hown, hts⟩ (c_X11_sealedOf l G ad F p1 _) (cwV 1 hts gX11_voids_X11_sealedOf rfl rfl rfl (by decide +kernel) ⟨Nat.le_of_ble_eq_true rfl, Nat.le_of_ble_eq_true rfl⟩) ⟨fun a U g mk h => ⟨h.1, gD_blind h.2.1, h.2.2⟩, g_recv (C := RX11) (T := TX11) (N := 44) hK hH 40 0 (by decide) Nat.zero_lt_one rfl rfl, fun U hU hW => ⟨rfl, gD_at hK hG hB hH hS hU hW, q⟩⟩ rfl rfl hl.1 rfl (lv_room (Nat.le_of_ble_eq_true rfl)) dX11_voids_2 ⟨Nat.le_of_ble_eq_true rfl, Nat.le_of_ble_eq_true rfl⟩) hS (fun _ _ h => h) (fun _ h => h) (fun r1 F2 t H locs ht hvm q hB1 hz hk hS => ?_)
  have hH : gH G ad F2 H := gH_to ht hB1
  refine lv_istore_n (lv' := [(2, .int r1), (0, .ref (ad 40 0)), (1, .int p1)]) hx hb dX11_voids_5 rfl hl (by decide) rfl (fun ls hl => ?_)
  refine lv_iload_n hx hb dX11_voids_6 rfl (lv_at hl 0 rfl) ?_
  refine lv_iconst (v := (-1)) hx hb dX11_voids_7 (by decide) ?_
  refine lv_icmp_eq (tgt := 29) hx hb dX11_voids_8 (by decide) (fun c3 => ?_) (fun c3 => ?_)
  · have q := (if_pos c3).mp q
    exact t_29 F2 r1 _ _ _ hH hS (lv_sub hl [0] rfl) q
  · have q := (if_neg c3).mp q
    refine lv_aload_n hx hb dX11_voids_11 rfl (lv_at hl 1 rfl) ?_
    refine g_get (ci := 15) (v := .ref (ad 57 0)) (C := RX11) (T := TX11) (N := 44) hx hb hts (fun _ h => (List.mem_cons_of_mem _ (List.mem_append_left _ (List.mem_append_right _ h)))) hown hK hH 40 0 (by decide) Nat.zero_lt_one rfl rfl 25 (by decide) (hts (.fieldLink RX11 63 "BallotFoundryModel" "state" "[I") (List.mem_of_getElem? (i := 1) rfl)) (fun _ h => h) rfl dX11_voids_12 ?_
    refine lv_iload_n hx hb dX11_voids_15 rfl (lv_at hl 0 rfl) ?_
    refine lv_iconst (v := 1) hx hb dX11_voids_16 (by decide) ?_
    obtain ⟨h5, q⟩ := q
    refine g_iast hx hb hK hH hS 57 0 (by decide) Nat.zero_lt_one (by decide) 60 (fun _ => rfl) h5 dX11_voids_17 (fun H locs hH hS => ?_)
    obtain ⟨F6, eF6⟩ : ∃ z, z = fs F2 57 0 r1.toNatClampNeg 1 := ⟨_, rfl⟩
    have q := q F6 eF6
    rw [← eF6] at hH
    refine lv_aload_n hx hb dX11_voids_18 rfl (lv_at hl 1 rfl) ?_
    refine lv_aload_n hx hb dX11_voids_19 rfl (lv_at hl 1 rfl) ?_
    refine g_get (ci := 15) (v := .int (F6 40 0 0)) (C := RX11) (T := TX11) (N := 44) hx hb hts (fun _ h => (List.mem_cons_of_mem _ (List.mem_append_left _ (List.mem_append_right _ h)))) hown hK hH 40 0 (by decide) Nat.zero_lt_one rfl rfl 0 (by decide) (hts (.fieldLink RX11 149 "BallotFoundryModel" "today" "I") (List.mem_of_getElem? (i := 2) rfl)) (fun _ h => h) rfl dX11_voids_20 ?_
    refine lv_bipush (v := 120) hx hb dX11_voids_23 (by decide) ?_
    refine lv_iload_n hx hb dX11_voids_25 rfl (lv_at hl 2 rfl) ?_
    refine va_callv (va_runV (As := [.int (F6 40 0 0), .int 120, .int p1]) (rest := []) ⟨hx, hb, hml, hown, hts⟩ (c_X11_notes l G ad F6 (F6 40 0 0) 120 p1 _) (cwV 3 hts gX11_voids_X11_notes rfl rfl rfl (by decide +kernel) ⟨Nat.le_of_ble_eq_true rfl, Nat.le_of_ble_eq_true rfl⟩) ⟨fun a U g mk h => ⟨h.1, gD_blind h.2.1, h.2.2⟩, g_recv (C := RX11) (T := TX11) (N := 44) hK hH 40 0 (by decide) Nat.zero_lt_one rfl rfl, fun U hU hW => ⟨rfl, gD_at hK hG hB hH hS hU hW, q⟩⟩ rfl rfl hl.1 rfl (lv_room (Nat.le_of_ble_eq_true rfl)) dX11_voids_26 ⟨Nat.le_of_ble_eq_true rfl, Nat.le_of_ble_eq_true rfl⟩) hS (fun _ _ h => h) (fun _ h => h) (fun F8 t H locs ht hvm q hB1 hz hk hS => ?_)
    have hH : gH G ad F8 H := gH_to ht hB1
    exact t_29 F8 r1 _ _ _ hH hS (lv_sub hl [0] rfl) q
abbrev rm_X11_die : Room := { frames := 2, cells := 0, slots := 0, locals := 45 }
abbrev q_X11_die (G : GP) (ad : Nat → Nat → Nat) (K : Int32 → GF → Prop) (below : List Frame) (args : Array Value) (s : State) : State → Prop := MQ below (gQi G ad K) args s 0 0 (gA G)
set_option maxHeartbeats 4000000 in
set_option maxRecDepth 100000 in
theorem c_X11_die (l : Launch) (G : GP) (ad : Nat → Nat → Nat) (F : GF) (p1 : Int32) (K : Int32 → GF → Prop) : Met l yX11_die wsX11_die rm_X11_die (va_Pc [.ref (ad 40 0), .int p1] (fun U => gD G ad F U ∧ P_X11_die F p1 K)) (gQi G ad K) 0 0 (gA G) := by
  refine Met.ofW (cc := cX11_die) (maxL := 3) (ret := (some .boolean)) (by decide) rfl ?_
  intro p e s m args below meth c s₁ Bd hml hv
  obtain ⟨rfl, ⟨hK, hG, hB, hH⟩, q⟩ := hv
  have hx := Bd.exec
  have hb := Bd.bytes
  have hr := Bd.returns
  have hts := atoms_spec (ws := wsX11_die) Bd.pre
  have hown : s.vm.findClass RX11 = some m.cls := findClass_of_methodNamed Bd.named
  have hlocks := Bd.notSynchronized
  have hS : va_S (gA G) s.heap s.heap [] := va_S.rf
  have hl := lv_entry [.ref (ad 40 0), .int p1] (n := 3) (Nat.le_of_ble_eq_true rfl)
  rw [lg_entry_eq]
  generalize (lg_sl [.ref (ad 40 0), .int p1] ++ List.replicate (3 - (lg_sl [.ref (ad 40 0), .int p1]).length) Slot.unset).toArray = ls at hl ⊢
  have hl : lv_has ls 3 [(0, .ref (ad 40 0)), (1, .int p1)] := hl
  show W p l e rm_X11_die s m ([.ref (ad 40 0), .int p1] : List Value).toArray below meth c s.heap [] 0 0 (q_X11_die G ad K below ([.ref (ad 40 0), .int p1] : List Value).toArray s) _
  have t_26 : ∀ (F : GF) (x1 : Int32) (s1 : Int32) (s2 : Int32) (H : Heap) (locs : List Loc) (ls : Array Slot), gH G ad F H → va_S (gA G) s.heap H locs → lv_has ls 3 [(0, .ref (ad 40 0)), (1, .int x1)] → (P_X11_die_26 K) F x1 s1 s2 → W p l e rm_X11_die s m ([.ref (ad 40 0), .int p1] : List Value).toArray below meth c H locs 0 0 (q_X11_die G ad K below ([.ref (ad 40 0), .int p1] : List Value).toArray s) (F0 m 26 ls [.int s2, .int s1, .ref (ad 40 0)]) := by
    intro F x1 s1 s2 H locs ls hH hS hl q
    unfold P_X11_die_26 at q
    refine va_calli (va_runV (As := [.int s1, .int s2]) (rest := []) ⟨hx, hb, hml, hown, hts⟩ (c_X11_asked_ l G ad F s1 s2 _) (cwV 2 hts gX11_die_X11_asked_ rfl rfl rfl (by decide +kernel) ⟨Nat.le_of_ble_eq_true rfl, Nat.le_of_ble_eq_true rfl⟩) ⟨fun a U g mk h => ⟨h.1, gD_blind h.2.1, h.2.2⟩, g_recv (C := RX11) (T := TX11) (N := 44) hK hH 40 0 (by decide) Nat.zero_lt_one rfl rfl, fun U hU hW => ⟨rfl, gD_at hK hG hB hH hS hU hW, q⟩⟩ rfl rfl hl.1 rfl (lv_room (Nat.le_of_ble_eq_true rfl)) dX11_die_26 ⟨Nat.le_of_ble_eq_true rfl, Nat.le_of_ble_eq_true rfl⟩) hS (fun _ _ h => h) (fun _ h => h) (fun r4 F5 t H locs ht hvm q hB1 hz hk hS => ?_)
    have hH : gH G ad F5 H := gH_to ht hB1
    refine lv_if_ne (tgt := 34) hx hb dX11_die_29 (by decide) (fun c6 => ?_) (fun c6 => ?_)
    · have q := (if_neg c6).mp q
      refine lv_aload_n hx hb dX11_die_34 rfl (lv_at hl 0 rfl) ?_
      refine g_get (ci := 15) (v := .ref (ad 47 0)) (C := RX11) (T := TX11) (N := 44) hx hb hts (fun _ h => (List.mem_cons_of_mem _ (List.mem_append_left _ (List.mem_append_right _ h)))) hown hK hH 40 0 (by decide) Nat.zero_lt_one rfl rfl 8 (by decide) (hts (.fieldLink RX11 29 "BallotFoundryModel" "died" "[Z") (List.mem_of_getElem? (i := 1) rfl)) (fun _ h => h) rfl dX11_die_35 ?_
      refine lv_iload_n hx hb dX11_die_38 rfl (lv_at hl 1 rfl) ?_
      refine lv_iconst (v := 1) hx hb dX11_die_39 (by decide) ?_
      obtain ⟨h7, q⟩ := q
      refine g_zast hx hb hK hH hS 47 0 (by decide) Nat.zero_lt_one (by decide) 20 (fun _ => rfl) h7 dX11_die_40 (fun H locs hH hS => ?_)
      rw [gz_vp (by decide)] at hH
      obtain ⟨F8, eF8⟩ : ∃ z, z = fs F5 47 0 x1.toNatClampNeg 1 := ⟨_, rfl⟩
      have q := q F8 eF8
      rw [← eF8] at hH
      refine lv_aload_n hx hb dX11_die_41 rfl (lv_at hl 0 rfl) ?_
      refine lv_iload_n hx hb dX11_die_42 rfl (lv_at hl 1 rfl) ?_
      refine va_calli (va_runV (As := [.int x1]) (rest := []) ⟨hx, hb, hml, hown, hts⟩ (c_X11_voids l G ad F8 x1 _) (cwV 1 hts gX11_die_X11_voids rfl rfl rfl (by decide +kernel) ⟨Nat.le_of_ble_eq_true rfl, Nat.le_of_ble_eq_true rfl⟩) ⟨fun a U g mk h => ⟨h.1, gD_blind h.2.1, h.2.2⟩, g_recv (C := RX11) (T := TX11) (N := 44) hK hH 40 0 (by decide) Nat.zero_lt_one rfl rfl, fun U hU hW => ⟨rfl, gD_at hK hG hB hH hS hU hW, q⟩⟩ rfl rfl hl.1 rfl (lv_room (Nat.le_of_ble_eq_true rfl)) dX11_die_43 ⟨Nat.le_of_ble_eq_true rfl, Nat.le_of_ble_eq_true rfl⟩) hS (fun _ _ h => h) (fun _ h => h) (fun r9 F10 t H locs ht hvm q hB1 hz hk hS => ?_)
      have hH : gH G ad F10 H := gH_to ht hB1
      obtain ⟨h11, q⟩ := q
      exact (W.zret (v := r9) hx hb hr (gz_nar h11) (fun t ht hW => ⟨⟨r9, F10, rfl, q, gH_at ht hH⟩, hS.F ht⟩) hS.2.2 dX11_die_46)
    · have q := (if_pos c6).mp q
      refine lv_iconst (v := 0) hx hb dX11_die_32 (by decide) ?_
      exact (W.zret (v := 0) hx hb hr rfl (fun t ht hW => ⟨⟨0, F5, rfl, q, gH_at ht hH⟩, hS.F ht⟩) hS.2.2 dX11_die_33)
  have t_25 : ∀ (F : GF) (x1 : Int32) (s1 : Int32) (H : Heap) (locs : List Loc) (ls : Array Slot), gH G ad F H → va_S (gA G) s.heap H locs → lv_has ls 3 [(0, .ref (ad 40 0)), (1, .int x1)] → (P_X11_die_25 K) F x1 s1 → W p l e rm_X11_die s m ([.ref (ad 40 0), .int p1] : List Value).toArray below meth c H locs 0 0 (q_X11_die G ad K below ([.ref (ad 40 0), .int p1] : List Value).toArray s) (F0 m 25 ls [.int s1, .ref (ad 40 0)]) := by
    intro F x1 s1 H locs ls hH hS hl q
    unfold P_X11_die_25 at q
    refine lv_iconst (v := 0) hx hb dX11_die_25 (by decide) ?_
    exact t_26 F x1 s1 0 _ _ _ hH hS (lv_sub hl [0, 1] rfl) q
  unfold P_X11_die at q
  refine lv_aload_n hx hb dX11_die_0 rfl (lv_at hl 0 rfl) ?_
  refine lv_iload_n hx hb dX11_die_1 rfl (lv_at hl 1 rfl) ?_
  refine va_calli (va_runV (As := [.int p1]) (rest := []) ⟨hx, hb, hml, hown, hts⟩ (c_X11_isPerson l G ad F p1 _) (cwV 1 hts gX11_die_X11_isPerson rfl rfl rfl (by decide +kernel) ⟨Nat.le_of_ble_eq_true rfl, Nat.le_of_ble_eq_true rfl⟩) ⟨fun a U g mk h => ⟨h.1, gD_blind h.2.1, h.2.2⟩, g_recv (C := RX11) (T := TX11) (N := 44) hK hH 40 0 (by decide) Nat.zero_lt_one rfl rfl, fun U hU hW => ⟨rfl, gD_at hK hG hB hH hS hU hW, q⟩⟩ rfl rfl hl.1 rfl (lv_room (Nat.le_of_ble_eq_true rfl)) dX11_die_2 ⟨Nat.le_of_ble_eq_true rfl, Nat.le_of_ble_eq_true rfl⟩) hS (fun _ _ h => h) (fun _ h => h) (fun r1 F2 t H locs ht hvm q hB1 hz hk hS => ?_)
  have hH : gH G ad F2 H := gH_to ht hB1
  refine lv_istore_n (lv' := [(2, .int r1), (0, .ref (ad 40 0)), (1, .int p1)]) hx hb dX11_die_5 rfl hl (by decide) rfl (fun ls hl => ?_)
  refine lv_aload_n hx hb dX11_die_6 rfl (lv_at hl 1 rfl) ?_
  refine lv_iload_n hx hb dX11_die_7 rfl (lv_at hl 0 rfl) ?_
  refine lv_iload_n hx hb dX11_die_8 rfl (lv_at hl 0 rfl) ?_
  refine lv_if_eq (tgt := 25) hx hb dX11_die_9 (by decide) (fun c3 => ?_) (fun c3 => ?_)
  · have q := (if_pos c3).mp q
    exact t_25 F2 p1 r1 _ _ _ hH hS (lv_sub hl [1, 2] rfl) q
  · have q := (if_neg c3).mp q
    refine lv_aload_n hx hb dX11_die_12 rfl (lv_at hl 1 rfl) ?_
    refine g_get (ci := 15) (v := .ref (ad 47 0)) (C := RX11) (T := TX11) (N := 44) hx hb hts (fun _ h => (List.mem_cons_of_mem _ (List.mem_append_left _ (List.mem_append_right _ h)))) hown hK hH 40 0 (by decide) Nat.zero_lt_one rfl rfl 8 (by decide) (hts (.fieldLink RX11 29 "BallotFoundryModel" "died" "[Z") (List.mem_of_getElem? (i := 1) rfl)) (fun _ h => h) rfl dX11_die_13 ?_
    refine lv_iload_n hx hb dX11_die_16 rfl (lv_at hl 2 rfl) ?_
    obtain ⟨h12, q⟩ := q
    refine g_zald hx hb hK hH 47 0 (by decide) Nat.zero_lt_one 20 rfl h12 dX11_die_17 ?_
    refine lv_if_ne (tgt := 25) hx hb dX11_die_18 (by decide) (fun c13 => ?_) (fun c13 => ?_)
    · have q := (if_neg c13).mp q
      exact t_25 F2 p1 r1 _ _ _ hH hS (lv_sub hl [1, 2] rfl) q
    · have q := (if_pos c13).mp q
      refine lv_iconst (v := 1) hx hb dX11_die_21 (by decide) ?_
      refine lv_goto (tgt := 26) hx hb dX11_die_22 (by decide) ?_
      exact t_26 F2 p1 r1 1 _ _ _ hH hS (lv_sub hl [1, 2] rfl) q
abbrev rm_X11_dwells : Room := { frames := 2, cells := 0, slots := 0, locals := 43 }
abbrev q_X11_dwells (G : GP) (ad : Nat → Nat → Nat) (K : Int32 → GF → Prop) (below : List Frame) (args : Array Value) (s : State) : State → Prop := MQ below (gQi G ad K) args s 0 0 (gA G)
set_option maxHeartbeats 4000000 in
set_option maxRecDepth 100000 in
theorem c_X11_dwells (l : Launch) (G : GP) (ad : Nat → Nat → Nat) (F : GF) (p1 : Int32) (p2 : Int32) (K : Int32 → GF → Prop) : Met l yX11_dwells wsX11_dwells rm_X11_dwells (va_Pc [.ref (ad 40 0), .int p1, .int p2] (fun U => gD G ad F U ∧ P_X11_dwells F p1 p2 K)) (gQi G ad K) 0 0 (gA G) := by
  refine Met.ofW (cc := cX11_dwells) (maxL := 3) (ret := (some .int)) (by decide) rfl ?_
  intro p e s m args below meth c s₁ Bd hml hv
  obtain ⟨rfl, ⟨hK, hG, hB, hH⟩, q⟩ := hv
  have hx := Bd.exec
  have hb := Bd.bytes
  have hr := Bd.returns
  have hts := atoms_spec (ws := wsX11_dwells) Bd.pre
  have hown : s.vm.findClass RX11 = some m.cls := findClass_of_methodNamed Bd.named
  have hlocks := Bd.notSynchronized
  have hS : va_S (gA G) s.heap s.heap [] := va_S.rf
  have hl := lv_entry [.ref (ad 40 0), .int p1, .int p2] (n := 3) (Nat.le_of_ble_eq_true rfl)
  rw [lg_entry_eq]
  generalize (lg_sl [.ref (ad 40 0), .int p1, .int p2] ++ List.replicate (3 - (lg_sl [.ref (ad 40 0), .int p1, .int p2]).length) Slot.unset).toArray = ls at hl ⊢
  have hl : lv_has ls 3 [(0, .ref (ad 40 0)), (1, .int p1), (2, .int p2)] := hl
  unfold P_X11_dwells at q
  refine lv_aload_n hx hb dX11_dwells_0 rfl (lv_at hl 0 rfl) ?_
  refine lv_aload_n hx hb dX11_dwells_1 rfl (lv_at hl 0 rfl) ?_
  refine lv_iload_n hx hb dX11_dwells_2 rfl (lv_at hl 1 rfl) ?_
  refine va_calli (va_runV (As := [.int p1]) (rest := [.ref (ad 40 0)]) ⟨hx, hb, hml, hown, hts⟩ (c_X11_isPerson l G ad F p1 _) (cwV 1 hts gX11_dwells_X11_isPerson rfl rfl rfl (by decide +kernel) ⟨Nat.le_of_ble_eq_true rfl, Nat.le_of_ble_eq_true rfl⟩) ⟨fun a U g mk h => ⟨h.1, gD_blind h.2.1, h.2.2⟩, g_recv (C := RX11) (T := TX11) (N := 44) hK hH 40 0 (by decide) Nat.zero_lt_one rfl rfl, fun U hU hW => ⟨rfl, gD_at hK hG hB hH hS hU hW, q⟩⟩ rfl rfl hl.1 rfl (lv_room (Nat.le_of_ble_eq_true rfl)) dX11_dwells_3 ⟨Nat.le_of_ble_eq_true rfl, Nat.le_of_ble_eq_true rfl⟩) hS (fun _ _ h => h) (fun _ h => h) (fun r1 F2 t H locs ht hvm q hB1 hz hk hS => ?_)
  have hH : gH G ad F2 H := gH_to ht hB1
  refine lv_iload_n hx hb dX11_dwells_6 rfl (lv_at hl 2 rfl) ?_
  refine lv_iconst (v := 0) hx hb dX11_dwells_7 (by decide) ?_
  refine lv_aload_n hx hb dX11_dwells_8 rfl (lv_at hl 0 rfl) ?_
  refine g_get (ci := 15) (v := .int (F2 40 0 0)) (C := RX11) (T := TX11) (N := 44) hx hb hts (fun _ h => (List.mem_cons_of_mem _ (List.mem_append_left _ (List.mem_append_right _ h)))) hown hK hH 40 0 (by decide) Nat.zero_lt_one rfl rfl 0 (by decide) (hts (.fieldLink RX11 149 "BallotFoundryModel" "today" "I") (List.mem_of_getElem? (i := 1) rfl)) (fun _ h => h) rfl dX11_dwells_9 ?_
  refine va_calli (va_runS (As := [.int p2, .int 0, .int (F2 40 0 0)]) (rest := [.int r1, .ref (ad 40 0)]) ⟨hx, hb, hml, hown, hts⟩ (c_X11_in l G ad F2 p2 0 (F2 40 0 0) _) (va_cwS 3 hts gX11_dwells_X11_in rfl rfl rfl (by decide +kernel) ⟨Nat.le_of_ble_eq_true rfl, Nat.le_of_ble_eq_true rfl⟩) ⟨fun a U g mk h => ⟨h.1, gD_blind h.2.1, h.2.2⟩, fun U hU hW => ⟨rfl, gD_at hK hG hB hH hS hU hW, q⟩⟩ rfl rfl hl.1 rfl (lv_room (Nat.le_of_ble_eq_true rfl)) dX11_dwells_12 ⟨Nat.le_of_ble_eq_true rfl, Nat.le_of_ble_eq_true rfl⟩) hS (fun _ _ h => h) (fun _ h => h) (fun r3 F4 t H locs ht hvm q hB1 hz hk hS => ?_)
  have hH : gH G ad F4 H := gH_to ht hB1
  refine va_calli (va_runV (As := [.int r1, .int r3]) (rest := []) ⟨hx, hb, hml, hown, hts⟩ (c_X11_asked_ l G ad F4 r1 r3 _) (cwV 2 hts gX11_dwells_X11_asked_ rfl rfl rfl (by decide +kernel) ⟨Nat.le_of_ble_eq_true rfl, Nat.le_of_ble_eq_true rfl⟩) ⟨fun a U g mk h => ⟨h.1, gD_blind h.2.1, h.2.2⟩, g_recv (C := RX11) (T := TX11) (N := 44) hK hH 40 0 (by decide) Nat.zero_lt_one rfl rfl, fun U hU hW => ⟨rfl, gD_at hK hG hB hH hS hU hW, q⟩⟩ rfl rfl hl.1 rfl (lv_room (Nat.le_of_ble_eq_true rfl)) dX11_dwells_15 ⟨Nat.le_of_ble_eq_true rfl, Nat.le_of_ble_eq_true rfl⟩) hS (fun _ _ h => h) (fun _ h => h) (fun r5 F6 t H locs ht hvm q hB1 hz hk hS => ?_)
  have hH : gH G ad F6 H := gH_to ht hB1
  refine lv_if_eq (tgt := 30) hx hb dX11_dwells_18 (by decide) (fun c7 => ?_) (fun c7 => ?_)
  · have q := (if_pos c7).mp q
    refine lv_iconst (v := 0) hx hb dX11_dwells_30 (by decide) ?_
    exact (W.iret (v := 0) hx hb hr (fun t ht hW => ⟨⟨0, F6, rfl, q, gH_at ht hH⟩, hS.F ht⟩) hS.2.2 dX11_dwells_31)
  · have q := (if_neg c7).mp q
    refine lv_aload_n hx hb dX11_dwells_21 rfl (lv_at hl 0 rfl) ?_
    refine lv_iload_n hx hb dX11_dwells_22 rfl (lv_at hl 1 rfl) ?_
    refine lv_iload_n hx hb dX11_dwells_23 rfl (lv_at hl 2 rfl) ?_
    refine va_calli (va_runV (As := [.int p1, .int p2]) (rest := []) ⟨hx, hb, hml, hown, hts⟩ (c_X11_dwelt l G ad F6 p1 p2 _) (cwV 2 hts gX11_dwells_X11_dwelt rfl rfl rfl (by decide +kernel) ⟨Nat.le_of_ble_eq_true rfl, Nat.le_of_ble_eq_true rfl⟩) ⟨fun a U g mk h => ⟨h.1, gD_blind h.2.1, h.2.2⟩, g_recv (C := RX11) (T := TX11) (N := 44) hK hH 40 0 (by decide) Nat.zero_lt_one rfl rfl, fun U hU hW => ⟨rfl, gD_at hK hG hB hH hS hU hW, q⟩⟩ rfl rfl hl.1 rfl (lv_room (Nat.le_of_ble_eq_true rfl)) dX11_dwells_24 ⟨Nat.le_of_ble_eq_true rfl, Nat.le_of_ble_eq_true rfl⟩) hS (fun _ _ h => h) (fun _ h => h) (fun r8 F9 t H locs ht hvm q hB1 hz hk hS => ?_)
    have hH : gH G ad F9 H := gH_to ht hB1
    refine lv_goto (tgt := 31) hx hb dX11_dwells_27 (by decide) ?_
    exact (W.iret (v := r8) hx hb hr (fun t ht hW => ⟨⟨r8, F9, rfl, q, gH_at ht hH⟩, hS.F ht⟩) hS.2.2 dX11_dwells_31)
abbrev rm_X11_clears : Room := { frames := 0, cells := 0, slots := 0, locals := 0 }
abbrev q_X11_clears (G : GP) (ad : Nat → Nat → Nat) (K : GF → Prop) (below : List Frame) (args : Array Value) (s : State) : State → Prop := MQ below (gQv G ad K) args s 0 0 (gA G)
set_option maxHeartbeats 4000000 in
set_option maxRecDepth 100000 in
theorem c_X11_clears (l : Launch) (G : GP) (ad : Nat → Nat → Nat) (F : GF) (K : GF → Prop) : Met l yX11_clears wsX11_clears rm_X11_clears (va_Pc [.ref (ad 40 0)] (fun U => gD G ad F U ∧ P_X11_clears F K)) (gQv G ad K) 0 0 (gA G) := by
  refine Met.ofW (cc := cX11_clears) (maxL := 2) (ret := none) (by decide) rfl ?_
  intro p e s m args below meth c s₁ Bd hml hv
  obtain ⟨rfl, ⟨hK, hG, hB, hH⟩, q⟩ := hv
  have hx := Bd.exec
  have hb := Bd.bytes
  have hr := Bd.returns
  have hts := atoms_spec (ws := wsX11_clears) Bd.pre
  have hown : s.vm.findClass RX11 = some m.cls := findClass_of_methodNamed Bd.named
  have hlocks := Bd.notSynchronized
  have hS : va_S (gA G) s.heap s.heap [] := va_S.rf
  have hl := lv_entry [.ref (ad 40 0)] (n := 2) (Nat.le_of_ble_eq_true rfl)
  rw [lg_entry_eq]
  generalize (lg_sl [.ref (ad 40 0)] ++ List.replicate (2 - (lg_sl [.ref (ad 40 0)]).length) Slot.unset).toArray = ls at hl ⊢
  have hl : lv_has ls 2 [(0, .ref (ad 40 0))] := hl
  show W p l e rm_X11_clears s m ([.ref (ad 40 0)] : List Value).toArray below meth c s.heap [] 0 0 (q_X11_clears G ad K below ([.ref (ad 40 0)] : List Value).toArray s) _
  have t_45 : ∀ n : Nat, ∀ (F : GF) (x1 : Int32) (H : Heap) (locs : List Loc) (ls : Array Slot), gH G ad F H → va_S (gA G) s.heap H locs → lv_has ls 2 [(0, .ref (ad 40 0)), (1, .int x1)] → (P_X11_clears_45 K n) F x1 → W p l e rm_X11_clears s m ([.ref (ad 40 0)] : List Value).toArray below meth c H locs 0 0 (q_X11_clears G ad K below ([.ref (ad 40 0)] : List Value).toArray s) (F0 m 45 ls []) := by
    intro n
    induction n with
    | zero =>
      intro F x1 H locs ls hH hS hl q
      exact False.elim q
    | succ n ih =>
      intro F x1 H locs ls hH hS hl q
      rw [P_X11_clears_45] at q
      refine lv_iload_n hx hb dX11_clears_45 rfl (lv_at hl 1 rfl) ?_
      refine lv_iconst (v := 5) hx hb dX11_clears_46 (by decide) ?_
      refine lv_icmp_ge (tgt := 91) hx hb dX11_clears_47 (by decide) (fun c5 => ?_) (fun c5 => ?_)
      · have q := (if_pos c5).mp q
        exact (W.vret hx hb hr (fun t ht hW => ⟨⟨F, rfl, q, gH_at ht hH⟩, hS.F ht⟩) hS.2.2 dX11_clears_91)
      · have q := (if_neg c5).mp q
        refine lv_aload_n hx hb dX11_clears_50 rfl (lv_at hl 0 rfl) ?_
        refine g_get (ci := 15) (v := .ref (ad 51 0)) (C := RX11) (T := TX11) (N := 44) hx hb hts (fun _ h => (List.mem_cons_of_mem _ (List.mem_append_left _ (List.mem_append_right _ h)))) hown hK hH 40 0 (by decide) Nat.zero_lt_one rfl rfl 18 (by decide) (hts (.fieldLink RX11 45 "BallotFoundryModel" "seed" "[I") (List.mem_of_getElem? (i := 6) rfl)) (fun _ h => h) rfl dX11_clears_51 ?_
        refine lv_iload_n hx hb dX11_clears_54 rfl (lv_at hl 1 rfl) ?_
        refine lv_iconst (v := 0) hx hb dX11_clears_55 (by decide) ?_
        obtain ⟨h6, q⟩ := q
        refine g_iast hx hb hK hH hS 51 0 (by decide) Nat.zero_lt_one (by decide) 5 (fun _ => rfl) h6 dX11_clears_56 (fun H locs hH hS => ?_)
        obtain ⟨F7, eF7⟩ : ∃ z, z = fs F 51 0 x1.toNatClampNeg 0 := ⟨_, rfl⟩
        have q := q F7 eF7
        rw [← eF7] at hH
        refine lv_aload_n hx hb dX11_clears_57 rfl (lv_at hl 0 rfl) ?_
        refine g_get (ci := 15) (v := .ref (ad 53 0)) (C := RX11) (T := TX11) (N := 44) hx hb hts (fun _ h => (List.mem_cons_of_mem _ (List.mem_append_left _ (List.mem_append_right _ h)))) hown hK hH 40 0 (by decide) Nat.zero_lt_one rfl rfl 21 (by decide) (hts (.fieldLink RX11 51 "BallotFoundryModel" "crowd" "[I") (List.mem_of_getElem? (i := 7) rfl)) (fun _ h => h) rfl dX11_clears_58 ?_
        refine lv_iload_n hx hb dX11_clears_61 rfl (lv_at hl 1 rfl) ?_
        refine lv_iconst (v := 0) hx hb dX11_clears_62 (by decide) ?_
        obtain ⟨h8, q⟩ := q
        refine g_iast hx hb hK hH hS 53 0 (by decide) Nat.zero_lt_one (by decide) 5 (fun _ => rfl) h8 dX11_clears_63 (fun H locs hH hS => ?_)
        obtain ⟨F9, eF9⟩ : ∃ z, z = fs F7 53 0 x1.toNatClampNeg 0 := ⟨_, rfl⟩
        have q := q F9 eF9
        rw [← eF9] at hH
        refine lv_aload_n hx hb dX11_clears_64 rfl (lv_at hl 0 rfl) ?_
        refine g_get (ci := 15) (v := .ref (ad 59 0)) (C := RX11) (T := TX11) (N := 44) hx hb hts (fun _ h => (List.mem_cons_of_mem _ (List.mem_append_left _ (List.mem_append_right _ h)))) hown hK hH 40 0 (by decide) Nat.zero_lt_one rfl rfl 28 (by decide) (hts (.fieldLink RX11 69 "BallotFoundryModel" "ballots" "[I") (List.mem_of_getElem? (i := 8) rfl)) (fun _ h => h) rfl dX11_clears_65 ?_
        refine lv_iload_n hx hb dX11_clears_68 rfl (lv_at hl 1 rfl) ?_
        refine lv_iconst (v := 0) hx hb dX11_clears_69 (by decide) ?_
        obtain ⟨h10, q⟩ := q
        refine g_iast hx hb hK hH hS 59 0 (by decide) Nat.zero_lt_one (by decide) 5 (fun _ => rfl) h10 dX11_clears_70 (fun H locs hH hS => ?_)
        obtain ⟨F11, eF11⟩ : ∃ z, z = fs F9 59 0 x1.toNatClampNeg 0 := ⟨_, rfl⟩
        have q := q F11 eF11
        rw [← eF11] at hH
        refine lv_aload_n hx hb dX11_clears_71 rfl (lv_at hl 0 rfl) ?_
        refine g_get (ci := 15) (v := .ref (ad 62 0)) (C := RX11) (T := TX11) (N := 44) hx hb hts (fun _ h => (List.mem_cons_of_mem _ (List.mem_append_left _ (List.mem_append_right _ h)))) hown hK hH 40 0 (by decide) Nat.zero_lt_one rfl rfl 31 (by decide) (hts (.fieldLink RX11 78 "BallotFoundryModel" "counts" "[I") (List.mem_of_getElem? (i := 9) rfl)) (fun _ h => h) rfl dX11_clears_72 ?_
        refine lv_iload_n hx hb dX11_clears_75 rfl (lv_at hl 1 rfl) ?_
        refine lv_iconst (v := 0) hx hb dX11_clears_76 (by decide) ?_
        obtain ⟨h12, q⟩ := q
        refine g_iast hx hb hK hH hS 62 0 (by decide) Nat.zero_lt_one (by decide) 5 (fun _ => rfl) h12 dX11_clears_77 (fun H locs hH hS => ?_)
        obtain ⟨F13, eF13⟩ : ∃ z, z = fs F11 62 0 x1.toNatClampNeg 0 := ⟨_, rfl⟩
        have q := q F13 eF13
        rw [← eF13] at hH
        refine lv_aload_n hx hb dX11_clears_78 rfl (lv_at hl 0 rfl) ?_
        refine g_get (ci := 15) (v := .ref (ad 63 0)) (C := RX11) (T := TX11) (N := 44) hx hb hts (fun _ h => (List.mem_cons_of_mem _ (List.mem_append_left _ (List.mem_append_right _ h)))) hown hK hH 40 0 (by decide) Nat.zero_lt_one rfl rfl 32 (by decide) (hts (.fieldLink RX11 81 "BallotFoundryModel" "settled" "[I") (List.mem_of_getElem? (i := 10) rfl)) (fun _ h => h) rfl dX11_clears_79 ?_
        refine lv_iload_n hx hb dX11_clears_82 rfl (lv_at hl 1 rfl) ?_
        refine lv_iconst (v := (-1)) hx hb dX11_clears_83 (by decide) ?_
        obtain ⟨h14, q⟩ := q
        refine g_iast hx hb hK hH hS 63 0 (by decide) Nat.zero_lt_one (by decide) 5 (fun _ => rfl) h14 dX11_clears_84 (fun H locs hH hS => ?_)
        obtain ⟨F15, eF15⟩ : ∃ z, z = fs F13 63 0 x1.toNatClampNeg (-1) := ⟨_, rfl⟩
        have q := q F15 eF15
        rw [← eF15] at hH
        refine lv_iinc (v := x1 + 1) (lv' := [(1, .int (x1 + 1)), (0, .ref (ad 40 0))]) hx hb dX11_clears_85 hl (k := 1) rfl rfl (by decide) rfl (fun ls hl => ?_)
        refine lv_goto (tgt := 45) hx hb dX11_clears_88 (by decide) ?_
        exact ih F15 (x1 + 1) _ _ _ hH hS (lv_sub hl [1, 0] rfl) q
  have t_17 : ∀ n : Nat, ∀ (F : GF) (x1 : Int32) (H : Heap) (locs : List Loc) (ls : Array Slot), gH G ad F H → va_S (gA G) s.heap H locs → lv_has ls 2 [(0, .ref (ad 40 0)), (1, .int x1)] → (P_X11_clears_17 K n) F x1 → W p l e rm_X11_clears s m ([.ref (ad 40 0)] : List Value).toArray below meth c H locs 0 0 (q_X11_clears G ad K below ([.ref (ad 40 0)] : List Value).toArray s) (F0 m 17 ls []) := by
    intro n
    induction n with
    | zero =>
      intro F x1 H locs ls hH hS hl q
      exact False.elim q
    | succ n ih =>
      intro F x1 H locs ls hH hS hl q
      rw [P_X11_clears_17] at q
      refine lv_iload_n hx hb dX11_clears_17 rfl (lv_at hl 1 rfl) ?_
      refine lv_bipush (v := 20) hx hb dX11_clears_18 (by decide) ?_
      refine lv_icmp_ge (tgt := 43) hx hb dX11_clears_20 (by decide) (fun c4 => ?_) (fun c4 => ?_)
      · have q := (if_pos c4).mp q
        refine lv_iconst (v := 0) hx hb dX11_clears_43 (by decide) ?_
        refine lv_istore_n (lv' := [(1, .int 0), (0, .ref (ad 40 0))]) hx hb dX11_clears_44 rfl hl (by decide) rfl (fun ls hl => ?_)
        obtain ⟨nn, q⟩ := q
        exact t_45 nn F 0 _ _ _ hH hS (lv_sub hl [1, 0] rfl) q
      · have q := (if_neg c4).mp q
        refine lv_aload_n hx hb dX11_clears_23 rfl (lv_at hl 0 rfl) ?_
        refine g_get (ci := 15) (v := .ref (ad 52 0)) (C := RX11) (T := TX11) (N := 44) hx hb hts (fun _ h => (List.mem_cons_of_mem _ (List.mem_append_left _ (List.mem_append_right _ h)))) hown hK hH 40 0 (by decide) Nat.zero_lt_one rfl rfl 20 (by decide) (hts (.fieldLink RX11 48 "BallotFoundryModel" "ownStation" "[I") (List.mem_of_getElem? (i := 4) rfl)) (fun _ h => h) rfl dX11_clears_24 ?_
        refine lv_iload_n hx hb dX11_clears_27 rfl (lv_at hl 1 rfl) ?_
        refine lv_iconst (v := (-1)) hx hb dX11_clears_28 (by decide) ?_
        obtain ⟨h16, q⟩ := q
        refine g_iast hx hb hK hH hS 52 0 (by decide) Nat.zero_lt_one (by decide) 20 (fun _ => rfl) h16 dX11_clears_29 (fun H locs hH hS => ?_)
        obtain ⟨F17, eF17⟩ : ∃ z, z = fs F 52 0 x1.toNatClampNeg (-1) := ⟨_, rfl⟩
        have q := q F17 eF17
        rw [← eF17] at hH
        refine lv_aload_n hx hb dX11_clears_30 rfl (lv_at hl 0 rfl) ?_
        refine g_get (ci := 15) (v := .ref (ad 54 0)) (C := RX11) (T := TX11) (N := 44) hx hb hts (fun _ h => (List.mem_cons_of_mem _ (List.mem_append_left _ (List.mem_append_right _ h)))) hown hK hH 40 0 (by decide) Nat.zero_lt_one rfl rfl 22 (by decide) (hts (.fieldLink RX11 54 "BallotFoundryModel" "voted" "[Z") (List.mem_of_getElem? (i := 5) rfl)) (fun _ h => h) rfl dX11_clears_31 ?_
        refine lv_iload_n hx hb dX11_clears_34 rfl (lv_at hl 1 rfl) ?_
        refine lv_iconst (v := 0) hx hb dX11_clears_35 (by decide) ?_
        obtain ⟨h18, q⟩ := q
        refine g_zast hx hb hK hH hS 54 0 (by decide) Nat.zero_lt_one (by decide) 20 (fun _ => rfl) h18 dX11_clears_36 (fun H locs hH hS => ?_)
        rw [gz_vp (by decide)] at hH
        obtain ⟨F19, eF19⟩ : ∃ z, z = fs F17 54 0 x1.toNatClampNeg 0 := ⟨_, rfl⟩
        have q := q F19 eF19
        rw [← eF19] at hH
        refine lv_iinc (v := x1 + 1) (lv' := [(1, .int (x1 + 1)), (0, .ref (ad 40 0))]) hx hb dX11_clears_37 hl (k := 1) rfl rfl (by decide) rfl (fun ls hl => ?_)
        refine lv_goto (tgt := 17) hx hb dX11_clears_40 (by decide) ?_
        exact ih F19 (x1 + 1) _ _ _ hH hS (lv_sub hl [1, 0] rfl) q
  unfold P_X11_clears at q
  refine lv_aload_n hx hb dX11_clears_0 rfl (lv_at hl 0 rfl) ?_
  refine lv_iconst (v := 0) hx hb dX11_clears_1 (by decide) ?_
  refine g_put (ci := 15) (v := .int 0) (C := RX11) (T := TX11) (N := 44) hx hb hts (fun _ h => (List.mem_cons_of_mem _ (List.mem_append_left _ (List.mem_append_right _ h)))) tyX11 tyX11_ok nmX11 hown hK hH hS 40 0 (by decide) Nat.zero_lt_one (by decide) rfl rfl 19 (by decide) (hts (.fieldLink RX11 178 "BallotFoundryModel" "inElection" "I") (List.mem_of_getElem? (i := 1) rfl)) (fun _ h => h) rfl (ty := .int) (by decide +kernel) rfl rfl (Nat.le_of_ble_eq_true rfl) 0 rfl dX11_clears_2 (fun H locs hH hS => ?_)
  obtain ⟨F1, eF1⟩ : ∃ z, z = fs F 40 0 19 0 := ⟨_, rfl⟩
  have q := q F1 eF1
  rw [← eF1] at hH
  refine lv_aload_n hx hb dX11_clears_5 rfl (lv_at hl 0 rfl) ?_
  refine lv_iconst (v := 0) hx hb dX11_clears_6 (by decide) ?_
  refine g_put (ci := 15) (v := .int 0) (C := RX11) (T := TX11) (N := 44) hx hb hts (fun _ h => (List.mem_cons_of_mem _ (List.mem_append_left _ (List.mem_append_right _ h)))) tyX11 tyX11_ok nmX11 hown hK hH hS 40 0 (by decide) Nat.zero_lt_one (by decide) rfl rfl 26 (by decide) (hts (.fieldLink RX11 165 "BallotFoundryModel" "envelopes" "I") (List.mem_of_getElem? (i := 2) rfl)) (fun _ h => h) rfl (ty := .int) (by decide +kernel) rfl rfl (Nat.le_of_ble_eq_true rfl) 0 rfl dX11_clears_7 (fun H locs hH hS => ?_)
  obtain ⟨F2, eF2⟩ : ∃ z, z = fs F1 40 0 26 0 := ⟨_, rfl⟩
  have q := q F2 eF2
  rw [← eF2] at hH
  refine lv_aload_n hx hb dX11_clears_10 rfl (lv_at hl 0 rfl) ?_
  refine lv_iconst (v := 0) hx hb dX11_clears_11 (by decide) ?_
  refine g_put (ci := 15) (v := .int 0) (C := RX11) (T := TX11) (N := 44) hx hb hts (fun _ h => (List.mem_cons_of_mem _ (List.mem_append_left _ (List.mem_append_right _ h)))) tyX11 tyX11_ok nmX11 hown hK hH hS 40 0 (by decide) Nat.zero_lt_one (by decide) rfl rfl 42 (by decide) (hts (.fieldLink RX11 162 "BallotFoundryModel" "notes" "I") (List.mem_of_getElem? (i := 3) rfl)) (fun _ h => h) rfl (ty := .int) (by decide +kernel) rfl rfl (Nat.le_of_ble_eq_true rfl) 0 rfl dX11_clears_12 (fun H locs hH hS => ?_)
  obtain ⟨F3, eF3⟩ : ∃ z, z = fs F2 40 0 42 0 := ⟨_, rfl⟩
  have q := q F3 eF3
  rw [← eF3] at hH
  refine lv_iconst (v := 0) hx hb dX11_clears_15 (by decide) ?_
  refine lv_istore_n (lv' := [(1, .int 0), (0, .ref (ad 40 0))]) hx hb dX11_clears_16 rfl hl (by decide) rfl (fun ls hl => ?_)
  obtain ⟨nn, q⟩ := q
  exact t_17 nn F3 0 _ _ _ hH hS (lv_sub hl [1, 0] rfl) q
abbrev rm_X11_call : Room := { frames := 1, cells := 0, slots := 0, locals := 22 }
abbrev q_X11_call (G : GP) (ad : Nat → Nat → Nat) (K : Int32 → GF → Prop) (below : List Frame) (args : Array Value) (s : State) : State → Prop := MQ below (gQi G ad K) args s 0 0 (gA G)
set_option maxHeartbeats 4000000 in
set_option maxRecDepth 100000 in
theorem c_X11_call (l : Launch) (G : GP) (ad : Nat → Nat → Nat) (F : GF) (p1 : Int32) (p2 : Int32) (p3 : Int32) (K : Int32 → GF → Prop) : Met l yX11_call wsX11_call rm_X11_call (va_Pc [.ref (ad 40 0), .int p1, .int p2, .int p3] (fun U => gD G ad F U ∧ P_X11_call F p1 p2 p3 K)) (gQi G ad K) 0 0 (gA G) := by
  refine Met.ofW (cc := cX11_call) (maxL := 5) (ret := (some .int)) (by decide) rfl ?_
  intro p e s m args below meth c s₁ Bd hml hv
  obtain ⟨rfl, ⟨hK, hG, hB, hH⟩, q⟩ := hv
  have hx := Bd.exec
  have hb := Bd.bytes
  have hr := Bd.returns
  have hts := atoms_spec (ws := wsX11_call) Bd.pre
  have hown : s.vm.findClass RX11 = some m.cls := findClass_of_methodNamed Bd.named
  have hlocks := Bd.notSynchronized
  have hS : va_S (gA G) s.heap s.heap [] := va_S.rf
  have hl := lv_entry [.ref (ad 40 0), .int p1, .int p2, .int p3] (n := 5) (Nat.le_of_ble_eq_true rfl)
  rw [lg_entry_eq]
  generalize (lg_sl [.ref (ad 40 0), .int p1, .int p2, .int p3] ++ List.replicate (5 - (lg_sl [.ref (ad 40 0), .int p1, .int p2, .int p3]).length) Slot.unset).toArray = ls at hl ⊢
  have hl : lv_has ls 5 [(0, .ref (ad 40 0)), (1, .int p1), (2, .int p2), (3, .int p3)] := hl
  show W p l e rm_X11_call s m ([.ref (ad 40 0), .int p1, .int p2, .int p3] : List Value).toArray below meth c s.heap [] 0 0 (q_X11_call G ad K below ([.ref (ad 40 0), .int p1, .int p2, .int p3] : List Value).toArray s) _
  have t_75 : ∀ (F : GF) (x1 : Int32) (x2 : Int32) (x3 : Int32) (s1 : Int32) (s2 : Int32) (H : Heap) (locs : List Loc) (ls : Array Slot), gH G ad F H → va_S (gA G) s.heap H locs → lv_has ls 5 [(0, .ref (ad 40 0)), (1, .int x1), (2, .int x2), (3, .int x3)] → (P_X11_call_75 K) F x1 x2 x3 s1 s2 → W p l e rm_X11_call s m ([.ref (ad 40 0), .int p1, .int p2, .int p3] : List Value).toArray below meth c H locs 0 0 (q_X11_call G ad K below ([.ref (ad 40 0), .int p1, .int p2, .int p3] : List Value).toArray s) (F0 m 75 ls [.int s2, .int s1, .ref (ad 40 0)]) := by
    intro F x1 x2 x3 s1 s2 H locs ls hH hS hl q
    unfold P_X11_call_75 at q
    refine va_calli (va_runV (As := [.int s1, .int s2]) (rest := []) ⟨hx, hb, hml, hown, hts⟩ (c_X11_asked_ l G ad F s1 s2 _) (cwV 2 hts gX11_call_X11_asked_ rfl rfl rfl (by decide +kernel) ⟨Nat.le_of_ble_eq_true rfl, Nat.le_of_ble_eq_true rfl⟩) ⟨fun a U g mk h => ⟨h.1, gD_blind h.2.1, h.2.2⟩, g_recv (C := RX11) (T := TX11) (N := 44) hK hH 40 0 (by decide) Nat.zero_lt_one rfl rfl, fun U hU hW => ⟨rfl, gD_at hK hG hB hH hS hU hW, q⟩⟩ rfl rfl hl.1 rfl (lv_room (Nat.le_of_ble_eq_true rfl)) dX11_call_75 ⟨Nat.le_of_ble_eq_true rfl, Nat.le_of_ble_eq_true rfl⟩) hS (fun _ _ h => h) (fun _ h => h) (fun r5 F6 t H locs ht hvm q hB1 hz hk hS => ?_)
    have hH : gH G ad F6 H := gH_to ht hB1
    refine lv_if_ne (tgt := 83) hx hb dX11_call_78 (by decide) (fun c7 => ?_) (fun c7 => ?_)
    · have q := (if_neg c7).mp q
      refine lv_aload_n hx hb dX11_call_83 rfl (lv_at hl 0 rfl) ?_
      refine va_callv (va_runV (As := []) (rest := []) ⟨hx, hb, hml, hown, hts⟩ (c_X11_clears l G ad F6 _) (cwV 0 hts gX11_call_X11_clears rfl rfl rfl (by decide +kernel) ⟨Nat.le_of_ble_eq_true rfl, Nat.le_of_ble_eq_true rfl⟩) ⟨fun a U g mk h => ⟨h.1, gD_blind h.2.1, h.2.2⟩, g_recv (C := RX11) (T := TX11) (N := 44) hK hH 40 0 (by decide) Nat.zero_lt_one rfl rfl, fun U hU hW => ⟨rfl, gD_at hK hG hB hH hS hU hW, q⟩⟩ rfl rfl hl.1 rfl (lv_room (Nat.le_of_ble_eq_true rfl)) dX11_call_84 ⟨Nat.le_of_ble_eq_true rfl, Nat.le_of_ble_eq_true rfl⟩) hS (fun _ _ h => h) (fun _ h => h) (fun F9 t H locs ht hvm q hB1 hz hk hS => ?_)
      have hH : gH G ad F9 H := gH_to ht hB1
      refine lv_aload_n hx hb dX11_call_87 rfl (lv_at hl 0 rfl) ?_
      refine lv_iconst (v := 1) hx hb dX11_call_88 (by decide) ?_
      refine g_put (ci := 15) (v := .int 1) (C := RX11) (T := TX11) (N := 44) hx hb hts (fun _ h => (List.mem_cons_of_mem _ (List.mem_append_left _ (List.mem_append_right _ h)))) tyX11 tyX11_ok nmX11 hown hK hH hS 40 0 (by decide) Nat.zero_lt_one (by decide) rfl rfl 14 (by decide) (hts (.fieldLink RX11 41 "BallotFoundryModel" "stage" "I") (List.mem_of_getElem? (i := 1) rfl)) (fun _ h => h) rfl (ty := .int) (by decide +kernel) rfl rfl (Nat.le_of_ble_eq_true rfl) 1 rfl dX11_call_89 (fun H locs hH hS => ?_)
      obtain ⟨F10, eF10⟩ : ∃ z, z = fs F9 40 0 14 1 := ⟨_, rfl⟩
      have q := q F10 eF10
      rw [← eF10] at hH
      refine lv_aload_n hx hb dX11_call_92 rfl (lv_at hl 0 rfl) ?_
      refine lv_aload_n hx hb dX11_call_93 rfl (lv_at hl 0 rfl) ?_
      refine g_get (ci := 15) (v := .int (F10 40 0 0)) (C := RX11) (T := TX11) (N := 44) hx hb hts (fun _ h => (List.mem_cons_of_mem _ (List.mem_append_left _ (List.mem_append_right _ h)))) hown hK hH 40 0 (by decide) Nat.zero_lt_one rfl rfl 0 (by decide) (hts (.fieldLink RX11 149 "BallotFoundryModel" "today" "I") (List.mem_of_getElem? (i := 3) rfl)) (fun _ h => h) rfl dX11_call_94 ?_
      refine lv_iload_n hx hb dX11_call_97 rfl (lv_at hl 1 rfl) ?_
      refine lv_iadd hx hb dX11_call_98 ?_
      refine g_put (ci := 15) (v := .int ((F10 40 0 0) + x1)) (C := RX11) (T := TX11) (N := 44) hx hb hts (fun _ h => (List.mem_cons_of_mem _ (List.mem_append_left _ (List.mem_append_right _ h)))) tyX11 tyX11_ok nmX11 hown hK hH hS 40 0 (by decide) Nat.zero_lt_one (by decide) rfl rfl 15 (by decide) (hts (.fieldLink RX11 181 "BallotFoundryModel" "day" "I") (List.mem_of_getElem? (i := 4) rfl)) (fun _ h => h) rfl (ty := .int) (by decide +kernel) rfl rfl (Nat.le_of_ble_eq_true rfl) ((F10 40 0 0) + x1) rfl dX11_call_99 (fun H locs hH hS => ?_)
      obtain ⟨F11, eF11⟩ : ∃ z, z = fs F10 40 0 15 ((F10 40 0 0) + x1) := ⟨_, rfl⟩
      have q := q F11 eF11
      rw [← eF11] at hH
      refine lv_aload_n hx hb dX11_call_102 rfl (lv_at hl 0 rfl) ?_
      refine lv_iload_n hx hb dX11_call_103 rfl (lv_at hl 2 rfl) ?_
      refine g_put (ci := 15) (v := .int x2) (C := RX11) (T := TX11) (N := 44) hx hb hts (fun _ h => (List.mem_cons_of_mem _ (List.mem_append_left _ (List.mem_append_right _ h)))) tyX11 tyX11_ok nmX11 hown hK hH hS 40 0 (by decide) Nat.zero_lt_one (by decide) rfl rfl 16 (by decide) (hts (.fieldLink RX11 184 "BallotFoundryModel" "seats" "I") (List.mem_of_getElem? (i := 5) rfl)) (fun _ h => h) rfl (ty := .int) (by decide +kernel) rfl rfl (Nat.le_of_ble_eq_true rfl) x2 rfl dX11_call_104 (fun H locs hH hS => ?_)
      obtain ⟨F12, eF12⟩ : ∃ z, z = fs F11 40 0 16 x2 := ⟨_, rfl⟩
      have q := q F12 eF12
      rw [← eF12] at hH
      refine lv_aload_n hx hb dX11_call_107 rfl (lv_at hl 0 rfl) ?_
      refine lv_iload_n hx hb dX11_call_108 rfl (lv_at hl 3 rfl) ?_
      obtain ⟨h14, q⟩ := q
      refine g_put (ci := 15) (v := .int x3) (C := RX11) (T := TX11) (N := 44) hx hb hts (fun _ h => (List.mem_cons_of_mem _ (List.mem_append_left _ (List.mem_append_right _ h)))) tyX11 tyX11_ok nmX11 hown hK hH hS 40 0 (by decide) Nat.zero_lt_one (by decide) rfl rfl 17 (by decide) (hts (.fieldLink RX11 187 "BallotFoundryModel" "odd" "Z") (List.mem_of_getElem? (i := 6) rfl)) (fun _ h => h) rfl (ty := .boolean) (by decide +kernel) (gz_nar h14) (gz_fit h14) (Nat.le_of_ble_eq_true rfl) x3 rfl dX11_call_109 (fun H locs hH hS => ?_)
      obtain ⟨F13, eF13⟩ : ∃ z, z = fs F12 40 0 17 x3 := ⟨_, rfl⟩
      have q := q F13 eF13
      rw [← eF13] at hH
      refine lv_aload_n hx hb dX11_call_112 rfl (lv_at hl 0 rfl) ?_
      refine g_get (ci := 15) (v := .int (F13 40 0 15)) (C := RX11) (T := TX11) (N := 44) hx hb hts (fun _ h => (List.mem_cons_of_mem _ (List.mem_append_left _ (List.mem_append_right _ h)))) hown hK hH 40 0 (by decide) Nat.zero_lt_one rfl rfl 15 (by decide) (hts (.fieldLink RX11 181 "BallotFoundryModel" "day" "I") (List.mem_of_getElem? (i := 4) rfl)) (fun _ h => h) rfl dX11_call_113 ?_
      exact (W.iret (v := (F13 40 0 15)) hx hb hr (fun t ht hW => ⟨⟨(F13 40 0 15), F13, rfl, q, gH_at ht hH⟩, hS.F ht⟩) hS.2.2 dX11_call_116)
    · have q := (if_pos c7).mp q
      refine lv_iconst (v := 0) hx hb dX11_call_81 (by decide) ?_
      exact (W.iret (v := 0) hx hb hr (fun t ht hW => ⟨⟨0, F6, rfl, q, gH_at ht hH⟩, hS.F ht⟩) hS.2.2 dX11_call_82)
  have t_74 : ∀ (F : GF) (x1 : Int32) (x2 : Int32) (x3 : Int32) (s1 : Int32) (H : Heap) (locs : List Loc) (ls : Array Slot), gH G ad F H → va_S (gA G) s.heap H locs → lv_has ls 5 [(0, .ref (ad 40 0)), (1, .int x1), (2, .int x2), (3, .int x3)] → (P_X11_call_74 K) F x1 x2 x3 s1 → W p l e rm_X11_call s m ([.ref (ad 40 0), .int p1, .int p2, .int p3] : List Value).toArray below meth c H locs 0 0 (q_X11_call G ad K below ([.ref (ad 40 0), .int p1, .int p2, .int p3] : List Value).toArray s) (F0 m 74 ls [.int s1, .ref (ad 40 0)]) := by
    intro F x1 x2 x3 s1 H locs ls hH hS hl q
    unfold P_X11_call_74 at q
    refine lv_iconst (v := 0) hx hb dX11_call_74 (by decide) ?_
    exact t_75 F x1 x2 x3 s1 0 _ _ _ hH hS (lv_sub hl [0, 1, 2, 3] rfl) q
  have t_51 : ∀ (F : GF) (x1 : Int32) (x2 : Int32) (x3 : Int32) (s1 : Int32) (H : Heap) (locs : List Loc) (ls : Array Slot), gH G ad F H → va_S (gA G) s.heap H locs → lv_has ls 5 [(0, .ref (ad 40 0)), (1, .int x1), (2, .int x2), (3, .int x3)] → (P_X11_call_51 K) F x1 x2 x3 s1 → W p l e rm_X11_call s m ([.ref (ad 40 0), .int p1, .int p2, .int p3] : List Value).toArray below meth c H locs 0 0 (q_X11_call G ad K below ([.ref (ad 40 0), .int p1, .int p2, .int p3] : List Value).toArray s) (F0 m 51 ls [.int s1, .ref (ad 40 0)]) := by
    intro F x1 x2 x3 s1 H locs ls hH hS hl q
    unfold P_X11_call_51 at q
    refine lv_aload_n hx hb dX11_call_51 rfl (lv_at hl 0 rfl) ?_
    refine g_get (ci := 15) (v := .int (F 40 0 6)) (C := RX11) (T := TX11) (N := 44) hx hb hts (fun _ h => (List.mem_cons_of_mem _ (List.mem_append_left _ (List.mem_append_right _ h)))) hown hK hH 40 0 (by decide) Nat.zero_lt_one rfl rfl 6 (by decide) (hts (.fieldLink RX11 115 "BallotFoundryModel" "stations" "I") (List.mem_of_getElem? (i := 2) rfl)) (fun _ h => h) rfl dX11_call_52 ?_
    refine lv_if_le (tgt := 74) hx hb dX11_call_55 (by decide) (fun c16 => ?_) (fun c16 => ?_)
    · have q := (if_pos c16).mp q
      exact t_74 F x1 x2 x3 s1 _ _ _ hH hS (lv_sub hl [0, 1, 2, 3] rfl) q
    · have q := (if_neg c16).mp q
      refine lv_aload_n hx hb dX11_call_58 rfl (lv_at hl 0 rfl) ?_
      refine g_get (ci := 15) (v := .int (F 40 0 0)) (C := RX11) (T := TX11) (N := 44) hx hb hts (fun _ h => (List.mem_cons_of_mem _ (List.mem_append_left _ (List.mem_append_right _ h)))) hown hK hH 40 0 (by decide) Nat.zero_lt_one rfl rfl 0 (by decide) (hts (.fieldLink RX11 149 "BallotFoundryModel" "today" "I") (List.mem_of_getElem? (i := 3) rfl)) (fun _ h => h) rfl dX11_call_59 ?_
      refine lv_iload_n hx hb dX11_call_62 rfl (lv_at hl 1 rfl) ?_
      refine lv_iadd hx hb dX11_call_63 ?_
      refine lv_sipush (v := 2000) hx hb dX11_call_64 (by decide) ?_
      refine lv_icmp_gt (tgt := 74) hx hb dX11_call_67 (by decide) (fun c17 => ?_) (fun c17 => ?_)
      · have q := (if_pos c17).mp q
        exact t_74 F x1 x2 x3 s1 _ _ _ hH hS (lv_sub hl [0, 1, 2, 3] rfl) q
      · have q := (if_neg c17).mp q
        refine lv_iconst (v := 1) hx hb dX11_call_70 (by decide) ?_
        refine lv_goto (tgt := 75) hx hb dX11_call_71 (by decide) ?_
        exact t_75 F x1 x2 x3 s1 1 _ _ _ hH hS (lv_sub hl [0, 1, 2, 3] rfl) q
  have t_26 : ∀ (F : GF) (x1 : Int32) (x2 : Int32) (x3 : Int32) (s0 : Int32) (H : Heap) (locs : List Loc) (ls : Array Slot), gH G ad F H → va_S (gA G) s.heap H locs → lv_has ls 5 [(0, .ref (ad 40 0)), (1, .int x1), (2, .int x2), (3, .int x3)] → (P_X11_call_26 K) F x1 x2 x3 s0 → W p l e rm_X11_call s m ([.ref (ad 40 0), .int p1, .int p2, .int p3] : List Value).toArray below meth c H locs 0 0 (q_X11_call G ad K below ([.ref (ad 40 0), .int p1, .int p2, .int p3] : List Value).toArray s) (F0 m 26 ls [.int s0]) := by
    intro F x1 x2 x3 s0 H locs ls hH hS hl q
    unfold P_X11_call_26 at q
    refine lv_istore (lv' := [(4, .int s0), (0, .ref (ad 40 0)), (1, .int x1), (2, .int x2), (3, .int x3)]) hx hb dX11_call_26 hl (by decide) rfl (fun ls hl => ?_)
    refine lv_aload_n hx hb dX11_call_28 rfl (lv_at hl 1 rfl) ?_
    refine lv_iload hx hb dX11_call_29 (lv_at hl 0 rfl) ?_
    refine lv_iload hx hb dX11_call_31 (lv_at hl 0 rfl) ?_
    refine lv_if_eq (tgt := 74) hx hb dX11_call_33 (by decide) (fun c4 => ?_) (fun c4 => ?_)
    · have q := (if_pos c4).mp q
      exact t_74 F x1 x2 x3 s0 _ _ _ hH hS (lv_sub hl [1, 2, 3, 4] rfl) q
    · have q := (if_neg c4).mp q
      refine lv_aload_n hx hb dX11_call_36 rfl (lv_at hl 1 rfl) ?_
      refine g_get (ci := 15) (v := .int (F 40 0 14)) (C := RX11) (T := TX11) (N := 44) hx hb hts (fun _ h => (List.mem_cons_of_mem _ (List.mem_append_left _ (List.mem_append_right _ h)))) hown hK hH 40 0 (by decide) Nat.zero_lt_one rfl rfl 14 (by decide) (hts (.fieldLink RX11 41 "BallotFoundryModel" "stage" "I") (List.mem_of_getElem? (i := 1) rfl)) (fun _ h => h) rfl dX11_call_37 ?_
      refine lv_if_eq (tgt := 51) hx hb dX11_call_40 (by decide) (fun c15 => ?_) (fun c15 => ?_)
      · have q := (if_pos c15).mp q
        exact t_51 F x1 x2 x3 s0 _ _ _ hH hS (lv_sub hl [1, 2, 3, 4] rfl) q
      · have q := (if_neg c15).mp q
        refine lv_aload_n hx hb dX11_call_43 rfl (lv_at hl 1 rfl) ?_
        refine g_get (ci := 15) (v := .int (F 40 0 14)) (C := RX11) (T := TX11) (N := 44) hx hb hts (fun _ h => (List.mem_cons_of_mem _ (List.mem_append_left _ (List.mem_append_right _ h)))) hown hK hH 40 0 (by decide) Nat.zero_lt_one rfl rfl 14 (by decide) (hts (.fieldLink RX11 41 "BallotFoundryModel" "stage" "I") (List.mem_of_getElem? (i := 1) rfl)) (fun _ h => h) rfl dX11_call_44 ?_
        refine lv_iconst (v := 5) hx hb dX11_call_47 (by decide) ?_
        refine lv_icmp_ne (tgt := 74) hx hb dX11_call_48 (by decide) (fun c18 => ?_) (fun c18 => ?_)
        · have q := (if_neg c18).mp q
          exact t_74 F x1 x2 x3 s0 _ _ _ hH hS (lv_sub hl [1, 2, 3, 4] rfl) q
        · have q := (if_pos c18).mp q
          exact t_51 F x1 x2 x3 s0 _ _ _ hH hS (lv_sub hl [1, 2, 3, 4] rfl) q
  have t_25 : ∀ (F : GF) (x1 : Int32) (x2 : Int32) (x3 : Int32) (H : Heap) (locs : List Loc) (ls : Array Slot), gH G ad F H → va_S (gA G) s.heap H locs → lv_has ls 5 [(0, .ref (ad 40 0)), (1, .int x1), (2, .int x2), (3, .int x3)] → (P_X11_call_25 K) F x1 x2 x3 → W p l e rm_X11_call s m ([.ref (ad 40 0), .int p1, .int p2, .int p3] : List Value).toArray below meth c H locs 0 0 (q_X11_call G ad K below ([.ref (ad 40 0), .int p1, .int p2, .int p3] : List Value).toArray s) (F0 m 25 ls []) := by
    intro F x1 x2 x3 H locs ls hH hS hl q
    unfold P_X11_call_25 at q
    refine lv_iconst (v := 0) hx hb dX11_call_25 (by decide) ?_
    exact t_26 F x1 x2 x3 0 _ _ _ hH hS (lv_sub hl [0, 1, 2, 3] rfl) q
  unfold P_X11_call at q
  refine lv_iload_n hx hb dX11_call_0 rfl (lv_at hl 1 rfl) ?_
  refine lv_bipush (v := 8) hx hb dX11_call_1 (by decide) ?_
  refine lv_bipush (v := 100) hx hb dX11_call_3 (by decide) ?_
  refine va_calli (va_runS (As := [.int p1, .int 8, .int 100]) (rest := []) ⟨hx, hb, hml, hown, hts⟩ (c_X11_in l G ad F p1 8 100 _) (va_cwS 3 hts gX11_call_X11_in rfl rfl rfl (by decide +kernel) ⟨Nat.le_of_ble_eq_true rfl, Nat.le_of_ble_eq_true rfl⟩) ⟨fun a U g mk h => ⟨h.1, gD_blind h.2.1, h.2.2⟩, fun U hU hW => ⟨rfl, gD_at hK hG hB hH hS hU hW, q⟩⟩ rfl rfl hl.1 rfl (lv_room (Nat.le_of_ble_eq_true rfl)) dX11_call_5 ⟨Nat.le_of_ble_eq_true rfl, Nat.le_of_ble_eq_true rfl⟩) hS (fun _ _ h => h) (fun _ h => h) (fun r1 F2 t H locs ht hvm q hB1 hz hk hS => ?_)
  have hH : gH G ad F2 H := gH_to ht hB1
  refine lv_if_eq (tgt := 25) hx hb dX11_call_8 (by decide) (fun c3 => ?_) (fun c3 => ?_)
  · have q := (if_pos c3).mp q
    exact t_25 F2 p1 p2 p3 _ _ _ hH hS (lv_sub hl [0, 1, 2, 3] rfl) q
  · have q := (if_neg c3).mp q
    refine lv_iload_n hx hb dX11_call_11 rfl (lv_at hl 2 rfl) ?_
    refine lv_iconst (v := 0) hx hb dX11_call_12 (by decide) ?_
    refine lv_bipush (v := 30) hx hb dX11_call_13 (by decide) ?_
    refine va_calli (va_runS (As := [.int p2, .int 0, .int 30]) (rest := []) ⟨hx, hb, hml, hown, hts⟩ (c_X11_in l G ad F2 p2 0 30 _) (va_cwS 3 hts gX11_call_X11_in rfl rfl rfl (by decide +kernel) ⟨Nat.le_of_ble_eq_true rfl, Nat.le_of_ble_eq_true rfl⟩) ⟨fun a U g mk h => ⟨h.1, gD_blind h.2.1, h.2.2⟩, fun U hU hW => ⟨rfl, gD_at hK hG hB hH hS hU hW, q⟩⟩ rfl rfl hl.1 rfl (lv_room (Nat.le_of_ble_eq_true rfl)) dX11_call_15 ⟨Nat.le_of_ble_eq_true rfl, Nat.le_of_ble_eq_true rfl⟩) hS (fun _ _ h => h) (fun _ h => h) (fun r19 F20 t H locs ht hvm q hB1 hz hk hS => ?_)
    have hH : gH G ad F20 H := gH_to ht hB1
    refine lv_if_eq (tgt := 25) hx hb dX11_call_18 (by decide) (fun c21 => ?_) (fun c21 => ?_)
    · have q := (if_pos c21).mp q
      exact t_25 F20 p1 p2 p3 _ _ _ hH hS (lv_sub hl [0, 1, 2, 3] rfl) q
    · have q := (if_neg c21).mp q
      refine lv_iconst (v := 1) hx hb dX11_call_21 (by decide) ?_
      refine lv_goto (tgt := 26) hx hb dX11_call_22 (by decide) ?_
      exact t_26 F20 p1 p2 p3 1 _ _ _ hH hS (lv_sub hl [0, 1, 2, 3] rfl) q
abbrev rm_X11_seed : Room := { frames := 1, cells := 0, slots := 0, locals := 23 }
abbrev q_X11_seed (G : GP) (ad : Nat → Nat → Nat) (K : Int32 → GF → Prop) (below : List Frame) (args : Array Value) (s : State) : State → Prop := MQ below (gQi G ad K) args s 0 0 (gA G)
set_option maxHeartbeats 4000000 in
set_option maxRecDepth 100000 in
theorem c_X11_seed (l : Launch) (G : GP) (ad : Nat → Nat → Nat) (F : GF) (p1 : Int32) (p2 : Int32) (K : Int32 → GF → Prop) : Met l yX11_seed wsX11_seed rm_X11_seed (va_Pc [.ref (ad 40 0), .int p1, .int p2] (fun U => gD G ad F U ∧ P_X11_seed F p1 p2 K)) (gQi G ad K) 0 0 (gA G) := by
  refine Met.ofW (cc := cX11_seed) (maxL := 5) (ret := (some .int)) (by decide) rfl ?_
  intro p e s m args below meth c s₁ Bd hml hv
  obtain ⟨rfl, ⟨hK, hG, hB, hH⟩, q⟩ := hv
  have hx := Bd.exec
  have hb := Bd.bytes
  have hr := Bd.returns
  have hts := atoms_spec (ws := wsX11_seed) Bd.pre
  have hown : s.vm.findClass RX11 = some m.cls := findClass_of_methodNamed Bd.named
  have hlocks := Bd.notSynchronized
  have hS : va_S (gA G) s.heap s.heap [] := va_S.rf
  have hl := lv_entry [.ref (ad 40 0), .int p1, .int p2] (n := 5) (Nat.le_of_ble_eq_true rfl)
  rw [lg_entry_eq]
  generalize (lg_sl [.ref (ad 40 0), .int p1, .int p2] ++ List.replicate (5 - (lg_sl [.ref (ad 40 0), .int p1, .int p2]).length) Slot.unset).toArray = ls at hl ⊢
  have hl : lv_has ls 5 [(0, .ref (ad 40 0)), (1, .int p1), (2, .int p2)] := hl
  show W p l e rm_X11_seed s m ([.ref (ad 40 0), .int p1, .int p2] : List Value).toArray below meth c s.heap [] 0 0 (q_X11_seed G ad K below ([.ref (ad 40 0), .int p1, .int p2] : List Value).toArray s) _
  have t_38 : ∀ (F : GF) (x1 : Int32) (x2 : Int32) (s1 : Int32) (s2 : Int32) (s3 : Int32) (H : Heap) (locs : List Loc) (ls : Array Slot), gH G ad F H → va_S (gA G) s.heap H locs → lv_has ls 5 [(0, .ref (ad 40 0)), (1, .int x1), (2, .int x2)] → (P_X11_seed_38 K) F x1 x2 s1 s2 s3 → W p l e rm_X11_seed s m ([.ref (ad 40 0), .int p1, .int p2] : List Value).toArray below meth c H locs 0 0 (q_X11_seed G ad K below ([.ref (ad 40 0), .int p1, .int p2] : List Value).toArray s) (F0 m 38 ls [.int s3, .int s2, .int s1, .ref (ad 40 0)]) := by
    intro F x1 x2 s1 s2 s3 H locs ls hH hS hl q
    unfold P_X11_seed_38 at q
    refine va_calli (va_runV (As := [.int s1, .int s2, .int s3]) (rest := []) ⟨hx, hb, hml, hown, hts⟩ (c_X11_asked__ l G ad F s1 s2 s3 _) (cwV 3 hts gX11_seed_X11_asked__ rfl rfl rfl (by decide +kernel) ⟨Nat.le_of_ble_eq_true rfl, Nat.le_of_ble_eq_true rfl⟩) ⟨fun a U g mk h => ⟨h.1, gD_blind h.2.1, h.2.2⟩, g_recv (C := RX11) (T := TX11) (N := 44) hK hH 40 0 (by decide) Nat.zero_lt_one rfl rfl, fun U hU hW => ⟨rfl, gD_at hK hG hB hH hS hU hW, q⟩⟩ rfl rfl hl.1 rfl (lv_room (Nat.le_of_ble_eq_true rfl)) dX11_seed_38 ⟨Nat.le_of_ble_eq_true rfl, Nat.le_of_ble_eq_true rfl⟩) hS (fun _ _ h => h) (fun _ h => h) (fun r6 F7 t H locs ht hvm q hB1 hz hk hS => ?_)
    have hH : gH G ad F7 H := gH_to ht hB1
    refine lv_if_ne (tgt := 46) hx hb dX11_seed_41 (by decide) (fun c8 => ?_) (fun c8 => ?_)
    · have q := (if_neg c8).mp q
      refine lv_aload_n hx hb dX11_seed_46 rfl (lv_at hl 0 rfl) ?_
      refine g_get (ci := 15) (v := .ref (ad 51 0)) (C := RX11) (T := TX11) (N := 44) hx hb hts (fun _ h => (List.mem_cons_of_mem _ (List.mem_append_left _ (List.mem_append_right _ h)))) hown hK hH 40 0 (by decide) Nat.zero_lt_one rfl rfl 18 (by decide) (hts (.fieldLink RX11 45 "BallotFoundryModel" "seed" "[I") (List.mem_of_getElem? (i := 2) rfl)) (fun _ h => h) rfl dX11_seed_47 ?_
      refine lv_iload_n hx hb dX11_seed_50 rfl (lv_at hl 1 rfl) ?_
      obtain ⟨h9, q⟩ := q
      refine g_iald hx hb hK hH 51 0 (by decide) Nat.zero_lt_one 5 rfl h9 dX11_seed_51 ?_
      refine lv_istore (lv' := [(4, .int (F7 51 0 x1.toNatClampNeg)), (0, .ref (ad 40 0)), (1, .int x1), (2, .int x2)]) hx hb dX11_seed_52 hl (by decide) rfl (fun ls hl => ?_)
      refine lv_aload_n hx hb dX11_seed_54 rfl (lv_at hl 1 rfl) ?_
      refine g_get (ci := 15) (v := .ref (ad 51 0)) (C := RX11) (T := TX11) (N := 44) hx hb hts (fun _ h => (List.mem_cons_of_mem _ (List.mem_append_left _ (List.mem_append_right _ h)))) hown hK hH 40 0 (by decide) Nat.zero_lt_one rfl rfl 18 (by decide) (hts (.fieldLink RX11 45 "BallotFoundryModel" "seed" "[I") (List.mem_of_getElem? (i := 2) rfl)) (fun _ h => h) rfl dX11_seed_55 ?_
      refine lv_iload_n hx hb dX11_seed_58 rfl (lv_at hl 2 rfl) ?_
      refine lv_iload_n hx hb dX11_seed_59 rfl (lv_at hl 3 rfl) ?_
      obtain ⟨h10, q⟩ := q
      refine g_iast hx hb hK hH hS 51 0 (by decide) Nat.zero_lt_one (by decide) 5 (fun _ => rfl) h10 dX11_seed_60 (fun H locs hH hS => ?_)
      obtain ⟨F11, eF11⟩ : ∃ z, z = fs F7 51 0 x1.toNatClampNeg x2 := ⟨_, rfl⟩
      have q := q F11 eF11
      rw [← eF11] at hH
      refine lv_iload hx hb dX11_seed_61 (lv_at hl 0 rfl) ?_
      exact (W.iret (v := (F7 51 0 x1.toNatClampNeg)) hx hb hr (fun t ht hW => ⟨⟨(F7 51 0 x1.toNatClampNeg), F11, rfl, q, gH_at ht hH⟩, hS.F ht⟩) hS.2.2 dX11_seed_63)
    · have q := (if_pos c8).mp q
      refine lv_iconst (v := 0) hx hb dX11_seed_44 (by decide) ?_
      exact (W.iret (v := 0) hx hb hr (fun t ht hW => ⟨⟨0, F7, rfl, q, gH_at ht hH⟩, hS.F ht⟩) hS.2.2 dX11_seed_45)
  have t_33 : ∀ (F : GF) (x1 : Int32) (x2 : Int32) (s1 : Int32) (s2 : Int32) (H : Heap) (locs : List Loc) (ls : Array Slot), gH G ad F H → va_S (gA G) s.heap H locs → lv_has ls 5 [(0, .ref (ad 40 0)), (1, .int x1), (2, .int x2)] → (P_X11_seed_33 K) F x1 x2 s1 s2 → W p l e rm_X11_seed s m ([.ref (ad 40 0), .int p1, .int p2] : List Value).toArray below meth c H locs 0 0 (q_X11_seed G ad K below ([.ref (ad 40 0), .int p1, .int p2] : List Value).toArray s) (F0 m 33 ls [.int s2, .int s1, .ref (ad 40 0)]) := by
    intro F x1 x2 s1 s2 H locs ls hH hS hl q
    unfold P_X11_seed_33 at q
    refine lv_iconst (v := 1) hx hb dX11_seed_33 (by decide) ?_
    refine lv_goto (tgt := 38) hx hb dX11_seed_34 (by decide) ?_
    exact t_38 F x1 x2 s1 s2 1 _ _ _ hH hS (lv_sub hl [0, 1, 2] rfl) q
  unfold P_X11_seed at q
  refine lv_iload_n hx hb dX11_seed_0 rfl (lv_at hl 1 rfl) ?_
  refine lv_iconst (v := 0) hx hb dX11_seed_1 (by decide) ?_
  refine lv_iconst (v := 4) hx hb dX11_seed_2 (by decide) ?_
  refine va_calli (va_runS (As := [.int p1, .int 0, .int 4]) (rest := []) ⟨hx, hb, hml, hown, hts⟩ (c_X11_in l G ad F p1 0 4 _) (va_cwS 3 hts gX11_seed_X11_in rfl rfl rfl (by decide +kernel) ⟨Nat.le_of_ble_eq_true rfl, Nat.le_of_ble_eq_true rfl⟩) ⟨fun a U g mk h => ⟨h.1, gD_blind h.2.1, h.2.2⟩, fun U hU hW => ⟨rfl, gD_at hK hG hB hH hS hU hW, q⟩⟩ rfl rfl hl.1 rfl (lv_room (Nat.le_of_ble_eq_true rfl)) dX11_seed_3 ⟨Nat.le_of_ble_eq_true rfl, Nat.le_of_ble_eq_true rfl⟩) hS (fun _ _ h => h) (fun _ h => h) (fun r1 F2 t H locs ht hvm q hB1 hz hk hS => ?_)
  have hH : gH G ad F2 H := gH_to ht hB1
  refine lv_istore_n (lv' := [(3, .int r1), (0, .ref (ad 40 0)), (1, .int p1), (2, .int p2)]) hx hb dX11_seed_6 rfl hl (by decide) rfl (fun ls hl => ?_)
  refine lv_aload_n hx hb dX11_seed_7 rfl (lv_at hl 1 rfl) ?_
  refine lv_iload_n hx hb dX11_seed_8 rfl (lv_at hl 0 rfl) ?_
  refine lv_iload_n hx hb dX11_seed_9 rfl (lv_at hl 3 rfl) ?_
  refine lv_iconst (v := 0) hx hb dX11_seed_10 (by decide) ?_
  refine lv_sipush (v := 9999) hx hb dX11_seed_11 (by decide) ?_
  refine va_calli (va_runS (As := [.int p2, .int 0, .int 9999]) (rest := [.int r1, .ref (ad 40 0)]) ⟨hx, hb, hml, hown, hts⟩ (c_X11_in l G ad F2 p2 0 9999 _) (va_cwS 3 hts gX11_seed_X11_in rfl rfl rfl (by decide +kernel) ⟨Nat.le_of_ble_eq_true rfl, Nat.le_of_ble_eq_true rfl⟩) ⟨fun a U g mk h => ⟨h.1, gD_blind h.2.1, h.2.2⟩, fun U hU hW => ⟨rfl, gD_at hK hG hB hH hS hU hW, q⟩⟩ rfl rfl hl.1 rfl (lv_room (Nat.le_of_ble_eq_true rfl)) dX11_seed_14 ⟨Nat.le_of_ble_eq_true rfl, Nat.le_of_ble_eq_true rfl⟩) hS (fun _ _ h => h) (fun _ h => h) (fun r3 F4 t H locs ht hvm q hB1 hz hk hS => ?_)
  have hH : gH G ad F4 H := gH_to ht hB1
  refine lv_aload_n hx hb dX11_seed_17 rfl (lv_at hl 1 rfl) ?_
  refine g_get (ci := 15) (v := .int (F4 40 0 14)) (C := RX11) (T := TX11) (N := 44) hx hb hts (fun _ h => (List.mem_cons_of_mem _ (List.mem_append_left _ (List.mem_append_right _ h)))) hown hK hH 40 0 (by decide) Nat.zero_lt_one rfl rfl 14 (by decide) (hts (.fieldLink RX11 41 "BallotFoundryModel" "stage" "I") (List.mem_of_getElem? (i := 1) rfl)) (fun _ h => h) rfl dX11_seed_18 ?_
  refine lv_iconst (v := 1) hx hb dX11_seed_21 (by decide) ?_
  refine lv_icmp_eq (tgt := 33) hx hb dX11_seed_22 (by decide) (fun c5 => ?_) (fun c5 => ?_)
  · have q := (if_pos c5).mp q
    exact t_33 F4 p1 p2 r1 r3 _ _ _ hH hS (lv_sub hl [1, 2, 3] rfl) q
  · have q := (if_neg c5).mp q
    refine lv_aload_n hx hb dX11_seed_25 rfl (lv_at hl 1 rfl) ?_
    refine g_get (ci := 15) (v := .int (F4 40 0 14)) (C := RX11) (T := TX11) (N := 44) hx hb hts (fun _ h => (List.mem_cons_of_mem _ (List.mem_append_left _ (List.mem_append_right _ h)))) hown hK hH 40 0 (by decide) Nat.zero_lt_one rfl rfl 14 (by decide) (hts (.fieldLink RX11 41 "BallotFoundryModel" "stage" "I") (List.mem_of_getElem? (i := 1) rfl)) (fun _ h => h) rfl dX11_seed_26 ?_
    refine lv_iconst (v := 2) hx hb dX11_seed_29 (by decide) ?_
    refine lv_icmp_ne (tgt := 37) hx hb dX11_seed_30 (by decide) (fun c12 => ?_) (fun c12 => ?_)
    · have q := (if_neg c12).mp q
      refine lv_iconst (v := 0) hx hb dX11_seed_37 (by decide) ?_
      exact t_38 F4 p1 p2 r1 r3 0 _ _ _ hH hS (lv_sub hl [1, 2, 3] rfl) q
    · have q := (if_pos c12).mp q
      exact t_33 F4 p1 p2 r1 r3 _ _ _ hH hS (lv_sub hl [1, 2, 3] rfl) q
abbrev rm_X11_stationFor : Room := { frames := 0, cells := 0, slots := 0, locals := 0 }
abbrev q_X11_stationFor (G : GP) (ad : Nat → Nat → Nat) (K : Int32 → GF → Prop) (below : List Frame) (args : Array Value) (s : State) : State → Prop := MQ below (gQi G ad K) args s 0 0 (gA G)
set_option maxHeartbeats 4000000 in
set_option maxRecDepth 100000 in
theorem c_X11_stationFor (l : Launch) (G : GP) (ad : Nat → Nat → Nat) (F : GF) (K : Int32 → GF → Prop) : Met l yX11_stationFor wsX11_stationFor rm_X11_stationFor (va_Pc [.ref (ad 40 0)] (fun U => gD G ad F U ∧ P_X11_stationFor F K)) (gQi G ad K) 0 0 (gA G) := by
  refine Met.ofW (cc := cX11_stationFor) (maxL := 4) (ret := (some .int)) (by decide) rfl ?_
  intro p e s m args below meth c s₁ Bd hml hv
  obtain ⟨rfl, ⟨hK, hG, hB, hH⟩, q⟩ := hv
  have hx := Bd.exec
  have hb := Bd.bytes
  have hr := Bd.returns
  have hts := atoms_spec (ws := wsX11_stationFor) Bd.pre
  have hown : s.vm.findClass RX11 = some m.cls := findClass_of_methodNamed Bd.named
  have hlocks := Bd.notSynchronized
  have hS : va_S (gA G) s.heap s.heap [] := va_S.rf
  have hl := lv_entry [.ref (ad 40 0)] (n := 4) (Nat.le_of_ble_eq_true rfl)
  rw [lg_entry_eq]
  generalize (lg_sl [.ref (ad 40 0)] ++ List.replicate (4 - (lg_sl [.ref (ad 40 0)]).length) Slot.unset).toArray = ls at hl ⊢
  have hl : lv_has ls 4 [(0, .ref (ad 40 0))] := hl
  show W p l e rm_X11_stationFor s m ([.ref (ad 40 0)] : List Value).toArray below meth c s.heap [] 0 0 (q_X11_stationFor G ad K below ([.ref (ad 40 0)] : List Value).toArray s) _
  have t_133 : ∀ (k85 : GF → Int32 → Int32 → Prop), (∀ (F : GF) (x1 : Int32) (x2 : Int32) (H : Heap) (locs : List Loc) (ls : Array Slot), gH G ad F H → va_S (gA G) s.heap H locs → lv_has ls 4 [(0, .ref (ad 40 0)), (1, .int x1), (2, .int x2)] → k85 F x1 x2 → W p l e rm_X11_stationFor s m ([.ref (ad 40 0)] : List Value).toArray below meth c H locs 0 0 (q_X11_stationFor G ad K below ([.ref (ad 40 0)] : List Value).toArray s) (F0 m 85 ls [])) → ∀ (F : GF) (x2 : Int32) (s0 : Int32) (H : Heap) (locs : List Loc) (ls : Array Slot), gH G ad F H → va_S (gA G) s.heap H locs → lv_has ls 4 [(0, .ref (ad 40 0)), (2, .int x2)] → (P_X11_stationFor_133 k85 K) F x2 s0 → W p l e rm_X11_stationFor s m ([.ref (ad 40 0)] : List Value).toArray below meth c H locs 0 0 (q_X11_stationFor G ad K below ([.ref (ad 40 0)] : List Value).toArray s) (F0 m 133 ls [.int s0]) := by
    intro k85 hk85 F x2 s0 H locs ls hH hS hl q
    unfold P_X11_stationFor_133 at q
    refine lv_istore_n (lv' := [(1, .int s0), (0, .ref (ad 40 0)), (2, .int x2)]) hx hb dX11_stationFor_133 rfl hl (by decide) rfl (fun ls hl => ?_)
    refine lv_iinc (v := x2 + 1) (lv' := [(2, .int (x2 + 1)), (1, .int s0), (0, .ref (ad 40 0))]) hx hb dX11_stationFor_134 hl (k := 2) rfl rfl (by decide) rfl (fun ls hl => ?_)
    refine lv_goto (tgt := 85) hx hb dX11_stationFor_137 (by decide) ?_
    exact hk85 F s0 (x2 + 1) _ _ _ hH hS (lv_sub hl [2, 1, 0] rfl) q
  have t_132 : ∀ (k85 : GF → Int32 → Int32 → Prop), (∀ (F : GF) (x1 : Int32) (x2 : Int32) (H : Heap) (locs : List Loc) (ls : Array Slot), gH G ad F H → va_S (gA G) s.heap H locs → lv_has ls 4 [(0, .ref (ad 40 0)), (1, .int x1), (2, .int x2)] → k85 F x1 x2 → W p l e rm_X11_stationFor s m ([.ref (ad 40 0)] : List Value).toArray below meth c H locs 0 0 (q_X11_stationFor G ad K below ([.ref (ad 40 0)] : List Value).toArray s) (F0 m 85 ls [])) → ∀ (F : GF) (x1 : Int32) (x2 : Int32) (H : Heap) (locs : List Loc) (ls : Array Slot), gH G ad F H → va_S (gA G) s.heap H locs → lv_has ls 4 [(0, .ref (ad 40 0)), (1, .int x1), (2, .int x2)] → (P_X11_stationFor_132 k85 K) F x1 x2 → W p l e rm_X11_stationFor s m ([.ref (ad 40 0)] : List Value).toArray below meth c H locs 0 0 (q_X11_stationFor G ad K below ([.ref (ad 40 0)] : List Value).toArray s) (F0 m 132 ls []) := by
    intro k85 hk85 F x1 x2 H locs ls hH hS hl q
    unfold P_X11_stationFor_132 at q
    refine lv_iload_n hx hb dX11_stationFor_132 rfl (lv_at hl 1 rfl) ?_
    exact t_133 k85 hk85 F x2 x1 _ _ _ hH hS (lv_sub hl [0, 2] rfl) q
  have t_128 : ∀ (k85 : GF → Int32 → Int32 → Prop), (∀ (F : GF) (x1 : Int32) (x2 : Int32) (H : Heap) (locs : List Loc) (ls : Array Slot), gH G ad F H → va_S (gA G) s.heap H locs → lv_has ls 4 [(0, .ref (ad 40 0)), (1, .int x1), (2, .int x2)] → k85 F x1 x2 → W p l e rm_X11_stationFor s m ([.ref (ad 40 0)] : List Value).toArray below meth c H locs 0 0 (q_X11_stationFor G ad K below ([.ref (ad 40 0)] : List Value).toArray s) (F0 m 85 ls [])) → ∀ (F : GF) (x2 : Int32) (H : Heap) (locs : List Loc) (ls : Array Slot), gH G ad F H → va_S (gA G) s.heap H locs → lv_has ls 4 [(0, .ref (ad 40 0)), (2, .int x2)] → (P_X11_stationFor_128 k85 K) F x2 → W p l e rm_X11_stationFor s m ([.ref (ad 40 0)] : List Value).toArray below meth c H locs 0 0 (q_X11_stationFor G ad K below ([.ref (ad 40 0)] : List Value).toArray s) (F0 m 128 ls []) := by
    intro k85 hk85 F x2 H locs ls hH hS hl q
    unfold P_X11_stationFor_128 at q
    refine lv_iload_n hx hb dX11_stationFor_128 rfl (lv_at hl 1 rfl) ?_
    refine lv_goto (tgt := 133) hx hb dX11_stationFor_129 (by decide) ?_
    exact t_133 k85 hk85 F x2 x2 _ _ _ hH hS (lv_sub hl [0, 1] rfl) q
  have t_85 : ∀ n : Nat, ∀ (F : GF) (x1 : Int32) (x2 : Int32) (H : Heap) (locs : List Loc) (ls : Array Slot), gH G ad F H → va_S (gA G) s.heap H locs → lv_has ls 4 [(0, .ref (ad 40 0)), (1, .int x1), (2, .int x2)] → (P_X11_stationFor_85 K n) F x1 x2 → W p l e rm_X11_stationFor s m ([.ref (ad 40 0)] : List Value).toArray below meth c H locs 0 0 (q_X11_stationFor G ad K below ([.ref (ad 40 0)] : List Value).toArray s) (F0 m 85 ls []) := by
    intro n
    induction n with
    | zero =>
      intro F x1 x2 H locs ls hH hS hl q
      exact False.elim q
    | succ n ih =>
      intro F x1 x2 H locs ls hH hS hl q
      rw [P_X11_stationFor_85] at q
      refine lv_iload_n hx hb dX11_stationFor_85 rfl (lv_at hl 2 rfl) ?_
      refine lv_aload_n hx hb dX11_stationFor_86 rfl (lv_at hl 0 rfl) ?_
      refine g_get (ci := 15) (v := .int (F 40 0 19)) (C := RX11) (T := TX11) (N := 44) hx hb hts (fun _ h => (List.mem_cons_of_mem _ (List.mem_append_left _ (List.mem_append_right _ h)))) hown hK hH 40 0 (by decide) Nat.zero_lt_one rfl rfl 19 (by decide) (hts (.fieldLink RX11 178 "BallotFoundryModel" "inElection" "I") (List.mem_of_getElem? (i := 1) rfl)) (fun _ h => h) rfl dX11_stationFor_87 ?_
      refine lv_icmp_ge (tgt := 140) hx hb dX11_stationFor_90 (by decide) (fun c3 => ?_) (fun c3 => ?_)
      · have q := (if_pos c3).mp q
        refine lv_iload_n hx hb dX11_stationFor_140 rfl (lv_at hl 1 rfl) ?_
        refine lv_iconst (v := (-1)) hx hb dX11_stationFor_141 (by decide) ?_
        refine lv_icmp_ne (tgt := 149) hx hb dX11_stationFor_142 (by decide) (fun c4 => ?_) (fun c4 => ?_)
        · have q := (if_neg c4).mp q
          refine lv_iload_n hx hb dX11_stationFor_149 rfl (lv_at hl 1 rfl) ?_
          exact (W.iret (v := x1) hx hb hr (fun t ht hW => ⟨⟨x1, F, rfl, q, gH_at ht hH⟩, hS.F ht⟩) hS.2.2 dX11_stationFor_150)
        · have q := (if_pos c4).mp q
          refine lv_iconst (v := 0) hx hb dX11_stationFor_145 (by decide) ?_
          refine lv_goto (tgt := 150) hx hb dX11_stationFor_146 (by decide) ?_
          exact (W.iret (v := 0) hx hb hr (fun t ht hW => ⟨⟨0, F, rfl, q, gH_at ht hH⟩, hS.F ht⟩) hS.2.2 dX11_stationFor_150)
      · have q := (if_neg c3).mp q
        refine lv_aload_n hx hb dX11_stationFor_93 rfl (lv_at hl 0 rfl) ?_
        refine g_get (ci := 15) (v := .ref (ad 42 0)) (C := RX11) (T := TX11) (N := 44) hx hb hts (fun _ h => (List.mem_cons_of_mem _ (List.mem_append_left _ (List.mem_append_right _ h)))) hown hK hH 40 0 (by decide) Nat.zero_lt_one rfl rfl 2 (by decide) (hts (.fieldLink RX11 13 "BallotFoundryModel" "far" "[I") (List.mem_of_getElem? (i := 2) rfl)) (fun _ h => h) rfl dX11_stationFor_94 ?_
        refine lv_aload_n hx hb dX11_stationFor_97 rfl (lv_at hl 0 rfl) ?_
        refine g_get (ci := 15) (v := .ref (ad 44 0)) (C := RX11) (T := TX11) (N := 44) hx hb hts (fun _ h => (List.mem_cons_of_mem _ (List.mem_append_left _ (List.mem_append_right _ h)))) hown hK hH 40 0 (by decide) Nat.zero_lt_one rfl rfl 4 (by decide) (hts (.fieldLink RX11 20 "BallotFoundryModel" "stationAt" "[I") (List.mem_of_getElem? (i := 3) rfl)) (fun _ h => h) rfl dX11_stationFor_98 ?_
        refine lv_iload_n hx hb dX11_stationFor_101 rfl (lv_at hl 2 rfl) ?_
        obtain ⟨h5, q⟩ := q
        refine g_iald hx hb hK hH 44 0 (by decide) Nat.zero_lt_one 5 rfl h5 dX11_stationFor_102 ?_
        obtain ⟨h6, q⟩ := q
        refine g_iald hx hb hK hH 42 0 (by decide) Nat.zero_lt_one 36 rfl h6 dX11_stationFor_103 ?_
        refine lv_iconst (v := (-1)) hx hb dX11_stationFor_104 (by decide) ?_
        refine lv_icmp_eq (tgt := 132) hx hb dX11_stationFor_105 (by decide) (fun c7 => ?_) (fun c7 => ?_)
        · have q := (if_pos c7).mp q
          exact t_132 (fun F a0 a1 => P_X11_stationFor_85 K n F a0 a1) ih F x1 x2 _ _ _ hH hS (lv_sub hl [0, 1, 2] rfl) q
        · have q := (if_neg c7).mp q
          refine lv_iload_n hx hb dX11_stationFor_108 rfl (lv_at hl 1 rfl) ?_
          refine lv_iconst (v := (-1)) hx hb dX11_stationFor_109 (by decide) ?_
          refine lv_icmp_eq (tgt := 128) hx hb dX11_stationFor_110 (by decide) (fun c8 => ?_) (fun c8 => ?_)
          · have q := (if_pos c8).mp q
            exact t_128 (fun F a0 a1 => P_X11_stationFor_85 K n F a0 a1) ih F x2 _ _ _ hH hS (lv_sub hl [0, 2] rfl) q
          · have q := (if_neg c8).mp q
            refine lv_aload_n hx hb dX11_stationFor_113 rfl (lv_at hl 0 rfl) ?_
            refine g_get (ci := 15) (v := .ref (ad 53 0)) (C := RX11) (T := TX11) (N := 44) hx hb hts (fun _ h => (List.mem_cons_of_mem _ (List.mem_append_left _ (List.mem_append_right _ h)))) hown hK hH 40 0 (by decide) Nat.zero_lt_one rfl rfl 21 (by decide) (hts (.fieldLink RX11 51 "BallotFoundryModel" "crowd" "[I") (List.mem_of_getElem? (i := 4) rfl)) (fun _ h => h) rfl dX11_stationFor_114 ?_
            refine lv_iload_n hx hb dX11_stationFor_117 rfl (lv_at hl 2 rfl) ?_
            obtain ⟨h9, q⟩ := q
            refine g_iald hx hb hK hH 53 0 (by decide) Nat.zero_lt_one 5 rfl h9 dX11_stationFor_118 ?_
            refine lv_aload_n hx hb dX11_stationFor_119 rfl (lv_at hl 0 rfl) ?_
            refine g_get (ci := 15) (v := .ref (ad 53 0)) (C := RX11) (T := TX11) (N := 44) hx hb hts (fun _ h => (List.mem_cons_of_mem _ (List.mem_append_left _ (List.mem_append_right _ h)))) hown hK hH 40 0 (by decide) Nat.zero_lt_one rfl rfl 21 (by decide) (hts (.fieldLink RX11 51 "BallotFoundryModel" "crowd" "[I") (List.mem_of_getElem? (i := 4) rfl)) (fun _ h => h) rfl dX11_stationFor_120 ?_
            refine lv_iload_n hx hb dX11_stationFor_123 rfl (lv_at hl 1 rfl) ?_
            obtain ⟨h10, q⟩ := q
            refine g_iald hx hb hK hH 53 0 (by decide) Nat.zero_lt_one 5 rfl h10 dX11_stationFor_124 ?_
            refine lv_icmp_ge (tgt := 132) hx hb dX11_stationFor_125 (by decide) (fun c11 => ?_) (fun c11 => ?_)
            · have q := (if_pos c11).mp q
              exact t_132 (fun F a0 a1 => P_X11_stationFor_85 K n F a0 a1) ih F x1 x2 _ _ _ hH hS (lv_sub hl [0, 1, 2] rfl) q
            · have q := (if_neg c11).mp q
              exact t_128 (fun F a0 a1 => P_X11_stationFor_85 K n F a0 a1) ih F x2 _ _ _ hH hS (lv_sub hl [0, 2] rfl) q
  have t_69 : ∀ (k4 : GF → Int32 → Int32 → Prop), (∀ (F : GF) (x1 : Int32) (x2 : Int32) (H : Heap) (locs : List Loc) (ls : Array Slot), gH G ad F H → va_S (gA G) s.heap H locs → lv_has ls 4 [(0, .ref (ad 40 0)), (1, .int x1), (2, .int x2)] → k4 F x1 x2 → W p l e rm_X11_stationFor s m ([.ref (ad 40 0)] : List Value).toArray below meth c H locs 0 0 (q_X11_stationFor G ad K below ([.ref (ad 40 0)] : List Value).toArray s) (F0 m 4 ls [])) → ∀ (F : GF) (x2 : Int32) (s0 : Int32) (H : Heap) (locs : List Loc) (ls : Array Slot), gH G ad F H → va_S (gA G) s.heap H locs → lv_has ls 4 [(0, .ref (ad 40 0)), (2, .int x2)] → (P_X11_stationFor_69 k4 K) F x2 s0 → W p l e rm_X11_stationFor s m ([.ref (ad 40 0)] : List Value).toArray below meth c H locs 0 0 (q_X11_stationFor G ad K below ([.ref (ad 40 0)] : List Value).toArray s) (F0 m 69 ls [.int s0]) := by
    intro k4 hk4 F x2 s0 H locs ls hH hS hl q
    unfold P_X11_stationFor_69 at q
    refine lv_istore_n (lv' := [(1, .int s0), (0, .ref (ad 40 0)), (2, .int x2)]) hx hb dX11_stationFor_69 rfl hl (by decide) rfl (fun ls hl => ?_)
    refine lv_iinc (v := x2 + 1) (lv' := [(2, .int (x2 + 1)), (1, .int s0), (0, .ref (ad 40 0))]) hx hb dX11_stationFor_70 hl (k := 2) rfl rfl (by decide) rfl (fun ls hl => ?_)
    refine lv_goto (tgt := 4) hx hb dX11_stationFor_73 (by decide) ?_
    exact hk4 F s0 (x2 + 1) _ _ _ hH hS (lv_sub hl [2, 1, 0] rfl) q
  have t_68 : ∀ (k4 : GF → Int32 → Int32 → Prop), (∀ (F : GF) (x1 : Int32) (x2 : Int32) (H : Heap) (locs : List Loc) (ls : Array Slot), gH G ad F H → va_S (gA G) s.heap H locs → lv_has ls 4 [(0, .ref (ad 40 0)), (1, .int x1), (2, .int x2)] → k4 F x1 x2 → W p l e rm_X11_stationFor s m ([.ref (ad 40 0)] : List Value).toArray below meth c H locs 0 0 (q_X11_stationFor G ad K below ([.ref (ad 40 0)] : List Value).toArray s) (F0 m 4 ls [])) → ∀ (F : GF) (x1 : Int32) (x2 : Int32) (H : Heap) (locs : List Loc) (ls : Array Slot), gH G ad F H → va_S (gA G) s.heap H locs → lv_has ls 4 [(0, .ref (ad 40 0)), (1, .int x1), (2, .int x2)] → (P_X11_stationFor_68 k4 K) F x1 x2 → W p l e rm_X11_stationFor s m ([.ref (ad 40 0)] : List Value).toArray below meth c H locs 0 0 (q_X11_stationFor G ad K below ([.ref (ad 40 0)] : List Value).toArray s) (F0 m 68 ls []) := by
    intro k4 hk4 F x1 x2 H locs ls hH hS hl q
    unfold P_X11_stationFor_68 at q
    refine lv_iload_n hx hb dX11_stationFor_68 rfl (lv_at hl 1 rfl) ?_
    exact t_69 k4 hk4 F x2 x1 _ _ _ hH hS (lv_sub hl [0, 2] rfl) q
  have t_64 : ∀ (k4 : GF → Int32 → Int32 → Prop), (∀ (F : GF) (x1 : Int32) (x2 : Int32) (H : Heap) (locs : List Loc) (ls : Array Slot), gH G ad F H → va_S (gA G) s.heap H locs → lv_has ls 4 [(0, .ref (ad 40 0)), (1, .int x1), (2, .int x2)] → k4 F x1 x2 → W p l e rm_X11_stationFor s m ([.ref (ad 40 0)] : List Value).toArray below meth c H locs 0 0 (q_X11_stationFor G ad K below ([.ref (ad 40 0)] : List Value).toArray s) (F0 m 4 ls [])) → ∀ (F : GF) (x2 : Int32) (H : Heap) (locs : List Loc) (ls : Array Slot), gH G ad F H → va_S (gA G) s.heap H locs → lv_has ls 4 [(0, .ref (ad 40 0)), (2, .int x2)] → (P_X11_stationFor_64 k4 K) F x2 → W p l e rm_X11_stationFor s m ([.ref (ad 40 0)] : List Value).toArray below meth c H locs 0 0 (q_X11_stationFor G ad K below ([.ref (ad 40 0)] : List Value).toArray s) (F0 m 64 ls []) := by
    intro k4 hk4 F x2 H locs ls hH hS hl q
    unfold P_X11_stationFor_64 at q
    refine lv_iload_n hx hb dX11_stationFor_64 rfl (lv_at hl 1 rfl) ?_
    refine lv_goto (tgt := 69) hx hb dX11_stationFor_65 (by decide) ?_
    exact t_69 k4 hk4 F x2 x2 _ _ _ hH hS (lv_sub hl [0, 1] rfl) q
  have t_4 : ∀ n : Nat, ∀ (F : GF) (x1 : Int32) (x2 : Int32) (H : Heap) (locs : List Loc) (ls : Array Slot), gH G ad F H → va_S (gA G) s.heap H locs → lv_has ls 4 [(0, .ref (ad 40 0)), (1, .int x1), (2, .int x2)] → (P_X11_stationFor_4 K n) F x1 x2 → W p l e rm_X11_stationFor s m ([.ref (ad 40 0)] : List Value).toArray below meth c H locs 0 0 (q_X11_stationFor G ad K below ([.ref (ad 40 0)] : List Value).toArray s) (F0 m 4 ls []) := by
    intro n
    induction n with
    | zero =>
      intro F x1 x2 H locs ls hH hS hl q
      exact False.elim q
    | succ n ih =>
      intro F x1 x2 H locs ls hH hS hl q
      rw [P_X11_stationFor_4] at q
      refine lv_iload_n hx hb dX11_stationFor_4 rfl (lv_at hl 2 rfl) ?_
      refine lv_aload_n hx hb dX11_stationFor_5 rfl (lv_at hl 0 rfl) ?_
      refine g_get (ci := 15) (v := .int (F 40 0 19)) (C := RX11) (T := TX11) (N := 44) hx hb hts (fun _ h => (List.mem_cons_of_mem _ (List.mem_append_left _ (List.mem_append_right _ h)))) hown hK hH 40 0 (by decide) Nat.zero_lt_one rfl rfl 19 (by decide) (hts (.fieldLink RX11 178 "BallotFoundryModel" "inElection" "I") (List.mem_of_getElem? (i := 1) rfl)) (fun _ h => h) rfl dX11_stationFor_6 ?_
      refine lv_icmp_ge (tgt := 76) hx hb dX11_stationFor_9 (by decide) (fun c1 => ?_) (fun c1 => ?_)
      · have q := (if_pos c1).mp q
        refine lv_iload_n hx hb dX11_stationFor_76 rfl (lv_at hl 1 rfl) ?_
        refine lv_iconst (v := (-1)) hx hb dX11_stationFor_77 (by decide) ?_
        refine lv_icmp_eq (tgt := 83) hx hb dX11_stationFor_78 (by decide) (fun c2 => ?_) (fun c2 => ?_)
        · have q := (if_pos c2).mp q
          refine lv_iconst (v := 0) hx hb dX11_stationFor_83 (by decide) ?_
          refine lv_istore_n (lv' := [(2, .int 0), (0, .ref (ad 40 0)), (1, .int x1)]) hx hb dX11_stationFor_84 rfl hl (by decide) rfl (fun ls hl => ?_)
          obtain ⟨nn, q⟩ := q
          exact t_85 nn F x1 0 _ _ _ hH hS (lv_sub hl [1, 2, 0] rfl) q
        · have q := (if_neg c2).mp q
          refine lv_iload_n hx hb dX11_stationFor_81 rfl (lv_at hl 1 rfl) ?_
          exact (W.iret (v := x1) hx hb hr (fun t ht hW => ⟨⟨x1, F, rfl, q, gH_at ht hH⟩, hS.F ht⟩) hS.2.2 dX11_stationFor_82)
      · have q := (if_neg c1).mp q
        refine lv_aload_n hx hb dX11_stationFor_12 rfl (lv_at hl 0 rfl) ?_
        refine g_get (ci := 15) (v := .ref (ad 42 0)) (C := RX11) (T := TX11) (N := 44) hx hb hts (fun _ h => (List.mem_cons_of_mem _ (List.mem_append_left _ (List.mem_append_right _ h)))) hown hK hH 40 0 (by decide) Nat.zero_lt_one rfl rfl 2 (by decide) (hts (.fieldLink RX11 13 "BallotFoundryModel" "far" "[I") (List.mem_of_getElem? (i := 2) rfl)) (fun _ h => h) rfl dX11_stationFor_13 ?_
        refine lv_aload_n hx hb dX11_stationFor_16 rfl (lv_at hl 0 rfl) ?_
        refine g_get (ci := 15) (v := .ref (ad 44 0)) (C := RX11) (T := TX11) (N := 44) hx hb hts (fun _ h => (List.mem_cons_of_mem _ (List.mem_append_left _ (List.mem_append_right _ h)))) hown hK hH 40 0 (by decide) Nat.zero_lt_one rfl rfl 4 (by decide) (hts (.fieldLink RX11 20 "BallotFoundryModel" "stationAt" "[I") (List.mem_of_getElem? (i := 3) rfl)) (fun _ h => h) rfl dX11_stationFor_17 ?_
        refine lv_iload_n hx hb dX11_stationFor_20 rfl (lv_at hl 2 rfl) ?_
        obtain ⟨h12, q⟩ := q
        refine g_iald hx hb hK hH 44 0 (by decide) Nat.zero_lt_one 5 rfl h12 dX11_stationFor_21 ?_
        obtain ⟨h13, q⟩ := q
        refine g_iald hx hb hK hH 42 0 (by decide) Nat.zero_lt_one 36 rfl h13 dX11_stationFor_22 ?_
        refine lv_topi (fun y14 ey14 => ?_)
        have q := q y14 ey14
        refine lv_istore_n (lv' := [(3, .int y14), (0, .ref (ad 40 0)), (1, .int x1), (2, .int x2)]) hx hb dX11_stationFor_23 rfl hl (by decide) rfl (fun ls hl => ?_)
        refine lv_iload_n hx hb dX11_stationFor_24 rfl (lv_at hl 0 rfl) ?_
        refine lv_iconst (v := (-1)) hx hb dX11_stationFor_25 (by decide) ?_
        refine lv_icmp_eq (tgt := 68) hx hb dX11_stationFor_26 (by decide) (fun c15 => ?_) (fun c15 => ?_)
        · have q := (if_pos c15).mp q
          exact t_68 (fun F a0 a1 => P_X11_stationFor_4 K n F a0 a1) ih F x1 x2 _ _ _ hH hS (lv_sub hl [1, 2, 3] rfl) q
        · have q := (if_neg c15).mp q
          refine lv_aload_n hx hb dX11_stationFor_29 rfl (lv_at hl 1 rfl) ?_
          refine g_get (ci := 15) (v := .ref (ad 53 0)) (C := RX11) (T := TX11) (N := 44) hx hb hts (fun _ h => (List.mem_cons_of_mem _ (List.mem_append_left _ (List.mem_append_right _ h)))) hown hK hH 40 0 (by decide) Nat.zero_lt_one rfl rfl 21 (by decide) (hts (.fieldLink RX11 51 "BallotFoundryModel" "crowd" "[I") (List.mem_of_getElem? (i := 4) rfl)) (fun _ h => h) rfl dX11_stationFor_30 ?_
          refine lv_iload_n hx hb dX11_stationFor_33 rfl (lv_at hl 3 rfl) ?_
          obtain ⟨h16, q⟩ := q
          refine g_iald hx hb hK hH 53 0 (by decide) Nat.zero_lt_one 5 rfl h16 dX11_stationFor_34 ?_
          refine lv_aload_n hx hb dX11_stationFor_35 rfl (lv_at hl 1 rfl) ?_
          refine g_get (ci := 15) (v := .ref (ad 45 0)) (C := RX11) (T := TX11) (N := 44) hx hb hts (fun _ h => (List.mem_cons_of_mem _ (List.mem_append_left _ (List.mem_append_right _ h)))) hown hK hH 40 0 (by decide) Nat.zero_lt_one rfl rfl 5 (by decide) (hts (.fieldLink RX11 23 "BallotFoundryModel" "room" "[I") (List.mem_of_getElem? (i := 5) rfl)) (fun _ h => h) rfl dX11_stationFor_36 ?_
          refine lv_iload_n hx hb dX11_stationFor_39 rfl (lv_at hl 3 rfl) ?_
          obtain ⟨h17, q⟩ := q
          refine g_iald hx hb hK hH 45 0 (by decide) Nat.zero_lt_one 5 rfl h17 dX11_stationFor_40 ?_
          refine lv_icmp_ge (tgt := 68) hx hb dX11_stationFor_41 (by decide) (fun c18 => ?_) (fun c18 => ?_)
          · have q := (if_pos c18).mp q
            exact t_68 (fun F a0 a1 => P_X11_stationFor_4 K n F a0 a1) ih F x1 x2 _ _ _ hH hS (lv_sub hl [1, 2, 3] rfl) q
          · have q := (if_neg c18).mp q
            refine lv_iload_n hx hb dX11_stationFor_44 rfl (lv_at hl 2 rfl) ?_
            refine lv_iconst (v := (-1)) hx hb dX11_stationFor_45 (by decide) ?_
            refine lv_icmp_eq (tgt := 64) hx hb dX11_stationFor_46 (by decide) (fun c19 => ?_) (fun c19 => ?_)
            · have q := (if_pos c19).mp q
              exact t_64 (fun F a0 a1 => P_X11_stationFor_4 K n F a0 a1) ih F x2 _ _ _ hH hS (lv_sub hl [1, 3] rfl) q
            · have q := (if_neg c19).mp q
              refine lv_iload_n hx hb dX11_stationFor_49 rfl (lv_at hl 0 rfl) ?_
              refine lv_aload_n hx hb dX11_stationFor_50 rfl (lv_at hl 1 rfl) ?_
              refine g_get (ci := 15) (v := .ref (ad 42 0)) (C := RX11) (T := TX11) (N := 44) hx hb hts (fun _ h => (List.mem_cons_of_mem _ (List.mem_append_left _ (List.mem_append_right _ h)))) hown hK hH 40 0 (by decide) Nat.zero_lt_one rfl rfl 2 (by decide) (hts (.fieldLink RX11 13 "BallotFoundryModel" "far" "[I") (List.mem_of_getElem? (i := 2) rfl)) (fun _ h => h) rfl dX11_stationFor_51 ?_
              refine lv_aload_n hx hb dX11_stationFor_54 rfl (lv_at hl 1 rfl) ?_
              refine g_get (ci := 15) (v := .ref (ad 44 0)) (C := RX11) (T := TX11) (N := 44) hx hb hts (fun _ h => (List.mem_cons_of_mem _ (List.mem_append_left _ (List.mem_append_right _ h)))) hown hK hH 40 0 (by decide) Nat.zero_lt_one rfl rfl 4 (by decide) (hts (.fieldLink RX11 20 "BallotFoundryModel" "stationAt" "[I") (List.mem_of_getElem? (i := 3) rfl)) (fun _ h => h) rfl dX11_stationFor_55 ?_
              refine lv_iload_n hx hb dX11_stationFor_58 rfl (lv_at hl 2 rfl) ?_
              obtain ⟨h20, q⟩ := q
              refine g_iald hx hb hK hH 44 0 (by decide) Nat.zero_lt_one 5 rfl h20 dX11_stationFor_59 ?_
              obtain ⟨h21, q⟩ := q
              refine g_iald hx hb hK hH 42 0 (by decide) Nat.zero_lt_one 36 rfl h21 dX11_stationFor_60 ?_
              refine lv_icmp_ge (tgt := 68) hx hb dX11_stationFor_61 (by decide) (fun c22 => ?_) (fun c22 => ?_)
              · have q := (if_pos c22).mp q
                exact t_68 (fun F a0 a1 => P_X11_stationFor_4 K n F a0 a1) ih F x1 x2 _ _ _ hH hS (lv_sub hl [1, 2, 3] rfl) q
              · have q := (if_neg c22).mp q
                exact t_64 (fun F a0 a1 => P_X11_stationFor_4 K n F a0 a1) ih F x2 _ _ _ hH hS (lv_sub hl [1, 3] rfl) q
  unfold P_X11_stationFor at q
  refine lv_iconst (v := (-1)) hx hb dX11_stationFor_0 (by decide) ?_
  refine lv_istore_n (lv' := [(1, .int (-1)), (0, .ref (ad 40 0))]) hx hb dX11_stationFor_1 rfl hl (by decide) rfl (fun ls hl => ?_)
  refine lv_iconst (v := 0) hx hb dX11_stationFor_2 (by decide) ?_
  refine lv_istore_n (lv' := [(2, .int 0), (1, .int (-1)), (0, .ref (ad 40 0))]) hx hb dX11_stationFor_3 rfl hl (by decide) rfl (fun ls hl => ?_)
  obtain ⟨nn, q⟩ := q
  exact t_4 nn F (-1) 0 _ _ _ hH hS (lv_sub hl [2, 1, 0] rfl) q
abbrev rm_X11_makesRoll : Room := { frames := 2, cells := 0, slots := 0, locals := 48 }
abbrev q_X11_makesRoll (G : GP) (ad : Nat → Nat → Nat) (K : GF → Prop) (below : List Frame) (args : Array Value) (s : State) : State → Prop := MQ below (gQv G ad K) args s 0 0 (gA G)
set_option maxHeartbeats 4000000 in
set_option maxRecDepth 100000 in
theorem c_X11_makesRoll (l : Launch) (G : GP) (ad : Nat → Nat → Nat) (F : GF) (K : GF → Prop) : Met l yX11_makesRoll wsX11_makesRoll rm_X11_makesRoll (va_Pc [.ref (ad 40 0)] (fun U => gD G ad F U ∧ P_X11_makesRoll F K)) (gQv G ad K) 0 0 (gA G) := by
  refine Met.ofW (cc := cX11_makesRoll) (maxL := 2) (ret := none) (by decide) rfl ?_
  intro p e s m args below meth c s₁ Bd hml hv
  obtain ⟨rfl, ⟨hK, hG, hB, hH⟩, q⟩ := hv
  have hx := Bd.exec
  have hb := Bd.bytes
  have hr := Bd.returns
  have hts := atoms_spec (ws := wsX11_makesRoll) Bd.pre
  have hown : s.vm.findClass RX11 = some m.cls := findClass_of_methodNamed Bd.named
  have hlocks := Bd.notSynchronized
  have hS : va_S (gA G) s.heap s.heap [] := va_S.rf
  have hl := lv_entry [.ref (ad 40 0)] (n := 2) (Nat.le_of_ble_eq_true rfl)
  rw [lg_entry_eq]
  generalize (lg_sl [.ref (ad 40 0)] ++ List.replicate (2 - (lg_sl [.ref (ad 40 0)]).length) Slot.unset).toArray = ls at hl ⊢
  have hl : lv_has ls 2 [(0, .ref (ad 40 0))] := hl
  show W p l e rm_X11_makesRoll s m ([.ref (ad 40 0)] : List Value).toArray below meth c s.heap [] 0 0 (q_X11_makesRoll G ad K below ([.ref (ad 40 0)] : List Value).toArray s) _
  have t_86 : ∀ (k15 : GF → Int32 → Prop), (∀ (F : GF) (x1 : Int32) (H : Heap) (locs : List Loc) (ls : Array Slot), gH G ad F H → va_S (gA G) s.heap H locs → lv_has ls 2 [(0, .ref (ad 40 0)), (1, .int x1)] → k15 F x1 → W p l e rm_X11_makesRoll s m ([.ref (ad 40 0)] : List Value).toArray below meth c H locs 0 0 (q_X11_makesRoll G ad K below ([.ref (ad 40 0)] : List Value).toArray s) (F0 m 15 ls [])) → ∀ (F : GF) (x1 : Int32) (H : Heap) (locs : List Loc) (ls : Array Slot), gH G ad F H → va_S (gA G) s.heap H locs → lv_has ls 2 [(0, .ref (ad 40 0)), (1, .int x1)] → (P_X11_makesRoll_86 k15 K) F x1 → W p l e rm_X11_makesRoll s m ([.ref (ad 40 0)] : List Value).toArray below meth c H locs 0 0 (q_X11_makesRoll G ad K below ([.ref (ad 40 0)] : List Value).toArray s) (F0 m 86 ls []) := by
    intro k15 hk15 F x1 H locs ls hH hS hl q
    unfold P_X11_makesRoll_86 at q
    refine lv_iinc (v := x1 + 1) (lv' := [(1, .int (x1 + 1)), (0, .ref (ad 40 0))]) hx hb dX11_makesRoll_86 hl (k := 1) rfl rfl (by decide) rfl (fun ls hl => ?_)
    refine lv_goto (tgt := 15) hx hb dX11_makesRoll_89 (by decide) ?_
    exact hk15 F (x1 + 1) _ _ _ hH hS (lv_sub hl [1, 0] rfl) q
  have t_15 : ∀ n : Nat, ∀ (F : GF) (x1 : Int32) (H : Heap) (locs : List Loc) (ls : Array Slot), gH G ad F H → va_S (gA G) s.heap H locs → lv_has ls 2 [(0, .ref (ad 40 0)), (1, .int x1)] → (P_X11_makesRoll_15 K n) F x1 → W p l e rm_X11_makesRoll s m ([.ref (ad 40 0)] : List Value).toArray below meth c H locs 0 0 (q_X11_makesRoll G ad K below ([.ref (ad 40 0)] : List Value).toArray s) (F0 m 15 ls []) := by
    intro n
    induction n with
    | zero =>
      intro F x1 H locs ls hH hS hl q
      exact False.elim q
    | succ n ih =>
      intro F x1 H locs ls hH hS hl q
      rw [P_X11_makesRoll_15] at q
      refine lv_iload_n hx hb dX11_makesRoll_15 rfl (lv_at hl 1 rfl) ?_
      refine lv_aload_n hx hb dX11_makesRoll_16 rfl (lv_at hl 0 rfl) ?_
      refine g_get (ci := 15) (v := .int (F 40 0 9)) (C := RX11) (T := TX11) (N := 44) hx hb hts (fun _ h => (List.mem_cons_of_mem _ (List.mem_append_left _ (List.mem_append_right _ h)))) hown hK hH 40 0 (by decide) Nat.zero_lt_one rfl rfl 9 (by decide) (hts (.fieldLink RX11 118 "BallotFoundryModel" "people" "I") (List.mem_of_getElem? (i := 4) rfl)) (fun _ h => h) rfl dX11_makesRoll_17 ?_
      refine lv_icmp_ge (tgt := 92) hx hb dX11_makesRoll_20 (by decide) (fun c3 => ?_) (fun c3 => ?_)
      · have q := (if_pos c3).mp q
        exact (W.vret hx hb hr (fun t ht hW => ⟨⟨F, rfl, q, gH_at ht hH⟩, hS.F ht⟩) hS.2.2 dX11_makesRoll_92)
      · have q := (if_neg c3).mp q
        refine lv_aload_n hx hb dX11_makesRoll_23 rfl (lv_at hl 0 rfl) ?_
        refine g_get (ci := 15) (v := .ref (ad 47 0)) (C := RX11) (T := TX11) (N := 44) hx hb hts (fun _ h => (List.mem_cons_of_mem _ (List.mem_append_left _ (List.mem_append_right _ h)))) hown hK hH 40 0 (by decide) Nat.zero_lt_one rfl rfl 8 (by decide) (hts (.fieldLink RX11 29 "BallotFoundryModel" "died" "[Z") (List.mem_of_getElem? (i := 5) rfl)) (fun _ h => h) rfl dX11_makesRoll_24 ?_
        refine lv_iload_n hx hb dX11_makesRoll_27 rfl (lv_at hl 1 rfl) ?_
        obtain ⟨h4, q⟩ := q
        refine g_zald hx hb hK hH 47 0 (by decide) Nat.zero_lt_one 20 rfl h4 dX11_makesRoll_28 ?_
        refine lv_if_ne (tgt := 86) hx hb dX11_makesRoll_29 (by decide) (fun c5 => ?_) (fun c5 => ?_)
        · have q := (if_neg c5).mp q
          exact t_86 (fun F a0 => P_X11_makesRoll_15 K n F a0) ih F x1 _ _ _ hH hS (lv_sub hl [0, 1] rfl) q
        · have q := (if_pos c5).mp q
          refine lv_aload_n hx hb dX11_makesRoll_32 rfl (lv_at hl 0 rfl) ?_
          refine g_get (ci := 15) (v := .ref (ad 46 0)) (C := RX11) (T := TX11) (N := 44) hx hb hts (fun _ h => (List.mem_cons_of_mem _ (List.mem_append_left _ (List.mem_append_right _ h)))) hown hK hH 40 0 (by decide) Nat.zero_lt_one rfl rfl 7 (by decide) (hts (.fieldLink RX11 26 "BallotFoundryModel" "ofAge" "[I") (List.mem_of_getElem? (i := 6) rfl)) (fun _ h => h) rfl dX11_makesRoll_33 ?_
          refine lv_iload_n hx hb dX11_makesRoll_36 rfl (lv_at hl 1 rfl) ?_
          obtain ⟨h6, q⟩ := q
          refine g_iald hx hb hK hH 46 0 (by decide) Nat.zero_lt_one 20 rfl h6 dX11_makesRoll_37 ?_
          refine lv_aload_n hx hb dX11_makesRoll_38 rfl (lv_at hl 0 rfl) ?_
          refine g_get (ci := 15) (v := .int (F 40 0 15)) (C := RX11) (T := TX11) (N := 44) hx hb hts (fun _ h => (List.mem_cons_of_mem _ (List.mem_append_left _ (List.mem_append_right _ h)))) hown hK hH 40 0 (by decide) Nat.zero_lt_one rfl rfl 15 (by decide) (hts (.fieldLink RX11 181 "BallotFoundryModel" "day" "I") (List.mem_of_getElem? (i := 7) rfl)) (fun _ h => h) rfl dX11_makesRoll_39 ?_
          refine lv_icmp_gt (tgt := 86) hx hb dX11_makesRoll_42 (by decide) (fun c7 => ?_) (fun c7 => ?_)
          · have q := (if_pos c7).mp q
            exact t_86 (fun F a0 => P_X11_makesRoll_15 K n F a0) ih F x1 _ _ _ hH hS (lv_sub hl [0, 1] rfl) q
          · have q := (if_neg c7).mp q
            refine lv_aload_n hx hb dX11_makesRoll_45 rfl (lv_at hl 0 rfl) ?_
            refine lv_aload_n hx hb dX11_makesRoll_46 rfl (lv_at hl 0 rfl) ?_
            refine lv_iload_n hx hb dX11_makesRoll_47 rfl (lv_at hl 1 rfl) ?_
            refine lv_aload_n hx hb dX11_makesRoll_48 rfl (lv_at hl 0 rfl) ?_
            refine g_get (ci := 15) (v := .int (F 40 0 15)) (C := RX11) (T := TX11) (N := 44) hx hb hts (fun _ h => (List.mem_cons_of_mem _ (List.mem_append_left _ (List.mem_append_right _ h)))) hown hK hH 40 0 (by decide) Nat.zero_lt_one rfl rfl 15 (by decide) (hts (.fieldLink RX11 181 "BallotFoundryModel" "day" "I") (List.mem_of_getElem? (i := 7) rfl)) (fun _ h => h) rfl dX11_makesRoll_49 ?_
            refine lv_bipush (v := 7) hx hb dX11_makesRoll_52 (by decide) ?_
            refine lv_isub hx hb dX11_makesRoll_54 ?_
            refine va_calli (va_runV (As := [.int x1, .int ((F 40 0 15) - 7)]) (rest := [.ref (ad 40 0)]) ⟨hx, hb, hml, hown, hts⟩ (c_X11_dwelt l G ad F x1 ((F 40 0 15) - 7) _) (cwV 2 hts gX11_makesRoll_X11_dwelt rfl rfl rfl (by decide +kernel) ⟨Nat.le_of_ble_eq_true rfl, Nat.le_of_ble_eq_true rfl⟩) ⟨fun a U g mk h => ⟨h.1, gD_blind h.2.1, h.2.2⟩, g_recv (C := RX11) (T := TX11) (N := 44) hK hH 40 0 (by decide) Nat.zero_lt_one rfl rfl, fun U hU hW => ⟨rfl, gD_at hK hG hB hH hS hU hW, q⟩⟩ rfl rfl hl.1 rfl (lv_room (Nat.le_of_ble_eq_true rfl)) dX11_makesRoll_55 ⟨Nat.le_of_ble_eq_true rfl, Nat.le_of_ble_eq_true rfl⟩) hS (fun _ _ h => h) (fun _ h => h) (fun r8 F9 t H locs ht hvm q hB1 hz hk hS => ?_)
            have hH : gH G ad F9 H := gH_to ht hB1
            refine va_callv (va_runV (As := [.int r8]) (rest := []) ⟨hx, hb, hml, hown, hts⟩ (c_X11_finds l G ad F9 r8 _) (cwV 1 hts gX11_makesRoll_X11_finds rfl rfl rfl (by decide +kernel) ⟨Nat.le_of_ble_eq_true rfl, Nat.le_of_ble_eq_true rfl⟩) ⟨fun a U g mk h => ⟨h.1, gD_blind h.2.1, h.2.2⟩, g_recv (C := RX11) (T := TX11) (N := 44) hK hH 40 0 (by decide) Nat.zero_lt_one rfl rfl, fun U hU hW => ⟨rfl, gD_at hK hG hB hH hS hU hW, q⟩⟩ rfl rfl hl.1 rfl (lv_room (Nat.le_of_ble_eq_true rfl)) dX11_makesRoll_58 ⟨Nat.le_of_ble_eq_true rfl, Nat.le_of_ble_eq_true rfl⟩) hS (fun _ _ h => h) (fun _ h => h) (fun F11 t H locs ht hvm q hB1 hz hk hS => ?_)
            have hH : gH G ad F11 H := gH_to ht hB1
            refine lv_aload_n hx hb dX11_makesRoll_61 rfl (lv_at hl 0 rfl) ?_
            refine g_get (ci := 15) (v := .ref (ad 52 0)) (C := RX11) (T := TX11) (N := 44) hx hb hts (fun _ h => (List.mem_cons_of_mem _ (List.mem_append_left _ (List.mem_append_right _ h)))) hown hK hH 40 0 (by decide) Nat.zero_lt_one rfl rfl 20 (by decide) (hts (.fieldLink RX11 48 "BallotFoundryModel" "ownStation" "[I") (List.mem_of_getElem? (i := 8) rfl)) (fun _ h => h) rfl dX11_makesRoll_62 ?_
            refine lv_iload_n hx hb dX11_makesRoll_65 rfl (lv_at hl 1 rfl) ?_
            refine lv_aload_n hx hb dX11_makesRoll_66 rfl (lv_at hl 0 rfl) ?_
            refine va_calli (va_runV (As := []) (rest := [.int x1, .ref (ad 52 0)]) ⟨hx, hb, hml, hown, hts⟩ (c_X11_stationFor l G ad F11 _) (cwV 0 hts gX11_makesRoll_X11_stationFor rfl rfl rfl (by decide +kernel) ⟨Nat.le_of_ble_eq_true rfl, Nat.le_of_ble_eq_true rfl⟩) ⟨fun a U g mk h => ⟨h.1, gD_blind h.2.1, h.2.2⟩, g_recv (C := RX11) (T := TX11) (N := 44) hK hH 40 0 (by decide) Nat.zero_lt_one rfl rfl, fun U hU hW => ⟨rfl, gD_at hK hG hB hH hS hU hW, q⟩⟩ rfl rfl hl.1 rfl (lv_room (Nat.le_of_ble_eq_true rfl)) dX11_makesRoll_67 ⟨Nat.le_of_ble_eq_true rfl, Nat.le_of_ble_eq_true rfl⟩) hS (fun _ _ h => h) (fun _ h => h) (fun r12 F13 t H locs ht hvm q hB1 hz hk hS => ?_)
            have hH : gH G ad F13 H := gH_to ht hB1
            obtain ⟨h14, q⟩ := q
            refine g_iast hx hb hK hH hS 52 0 (by decide) Nat.zero_lt_one (by decide) 20 (fun _ => rfl) h14 dX11_makesRoll_70 (fun H locs hH hS => ?_)
            obtain ⟨F15, eF15⟩ : ∃ z, z = fs F13 52 0 x1.toNatClampNeg r12 := ⟨_, rfl⟩
            have q := q F15 eF15
            rw [← eF15] at hH
            refine lv_aload_n hx hb dX11_makesRoll_71 rfl (lv_at hl 0 rfl) ?_
            refine g_get (ci := 15) (v := .ref (ad 53 0)) (C := RX11) (T := TX11) (N := 44) hx hb hts (fun _ h => (List.mem_cons_of_mem _ (List.mem_append_left _ (List.mem_append_right _ h)))) hown hK hH 40 0 (by decide) Nat.zero_lt_one rfl rfl 21 (by decide) (hts (.fieldLink RX11 51 "BallotFoundryModel" "crowd" "[I") (List.mem_of_getElem? (i := 9) rfl)) (fun _ h => h) rfl dX11_makesRoll_72 ?_
            refine lv_aload_n hx hb dX11_makesRoll_75 rfl (lv_at hl 0 rfl) ?_
            refine g_get (ci := 15) (v := .ref (ad 52 0)) (C := RX11) (T := TX11) (N := 44) hx hb hts (fun _ h => (List.mem_cons_of_mem _ (List.mem_append_left _ (List.mem_append_right _ h)))) hown hK hH 40 0 (by decide) Nat.zero_lt_one rfl rfl 20 (by decide) (hts (.fieldLink RX11 48 "BallotFoundryModel" "ownStation" "[I") (List.mem_of_getElem? (i := 8) rfl)) (fun _ h => h) rfl dX11_makesRoll_76 ?_
            refine lv_iload_n hx hb dX11_makesRoll_79 rfl (lv_at hl 1 rfl) ?_
            obtain ⟨h16, q⟩ := q
            refine g_iald hx hb hK hH 52 0 (by decide) Nat.zero_lt_one 20 rfl h16 dX11_makesRoll_80 ?_
            refine lv_dup2_11 hx hb dX11_makesRoll_81 rfl rfl ?_
            obtain ⟨h17, q⟩ := q
            refine g_iald hx hb hK hH 53 0 (by decide) Nat.zero_lt_one 5 rfl h17 dX11_makesRoll_82 ?_
            refine lv_iconst (v := 1) hx hb dX11_makesRoll_83 (by decide) ?_
            refine lv_iadd hx hb dX11_makesRoll_84 ?_
            obtain ⟨h18, q⟩ := q
            refine g_iast hx hb hK hH hS 53 0 (by decide) Nat.zero_lt_one (by decide) 5 (fun _ => rfl) h18 dX11_makesRoll_85 (fun H locs hH hS => ?_)
            obtain ⟨F19, eF19⟩ : ∃ z, z = fs F15 53 0 (F15 52 0 x1.toNatClampNeg).toNatClampNeg ((F15 53 0 (F15 52 0 x1.toNatClampNeg).toNatClampNeg) + 1) := ⟨_, rfl⟩
            have q := q F19 eF19
            rw [← eF19] at hH
            exact t_86 (fun F a0 => P_X11_makesRoll_15 K n F a0) ih F19 x1 _ _ _ hH hS (lv_sub hl [0, 1] rfl) q
  unfold P_X11_makesRoll at q
  refine lv_aload_n hx hb dX11_makesRoll_0 rfl (lv_at hl 0 rfl) ?_
  refine lv_iconst (v := 2) hx hb dX11_makesRoll_1 (by decide) ?_
  refine g_put (ci := 15) (v := .int 2) (C := RX11) (T := TX11) (N := 44) hx hb hts (fun _ h => (List.mem_cons_of_mem _ (List.mem_append_left _ (List.mem_append_right _ h)))) tyX11 tyX11_ok nmX11 hown hK hH hS 40 0 (by decide) Nat.zero_lt_one (by decide) rfl rfl 14 (by decide) (hts (.fieldLink RX11 41 "BallotFoundryModel" "stage" "I") (List.mem_of_getElem? (i := 1) rfl)) (fun _ h => h) rfl (ty := .int) (by decide +kernel) rfl rfl (Nat.le_of_ble_eq_true rfl) 2 rfl dX11_makesRoll_2 (fun H locs hH hS => ?_)
  obtain ⟨F1, eF1⟩ : ∃ z, z = fs F 40 0 14 2 := ⟨_, rfl⟩
  have q := q F1 eF1
  rw [← eF1] at hH
  refine lv_aload_n hx hb dX11_makesRoll_5 rfl (lv_at hl 0 rfl) ?_
  refine lv_aload_n hx hb dX11_makesRoll_6 rfl (lv_at hl 0 rfl) ?_
  refine g_get (ci := 15) (v := .int (F1 40 0 6)) (C := RX11) (T := TX11) (N := 44) hx hb hts (fun _ h => (List.mem_cons_of_mem _ (List.mem_append_left _ (List.mem_append_right _ h)))) hown hK hH 40 0 (by decide) Nat.zero_lt_one rfl rfl 6 (by decide) (hts (.fieldLink RX11 115 "BallotFoundryModel" "stations" "I") (List.mem_of_getElem? (i := 2) rfl)) (fun _ h => h) rfl dX11_makesRoll_7 ?_
  refine g_put (ci := 15) (v := .int (F1 40 0 6)) (C := RX11) (T := TX11) (N := 44) hx hb hts (fun _ h => (List.mem_cons_of_mem _ (List.mem_append_left _ (List.mem_append_right _ h)))) tyX11 tyX11_ok nmX11 hown hK hH hS 40 0 (by decide) Nat.zero_lt_one (by decide) rfl rfl 19 (by decide) (hts (.fieldLink RX11 178 "BallotFoundryModel" "inElection" "I") (List.mem_of_getElem? (i := 3) rfl)) (fun _ h => h) rfl (ty := .int) (by decide +kernel) rfl rfl (Nat.le_of_ble_eq_true rfl) (F1 40 0 6) rfl dX11_makesRoll_10 (fun H locs hH hS => ?_)
  obtain ⟨F2, eF2⟩ : ∃ z, z = fs F1 40 0 19 (F1 40 0 6) := ⟨_, rfl⟩
  have q := q F2 eF2
  rw [← eF2] at hH
  refine lv_iconst (v := 0) hx hb dX11_makesRoll_13 (by decide) ?_
  refine lv_istore_n (lv' := [(1, .int 0), (0, .ref (ad 40 0))]) hx hb dX11_makesRoll_14 rfl hl (by decide) rfl (fun ls hl => ?_)
  obtain ⟨nn, q⟩ := q
  exact t_15 nn F2 0 _ _ _ hH hS (lv_sub hl [1, 0] rfl) q
abbrev rm_X11_casts : Room := { frames := 0, cells := 0, slots := 0, locals := 0 }
abbrev q_X11_casts (G : GP) (ad : Nat → Nat → Nat) (K : Int32 → GF → Prop) (below : List Frame) (args : Array Value) (s : State) : State → Prop := MQ below (gQi G ad K) args s 0 0 (gA G)
set_option maxHeartbeats 4000000 in
set_option maxRecDepth 100000 in
theorem c_X11_casts (l : Launch) (G : GP) (ad : Nat → Nat → Nat) (F : GF) (p1 : Int32) (p2 : Int32) (K : Int32 → GF → Prop) : Met l yX11_casts wsX11_casts rm_X11_casts (va_Pc [.ref (ad 40 0), .int p1, .int p2] (fun U => gD G ad F U ∧ P_X11_casts F p1 p2 K)) (gQi G ad K) 0 0 (gA G) := by
  refine Met.ofW (cc := cX11_casts) (maxL := 4) (ret := (some .int)) (by decide) rfl ?_
  intro p e s m args below meth c s₁ Bd hml hv
  obtain ⟨rfl, ⟨hK, hG, hB, hH⟩, q⟩ := hv
  have hx := Bd.exec
  have hb := Bd.bytes
  have hr := Bd.returns
  have hts := atoms_spec (ws := wsX11_casts) Bd.pre
  have hown : s.vm.findClass RX11 = some m.cls := findClass_of_methodNamed Bd.named
  have hlocks := Bd.notSynchronized
  have hS : va_S (gA G) s.heap s.heap [] := va_S.rf
  have hl := lv_entry [.ref (ad 40 0), .int p1, .int p2] (n := 4) (Nat.le_of_ble_eq_true rfl)
  rw [lg_entry_eq]
  generalize (lg_sl [.ref (ad 40 0), .int p1, .int p2] ++ List.replicate (4 - (lg_sl [.ref (ad 40 0), .int p1, .int p2]).length) Slot.unset).toArray = ls at hl ⊢
  have hl : lv_has ls 4 [(0, .ref (ad 40 0)), (1, .int p1), (2, .int p2)] := hl
  unfold P_X11_casts at q
  refine lv_aload_n hx hb dX11_casts_0 rfl (lv_at hl 0 rfl) ?_
  refine g_get (ci := 15) (v := .ref (ad 52 0)) (C := RX11) (T := TX11) (N := 44) hx hb hts (fun _ h => (List.mem_cons_of_mem _ (List.mem_append_left _ (List.mem_append_right _ h)))) hown hK hH 40 0 (by decide) Nat.zero_lt_one rfl rfl 20 (by decide) (hts (.fieldLink RX11 48 "BallotFoundryModel" "ownStation" "[I") (List.mem_of_getElem? (i := 1) rfl)) (fun _ h => h) rfl dX11_casts_1 ?_
  refine lv_iload_n hx hb dX11_casts_4 rfl (lv_at hl 1 rfl) ?_
  obtain ⟨h1, q⟩ := q
  refine g_iald hx hb hK hH 52 0 (by decide) Nat.zero_lt_one 20 rfl h1 dX11_casts_5 ?_
  refine lv_istore_n (lv' := [(3, .int (F 52 0 p1.toNatClampNeg)), (0, .ref (ad 40 0)), (1, .int p1), (2, .int p2)]) hx hb dX11_casts_6 rfl hl (by decide) rfl (fun ls hl => ?_)
  refine lv_aload_n hx hb dX11_casts_7 rfl (lv_at hl 1 rfl) ?_
  refine g_get (ci := 15) (v := .ref (ad 58 0)) (C := RX11) (T := TX11) (N := 44) hx hb hts (fun _ h => (List.mem_cons_of_mem _ (List.mem_append_left _ (List.mem_append_right _ h)))) hown hK hH 40 0 (by decide) Nat.zero_lt_one rfl rfl 27 (by decide) (hts (.fieldLink RX11 66 "BallotFoundryModel" "box" "[I") (List.mem_of_getElem? (i := 2) rfl)) (fun _ h => h) rfl dX11_casts_8 ?_
  refine lv_bipush (v := 20) hx hb dX11_casts_11 (by decide) ?_
  refine lv_iload_n hx hb dX11_casts_13 rfl (lv_at hl 0 rfl) ?_
  refine lv_imul hx hb dX11_casts_14 ?_
  refine lv_aload_n hx hb dX11_casts_15 rfl (lv_at hl 1 rfl) ?_
  refine g_get (ci := 15) (v := .ref (ad 59 0)) (C := RX11) (T := TX11) (N := 44) hx hb hts (fun _ h => (List.mem_cons_of_mem _ (List.mem_append_left _ (List.mem_append_right _ h)))) hown hK hH 40 0 (by decide) Nat.zero_lt_one rfl rfl 28 (by decide) (hts (.fieldLink RX11 69 "BallotFoundryModel" "ballots" "[I") (List.mem_of_getElem? (i := 3) rfl)) (fun _ h => h) rfl dX11_casts_16 ?_
  refine lv_iload_n hx hb dX11_casts_19 rfl (lv_at hl 0 rfl) ?_
  obtain ⟨h2, q⟩ := q
  refine g_iald hx hb hK hH 59 0 (by decide) Nat.zero_lt_one 5 rfl h2 dX11_casts_20 ?_
  refine lv_iadd hx hb dX11_casts_21 ?_
  refine lv_iload_n hx hb dX11_casts_22 rfl (lv_at hl 3 rfl) ?_
  obtain ⟨h3, q⟩ := q
  refine g_iast hx hb hK hH hS 58 0 (by decide) Nat.zero_lt_one (by decide) 100 (fun _ => rfl) h3 dX11_casts_23 (fun H locs hH hS => ?_)
  obtain ⟨F4, eF4⟩ : ∃ z, z = fs F 58 0 ((20 * (F 52 0 p1.toNatClampNeg)) + (F 59 0 (F 52 0 p1.toNatClampNeg).toNatClampNeg)).toNatClampNeg p2 := ⟨_, rfl⟩
  have q := q F4 eF4
  rw [← eF4] at hH
  refine lv_aload_n hx hb dX11_casts_24 rfl (lv_at hl 1 rfl) ?_
  refine g_get (ci := 15) (v := .ref (ad 59 0)) (C := RX11) (T := TX11) (N := 44) hx hb hts (fun _ h => (List.mem_cons_of_mem _ (List.mem_append_left _ (List.mem_append_right _ h)))) hown hK hH 40 0 (by decide) Nat.zero_lt_one rfl rfl 28 (by decide) (hts (.fieldLink RX11 69 "BallotFoundryModel" "ballots" "[I") (List.mem_of_getElem? (i := 3) rfl)) (fun _ h => h) rfl dX11_casts_25 ?_
  refine lv_iload_n hx hb dX11_casts_28 rfl (lv_at hl 0 rfl) ?_
  refine lv_dup2_11 hx hb dX11_casts_29 rfl rfl ?_
  obtain ⟨h5, q⟩ := q
  refine g_iald hx hb hK hH 59 0 (by decide) Nat.zero_lt_one 5 rfl h5 dX11_casts_30 ?_
  refine lv_iconst (v := 1) hx hb dX11_casts_31 (by decide) ?_
  refine lv_iadd hx hb dX11_casts_32 ?_
  obtain ⟨h6, q⟩ := q
  refine g_iast hx hb hK hH hS 59 0 (by decide) Nat.zero_lt_one (by decide) 5 (fun _ => rfl) h6 dX11_casts_33 (fun H locs hH hS => ?_)
  obtain ⟨F7, eF7⟩ : ∃ z, z = fs F4 59 0 (F 52 0 p1.toNatClampNeg).toNatClampNeg ((F4 59 0 (F 52 0 p1.toNatClampNeg).toNatClampNeg) + 1) := ⟨_, rfl⟩
  have q := q F7 eF7
  rw [← eF7] at hH
  refine lv_aload_n hx hb dX11_casts_34 rfl (lv_at hl 1 rfl) ?_
  refine g_get (ci := 15) (v := .ref (ad 54 0)) (C := RX11) (T := TX11) (N := 44) hx hb hts (fun _ h => (List.mem_cons_of_mem _ (List.mem_append_left _ (List.mem_append_right _ h)))) hown hK hH 40 0 (by decide) Nat.zero_lt_one rfl rfl 22 (by decide) (hts (.fieldLink RX11 54 "BallotFoundryModel" "voted" "[Z") (List.mem_of_getElem? (i := 4) rfl)) (fun _ h => h) rfl dX11_casts_35 ?_
  refine lv_iload_n hx hb dX11_casts_38 rfl (lv_at hl 2 rfl) ?_
  refine lv_iconst (v := 1) hx hb dX11_casts_39 (by decide) ?_
  obtain ⟨h8, q⟩ := q
  refine g_zast hx hb hK hH hS 54 0 (by decide) Nat.zero_lt_one (by decide) 20 (fun _ => rfl) h8 dX11_casts_40 (fun H locs hH hS => ?_)
  rw [gz_vp (by decide)] at hH
  obtain ⟨F9, eF9⟩ : ∃ z, z = fs F7 54 0 p1.toNatClampNeg 1 := ⟨_, rfl⟩
  have q := q F9 eF9
  rw [← eF9] at hH
  refine lv_aload_n hx hb dX11_casts_41 rfl (lv_at hl 1 rfl) ?_
  refine g_get (ci := 15) (v := .ref (ad 59 0)) (C := RX11) (T := TX11) (N := 44) hx hb hts (fun _ h => (List.mem_cons_of_mem _ (List.mem_append_left _ (List.mem_append_right _ h)))) hown hK hH 40 0 (by decide) Nat.zero_lt_one rfl rfl 28 (by decide) (hts (.fieldLink RX11 69 "BallotFoundryModel" "ballots" "[I") (List.mem_of_getElem? (i := 3) rfl)) (fun _ h => h) rfl dX11_casts_42 ?_
  refine lv_iload_n hx hb dX11_casts_45 rfl (lv_at hl 0 rfl) ?_
  obtain ⟨h10, q⟩ := q
  refine g_iald hx hb hK hH 59 0 (by decide) Nat.zero_lt_one 5 rfl h10 dX11_casts_46 ?_
  exact (W.iret (v := (F9 59 0 (F 52 0 p1.toNatClampNeg).toNatClampNeg)) hx hb hr (fun t ht hW => ⟨⟨(F9 59 0 (F 52 0 p1.toNatClampNeg).toNatClampNeg), F9, rfl, q, gH_at ht hH⟩, hS.F ht⟩) hS.2.2 dX11_casts_47)
