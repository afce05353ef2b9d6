set_option maxHeartbeats 4000000 in
set_option maxRecDepth 100000 in
theorem law_12 {p : Program} {l : Launch} {e : Env} {s : State} {m : MethodId} {below : List Frame} {meth : Method} {c : Code} {b L : Nat} {xs : Nat → Int32} {Q : State → Prop} {G : GP} (hfl : l.stackTraces = false) (hx : p.tables.exec = Jvm.exec) (hb : c.code = code) (hml : c.maxLocals = 7) (hown : s.vm.findClass RL = some m.cls) (hts : ∀ w ∈ wsL_law, w.before #[Value.ref b] s = true) (hX : va_X b L xs s s.heap) (hbl : b < s.heap.size) (hK : gK G s) (hG : gS G s) (hB : G.2.2.2 ≤ s.heap.size) (hL : gL s) (hBe : G.2.2.2 = s.heap.size) (ad : Nat → Nat → Nat) (F : GF) (x4 a1 a2 a3 : Int32) (hi1 : vp_in (x4 + 1) L) (hi2 : vp_in (x4 + 2) L) (hi3 : vp_in (x4 + 3) L) (ha1 : xs (x4 + 1).toNatClampNeg = a1) (ha2 : xs (x4 + 2).toNatClampNeg = a2) (ha3 : xs (x4 + 3).toNatClampNeg = a3) (cl sl : Nat) (hcl : cl + MCL ≤ 601024) (hsl : sl + MSL ≤ 7293034) (H : Heap) (locs : List Loc) (ls : Array Slot) (hH : gH G ad F H) (hS : va_S (gA G) s.heap H locs) (hl : lv_has ls 7 [(0, .ref b), (1, .ref (ad 0 0)), (2, .ref (ad 40 0)), (3, .ref (ad 79 0)), (4, .int x4)]) (K : GF → Prop) (hkk : ∀ (F1 : GF) (ad1 : Nat → Nat → Nat) (H : Heap) (locs : List Loc) (ls : Array Slot), (∀ f i : Nat, f ≠ 39 → ad1 f i = ad f i) → gH G ad1 F1 H → va_S (gA G) s.heap H locs → lv_has ls 7 [(0, .ref b), (1, .ref (ad1 0 0)), (2, .ref (ad1 40 0)), (3, .ref (ad1 79 0)), (4, .int x4)] → K F1 → W p l e room_1 s m #[Value.ref b] below meth c H locs (cl + MCL) (sl + MSL) Q (F0 m 2280 ls [])) (q : PL_12 a1 a2 a3 K F) : W p l e room_1 s m #[Value.ref b] below meth c H locs cl sl Q (F0 m 1003 ls []) := by
  have hbA : ¬ gA G b := by
    intro h
    have h2 : G.2.2.2 ≤ b := h
    omega
  unfold MCL at hcl
  unfold MSL at hsl
  unfold PL_12 at q
  refine lv_aload_n hx hb dL_law_1003 rfl (lv_at hl 1 rfl) ?_
  refine va_calli (va_runV (As := []) (rest := []) ⟨hx, hb, hml, hown, hts⟩ (c_X10_stage l G ad F _) (cwV 0 hts gL_law_X10_stage rfl rfl rfl (by decide +kernel) ⟨Nat.le_of_ble_eq_true rfl, Nat.le_of_ble_eq_true rfl⟩) ⟨fun a U g mk h => ⟨h.1, gD_blind h.2.1, h.2.2⟩, g_recv (C := RX10) (T := TX10) (N := 8) hK hH 0 0 (by decide) Nat.zero_lt_one rfl rfl, fun U hU hW => ⟨rfl, gD_at hK hG hB hH hS hU hW, q⟩⟩ rfl rfl hl.1 rfl (lv_room (Nat.le_of_ble_eq_true rfl)) dL_law_1004 ⟨by show cl + 0 + 0 ≤ 601024; omega, by show sl + 0 + 0 ≤ 7293034; omega⟩) hS (fun _ _ h => h) (fun _ h => h) (fun r1 F2 t H locs ht hvm q hB1 hz hk hS => ?_)
  have hH : gH G ad F2 H := gH_to ht hB1
  refine lv_aload_n hx hb dL_law_1007 rfl (lv_at hl 2 rfl) ?_
  refine va_calli (va_runV (As := []) (rest := [.int r1]) ⟨hx, hb, hml, hown, hts⟩ (c_X11_stage l G ad F2 _) (cwV 0 hts gL_law_X11_stage rfl rfl rfl (by decide +kernel) ⟨Nat.le_of_ble_eq_true rfl, Nat.le_of_ble_eq_true rfl⟩) ⟨fun a U g mk h => ⟨h.1, gD_blind h.2.1, h.2.2⟩, g_recv (C := RX11) (T := TX11) (N := 44) hK hH 40 0 (by decide) Nat.zero_lt_one rfl rfl, fun U hU hW => ⟨rfl, gD_at hK hG hB hH hS hU hW, q⟩⟩ rfl rfl hl.1 rfl (lv_room (Nat.le_of_ble_eq_true rfl)) dL_law_1008 ⟨by show cl + 0 + 0 ≤ 601024; omega, by show sl + 0 + 0 ≤ 7293034; omega⟩) hS (fun _ _ h => h) (fun _ h => h) (fun r3 F4 t H locs ht hvm q hB1 hz hk hS => ?_)
  have hH : gH G ad F4 H := gH_to ht hB1
  refine lv_icmp_eq (tgt := 2280) hx hb dL_law_1011 (by decide) (fun c5 => ?_) (fun c5 => ?_)
  · have q := (if_pos c5).mp q
    refine W.widen (k := cl + MCL) (n := sl + MSL) (by unfold MCL; omega) (by unfold MSL; omega) ?_
    exact hkk F4 ad _ _ _ (fun _ _ _ => rfl) hH hS (lv_sub hl [0, 1, 2, 3, 4] rfl) q
  · have q := (if_neg c5).mp q
    refine lv_iconst (v := 0) hx hb dL_law_1014 (by decide) ?_
    exact q.elim
set_option maxHeartbeats 4000000 in
set_option maxRecDepth 100000 in
theorem law_13 {p : Program} {l : Launch} {e : Env} {s : State} {m : MethodId} {below : List Frame} {meth : Method} {c : Code} {b L : Nat} {xs : Nat → Int32} {Q : State → Prop} {G : GP} (hfl : l.stackTraces = false) (hx : p.tables.exec = Jvm.exec) (hb : c.code = code) (hml : c.maxLocals = 7) (hown : s.vm.findClass RL = some m.cls) (hts : ∀ w ∈ wsL_law, w.before #[Value.ref b] s = true) (hX : va_X b L xs s s.heap) (hbl : b < s.heap.size) (hK : gK G s) (hG : gS G s) (hB : G.2.2.2 ≤ s.heap.size) (hL : gL s) (hBe : G.2.2.2 = s.heap.size) (ad : Nat → Nat → Nat) (F : GF) (x4 a1 a2 a3 : Int32) (hi1 : vp_in (x4 + 1) L) (hi2 : vp_in (x4 + 2) L) (hi3 : vp_in (x4 + 3) L) (ha1 : xs (x4 + 1).toNatClampNeg = a1) (ha2 : xs (x4 + 2).toNatClampNeg = a2) (ha3 : xs (x4 + 3).toNatClampNeg = a3) (cl sl : Nat) (hcl : cl + MCL ≤ 601024) (hsl : sl + MSL ≤ 7293034) (H : Heap) (locs : List Loc) (ls : Array Slot) (hH : gH G ad F H) (hS : va_S (gA G) s.heap H locs) (hl : lv_has ls 7 [(0, .ref b), (1, .ref (ad 0 0)), (2, .ref (ad 40 0)), (3, .ref (ad 79 0)), (4, .int x4)]) (K : GF → Prop) (hkk : ∀ (F1 : GF) (ad1 : Nat → Nat → Nat) (H : Heap) (locs : List Loc) (ls : Array Slot), (∀ f i : Nat, f ≠ 39 → ad1 f i = ad f i) → gH G ad1 F1 H → va_S (gA G) s.heap H locs → lv_has ls 7 [(0, .ref b), (1, .ref (ad1 0 0)), (2, .ref (ad1 40 0)), (3, .ref (ad1 79 0)), (4, .int x4)] → K F1 → W p l e room_1 s m #[Value.ref b] below meth c H locs (cl + MCL) (sl + MSL) Q (F0 m 2280 ls [])) (q : PL_13 a1 a2 a3 K F) : W p l e room_1 s m #[Value.ref b] below meth c H locs cl sl Q (F0 m 1016 ls []) := by
  have hbA : ¬ gA G b := by
    intro h
    have h2 : G.2.2.2 ≤ b := h
    omega
  unfold MCL at hcl
  unfold MSL at hsl
  have t_1070 : ∀ (F : GF) (s0 : Int32) (s1 : Int32) (H : Heap) (locs : List Loc) (ls : Array Slot), gH G ad F H → va_S (gA G) s.heap H locs → lv_has ls 7 [(0, .ref b), (1, .ref (ad 0 0)), (2, .ref (ad 40 0)), (3, .ref (ad 79 0)), (4, .int x4)] → (P_L_law_1070 a1 a2 a3 K) F s0 s1 → W p l e room_1 s m #[Value.ref b] below meth c H locs (cl + 1) (sl + 6) Q (F0 m 1070 ls [.long s1.toInt64, .long s0.toInt64]) := by
    intro F s0 s1 H locs ls hH hS hl q
    unfold P_L_law_1070 at q
    refine W.lcmp hx hb dL_law_1070 ?_
    refine lv_if_eq (tgt := 1076) hx hb dL_law_1071 (by decide) (fun c11 => ?_) (fun c11 => ?_)
    · have q := (if_pos (lcmp_eq.mp c11)).mp q
      refine lv_goto (tgt := 2280) hx hb dL_law_1076 (by decide) ?_
      refine W.widen (k := cl + MCL) (n := sl + MSL) (by unfold MCL; omega) (by unfold MSL; omega) ?_
      exact hkk F ad _ _ _ (fun _ _ _ => rfl) hH hS (lv_sub hl [0, 1, 2, 3, 4] rfl) q
    · have q := (if_neg (fun z => c11 (lcmp_eq.mpr z))).mp q
      refine lv_iconst (v := 0) hx hb dL_law_1074 (by decide) ?_
      exact q.elim
  unfold PL_13 at q
  refine lv_aload_n hx hb dL_law_1016 rfl (lv_at hl 1 rfl) ?_
  refine lv_aload_n hx hb dL_law_1017 rfl (lv_at hl 0 rfl) ?_
  refine lv_iload hx hb dL_law_1018 (lv_at hl 4 rfl) ?_
  refine lv_iconst (v := 1) hx hb dL_law_1020 (by decide) ?_
  refine lv_iadd hx hb dL_law_1021 ?_
  refine va_sld hx hb hX hbl hbA hS hi1 dL_law_1022 ?_
  rw [ha1]
  refine lv_aload_n hx hb dL_law_1023 rfl (lv_at hl 3 rfl) ?_
  refine va_calli (vx_runSW (As := [.ref (ad 0 0), .int a1, .ref (ad 79 0)]) (rest := []) ⟨hx, hb, hml, hown, hts⟩ (c_L_isOnRoll l hfl G ad F a1 _) (vx_cwSW 3 hts gL_law_L_isOnRoll rfl rfl rfl (by decide +kernel) ⟨Nat.le_of_ble_eq_true rfl, Nat.le_of_ble_eq_true rfl⟩) ⟨fun a U g mk h => ⟨h.1, ⟨gD_blind h.2.1.1, gL.moved (u := U) (U := U.calling g mk a) (Vm.Alike.refl U.vm) h.2.1.2⟩, h.2.2⟩, fun U hU hW => ⟨rfl, ⟨gD_at hK hG hB hH hS hU hW, gL.moved hW.alike hL⟩, q⟩⟩ rfl rfl hl.1 rfl (lv_room (Nat.le_of_ble_eq_true rfl)) dL_law_1024 ⟨by show cl + 0 + 1 ≤ 601024; omega, by show sl + 0 + 6 ≤ 7293034; omega⟩) hS (fun _ _ h => h) (fun _ h => h) (fun r1 F2 t H locs ht hvm q hB1 hz hk hS => ?_)
  have hH : gH G ad F2 H := gH_to ht hB1
  refine lv_istore (lv' := [(5, .int r1), (0, .ref b), (1, .ref (ad 0 0)), (2, .ref (ad 40 0)), (3, .ref (ad 79 0)), (4, .int x4)]) hx hb dL_law_1027 hl (by decide) rfl (fun ls hl => ?_)
  refine lv_aload_n hx hb dL_law_1029 rfl (lv_at hl 3 rfl) ?_
  refine lv_aload_n hx hb dL_law_1030 rfl (lv_at hl 1 rfl) ?_
  refine lv_iload hx hb dL_law_1031 (lv_at hl 5 rfl) ?_
  refine lv_iconst (v := 1) hx hb dL_law_1033 (by decide) ?_
  refine lv_iadd hx hb dL_law_1034 ?_
  refine va_sld hx hb hX hbl hbA hS hi1 dL_law_1035 ?_
  rw [ha1]
  refine va_calli (va_runV (As := [.int a1]) (rest := []) ⟨hx, hb, hml, hown, hts⟩ (c_X11_isOnRoll l G ad F2 a1 _) (cwV 1 hts gL_law_X11_isOnRoll rfl rfl rfl (by decide +kernel) ⟨Nat.le_of_ble_eq_true rfl, Nat.le_of_ble_eq_true rfl⟩) ⟨fun a U g mk h => ⟨h.1, gD_blind h.2.1, h.2.2⟩, g_recv (C := RX11) (T := TX11) (N := 44) hK hH 40 0 (by decide) Nat.zero_lt_one rfl rfl, fun U hU hW => ⟨rfl, gD_at hK hG hB hH hS hU hW, q⟩⟩ rfl rfl hl.1 rfl (lv_room (Nat.le_of_ble_eq_true rfl)) dL_law_1036 ⟨by show cl + 1 + 0 ≤ 601024; omega, by show sl + 6 + 0 ≤ 7293034; omega⟩) hS (fun _ _ h => h) (fun _ h => h) (fun r3 F4 t H locs ht hvm q hB1 hz hk hS => ?_)
  have hH : gH G ad F4 H := gH_to ht hB1
  refine lv_istore (lv' := [(6, .int r3), (5, .int r1), (0, .ref b), (1, .ref (ad 0 0)), (2, .ref (ad 40 0)), (3, .ref (ad 79 0)), (4, .int x4)]) hx hb dL_law_1039 hl (by decide) rfl (fun ls hl => ?_)
  refine lv_aload_n hx hb dL_law_1041 rfl (lv_at hl 4 rfl) ?_
  refine va_calli (va_runV (As := []) (rest := []) ⟨hx, hb, hml, hown, hts⟩ (c_X11_thrown l G ad F4 _) (cwV 0 hts gL_law_X11_thrown rfl rfl rfl (by decide +kernel) ⟨Nat.le_of_ble_eq_true rfl, Nat.le_of_ble_eq_true rfl⟩) ⟨fun a U g mk h => ⟨h.1, gD_blind h.2.1, h.2.2⟩, g_recv (C := RX11) (T := TX11) (N := 44) hK hH 40 0 (by decide) Nat.zero_lt_one rfl rfl, fun U hU hW => ⟨rfl, gD_at hK hG hB hH hS hU hW, q⟩⟩ rfl rfl hl.1 rfl (lv_room (Nat.le_of_ble_eq_true rfl)) dL_law_1042 ⟨by show cl + 1 + 0 ≤ 601024; omega, by show sl + 6 + 0 ≤ 7293034; omega⟩) hS (fun _ _ h => h) (fun _ h => h) (fun r5 F6 t H locs ht hvm q hB1 hz hk hS => ?_)
  have hH : gH G ad F6 H := gH_to ht hB1
  refine lv_iload hx hb dL_law_1045 (lv_at hl 1 rfl) ?_
  refine lv_icmp_eq (tgt := 1052) hx hb dL_law_1047 (by decide) (fun c7 => ?_) (fun c7 => ?_)
  · have q := (if_pos c7).mp q
    refine lv_iload hx hb dL_law_1052 (lv_at hl 1 rfl) ?_
    refine lv_if_ne (tgt := 1076) hx hb dL_law_1054 (by decide) (fun c8 => ?_) (fun c8 => ?_)
    · have q := (if_neg c8).mp q
      refine lv_goto (tgt := 2280) hx hb dL_law_1076 (by decide) ?_
      refine W.widen (k := cl + MCL) (n := sl + MSL) (by unfold MCL; omega) (by unfold MSL; omega) ?_
      exact hkk F6 ad _ _ _ (fun _ _ _ => rfl) hH hS (lv_sub hl [2, 3, 4, 5, 6] rfl) q
    · have q := (if_pos c8).mp q
      refine lv_aload_n hx hb dL_law_1057 rfl (lv_at hl 5 rfl) ?_
      refine lv_iconst (v := 0) hx hb dL_law_1058 (by decide) ?_
      obtain ⟨h9, q⟩ := q
      refine g_lald hx hb hK hH h9 dL_law_1059 ?_
      refine lv_iload hx hb dL_law_1060 (lv_at hl 0 rfl) ?_
      refine lv_if_eq (tgt := 1069) hx hb dL_law_1062 (by decide) (fun c10 => ?_) (fun c10 => ?_)
      · have q := (if_pos c10).mp q
        refine lv_lconst (v := (0 : Int32).toInt64) hx hb dL_law_1069 (by decide) ?_
        exact t_1070 F6 (F6 79 0 (0 : Int32).toNatClampNeg) 0 _ _ _ hH hS (lv_sub hl [2, 3, 4, 5, 6] rfl) q
      · have q := (if_neg c10).mp q
        refine lv_lconst (v := (1 : Int32).toInt64) hx hb dL_law_1065 (by decide) ?_
        refine lv_goto (tgt := 1070) hx hb dL_law_1066 (by decide) ?_
        exact t_1070 F6 (F6 79 0 (0 : Int32).toNatClampNeg) 1 _ _ _ hH hS (lv_sub hl [2, 3, 4, 5, 6] rfl) q
  · have q := (if_neg c7).mp q
    refine lv_iconst (v := 0) hx hb dL_law_1050 (by decide) ?_
    exact q.elim
set_option maxHeartbeats 4000000 in
set_option maxRecDepth 100000 in
theorem law_14 {p : Program} {l : Launch} {e : Env} {s : State} {m : MethodId} {below : List Frame} {meth : Method} {c : Code} {b L : Nat} {xs : Nat → Int32} {Q : State → Prop} {G : GP} (hfl : l.stackTraces = false) (hx : p.tables.exec = Jvm.exec) (hb : c.code = code) (hml : c.maxLocals = 7) (hown : s.vm.findClass RL = some m.cls) (hts : ∀ w ∈ wsL_law, w.before #[Value.ref b] s = true) (hX : va_X b L xs s s.heap) (hbl : b < s.heap.size) (hK : gK G s) (hG : gS G s) (hB : G.2.2.2 ≤ s.heap.size) (hL : gL s) (hBe : G.2.2.2 = s.heap.size) (ad : Nat → Nat → Nat) (F : GF) (x4 a1 a2 a3 : Int32) (hi1 : vp_in (x4 + 1) L) (hi2 : vp_in (x4 + 2) L) (hi3 : vp_in (x4 + 3) L) (ha1 : xs (x4 + 1).toNatClampNeg = a1) (ha2 : xs (x4 + 2).toNatClampNeg = a2) (ha3 : xs (x4 + 3).toNatClampNeg = a3) (cl sl : Nat) (hcl : cl + MCL ≤ 601024) (hsl : sl + MSL ≤ 7293034) (H : Heap) (locs : List Loc) (ls : Array Slot) (hH : gH G ad F H) (hS : va_S (gA G) s.heap H locs) (hl : lv_has ls 7 [(0, .ref b), (1, .ref (ad 0 0)), (2, .ref (ad 40 0)), (3, .ref (ad 79 0)), (4, .int x4)]) (K : GF → Prop) (hkk : ∀ (F1 : GF) (ad1 : Nat → Nat → Nat) (H : Heap) (locs : List Loc) (ls : Array Slot), (∀ f i : Nat, f ≠ 39 → ad1 f i = ad f i) → gH G ad1 F1 H → va_S (gA G) s.heap H locs → lv_has ls 7 [(0, .ref b), (1, .ref (ad1 0 0)), (2, .ref (ad1 40 0)), (3, .ref (ad1 79 0)), (4, .int x4)] → K F1 → W p l e room_1 s m #[Value.ref b] below meth c H locs (cl + MCL) (sl + MSL) Q (F0 m 2280 ls [])) (q : PL_14 a1 a2 a3 K F) : W p l e room_1 s m #[Value.ref b] below meth c H locs cl sl Q (F0 m 1079 ls []) := by
  have hbA : ¬ gA G b := by
    intro h
    have h2 : G.2.2.2 ≤ b := h
    omega
  unfold MCL at hcl
  unfold MSL at hsl
  unfold PL_14 at q
  refine lv_aload_n hx hb dL_law_1079 rfl (lv_at hl 1 rfl) ?_
  refine lv_aload_n hx hb dL_law_1080 rfl (lv_at hl 0 rfl) ?_
  refine lv_iload hx hb dL_law_1081 (lv_at hl 4 rfl) ?_
  refine lv_iconst (v := 1) hx hb dL_law_1083 (by decide) ?_
  refine lv_iadd hx hb dL_law_1084 ?_
  refine va_sld hx hb hX hbl hbA hS hi1 dL_law_1085 ?_
  rw [ha1]
  refine lv_aload_n hx hb dL_law_1086 rfl (lv_at hl 3 rfl) ?_
  refine va_calli (vx_runSW (As := [.ref (ad 0 0), .int a1, .ref (ad 79 0)]) (rest := []) ⟨hx, hb, hml, hown, hts⟩ (c_L_stationOf l hfl G ad F a1 _) (vx_cwSW 3 hts gL_law_L_stationOf rfl rfl rfl (by decide +kernel) ⟨Nat.le_of_ble_eq_true rfl, Nat.le_of_ble_eq_true rfl⟩) ⟨fun a U g mk h => ⟨h.1, ⟨gD_blind h.2.1.1, gL.moved (u := U) (U := U.calling g mk a) (Vm.Alike.refl U.vm) h.2.1.2⟩, h.2.2⟩, fun U hU hW => ⟨rfl, ⟨gD_at hK hG hB hH hS hU hW, gL.moved hW.alike hL⟩, q⟩⟩ rfl rfl hl.1 rfl (lv_room (Nat.le_of_ble_eq_true rfl)) dL_law_1087 ⟨by show cl + 0 + 1 ≤ 601024; omega, by show sl + 0 + 6 ≤ 7293034; omega⟩) hS (fun _ _ h => h) (fun _ h => h) (fun r1 F2 t H locs ht hvm q hB1 hz hk hS => ?_)
  have hH : gH G ad F2 H := gH_to ht hB1
  refine lv_istore (lv' := [(5, .int r1), (0, .ref b), (1, .ref (ad 0 0)), (2, .ref (ad 40 0)), (3, .ref (ad 79 0)), (4, .int x4)]) hx hb dL_law_1090 hl (by decide) rfl (fun ls hl => ?_)
  refine lv_aload_n hx hb dL_law_1092 rfl (lv_at hl 3 rfl) ?_
  refine lv_aload_n hx hb dL_law_1093 rfl (lv_at hl 1 rfl) ?_
  refine lv_iload hx hb dL_law_1094 (lv_at hl 5 rfl) ?_
  refine lv_iconst (v := 1) hx hb dL_law_1096 (by decide) ?_
  refine lv_iadd hx hb dL_law_1097 ?_
  refine va_sld hx hb hX hbl hbA hS hi1 dL_law_1098 ?_
  rw [ha1]
  refine va_calli (va_runV (As := [.int a1]) (rest := []) ⟨hx, hb, hml, hown, hts⟩ (c_X11_stationOf l G ad F2 a1 _) (cwV 1 hts gL_law_X11_stationOf rfl rfl rfl (by decide +kernel) ⟨Nat.le_of_ble_eq_true rfl, Nat.le_of_ble_eq_true rfl⟩) ⟨fun a U g mk h => ⟨h.1, gD_blind h.2.1, h.2.2⟩, g_recv (C := RX11) (T := TX11) (N := 44) hK hH 40 0 (by decide) Nat.zero_lt_one rfl rfl, fun U hU hW => ⟨rfl, gD_at hK hG hB hH hS hU hW, q⟩⟩ rfl rfl hl.1 rfl (lv_room (Nat.le_of_ble_eq_true rfl)) dL_law_1099 ⟨by show cl + 1 + 0 ≤ 601024; omega, by show sl + 6 + 0 ≤ 7293034; omega⟩) hS (fun _ _ h => h) (fun _ h => h) (fun r3 F4 t H locs ht hvm q hB1 hz hk hS => ?_)
  have hH : gH G ad F4 H := gH_to ht hB1
  refine lv_istore (lv' := [(6, .int r3), (5, .int r1), (0, .ref b), (1, .ref (ad 0 0)), (2, .ref (ad 40 0)), (3, .ref (ad 79 0)), (4, .int x4)]) hx hb dL_law_1102 hl (by decide) rfl (fun ls hl => ?_)
  refine lv_aload_n hx hb dL_law_1104 rfl (lv_at hl 4 rfl) ?_
  refine va_calli (va_runV (As := []) (rest := []) ⟨hx, hb, hml, hown, hts⟩ (c_X11_thrown l G ad F4 _) (cwV 0 hts gL_law_X11_thrown rfl rfl rfl (by decide +kernel) ⟨Nat.le_of_ble_eq_true rfl, Nat.le_of_ble_eq_true rfl⟩) ⟨fun a U g mk h => ⟨h.1, gD_blind h.2.1, h.2.2⟩, g_recv (C := RX11) (T := TX11) (N := 44) hK hH 40 0 (by decide) Nat.zero_lt_one rfl rfl, fun U hU hW => ⟨rfl, gD_at hK hG hB hH hS hU hW, q⟩⟩ rfl rfl hl.1 rfl (lv_room (Nat.le_of_ble_eq_true rfl)) dL_law_1105 ⟨by show cl + 1 + 0 ≤ 601024; omega, by show sl + 6 + 0 ≤ 7293034; omega⟩) hS (fun _ _ h => h) (fun _ h => h) (fun r5 F6 t H locs ht hvm q hB1 hz hk hS => ?_)
  have hH : gH G ad F6 H := gH_to ht hB1
  refine lv_iload hx hb dL_law_1108 (lv_at hl 1 rfl) ?_
  refine lv_icmp_eq (tgt := 1115) hx hb dL_law_1110 (by decide) (fun c7 => ?_) (fun c7 => ?_)
  · have q := (if_pos c7).mp q
    refine lv_iload hx hb dL_law_1115 (lv_at hl 1 rfl) ?_
    refine lv_if_ne (tgt := 1132) hx hb dL_law_1117 (by decide) (fun c8 => ?_) (fun c8 => ?_)
    · have q := (if_neg c8).mp q
      refine lv_goto (tgt := 2280) hx hb dL_law_1132 (by decide) ?_
      refine W.widen (k := cl + MCL) (n := sl + MSL) (by unfold MCL; omega) (by unfold MSL; omega) ?_
      exact hkk F6 ad _ _ _ (fun _ _ _ => rfl) hH hS (lv_sub hl [2, 3, 4, 5, 6] rfl) q
    · have q := (if_pos c8).mp q
      refine lv_aload_n hx hb dL_law_1120 rfl (lv_at hl 5 rfl) ?_
      refine lv_iconst (v := 0) hx hb dL_law_1121 (by decide) ?_
      obtain ⟨h9, q⟩ := q
      refine g_lald hx hb hK hH h9 dL_law_1122 ?_
      refine lv_iload hx hb dL_law_1123 (lv_at hl 0 rfl) ?_
      refine lv_i2l (v := r3.toInt64) hx hb dL_law_1125 rfl ?_
      refine W.lcmp hx hb dL_law_1126 ?_
      refine lv_if_eq (tgt := 1132) hx hb dL_law_1127 (by decide) (fun c10 => ?_) (fun c10 => ?_)
      · have q := (if_pos (lcmp_eq.mp c10)).mp q
        refine lv_goto (tgt := 2280) hx hb dL_law_1132 (by decide) ?_
        refine W.widen (k := cl + MCL) (n := sl + MSL) (by unfold MCL; omega) (by unfold MSL; omega) ?_
        exact hkk F6 ad _ _ _ (fun _ _ _ => rfl) hH hS (lv_sub hl [2, 3, 4, 5, 6] rfl) q
      · have q := (if_neg (fun z => c10 (lcmp_eq.mpr z))).mp q
        refine lv_iconst (v := 0) hx hb dL_law_1130 (by decide) ?_
        exact q.elim
  · have q := (if_neg c7).mp q
    refine lv_iconst (v := 0) hx hb dL_law_1113 (by decide) ?_
    exact q.elim
set_option maxHeartbeats 4000000 in
set_option maxRecDepth 100000 in
theorem law_15 {p : Program} {l : Launch} {e : Env} {s : State} {m : MethodId} {below : List Frame} {meth : Method} {c : Code} {b L : Nat} {xs : Nat → Int32} {Q : State → Prop} {G : GP} (hfl : l.stackTraces = false) (hx : p.tables.exec = Jvm.exec) (hb : c.code = code) (hml : c.maxLocals = 7) (hown : s.vm.findClass RL = some m.cls) (hts : ∀ w ∈ wsL_law, w.before #[Value.ref b] s = true) (hX : va_X b L xs s s.heap) (hbl : b < s.heap.size) (hK : gK G s) (hG : gS G s) (hB : G.2.2.2 ≤ s.heap.size) (hL : gL s) (hBe : G.2.2.2 = s.heap.size) (ad : Nat → Nat → Nat) (F : GF) (x4 a1 a2 a3 : Int32) (hi1 : vp_in (x4 + 1) L) (hi2 : vp_in (x4 + 2) L) (hi3 : vp_in (x4 + 3) L) (ha1 : xs (x4 + 1).toNatClampNeg = a1) (ha2 : xs (x4 + 2).toNatClampNeg = a2) (ha3 : xs (x4 + 3).toNatClampNeg = a3) (cl sl : Nat) (hcl : cl + MCL ≤ 601024) (hsl : sl + MSL ≤ 7293034) (H : Heap) (locs : List Loc) (ls : Array Slot) (hH : gH G ad F H) (hS : va_S (gA G) s.heap H locs) (hl : lv_has ls 7 [(0, .ref b), (1, .ref (ad 0 0)), (2, .ref (ad 40 0)), (3, .ref (ad 79 0)), (4, .int x4)]) (K : GF → Prop) (hkk : ∀ (F1 : GF) (ad1 : Nat → Nat → Nat) (H : Heap) (locs : List Loc) (ls : Array Slot), (∀ f i : Nat, f ≠ 39 → ad1 f i = ad f i) → gH G ad1 F1 H → va_S (gA G) s.heap H locs → lv_has ls 7 [(0, .ref b), (1, .ref (ad1 0 0)), (2, .ref (ad1 40 0)), (3, .ref (ad1 79 0)), (4, .int x4)] → K F1 → W p l e room_1 s m #[Value.ref b] below meth c H locs (cl + MCL) (sl + MSL) Q (F0 m 2280 ls [])) (q : PL_15 a1 a2 a3 K F) : W p l e room_1 s m #[Value.ref b] below meth c H locs cl sl Q (F0 m 1135 ls []) := by
  have hbA : ¬ gA G b := by
    intro h
    have h2 : G.2.2.2 ≤ b := h
    omega
  unfold MCL at hcl
  unfold MSL at hsl
  unfold PL_15 at q
  refine lv_aload_n hx hb dL_law_1135 rfl (lv_at hl 1 rfl) ?_
  refine lv_aload_n hx hb dL_law_1136 rfl (lv_at hl 0 rfl) ?_
  refine lv_iload hx hb dL_law_1137 (lv_at hl 4 rfl) ?_
  refine lv_iconst (v := 1) hx hb dL_law_1139 (by decide) ?_
  refine lv_iadd hx hb dL_law_1140 ?_
  refine va_sld hx hb hX hbl hbA hS hi1 dL_law_1141 ?_
  rw [ha1]
  refine lv_aload_n hx hb dL_law_1142 rfl (lv_at hl 3 rfl) ?_
  refine va_calli (vx_runSW (As := [.ref (ad 0 0), .int a1, .ref (ad 79 0)]) (rest := []) ⟨hx, hb, hml, hown, hts⟩ (c_L_peopleOf l hfl G ad F a1 _) (vx_cwSW 3 hts gL_law_L_peopleOf rfl rfl rfl (by decide +kernel) ⟨Nat.le_of_ble_eq_true rfl, Nat.le_of_ble_eq_true rfl⟩) ⟨fun a U g mk h => ⟨h.1, ⟨gD_blind h.2.1.1, gL.moved (u := U) (U := U.calling g mk a) (Vm.Alike.refl U.vm) h.2.1.2⟩, h.2.2⟩, fun U hU hW => ⟨rfl, ⟨gD_at hK hG hB hH hS hU hW, gL.moved hW.alike hL⟩, q⟩⟩ rfl rfl hl.1 rfl (lv_room (Nat.le_of_ble_eq_true rfl)) dL_law_1143 ⟨by show cl + 0 + 1 ≤ 601024; omega, by show sl + 0 + 6 ≤ 7293034; omega⟩) hS (fun _ _ h => h) (fun _ h => h) (fun r1 F2 t H locs ht hvm q hB1 hz hk hS => ?_)
  have hH : gH G ad F2 H := gH_to ht hB1
  refine lv_istore (lv' := [(5, .int r1), (0, .ref b), (1, .ref (ad 0 0)), (2, .ref (ad 40 0)), (3, .ref (ad 79 0)), (4, .int x4)]) hx hb dL_law_1146 hl (by decide) rfl (fun ls hl => ?_)
  refine lv_aload_n hx hb dL_law_1148 rfl (lv_at hl 3 rfl) ?_
  refine lv_aload_n hx hb dL_law_1149 rfl (lv_at hl 1 rfl) ?_
  refine lv_iload hx hb dL_law_1150 (lv_at hl 5 rfl) ?_
  refine lv_iconst (v := 1) hx hb dL_law_1152 (by decide) ?_
  refine lv_iadd hx hb dL_law_1153 ?_
  refine va_sld hx hb hX hbl hbA hS hi1 dL_law_1154 ?_
  rw [ha1]
  refine va_calli (va_runV (As := [.int a1]) (rest := []) ⟨hx, hb, hml, hown, hts⟩ (c_X11_peopleOf l G ad F2 a1 _) (cwV 1 hts gL_law_X11_peopleOf rfl rfl rfl (by decide +kernel) ⟨Nat.le_of_ble_eq_true rfl, Nat.le_of_ble_eq_true rfl⟩) ⟨fun a U g mk h => ⟨h.1, gD_blind h.2.1, h.2.2⟩, g_recv (C := RX11) (T := TX11) (N := 44) hK hH 40 0 (by decide) Nat.zero_lt_one rfl rfl, fun U hU hW => ⟨rfl, gD_at hK hG hB hH hS hU hW, q⟩⟩ rfl rfl hl.1 rfl (lv_room (Nat.le_of_ble_eq_true rfl)) dL_law_1155 ⟨by show cl + 1 + 0 ≤ 601024; omega, by show sl + 6 + 0 ≤ 7293034; omega⟩) hS (fun _ _ h => h) (fun _ h => h) (fun r3 F4 t H locs ht hvm q hB1 hz hk hS => ?_)
  have hH : gH G ad F4 H := gH_to ht hB1
  refine lv_istore (lv' := [(6, .int r3), (5, .int r1), (0, .ref b), (1, .ref (ad 0 0)), (2, .ref (ad 40 0)), (3, .ref (ad 79 0)), (4, .int x4)]) hx hb dL_law_1158 hl (by decide) rfl (fun ls hl => ?_)
  refine lv_aload_n hx hb dL_law_1160 rfl (lv_at hl 4 rfl) ?_
  refine va_calli (va_runV (As := []) (rest := []) ⟨hx, hb, hml, hown, hts⟩ (c_X11_thrown l G ad F4 _) (cwV 0 hts gL_law_X11_thrown rfl rfl rfl (by decide +kernel) ⟨Nat.le_of_ble_eq_true rfl, Nat.le_of_ble_eq_true rfl⟩) ⟨fun a U g mk h => ⟨h.1, gD_blind h.2.1, h.2.2⟩, g_recv (C := RX11) (T := TX11) (N := 44) hK hH 40 0 (by decide) Nat.zero_lt_one rfl rfl, fun U hU hW => ⟨rfl, gD_at hK hG hB hH hS hU hW, q⟩⟩ rfl rfl hl.1 rfl (lv_room (Nat.le_of_ble_eq_true rfl)) dL_law_1161 ⟨by show cl + 1 + 0 ≤ 601024; omega, by show sl + 6 + 0 ≤ 7293034; omega⟩) hS (fun _ _ h => h) (fun _ h => h) (fun r5 F6 t H locs ht hvm q hB1 hz hk hS => ?_)
  have hH : gH G ad F6 H := gH_to ht hB1
  refine lv_iload hx hb dL_law_1164 (lv_at hl 1 rfl) ?_
  refine lv_icmp_eq (tgt := 1171) hx hb dL_law_1166 (by decide) (fun c7 => ?_) (fun c7 => ?_)
  · have q := (if_pos c7).mp q
    refine lv_iload hx hb dL_law_1171 (lv_at hl 1 rfl) ?_
    refine lv_if_ne (tgt := 1188) hx hb dL_law_1173 (by decide) (fun c8 => ?_) (fun c8 => ?_)
    · have q := (if_neg c8).mp q
      refine lv_goto (tgt := 2280) hx hb dL_law_1188 (by decide) ?_
      refine W.widen (k := cl + MCL) (n := sl + MSL) (by unfold MCL; omega) (by unfold MSL; omega) ?_
      exact hkk F6 ad _ _ _ (fun _ _ _ => rfl) hH hS (lv_sub hl [2, 3, 4, 5, 6] rfl) q
    · have q := (if_pos c8).mp q
      refine lv_aload_n hx hb dL_law_1176 rfl (lv_at hl 5 rfl) ?_
      refine lv_iconst (v := 0) hx hb dL_law_1177 (by decide) ?_
      obtain ⟨h9, q⟩ := q
      refine g_lald hx hb hK hH h9 dL_law_1178 ?_
      refine lv_iload hx hb dL_law_1179 (lv_at hl 0 rfl) ?_
      refine lv_i2l (v := r3.toInt64) hx hb dL_law_1181 rfl ?_
      refine W.lcmp hx hb dL_law_1182 ?_
      refine lv_if_eq (tgt := 1188) hx hb dL_law_1183 (by decide) (fun c10 => ?_) (fun c10 => ?_)
      · have q := (if_pos (lcmp_eq.mp c10)).mp q
        refine lv_goto (tgt := 2280) hx hb dL_law_1188 (by decide) ?_
        refine W.widen (k := cl + MCL) (n := sl + MSL) (by unfold MCL; omega) (by unfold MSL; omega) ?_
        exact hkk F6 ad _ _ _ (fun _ _ _ => rfl) hH hS (lv_sub hl [2, 3, 4, 5, 6] rfl) q
      · have q := (if_neg (fun z => c10 (lcmp_eq.mpr z))).mp q
        refine lv_iconst (v := 0) hx hb dL_law_1186 (by decide) ?_
        exact q.elim
  · have q := (if_neg c7).mp q
    refine lv_iconst (v := 0) hx hb dL_law_1169 (by decide) ?_
    exact q.elim
set_option maxHeartbeats 4000000 in
set_option maxRecDepth 100000 in
theorem law_16 {p : Program} {l : Launch} {e : Env} {s : State} {m : MethodId} {below : List Frame} {meth : Method} {c : Code} {b L : Nat} {xs : Nat → Int32} {Q : State → Prop} {G : GP} (hfl : l.stackTraces = false) (hx : p.tables.exec = Jvm.exec) (hb : c.code = code) (hml : c.maxLocals = 7) (hown : s.vm.findClass RL = some m.cls) (hts : ∀ w ∈ wsL_law, w.before #[Value.ref b] s = true) (hX : va_X b L xs s s.heap) (hbl : b < s.heap.size) (hK : gK G s) (hG : gS G s) (hB : G.2.2.2 ≤ s.heap.size) (hL : gL s) (hBe : G.2.2.2 = s.heap.size) (ad : Nat → Nat → Nat) (F : GF) (x4 a1 a2 a3 : Int32) (hi1 : vp_in (x4 + 1) L) (hi2 : vp_in (x4 + 2) L) (hi3 : vp_in (x4 + 3) L) (ha1 : xs (x4 + 1).toNatClampNeg = a1) (ha2 : xs (x4 + 2).toNatClampNeg = a2) (ha3 : xs (x4 + 3).toNatClampNeg = a3) (cl sl : Nat) (hcl : cl + MCL ≤ 601024) (hsl : sl + MSL ≤ 7293034) (H : Heap) (locs : List Loc) (ls : Array Slot) (hH : gH G ad F H) (hS : va_S (gA G) s.heap H locs) (hl : lv_has ls 7 [(0, .ref b), (1, .ref (ad 0 0)), (2, .ref (ad 40 0)), (3, .ref (ad 79 0)), (4, .int x4)]) (K : GF → Prop) (hkk : ∀ (F1 : GF) (ad1 : Nat → Nat → Nat) (H : Heap) (locs : List Loc) (ls : Array Slot), (∀ f i : Nat, f ≠ 39 → ad1 f i = ad f i) → gH G ad1 F1 H → va_S (gA G) s.heap H locs → lv_has ls 7 [(0, .ref b), (1, .ref (ad1 0 0)), (2, .ref (ad1 40 0)), (3, .ref (ad1 79 0)), (4, .int x4)] → K F1 → W p l e room_1 s m #[Value.ref b] below meth c H locs (cl + MCL) (sl + MSL) Q (F0 m 2280 ls [])) (q : PL_16 a1 a2 a3 K F) : W p l e room_1 s m #[Value.ref b] below meth c H locs cl sl Q (F0 m 1191 ls []) := by
  have hbA : ¬ gA G b := by
    intro h
    have h2 : G.2.2.2 ≤ b := h
    omega
  unfold MCL at hcl
  unfold MSL at hsl
  unfold PL_16 at q
  refine lv_aload_n hx hb dL_law_1191 rfl (lv_at hl 1 rfl) ?_
  refine lv_aload_n hx hb dL_law_1192 rfl (lv_at hl 0 rfl) ?_
  refine lv_iload hx hb dL_law_1193 (lv_at hl 4 rfl) ?_
  refine lv_iconst (v := 1) hx hb dL_law_1195 (by decide) ?_
  refine lv_iadd hx hb dL_law_1196 ?_
  refine va_sld hx hb hX hbl hbA hS hi1 dL_law_1197 ?_
  rw [ha1]
  refine lv_aload_n hx hb dL_law_1198 rfl (lv_at hl 0 rfl) ?_
  refine lv_iload hx hb dL_law_1199 (lv_at hl 4 rfl) ?_
  refine lv_iconst (v := 2) hx hb dL_law_1201 (by decide) ?_
  refine lv_iadd hx hb dL_law_1202 ?_
  refine va_sld hx hb hX hbl hbA hS hi2 dL_law_1203 ?_
  rw [ha2]
  refine lv_aload_n hx hb dL_law_1204 rfl (lv_at hl 3 rfl) ?_
  refine va_calli (vx_runSW (As := [.ref (ad 0 0), .int a1, .int a2, .ref (ad 79 0)]) (rest := []) ⟨hx, hb, hml, hown, hts⟩ (c_L_early l hfl G ad F a1 a2 _) (vx_cwSW 4 hts gL_law_L_early rfl rfl rfl (by decide +kernel) ⟨Nat.le_of_ble_eq_true rfl, Nat.le_of_ble_eq_true rfl⟩) ⟨fun a U g mk h => ⟨h.1, ⟨gD_blind h.2.1.1, gL.moved (u := U) (U := U.calling g mk a) (Vm.Alike.refl U.vm) h.2.1.2⟩, h.2.2⟩, fun U hU hW => ⟨rfl, ⟨gD_at hK hG hB hH hS hU hW, gL.moved hW.alike hL⟩, q⟩⟩ rfl rfl hl.1 rfl (lv_room (Nat.le_of_ble_eq_true rfl)) dL_law_1205 ⟨by show cl + 0 + 6 ≤ 601024; omega, by show sl + 0 + 36 ≤ 7293034; omega⟩) hS (fun _ _ h => h) (fun _ h => h) (fun r1 F2 t H locs ht hvm q hB1 hz hk hS => ?_)
  have hH : gH G ad F2 H := gH_to ht hB1
  refine lv_istore (lv' := [(5, .int r1), (0, .ref b), (1, .ref (ad 0 0)), (2, .ref (ad 40 0)), (3, .ref (ad 79 0)), (4, .int x4)]) hx hb dL_law_1208 hl (by decide) rfl (fun ls hl => ?_)
  refine lv_aload_n hx hb dL_law_1210 rfl (lv_at hl 3 rfl) ?_
  refine lv_aload_n hx hb dL_law_1211 rfl (lv_at hl 1 rfl) ?_
  refine lv_iload hx hb dL_law_1212 (lv_at hl 5 rfl) ?_
  refine lv_iconst (v := 1) hx hb dL_law_1214 (by decide) ?_
  refine lv_iadd hx hb dL_law_1215 ?_
  refine va_sld hx hb hX hbl hbA hS hi1 dL_law_1216 ?_
  rw [ha1]
  refine lv_aload_n hx hb dL_law_1217 rfl (lv_at hl 1 rfl) ?_
  refine lv_iload hx hb dL_law_1218 (lv_at hl 5 rfl) ?_
  refine lv_iconst (v := 2) hx hb dL_law_1220 (by decide) ?_
  refine lv_iadd hx hb dL_law_1221 ?_
  refine va_sld hx hb hX hbl hbA hS hi2 dL_law_1222 ?_
  rw [ha2]
  refine va_calli (va_runV (As := [.int a1, .int a2]) (rest := []) ⟨hx, hb, hml, hown, hts⟩ (c_X11_early l G ad F2 a1 a2 _) (cwV 2 hts gL_law_X11_early rfl rfl rfl (by decide +kernel) ⟨Nat.le_of_ble_eq_true rfl, Nat.le_of_ble_eq_true rfl⟩) ⟨fun a U g mk h => ⟨h.1, gD_blind h.2.1, h.2.2⟩, g_recv (C := RX11) (T := TX11) (N := 44) hK hH 40 0 (by decide) Nat.zero_lt_one rfl rfl, fun U hU hW => ⟨rfl, gD_at hK hG hB hH hS hU hW, q⟩⟩ rfl rfl hl.1 rfl (lv_room (Nat.le_of_ble_eq_true rfl)) dL_law_1223 ⟨by show cl + 6 + 0 ≤ 601024; omega, by show sl + 36 + 0 ≤ 7293034; omega⟩) hS (fun _ _ h => h) (fun _ h => h) (fun r3 F4 t H locs ht hvm q hB1 hz hk hS => ?_)
  have hH : gH G ad F4 H := gH_to ht hB1
  refine lv_istore (lv' := [(6, .int r3), (5, .int r1), (0, .ref b), (1, .ref (ad 0 0)), (2, .ref (ad 40 0)), (3, .ref (ad 79 0)), (4, .int x4)]) hx hb dL_law_1226 hl (by decide) rfl (fun ls hl => ?_)
  refine lv_aload_n hx hb dL_law_1228 rfl (lv_at hl 4 rfl) ?_
  refine va_calli (va_runV (As := []) (rest := []) ⟨hx, hb, hml, hown, hts⟩ (c_X11_thrown l G ad F4 _) (cwV 0 hts gL_law_X11_thrown rfl rfl rfl (by decide +kernel) ⟨Nat.le_of_ble_eq_true rfl, Nat.le_of_ble_eq_true rfl⟩) ⟨fun a U g mk h => ⟨h.1, gD_blind h.2.1, h.2.2⟩, g_recv (C := RX11) (T := TX11) (N := 44) hK hH 40 0 (by decide) Nat.zero_lt_one rfl rfl, fun U hU hW => ⟨rfl, gD_at hK hG hB hH hS hU hW, q⟩⟩ rfl rfl hl.1 rfl (lv_room (Nat.le_of_ble_eq_true rfl)) dL_law_1229 ⟨by show cl + 6 + 0 ≤ 601024; omega, by show sl + 36 + 0 ≤ 7293034; omega⟩) hS (fun _ _ h => h) (fun _ h => h) (fun r5 F6 t H locs ht hvm q hB1 hz hk hS => ?_)
  have hH : gH G ad F6 H := gH_to ht hB1
  refine lv_iload hx hb dL_law_1232 (lv_at hl 1 rfl) ?_
  refine lv_icmp_eq (tgt := 1239) hx hb dL_law_1234 (by decide) (fun c7 => ?_) (fun c7 => ?_)
  · have q := (if_pos c7).mp q
    refine lv_iload hx hb dL_law_1239 (lv_at hl 1 rfl) ?_
    refine lv_if_ne (tgt := 1256) hx hb dL_law_1241 (by decide) (fun c8 => ?_) (fun c8 => ?_)
    · have q := (if_neg c8).mp q
      refine lv_goto (tgt := 2280) hx hb dL_law_1256 (by decide) ?_
      refine W.widen (k := cl + MCL) (n := sl + MSL) (by unfold MCL; omega) (by unfold MSL; omega) ?_
      exact hkk F6 ad _ _ _ (fun _ _ _ => rfl) hH hS (lv_sub hl [2, 3, 4, 5, 6] rfl) q
    · have q := (if_pos c8).mp q
      refine lv_aload_n hx hb dL_law_1244 rfl (lv_at hl 5 rfl) ?_
      refine lv_iconst (v := 0) hx hb dL_law_1245 (by decide) ?_
      obtain ⟨h9, q⟩ := q
      refine g_lald hx hb hK hH h9 dL_law_1246 ?_
      refine lv_iload hx hb dL_law_1247 (lv_at hl 0 rfl) ?_
      refine lv_i2l (v := r3.toInt64) hx hb dL_law_1249 rfl ?_
      refine W.lcmp hx hb dL_law_1250 ?_
      refine lv_if_eq (tgt := 1256) hx hb dL_law_1251 (by decide) (fun c10 => ?_) (fun c10 => ?_)
      · have q := (if_pos (lcmp_eq.mp c10)).mp q
        refine lv_goto (tgt := 2280) hx hb dL_law_1256 (by decide) ?_
        refine W.widen (k := cl + MCL) (n := sl + MSL) (by unfold MCL; omega) (by unfold MSL; omega) ?_
        exact hkk F6 ad _ _ _ (fun _ _ _ => rfl) hH hS (lv_sub hl [2, 3, 4, 5, 6] rfl) q
      · have q := (if_neg (fun z => c10 (lcmp_eq.mpr z))).mp q
        refine lv_iconst (v := 0) hx hb dL_law_1254 (by decide) ?_
        exact q.elim
  · have q := (if_neg c7).mp q
    refine lv_iconst (v := 0) hx hb dL_law_1237 (by decide) ?_
    exact q.elim
set_option maxHeartbeats 4000000 in
set_option maxRecDepth 100000 in
theorem law_17 {p : Program} {l : Launch} {e : Env} {s : State} {m : MethodId} {below : List Frame} {meth : Method} {c : Code} {b L : Nat} {xs : Nat → Int32} {Q : State → Prop} {G : GP} (hfl : l.stackTraces = false) (hx : p.tables.exec = Jvm.exec) (hb : c.code = code) (hml : c.maxLocals = 7) (hown : s.vm.findClass RL = some m.cls) (hts : ∀ w ∈ wsL_law, w.before #[Value.ref b] s = true) (hX : va_X b L xs s s.heap) (hbl : b < s.heap.size) (hK : gK G s) (hG : gS G s) (hB : G.2.2.2 ≤ s.heap.size) (hL : gL s) (hBe : G.2.2.2 = s.heap.size) (ad : Nat → Nat → Nat) (F : GF) (x4 a1 a2 a3 : Int32) (hi1 : vp_in (x4 + 1) L) (hi2 : vp_in (x4 + 2) L) (hi3 : vp_in (x4 + 3) L) (ha1 : xs (x4 + 1).toNatClampNeg = a1) (ha2 : xs (x4 + 2).toNatClampNeg = a2) (ha3 : xs (x4 + 3).toNatClampNeg = a3) (cl sl : Nat) (hcl : cl + MCL ≤ 601024) (hsl : sl + MSL ≤ 7293034) (H : Heap) (locs : List Loc) (ls : Array Slot) (hH : gH G ad F H) (hS : va_S (gA G) s.heap H locs) (hl : lv_has ls 7 [(0, .ref b), (1, .ref (ad 0 0)), (2, .ref (ad 40 0)), (3, .ref (ad 79 0)), (4, .int x4)]) (K : GF → Prop) (hkk : ∀ (F1 : GF) (ad1 : Nat → Nat → Nat) (H : Heap) (locs : List Loc) (ls : Array Slot), (∀ f i : Nat, f ≠ 39 → ad1 f i = ad f i) → gH G ad1 F1 H → va_S (gA G) s.heap H locs → lv_has ls 7 [(0, .ref b), (1, .ref (ad1 0 0)), (2, .ref (ad1 40 0)), (3, .ref (ad1 79 0)), (4, .int x4)] → K F1 → W p l e room_1 s m #[Value.ref b] below meth c H locs (cl + MCL) (sl + MSL) Q (F0 m 2280 ls [])) (q : PL_17 a1 a2 a3 K F) : W p l e room_1 s m #[Value.ref b] below meth c H locs cl sl Q (F0 m 1259 ls []) := by
  have hbA : ¬ gA G b := by
    intro h
    have h2 : G.2.2.2 ≤ b := h
    omega
  unfold MCL at hcl
  unfold MSL at hsl
  unfold PL_17 at q
  refine lv_aload_n hx hb dL_law_1259 rfl (lv_at hl 1 rfl) ?_
  refine lv_aload_n hx hb dL_law_1260 rfl (lv_at hl 0 rfl) ?_
  refine lv_iload hx hb dL_law_1261 (lv_at hl 4 rfl) ?_
  refine lv_iconst (v := 1) hx hb dL_law_1263 (by decide) ?_
  refine lv_iadd hx hb dL_law_1264 ?_
  refine va_sld hx hb hX hbl hbA hS hi1 dL_law_1265 ?_
  rw [ha1]
  refine lv_aload_n hx hb dL_law_1266 rfl (lv_at hl 0 rfl) ?_
  refine lv_iload hx hb dL_law_1267 (lv_at hl 4 rfl) ?_
  refine lv_iconst (v := 2) hx hb dL_law_1269 (by decide) ?_
  refine lv_iadd hx hb dL_law_1270 ?_
  refine va_sld hx hb hX hbl hbA hS hi2 dL_law_1271 ?_
  rw [ha2]
  refine lv_aload_n hx hb dL_law_1272 rfl (lv_at hl 0 rfl) ?_
  refine lv_iload hx hb dL_law_1273 (lv_at hl 4 rfl) ?_
  refine lv_iconst (v := 3) hx hb dL_law_1275 (by decide) ?_
  refine lv_iadd hx hb dL_law_1276 ?_
  refine va_sld hx hb hX hbl hbA hS hi3 dL_law_1277 ?_
  rw [ha3]
  refine lv_aload_n hx hb dL_law_1278 rfl (lv_at hl 3 rfl) ?_
  refine va_calli (vx_runSW (As := [.ref (ad 0 0), .int a1, .int a2, .int a3, .ref (ad 79 0)]) (rest := []) ⟨hx, hb, hml, hown, hts⟩ (c_L_vote l hfl G ad F a1 a2 a3 _) (vx_cwSW 5 hts gL_law_L_vote rfl rfl rfl (by decide +kernel) ⟨Nat.le_of_ble_eq_true rfl, Nat.le_of_ble_eq_true rfl⟩) ⟨fun a U g mk h => ⟨h.1, ⟨gD_blind h.2.1.1, gL.moved (u := U) (U := U.calling g mk a) (Vm.Alike.refl U.vm) h.2.1.2⟩, h.2.2⟩, fun U hU hW => ⟨rfl, ⟨gD_at hK hG hB hH hS hU hW, gL.moved hW.alike hL⟩, q⟩⟩ rfl rfl hl.1 rfl (lv_room (Nat.le_of_ble_eq_true rfl)) dL_law_1279 ⟨by show cl + 0 + 7 ≤ 601024; omega, by show sl + 0 + 42 ≤ 7293034; omega⟩) hS (fun _ _ h => h) (fun _ h => h) (fun r1 F2 t H locs ht hvm q hB1 hz hk hS => ?_)
  have hH : gH G ad F2 H := gH_to ht hB1
  refine lv_istore (lv' := [(5, .int r1), (0, .ref b), (1, .ref (ad 0 0)), (2, .ref (ad 40 0)), (3, .ref (ad 79 0)), (4, .int x4)]) hx hb dL_law_1282 hl (by decide) rfl (fun ls hl => ?_)
  refine lv_aload_n hx hb dL_law_1284 rfl (lv_at hl 3 rfl) ?_
  refine lv_aload_n hx hb dL_law_1285 rfl (lv_at hl 1 rfl) ?_
  refine lv_iload hx hb dL_law_1286 (lv_at hl 5 rfl) ?_
  refine lv_iconst (v := 1) hx hb dL_law_1288 (by decide) ?_
  refine lv_iadd hx hb dL_law_1289 ?_
  refine va_sld hx hb hX hbl hbA hS hi1 dL_law_1290 ?_
  rw [ha1]
  refine lv_aload_n hx hb dL_law_1291 rfl (lv_at hl 1 rfl) ?_
  refine lv_iload hx hb dL_law_1292 (lv_at hl 5 rfl) ?_
  refine lv_iconst (v := 2) hx hb dL_law_1294 (by decide) ?_
  refine lv_iadd hx hb dL_law_1295 ?_
  refine va_sld hx hb hX hbl hbA hS hi2 dL_law_1296 ?_
  rw [ha2]
  refine lv_aload_n hx hb dL_law_1297 rfl (lv_at hl 1 rfl) ?_
  refine lv_iload hx hb dL_law_1298 (lv_at hl 5 rfl) ?_
  refine lv_iconst (v := 3) hx hb dL_law_1300 (by decide) ?_
  refine lv_iadd hx hb dL_law_1301 ?_
  refine va_sld hx hb hX hbl hbA hS hi3 dL_law_1302 ?_
  rw [ha3]
  refine va_calli (va_runV (As := [.int a1, .int a2, .int a3]) (rest := []) ⟨hx, hb, hml, hown, hts⟩ (c_X11_vote l G ad F2 a1 a2 a3 _) (cwV 3 hts gL_law_X11_vote rfl rfl rfl (by decide +kernel) ⟨Nat.le_of_ble_eq_true rfl, Nat.le_of_ble_eq_true rfl⟩) ⟨fun a U g mk h => ⟨h.1, gD_blind h.2.1, h.2.2⟩, g_recv (C := RX11) (T := TX11) (N := 44) hK hH 40 0 (by decide) Nat.zero_lt_one rfl rfl, fun U hU hW => ⟨rfl, gD_at hK hG hB hH hS hU hW, q⟩⟩ rfl rfl hl.1 rfl (lv_room (Nat.le_of_ble_eq_true rfl)) dL_law_1303 ⟨by show cl + 7 + 0 ≤ 601024; omega, by show sl + 42 + 0 ≤ 7293034; omega⟩) hS (fun _ _ h => h) (fun _ h => h) (fun r3 F4 t H locs ht hvm q hB1 hz hk hS => ?_)
  have hH : gH G ad F4 H := gH_to ht hB1
  refine lv_istore (lv' := [(6, .int r3), (5, .int r1), (0, .ref b), (1, .ref (ad 0 0)), (2, .ref (ad 40 0)), (3, .ref (ad 79 0)), (4, .int x4)]) hx hb dL_law_1306 hl (by decide) rfl (fun ls hl => ?_)
  refine lv_aload_n hx hb dL_law_1308 rfl (lv_at hl 4 rfl) ?_
  refine va_calli (va_runV (As := []) (rest := []) ⟨hx, hb, hml, hown, hts⟩ (c_X11_thrown l G ad F4 _) (cwV 0 hts gL_law_X11_thrown rfl rfl rfl (by decide +kernel) ⟨Nat.le_of_ble_eq_true rfl, Nat.le_of_ble_eq_true rfl⟩) ⟨fun a U g mk h => ⟨h.1, gD_blind h.2.1, h.2.2⟩, g_recv (C := RX11) (T := TX11) (N := 44) hK hH 40 0 (by decide) Nat.zero_lt_one rfl rfl, fun U hU hW => ⟨rfl, gD_at hK hG hB hH hS hU hW, q⟩⟩ rfl rfl hl.1 rfl (lv_room (Nat.le_of_ble_eq_true rfl)) dL_law_1309 ⟨by show cl + 7 + 0 ≤ 601024; omega, by show sl + 42 + 0 ≤ 7293034; omega⟩) hS (fun _ _ h => h) (fun _ h => h) (fun r5 F6 t H locs ht hvm q hB1 hz hk hS => ?_)
  have hH : gH G ad F6 H := gH_to ht hB1
  refine lv_iload hx hb dL_law_1312 (lv_at hl 1 rfl) ?_
  refine lv_icmp_eq (tgt := 1319) hx hb dL_law_1314 (by decide) (fun c7 => ?_) (fun c7 => ?_)
  · have q := (if_pos c7).mp q
    refine lv_iload hx hb dL_law_1319 (lv_at hl 1 rfl) ?_
    refine lv_if_ne (tgt := 1336) hx hb dL_law_1321 (by decide) (fun c8 => ?_) (fun c8 => ?_)
    · have q := (if_neg c8).mp q
      refine lv_goto (tgt := 2280) hx hb dL_law_1336 (by decide) ?_
      refine W.widen (k := cl + MCL) (n := sl + MSL) (by unfold MCL; omega) (by unfold MSL; omega) ?_
      exact hkk F6 ad _ _ _ (fun _ _ _ => rfl) hH hS (lv_sub hl [2, 3, 4, 5, 6] rfl) q
    · have q := (if_pos c8).mp q
      refine lv_aload_n hx hb dL_law_1324 rfl (lv_at hl 5 rfl) ?_
      refine lv_iconst (v := 0) hx hb dL_law_1325 (by decide) ?_
      obtain ⟨h9, q⟩ := q
      refine g_lald hx hb hK hH h9 dL_law_1326 ?_
      refine lv_iload hx hb dL_law_1327 (lv_at hl 0 rfl) ?_
      refine lv_i2l (v := r3.toInt64) hx hb dL_law_1329 rfl ?_
      refine W.lcmp hx hb dL_law_1330 ?_
      refine lv_if_eq (tgt := 1336) hx hb dL_law_1331 (by decide) (fun c10 => ?_) (fun c10 => ?_)
      · have q := (if_pos (lcmp_eq.mp c10)).mp q
        refine lv_goto (tgt := 2280) hx hb dL_law_1336 (by decide) ?_
        refine W.widen (k := cl + MCL) (n := sl + MSL) (by unfold MCL; omega) (by unfold MSL; omega) ?_
        exact hkk F6 ad _ _ _ (fun _ _ _ => rfl) hH hS (lv_sub hl [2, 3, 4, 5, 6] rfl) q
      · have q := (if_neg (fun z => c10 (lcmp_eq.mpr z))).mp q
        refine lv_iconst (v := 0) hx hb dL_law_1334 (by decide) ?_
        exact q.elim
  · have q := (if_neg c7).mp q
    refine lv_iconst (v := 0) hx hb dL_law_1317 (by decide) ?_
    exact q.elim
set_option maxHeartbeats 4000000 in
set_option maxRecDepth 100000 in
theorem law_18 {p : Program} {l : Launch} {e : Env} {s : State} {m : MethodId} {below : List Frame} {meth : Method} {c : Code} {b L : Nat} {xs : Nat → Int32} {Q : State → Prop} {G : GP} (hfl : l.stackTraces = false) (hx : p.tables.exec = Jvm.exec) (hb : c.code = code) (hml : c.maxLocals = 7) (hown : s.vm.findClass RL = some m.cls) (hts : ∀ w ∈ wsL_law, w.before #[Value.ref b] s = true) (hX : va_X b L xs s s.heap) (hbl : b < s.heap.size) (hK : gK G s) (hG : gS G s) (hB : G.2.2.2 ≤ s.heap.size) (hL : gL s) (hBe : G.2.2.2 = s.heap.size) (ad : Nat → Nat → Nat) (F : GF) (x4 a1 a2 a3 : Int32) (hi1 : vp_in (x4 + 1) L) (hi2 : vp_in (x4 + 2) L) (hi3 : vp_in (x4 + 3) L) (ha1 : xs (x4 + 1).toNatClampNeg = a1) (ha2 : xs (x4 + 2).toNatClampNeg = a2) (ha3 : xs (x4 + 3).toNatClampNeg = a3) (cl sl : Nat) (hcl : cl + MCL ≤ 601024) (hsl : sl + MSL ≤ 7293034) (H : Heap) (locs : List Loc) (ls : Array Slot) (hH : gH G ad F H) (hS : va_S (gA G) s.heap H locs) (hl : lv_has ls 7 [(0, .ref b), (1, .ref (ad 0 0)), (2, .ref (ad 40 0)), (3, .ref (ad 79 0)), (4, .int x4)]) (K : GF → Prop) (hkk : ∀ (F1 : GF) (ad1 : Nat → Nat → Nat) (H : Heap) (locs : List Loc) (ls : Array Slot), (∀ f i : Nat, f ≠ 39 → ad1 f i = ad f i) → gH G ad1 F1 H → va_S (gA G) s.heap H locs → lv_has ls 7 [(0, .ref b), (1, .ref (ad1 0 0)), (2, .ref (ad1 40 0)), (3, .ref (ad1 79 0)), (4, .int x4)] → K F1 → W p l e room_1 s m #[Value.ref b] below meth c H locs (cl + MCL) (sl + MSL) Q (F0 m 2280 ls [])) (q : PL_18 a1 a2 a3 K F) : W p l e room_1 s m #[Value.ref b] below meth c H locs cl sl Q (F0 m 1339 ls []) := by
  have hbA : ¬ gA G b := by
    intro h
    have h2 : G.2.2.2 ≤ b := h
    omega
  unfold MCL at hcl
  unfold MSL at hsl
  unfold PL_18 at q
  refine lv_aload_n hx hb dL_law_1339 rfl (lv_at hl 1 rfl) ?_
  refine lv_aload_n hx hb dL_law_1340 rfl (lv_at hl 0 rfl) ?_
  refine lv_iload hx hb dL_law_1341 (lv_at hl 4 rfl) ?_
  refine lv_iconst (v := 1) hx hb dL_law_1343 (by decide) ?_
  refine lv_iadd hx hb dL_law_1344 ?_
  refine va_sld hx hb hX hbl hbA hS hi1 dL_law_1345 ?_
  rw [ha1]
  refine lv_aload_n hx hb dL_law_1346 rfl (lv_at hl 3 rfl) ?_
  refine va_calli (vx_runSW (As := [.ref (ad 0 0), .int a1, .ref (ad 79 0)]) (rest := []) ⟨hx, hb, hml, hown, hts⟩ (c_L_open l hfl G ad F a1 _) (vx_cwSW 3 hts gL_law_L_open rfl rfl rfl (by decide +kernel) ⟨Nat.le_of_ble_eq_true rfl, Nat.le_of_ble_eq_true rfl⟩) ⟨fun a U g mk h => ⟨h.1, ⟨gD_blind h.2.1.1, gL.moved (u := U) (U := U.calling g mk a) (Vm.Alike.refl U.vm) h.2.1.2⟩, h.2.2⟩, fun U hU hW => ⟨rfl, ⟨gD_at hK hG hB hH hS hU hW, gL.moved hW.alike hL⟩, q⟩⟩ rfl rfl hl.1 rfl (lv_room (Nat.le_of_ble_eq_true rfl)) dL_law_1347 ⟨by show cl + 0 + 3 ≤ 601024; omega, by show sl + 0 + 18 ≤ 7293034; omega⟩) hS (fun _ _ h => h) (fun _ h => h) (fun r1 F2 t H locs ht hvm q hB1 hz hk hS => ?_)
  have hH : gH G ad F2 H := gH_to ht hB1
  refine lv_istore (lv' := [(5, .int r1), (0, .ref b), (1, .ref (ad 0 0)), (2, .ref (ad 40 0)), (3, .ref (ad 79 0)), (4, .int x4)]) hx hb dL_law_1350 hl (by decide) rfl (fun ls hl => ?_)
  refine lv_aload_n hx hb dL_law_1352 rfl (lv_at hl 3 rfl) ?_
  refine lv_aload_n hx hb dL_law_1353 rfl (lv_at hl 1 rfl) ?_
  refine lv_iload hx hb dL_law_1354 (lv_at hl 5 rfl) ?_
  refine lv_iconst (v := 1) hx hb dL_law_1356 (by decide) ?_
  refine lv_iadd hx hb dL_law_1357 ?_
  refine va_sld hx hb hX hbl hbA hS hi1 dL_law_1358 ?_
  rw [ha1]
  refine va_calli (va_runV (As := [.int a1]) (rest := []) ⟨hx, hb, hml, hown, hts⟩ (c_X11_open l G ad F2 a1 _) (cwV 1 hts gL_law_X11_open rfl rfl rfl (by decide +kernel) ⟨Nat.le_of_ble_eq_true rfl, Nat.le_of_ble_eq_true rfl⟩) ⟨fun a U g mk h => ⟨h.1, gD_blind h.2.1, h.2.2⟩, g_recv (C := RX11) (T := TX11) (N := 44) hK hH 40 0 (by decide) Nat.zero_lt_one rfl rfl, fun U hU hW => ⟨rfl, gD_at hK hG hB hH hS hU hW, q⟩⟩ rfl rfl hl.1 rfl (lv_room (Nat.le_of_ble_eq_true rfl)) dL_law_1359 ⟨by show cl + 3 + 0 ≤ 601024; omega, by show sl + 18 + 0 ≤ 7293034; omega⟩) hS (fun _ _ h => h) (fun _ h => h) (fun r3 F4 t H locs ht hvm q hB1 hz hk hS => ?_)
  have hH : gH G ad F4 H := gH_to ht hB1
  refine lv_istore (lv' := [(6, .int r3), (5, .int r1), (0, .ref b), (1, .ref (ad 0 0)), (2, .ref (ad 40 0)), (3, .ref (ad 79 0)), (4, .int x4)]) hx hb dL_law_1362 hl (by decide) rfl (fun ls hl => ?_)
  refine lv_aload_n hx hb dL_law_1364 rfl (lv_at hl 4 rfl) ?_
  refine va_calli (va_runV (As := []) (rest := []) ⟨hx, hb, hml, hown, hts⟩ (c_X11_thrown l G ad F4 _) (cwV 0 hts gL_law_X11_thrown rfl rfl rfl (by decide +kernel) ⟨Nat.le_of_ble_eq_true rfl, Nat.le_of_ble_eq_true rfl⟩) ⟨fun a U g mk h => ⟨h.1, gD_blind h.2.1, h.2.2⟩, g_recv (C := RX11) (T := TX11) (N := 44) hK hH 40 0 (by decide) Nat.zero_lt_one rfl rfl, fun U hU hW => ⟨rfl, gD_at hK hG hB hH hS hU hW, q⟩⟩ rfl rfl hl.1 rfl (lv_room (Nat.le_of_ble_eq_true rfl)) dL_law_1365 ⟨by show cl + 3 + 0 ≤ 601024; omega, by show sl + 18 + 0 ≤ 7293034; omega⟩) hS (fun _ _ h => h) (fun _ h => h) (fun r5 F6 t H locs ht hvm q hB1 hz hk hS => ?_)
  have hH : gH G ad F6 H := gH_to ht hB1
  refine lv_iload hx hb dL_law_1368 (lv_at hl 1 rfl) ?_
  refine lv_icmp_eq (tgt := 1375) hx hb dL_law_1370 (by decide) (fun c7 => ?_) (fun c7 => ?_)
  · have q := (if_pos c7).mp q
    refine lv_iload hx hb dL_law_1375 (lv_at hl 1 rfl) ?_
    refine lv_if_ne (tgt := 1392) hx hb dL_law_1377 (by decide) (fun c8 => ?_) (fun c8 => ?_)
    · have q := (if_neg c8).mp q
      refine lv_goto (tgt := 2280) hx hb dL_law_1392 (by decide) ?_
      refine W.widen (k := cl + MCL) (n := sl + MSL) (by unfold MCL; omega) (by unfold MSL; omega) ?_
      exact hkk F6 ad _ _ _ (fun _ _ _ => rfl) hH hS (lv_sub hl [2, 3, 4, 5, 6] rfl) q
    · have q := (if_pos c8).mp q
      refine lv_aload_n hx hb dL_law_1380 rfl (lv_at hl 5 rfl) ?_
      refine lv_iconst (v := 0) hx hb dL_law_1381 (by decide) ?_
      obtain ⟨h9, q⟩ := q
      refine g_lald hx hb hK hH h9 dL_law_1382 ?_
      refine lv_iload hx hb dL_law_1383 (lv_at hl 0 rfl) ?_
      refine lv_i2l (v := r3.toInt64) hx hb dL_law_1385 rfl ?_
      refine W.lcmp hx hb dL_law_1386 ?_
      refine lv_if_eq (tgt := 1392) hx hb dL_law_1387 (by decide) (fun c10 => ?_) (fun c10 => ?_)
      · have q := (if_pos (lcmp_eq.mp c10)).mp q
        refine lv_goto (tgt := 2280) hx hb dL_law_1392 (by decide) ?_
        refine W.widen (k := cl + MCL) (n := sl + MSL) (by unfold MCL; omega) (by unfold MSL; omega) ?_
        exact hkk F6 ad _ _ _ (fun _ _ _ => rfl) hH hS (lv_sub hl [2, 3, 4, 5, 6] rfl) q
      · have q := (if_neg (fun z => c10 (lcmp_eq.mpr z))).mp q
        refine lv_iconst (v := 0) hx hb dL_law_1390 (by decide) ?_
        exact q.elim
  · have q := (if_neg c7).mp q
    refine lv_iconst (v := 0) hx hb dL_law_1373 (by decide) ?_
    exact q.elim
set_option maxHeartbeats 4000000 in
set_option maxRecDepth 100000 in
theorem law_19 {p : Program} {l : Launch} {e : Env} {s : State} {m : MethodId} {below : List Frame} {meth : Method} {c : Code} {b L : Nat} {xs : Nat → Int32} {Q : State → Prop} {G : GP} (hfl : l.stackTraces = false) (hx : p.tables.exec = Jvm.exec) (hb : c.code = code) (hml : c.maxLocals = 7) (hown : s.vm.findClass RL = some m.cls) (hts : ∀ w ∈ wsL_law, w.before #[Value.ref b] s = true) (hX : va_X b L xs s s.heap) (hbl : b < s.heap.size) (hK : gK G s) (hG : gS G s) (hB : G.2.2.2 ≤ s.heap.size) (hL : gL s) (hBe : G.2.2.2 = s.heap.size) (ad : Nat → Nat → Nat) (F : GF) (x4 a1 a2 a3 : Int32) (hi1 : vp_in (x4 + 1) L) (hi2 : vp_in (x4 + 2) L) (hi3 : vp_in (x4 + 3) L) (ha1 : xs (x4 + 1).toNatClampNeg = a1) (ha2 : xs (x4 + 2).toNatClampNeg = a2) (ha3 : xs (x4 + 3).toNatClampNeg = a3) (cl sl : Nat) (hcl : cl + MCL ≤ 601024) (hsl : sl + MSL ≤ 7293034) (H : Heap) (locs : List Loc) (ls : Array Slot) (hH : gH G ad F H) (hS : va_S (gA G) s.heap H locs) (hl : lv_has ls 7 [(0, .ref b), (1, .ref (ad 0 0)), (2, .ref (ad 40 0)), (3, .ref (ad 79 0)), (4, .int x4)]) (K : GF → Prop) (hkk : ∀ (F1 : GF) (ad1 : Nat → Nat → Nat) (H : Heap) (locs : List Loc) (ls : Array Slot), (∀ f i : Nat, f ≠ 39 → ad1 f i = ad f i) → gH G ad1 F1 H → va_S (gA G) s.heap H locs → lv_has ls 7 [(0, .ref b), (1, .ref (ad1 0 0)), (2, .ref (ad1 40 0)), (3, .ref (ad1 79 0)), (4, .int x4)] → K F1 → W p l e room_1 s m #[Value.ref b] below meth c H locs (cl + MCL) (sl + MSL) Q (F0 m 2280 ls [])) (q : PL_19 a1 a2 a3 K F) : W p l e room_1 s m #[Value.ref b] below meth c H locs cl sl Q (F0 m 1395 ls []) := by
  have hbA : ¬ gA G b := by
    intro h
    have h2 : G.2.2.2 ≤ b := h
    omega
  unfold MCL at hcl
  unfold MSL at hsl
  unfold PL_19 at q
  refine lv_aload_n hx hb dL_law_1395 rfl (lv_at hl 1 rfl) ?_
  refine va_calli (va_runV (As := []) (rest := []) ⟨hx, hb, hml, hown, hts⟩ (c_X10_envelopes l G ad F _) (cwV 0 hts gL_law_X10_envelopes rfl rfl rfl (by decide +kernel) ⟨Nat.le_of_ble_eq_true rfl, Nat.le_of_ble_eq_true rfl⟩) ⟨fun a U g mk h => ⟨h.1, gD_blind h.2.1, h.2.2⟩, g_recv (C := RX10) (T := TX10) (N := 8) hK hH 0 0 (by decide) Nat.zero_lt_one rfl rfl, fun U hU hW => ⟨rfl, gD_at hK hG hB hH hS hU hW, q⟩⟩ rfl rfl hl.1 rfl (lv_room (Nat.le_of_ble_eq_true rfl)) dL_law_1396 ⟨by show cl + 0 + 0 ≤ 601024; omega, by show sl + 0 + 0 ≤ 7293034; omega⟩) hS (fun _ _ h => h) (fun _ h => h) (fun r1 F2 t H locs ht hvm q hB1 hz hk hS => ?_)
  have hH : gH G ad F2 H := gH_to ht hB1
  refine lv_aload_n hx hb dL_law_1399 rfl (lv_at hl 2 rfl) ?_
  refine va_calli (va_runV (As := []) (rest := [.int r1]) ⟨hx, hb, hml, hown, hts⟩ (c_X11_envelopes l G ad F2 _) (cwV 0 hts gL_law_X11_envelopes rfl rfl rfl (by decide +kernel) ⟨Nat.le_of_ble_eq_true rfl, Nat.le_of_ble_eq_true rfl⟩) ⟨fun a U g mk h => ⟨h.1, gD_blind h.2.1, h.2.2⟩, g_recv (C := RX11) (T := TX11) (N := 44) hK hH 40 0 (by decide) Nat.zero_lt_one rfl rfl, fun U hU hW => ⟨rfl, gD_at hK hG hB hH hS hU hW, q⟩⟩ rfl rfl hl.1 rfl (lv_room (Nat.le_of_ble_eq_true rfl)) dL_law_1400 ⟨by show cl + 0 + 0 ≤ 601024; omega, by show sl + 0 + 0 ≤ 7293034; omega⟩) hS (fun _ _ h => h) (fun _ h => h) (fun r3 F4 t H locs ht hvm q hB1 hz hk hS => ?_)
  have hH : gH G ad F4 H := gH_to ht hB1
  refine lv_icmp_eq (tgt := 2280) hx hb dL_law_1403 (by decide) (fun c5 => ?_) (fun c5 => ?_)
  · have q := (if_pos c5).mp q
    refine W.widen (k := cl + MCL) (n := sl + MSL) (by unfold MCL; omega) (by unfold MSL; omega) ?_
    exact hkk F4 ad _ _ _ (fun _ _ _ => rfl) hH hS (lv_sub hl [0, 1, 2, 3, 4] rfl) q
  · have q := (if_neg c5).mp q
    refine lv_iconst (v := 0) hx hb dL_law_1406 (by decide) ?_
    exact q.elim
set_option maxHeartbeats 4000000 in
set_option maxRecDepth 100000 in
theorem law_20 {p : Program} {l : Launch} {e : Env} {s : State} {m : MethodId} {below : List Frame} {meth : Method} {c : Code} {b L : Nat} {xs : Nat → Int32} {Q : State → Prop} {G : GP} (hfl : l.stackTraces = false) (hx : p.tables.exec = Jvm.exec) (hb : c.code = code) (hml : c.maxLocals = 7) (hown : s.vm.findClass RL = some m.cls) (hts : ∀ w ∈ wsL_law, w.before #[Value.ref b] s = true) (hX : va_X b L xs s s.heap) (hbl : b < s.heap.size) (hK : gK G s) (hG : gS G s) (hB : G.2.2.2 ≤ s.heap.size) (hL : gL s) (hBe : G.2.2.2 = s.heap.size) (ad : Nat → Nat → Nat) (F : GF) (x4 a1 a2 a3 : Int32) (hi1 : vp_in (x4 + 1) L) (hi2 : vp_in (x4 + 2) L) (hi3 : vp_in (x4 + 3) L) (ha1 : xs (x4 + 1).toNatClampNeg = a1) (ha2 : xs (x4 + 2).toNatClampNeg = a2) (ha3 : xs (x4 + 3).toNatClampNeg = a3) (cl sl : Nat) (hcl : cl + MCL ≤ 601024) (hsl : sl + MSL ≤ 7293034) (H : Heap) (locs : List Loc) (ls : Array Slot) (hH : gH G ad F H) (hS : va_S (gA G) s.heap H locs) (hl : lv_has ls 7 [(0, .ref b), (1, .ref (ad 0 0)), (2, .ref (ad 40 0)), (3, .ref (ad 79 0)), (4, .int x4)]) (K : GF → Prop) (hkk : ∀ (F1 : GF) (ad1 : Nat → Nat → Nat) (H : Heap) (locs : List Loc) (ls : Array Slot), (∀ f i : Nat, f ≠ 39 → ad1 f i = ad f i) → gH G ad1 F1 H → va_S (gA G) s.heap H locs → lv_has ls 7 [(0, .ref b), (1, .ref (ad1 0 0)), (2, .ref (ad1 40 0)), (3, .ref (ad1 79 0)), (4, .int x4)] → K F1 → W p l e room_1 s m #[Value.ref b] below meth c H locs (cl + MCL) (sl + MSL) Q (F0 m 2280 ls [])) (q : PL_20 a1 a2 a3 K F) : W p l e room_1 s m #[Value.ref b] below meth c H locs cl sl Q (F0 m 1408 ls []) := by
  have hbA : ¬ gA G b := by
    intro h
    have h2 : G.2.2.2 ≤ b := h
    omega
  unfold MCL at hcl
  unfold MSL at hsl
  unfold PL_20 at q
  refine lv_aload_n hx hb dL_law_1408 rfl (lv_at hl 1 rfl) ?_
  refine lv_aload_n hx hb dL_law_1409 rfl (lv_at hl 0 rfl) ?_
  refine lv_iload hx hb dL_law_1410 (lv_at hl 4 rfl) ?_
  refine lv_iconst (v := 1) hx hb dL_law_1412 (by decide) ?_
  refine lv_iadd hx hb dL_law_1413 ?_
  refine va_sld hx hb hX hbl hbA hS hi1 dL_law_1414 ?_
  rw [ha1]
  refine lv_aload_n hx hb dL_law_1415 rfl (lv_at hl 3 rfl) ?_
  refine va_calli (vx_runSW (As := [.ref (ad 0 0), .int a1, .ref (ad 79 0)]) (rest := []) ⟨hx, hb, hml, hown, hts⟩ (c_L_stateOf l hfl G ad F a1 _) (vx_cwSW 3 hts gL_law_L_stateOf rfl rfl rfl (by decide +kernel) ⟨Nat.le_of_ble_eq_true rfl, Nat.le_of_ble_eq_true rfl⟩) ⟨fun a U g mk h => ⟨h.1, ⟨gD_blind h.2.1.1, gL.moved (u := U) (U := U.calling g mk a) (Vm.Alike.refl U.vm) h.2.1.2⟩, h.2.2⟩, fun U hU hW => ⟨rfl, ⟨gD_at hK hG hB hH hS hU hW, gL.moved hW.alike hL⟩, q⟩⟩ rfl rfl hl.1 rfl (lv_room (Nat.le_of_ble_eq_true rfl)) dL_law_1416 ⟨by show cl + 0 + 1 ≤ 601024; omega, by show sl + 0 + 6 ≤ 7293034; omega⟩) hS (fun _ _ h => h) (fun _ h => h) (fun r1 F2 t H locs ht hvm q hB1 hz hk hS => ?_)
  have hH : gH G ad F2 H := gH_to ht hB1
  refine lv_istore (lv' := [(5, .int r1), (0, .ref b), (1, .ref (ad 0 0)), (2, .ref (ad 40 0)), (3, .ref (ad 79 0)), (4, .int x4)]) hx hb dL_law_1419 hl (by decide) rfl (fun ls hl => ?_)
  refine lv_aload_n hx hb dL_law_1421 rfl (lv_at hl 3 rfl) ?_
  refine lv_aload_n hx hb dL_law_1422 rfl (lv_at hl 1 rfl) ?_
  refine lv_iload hx hb dL_law_1423 (lv_at hl 5 rfl) ?_
  refine lv_iconst (v := 1) hx hb dL_law_1425 (by decide) ?_
  refine lv_iadd hx hb dL_law_1426 ?_
  refine va_sld hx hb hX hbl hbA hS hi1 dL_law_1427 ?_
  rw [ha1]
  refine va_calli (va_runV (As := [.int a1]) (rest := []) ⟨hx, hb, hml, hown, hts⟩ (c_X11_stateOf l G ad F2 a1 _) (cwV 1 hts gL_law_X11_stateOf rfl rfl rfl (by decide +kernel) ⟨Nat.le_of_ble_eq_true rfl, Nat.le_of_ble_eq_true rfl⟩) ⟨fun a U g mk h => ⟨h.1, gD_blind h.2.1, h.2.2⟩, g_recv (C := RX11) (T := TX11) (N := 44) hK hH 40 0 (by decide) Nat.zero_lt_one rfl rfl, fun U hU hW => ⟨rfl, gD_at hK hG hB hH hS hU hW, q⟩⟩ rfl rfl hl.1 rfl (lv_room (Nat.le_of_ble_eq_true rfl)) dL_law_1428 ⟨by show cl + 1 + 0 ≤ 601024; omega, by show sl + 6 + 0 ≤ 7293034; omega⟩) hS (fun _ _ h => h) (fun _ h => h) (fun r3 F4 t H locs ht hvm q hB1 hz hk hS => ?_)
  have hH : gH G ad F4 H := gH_to ht hB1
  refine lv_istore (lv' := [(6, .int r3), (5, .int r1), (0, .ref b), (1, .ref (ad 0 0)), (2, .ref (ad 40 0)), (3, .ref (ad 79 0)), (4, .int x4)]) hx hb dL_law_1431 hl (by decide) rfl (fun ls hl => ?_)
  refine lv_aload_n hx hb dL_law_1433 rfl (lv_at hl 4 rfl) ?_
  refine va_calli (va_runV (As := []) (rest := []) ⟨hx, hb, hml, hown, hts⟩ (c_X11_thrown l G ad F4 _) (cwV 0 hts gL_law_X11_thrown rfl rfl rfl (by decide +kernel) ⟨Nat.le_of_ble_eq_true rfl, Nat.le_of_ble_eq_true rfl⟩) ⟨fun a U g mk h => ⟨h.1, gD_blind h.2.1, h.2.2⟩, g_recv (C := RX11) (T := TX11) (N := 44) hK hH 40 0 (by decide) Nat.zero_lt_one rfl rfl, fun U hU hW => ⟨rfl, gD_at hK hG hB hH hS hU hW, q⟩⟩ rfl rfl hl.1 rfl (lv_room (Nat.le_of_ble_eq_true rfl)) dL_law_1434 ⟨by show cl + 1 + 0 ≤ 601024; omega, by show sl + 6 + 0 ≤ 7293034; omega⟩) hS (fun _ _ h => h) (fun _ h => h) (fun r5 F6 t H locs ht hvm q hB1 hz hk hS => ?_)
  have hH : gH G ad F6 H := gH_to ht hB1
  refine lv_iload hx hb dL_law_1437 (lv_at hl 1 rfl) ?_
  refine lv_icmp_eq (tgt := 1444) hx hb dL_law_1439 (by decide) (fun c7 => ?_) (fun c7 => ?_)
  · have q := (if_pos c7).mp q
    refine lv_iload hx hb dL_law_1444 (lv_at hl 1 rfl) ?_
    refine lv_if_ne (tgt := 1461) hx hb dL_law_1446 (by decide) (fun c8 => ?_) (fun c8 => ?_)
    · have q := (if_neg c8).mp q
      refine lv_goto (tgt := 2280) hx hb dL_law_1461 (by decide) ?_
      refine W.widen (k := cl + MCL) (n := sl + MSL) (by unfold MCL; omega) (by unfold MSL; omega) ?_
      exact hkk F6 ad _ _ _ (fun _ _ _ => rfl) hH hS (lv_sub hl [2, 3, 4, 5, 6] rfl) q
    · have q := (if_pos c8).mp q
      refine lv_aload_n hx hb dL_law_1449 rfl (lv_at hl 5 rfl) ?_
      refine lv_iconst (v := 0) hx hb dL_law_1450 (by decide) ?_
      obtain ⟨h9, q⟩ := q
      refine g_lald hx hb hK hH h9 dL_law_1451 ?_
      refine lv_iload hx hb dL_law_1452 (lv_at hl 0 rfl) ?_
      refine lv_i2l (v := r3.toInt64) hx hb dL_law_1454 rfl ?_
      refine W.lcmp hx hb dL_law_1455 ?_
      refine lv_if_eq (tgt := 1461) hx hb dL_law_1456 (by decide) (fun c10 => ?_) (fun c10 => ?_)
      · have q := (if_pos (lcmp_eq.mp c10)).mp q
        refine lv_goto (tgt := 2280) hx hb dL_law_1461 (by decide) ?_
        refine W.widen (k := cl + MCL) (n := sl + MSL) (by unfold MCL; omega) (by unfold MSL; omega) ?_
        exact hkk F6 ad _ _ _ (fun _ _ _ => rfl) hH hS (lv_sub hl [2, 3, 4, 5, 6] rfl) q
      · have q := (if_neg (fun z => c10 (lcmp_eq.mpr z))).mp q
        refine lv_iconst (v := 0) hx hb dL_law_1459 (by decide) ?_
        exact q.elim
  · have q := (if_neg c7).mp q
    refine lv_iconst (v := 0) hx hb dL_law_1442 (by decide) ?_
    exact q.elim
set_option maxHeartbeats 4000000 in
set_option maxRecDepth 100000 in
theorem law_21 {p : Program} {l : Launch} {e : Env} {s : State} {m : MethodId} {below : List Frame} {meth : Method} {c : Code} {b L : Nat} {xs : Nat → Int32} {Q : State → Prop} {G : GP} (hfl : l.stackTraces = false) (hx : p.tables.exec = Jvm.exec) (hb : c.code = code) (hml : c.maxLocals = 7) (hown : s.vm.findClass RL = some m.cls) (hts : ∀ w ∈ wsL_law, w.before #[Value.ref b] s = true) (hX : va_X b L xs s s.heap) (hbl : b < s.heap.size) (hK : gK G s) (hG : gS G s) (hB : G.2.2.2 ≤ s.heap.size) (hL : gL s) (hBe : G.2.2.2 = s.heap.size) (ad : Nat → Nat → Nat) (F : GF) (x4 a1 a2 a3 : Int32) (hi1 : vp_in (x4 + 1) L) (hi2 : vp_in (x4 + 2) L) (hi3 : vp_in (x4 + 3) L) (ha1 : xs (x4 + 1).toNatClampNeg = a1) (ha2 : xs (x4 + 2).toNatClampNeg = a2) (ha3 : xs (x4 + 3).toNatClampNeg = a3) (cl sl : Nat) (hcl : cl + MCL ≤ 601024) (hsl : sl + MSL ≤ 7293034) (H : Heap) (locs : List Loc) (ls : Array Slot) (hH : gH G ad F H) (hS : va_S (gA G) s.heap H locs) (hl : lv_has ls 7 [(0, .ref b), (1, .ref (ad 0 0)), (2, .ref (ad 40 0)), (3, .ref (ad 79 0)), (4, .int x4)]) (K : GF → Prop) (hkk : ∀ (F1 : GF) (ad1 : Nat → Nat → Nat) (H : Heap) (locs : List Loc) (ls : Array Slot), (∀ f i : Nat, f ≠ 39 → ad1 f i = ad f i) → gH G ad1 F1 H → va_S (gA G) s.heap H locs → lv_has ls 7 [(0, .ref b), (1, .ref (ad1 0 0)), (2, .ref (ad1 40 0)), (3, .ref (ad1 79 0)), (4, .int x4)] → K F1 → W p l e room_1 s m #[Value.ref b] below meth c H locs (cl + MCL) (sl + MSL) Q (F0 m 2280 ls [])) (q : PL_21 a1 a2 a3 K F) : W p l e room_1 s m #[Value.ref b] below meth c H locs cl sl Q (F0 m 1464 ls []) := by
  have hbA : ¬ gA G b := by
    intro h
    have h2 : G.2.2.2 ≤ b := h
    omega
  unfold MCL at hcl
  unfold MSL at hsl
  unfold PL_21 at q
  refine lv_aload_n hx hb dL_law_1464 rfl (lv_at hl 1 rfl) ?_
  refine lv_aload_n hx hb dL_law_1465 rfl (lv_at hl 0 rfl) ?_
  refine lv_iload hx hb dL_law_1466 (lv_at hl 4 rfl) ?_
  refine lv_iconst (v := 1) hx hb dL_law_1468 (by decide) ?_
  refine lv_iadd hx hb dL_law_1469 ?_
  refine va_sld hx hb hX hbl hbA hS hi1 dL_law_1470 ?_
  rw [ha1]
  refine lv_aload_n hx hb dL_law_1471 rfl (lv_at hl 3 rfl) ?_
  refine va_calli (vx_runSW (As := [.ref (ad 0 0), .int a1, .ref (ad 79 0)]) (rest := []) ⟨hx, hb, hml, hown, hts⟩ (c_L_personOf l hfl G ad F a1 _) (vx_cwSW 3 hts gL_law_L_personOf rfl rfl rfl (by decide +kernel) ⟨Nat.le_of_ble_eq_true rfl, Nat.le_of_ble_eq_true rfl⟩) ⟨fun a U g mk h => ⟨h.1, ⟨gD_blind h.2.1.1, gL.moved (u := U) (U := U.calling g mk a) (Vm.Alike.refl U.vm) h.2.1.2⟩, h.2.2⟩, fun U hU hW => ⟨rfl, ⟨gD_at hK hG hB hH hS hU hW, gL.moved hW.alike hL⟩, q⟩⟩ rfl rfl hl.1 rfl (lv_room (Nat.le_of_ble_eq_true rfl)) dL_law_1472 ⟨by show cl + 0 + 1 ≤ 601024; omega, by show sl + 0 + 6 ≤ 7293034; omega⟩) hS (fun _ _ h => h) (fun _ h => h) (fun r1 F2 t H locs ht hvm q hB1 hz hk hS => ?_)
  have hH : gH G ad F2 H := gH_to ht hB1
  refine lv_istore (lv' := [(5, .int r1), (0, .ref b), (1, .ref (ad 0 0)), (2, .ref (ad 40 0)), (3, .ref (ad 79 0)), (4, .int x4)]) hx hb dL_law_1475 hl (by decide) rfl (fun ls hl => ?_)
  refine lv_aload_n hx hb dL_law_1477 rfl (lv_at hl 3 rfl) ?_
  refine lv_aload_n hx hb dL_law_1478 rfl (lv_at hl 1 rfl) ?_
  refine lv_iload hx hb dL_law_1479 (lv_at hl 5 rfl) ?_
  refine lv_iconst (v := 1) hx hb dL_law_1481 (by decide) ?_
  refine lv_iadd hx hb dL_law_1482 ?_
  refine va_sld hx hb hX hbl hbA hS hi1 dL_law_1483 ?_
  rw [ha1]
  refine va_calli (va_runV (As := [.int a1]) (rest := []) ⟨hx, hb, hml, hown, hts⟩ (c_X11_personOf l G ad F2 a1 _) (cwV 1 hts gL_law_X11_personOf rfl rfl rfl (by decide +kernel) ⟨Nat.le_of_ble_eq_true rfl, Nat.le_of_ble_eq_true rfl⟩) ⟨fun a U g mk h => ⟨h.1, gD_blind h.2.1, h.2.2⟩, g_recv (C := RX11) (T := TX11) (N := 44) hK hH 40 0 (by decide) Nat.zero_lt_one rfl rfl, fun U hU hW => ⟨rfl, gD_at hK hG hB hH hS hU hW, q⟩⟩ rfl rfl hl.1 rfl (lv_room (Nat.le_of_ble_eq_true rfl)) dL_law_1484 ⟨by show cl + 1 + 0 ≤ 601024; omega, by show sl + 6 + 0 ≤ 7293034; omega⟩) hS (fun _ _ h => h) (fun _ h => h) (fun r3 F4 t H locs ht hvm q hB1 hz hk hS => ?_)
  have hH : gH G ad F4 H := gH_to ht hB1
  refine lv_istore (lv' := [(6, .int r3), (5, .int r1), (0, .ref b), (1, .ref (ad 0 0)), (2, .ref (ad 40 0)), (3, .ref (ad 79 0)), (4, .int x4)]) hx hb dL_law_1487 hl (by decide) rfl (fun ls hl => ?_)
  refine lv_aload_n hx hb dL_law_1489 rfl (lv_at hl 4 rfl) ?_
  refine va_calli (va_runV (As := []) (rest := []) ⟨hx, hb, hml, hown, hts⟩ (c_X11_thrown l G ad F4 _) (cwV 0 hts gL_law_X11_thrown rfl rfl rfl (by decide +kernel) ⟨Nat.le_of_ble_eq_true rfl, Nat.le_of_ble_eq_true rfl⟩) ⟨fun a U g mk h => ⟨h.1, gD_blind h.2.1, h.2.2⟩, g_recv (C := RX11) (T := TX11) (N := 44) hK hH 40 0 (by decide) Nat.zero_lt_one rfl rfl, fun U hU hW => ⟨rfl, gD_at hK hG hB hH hS hU hW, q⟩⟩ rfl rfl hl.1 rfl (lv_room (Nat.le_of_ble_eq_true rfl)) dL_law_1490 ⟨by show cl + 1 + 0 ≤ 601024; omega, by show sl + 6 + 0 ≤ 7293034; omega⟩) hS (fun _ _ h => h) (fun _ h => h) (fun r5 F6 t H locs ht hvm q hB1 hz hk hS => ?_)
  have hH : gH G ad F6 H := gH_to ht hB1
  refine lv_iload hx hb dL_law_1493 (lv_at hl 1 rfl) ?_
  refine lv_icmp_eq (tgt := 1500) hx hb dL_law_1495 (by decide) (fun c7 => ?_) (fun c7 => ?_)
  · have q := (if_pos c7).mp q
    refine lv_iload hx hb dL_law_1500 (lv_at hl 1 rfl) ?_
    refine lv_if_ne (tgt := 1517) hx hb dL_law_1502 (by decide) (fun c8 => ?_) (fun c8 => ?_)
    · have q := (if_neg c8).mp q
      refine lv_goto (tgt := 2280) hx hb dL_law_1517 (by decide) ?_
      refine W.widen (k := cl + MCL) (n := sl + MSL) (by unfold MCL; omega) (by unfold MSL; omega) ?_
      exact hkk F6 ad _ _ _ (fun _ _ _ => rfl) hH hS (lv_sub hl [2, 3, 4, 5, 6] rfl) q
    · have q := (if_pos c8).mp q
      refine lv_aload_n hx hb dL_law_1505 rfl (lv_at hl 5 rfl) ?_
      refine lv_iconst (v := 0) hx hb dL_law_1506 (by decide) ?_
      obtain ⟨h9, q⟩ := q
      refine g_lald hx hb hK hH h9 dL_law_1507 ?_
      refine lv_iload hx hb dL_law_1508 (lv_at hl 0 rfl) ?_
      refine lv_i2l (v := r3.toInt64) hx hb dL_law_1510 rfl ?_
      refine W.lcmp hx hb dL_law_1511 ?_
      refine lv_if_eq (tgt := 1517) hx hb dL_law_1512 (by decide) (fun c10 => ?_) (fun c10 => ?_)
      · have q := (if_pos (lcmp_eq.mp c10)).mp q
        refine lv_goto (tgt := 2280) hx hb dL_law_1517 (by decide) ?_
        refine W.widen (k := cl + MCL) (n := sl + MSL) (by unfold MCL; omega) (by unfold MSL; omega) ?_
        exact hkk F6 ad _ _ _ (fun _ _ _ => rfl) hH hS (lv_sub hl [2, 3, 4, 5, 6] rfl) q
      · have q := (if_neg (fun z => c10 (lcmp_eq.mpr z))).mp q
        refine lv_iconst (v := 0) hx hb dL_law_1515 (by decide) ?_
        exact q.elim
  · have q := (if_neg c7).mp q
    refine lv_iconst (v := 0) hx hb dL_law_1498 (by decide) ?_
    exact q.elim
set_option maxHeartbeats 4000000 in
set_option maxRecDepth 100000 in
theorem law_22 {p : Program} {l : Launch} {e : Env} {s : State} {m : MethodId} {below : List Frame} {meth : Method} {c : Code} {b L : Nat} {xs : Nat → Int32} {Q : State → Prop} {G : GP} (hfl : l.stackTraces = false) (hx : p.tables.exec = Jvm.exec) (hb : c.code = code) (hml : c.maxLocals = 7) (hown : s.vm.findClass RL = some m.cls) (hts : ∀ w ∈ wsL_law, w.before #[Value.ref b] s = true) (hX : va_X b L xs s s.heap) (hbl : b < s.heap.size) (hK : gK G s) (hG : gS G s) (hB : G.2.2.2 ≤ s.heap.size) (hL : gL s) (hBe : G.2.2.2 = s.heap.size) (ad : Nat → Nat → Nat) (F : GF) (x4 a1 a2 a3 : Int32) (hi1 : vp_in (x4 + 1) L) (hi2 : vp_in (x4 + 2) L) (hi3 : vp_in (x4 + 3) L) (ha1 : xs (x4 + 1).toNatClampNeg = a1) (ha2 : xs (x4 + 2).toNatClampNeg = a2) (ha3 : xs (x4 + 3).toNatClampNeg = a3) (cl sl : Nat) (hcl : cl + MCL ≤ 601024) (hsl : sl + MSL ≤ 7293034) (H : Heap) (locs : List Loc) (ls : Array Slot) (hH : gH G ad F H) (hS : va_S (gA G) s.heap H locs) (hl : lv_has ls 7 [(0, .ref b), (1, .ref (ad 0 0)), (2, .ref (ad 40 0)), (3, .ref (ad 79 0)), (4, .int x4)]) (K : GF → Prop) (hkk : ∀ (F1 : GF) (ad1 : Nat → Nat → Nat) (H : Heap) (locs : List Loc) (ls : Array Slot), (∀ f i : Nat, f ≠ 39 → ad1 f i = ad f i) → gH G ad1 F1 H → va_S (gA G) s.heap H locs → lv_has ls 7 [(0, .ref b), (1, .ref (ad1 0 0)), (2, .ref (ad1 40 0)), (3, .ref (ad1 79 0)), (4, .int x4)] → K F1 → W p l e room_1 s m #[Value.ref b] below meth c H locs (cl + MCL) (sl + MSL) Q (F0 m 2280 ls [])) (q : PL_22 a1 a2 a3 K F) : W p l e room_1 s m #[Value.ref b] below meth c H locs cl sl Q (F0 m 1520 ls []) := by
  have hbA : ¬ gA G b := by
    intro h
    have h2 : G.2.2.2 ≤ b := h
    omega
  unfold MCL at hcl
  unfold MSL at hsl
  unfold PL_22 at q
  refine lv_aload_n hx hb dL_law_1520 rfl (lv_at hl 1 rfl) ?_
  refine lv_aload_n hx hb dL_law_1521 rfl (lv_at hl 0 rfl) ?_
  refine lv_iload hx hb dL_law_1522 (lv_at hl 4 rfl) ?_
  refine lv_iconst (v := 1) hx hb dL_law_1524 (by decide) ?_
  refine lv_iadd hx hb dL_law_1525 ?_
  refine va_sld hx hb hX hbl hbA hS hi1 dL_law_1526 ?_
  rw [ha1]
  refine lv_aload_n hx hb dL_law_1527 rfl (lv_at hl 3 rfl) ?_
  refine va_calli (vx_runSW (As := [.ref (ad 0 0), .int a1, .ref (ad 79 0)]) (rest := []) ⟨hx, hb, hml, hown, hts⟩ (c_L_ballots l hfl G ad F a1 _) (vx_cwSW 3 hts gL_law_L_ballots rfl rfl rfl (by decide +kernel) ⟨Nat.le_of_ble_eq_true rfl, Nat.le_of_ble_eq_true rfl⟩) ⟨fun a U g mk h => ⟨h.1, ⟨gD_blind h.2.1.1, gL.moved (u := U) (U := U.calling g mk a) (Vm.Alike.refl U.vm) h.2.1.2⟩, h.2.2⟩, fun U hU hW => ⟨rfl, ⟨gD_at hK hG hB hH hS hU hW, gL.moved hW.alike hL⟩, q⟩⟩ rfl rfl hl.1 rfl (lv_room (Nat.le_of_ble_eq_true rfl)) dL_law_1528 ⟨by show cl + 0 + 1 ≤ 601024; omega, by show sl + 0 + 6 ≤ 7293034; omega⟩) hS (fun _ _ h => h) (fun _ h => h) (fun r1 F2 t H locs ht hvm q hB1 hz hk hS => ?_)
  have hH : gH G ad F2 H := gH_to ht hB1
  refine lv_istore (lv' := [(5, .int r1), (0, .ref b), (1, .ref (ad 0 0)), (2, .ref (ad 40 0)), (3, .ref (ad 79 0)), (4, .int x4)]) hx hb dL_law_1531 hl (by decide) rfl (fun ls hl => ?_)
  refine lv_aload_n hx hb dL_law_1533 rfl (lv_at hl 3 rfl) ?_
  refine lv_aload_n hx hb dL_law_1534 rfl (lv_at hl 1 rfl) ?_
  refine lv_iload hx hb dL_law_1535 (lv_at hl 5 rfl) ?_
  refine lv_iconst (v := 1) hx hb dL_law_1537 (by decide) ?_
  refine lv_iadd hx hb dL_law_1538 ?_
  refine va_sld hx hb hX hbl hbA hS hi1 dL_law_1539 ?_
  rw [ha1]
  refine va_calli (va_runV (As := [.int a1]) (rest := []) ⟨hx, hb, hml, hown, hts⟩ (c_X11_ballots l G ad F2 a1 _) (cwV 1 hts gL_law_X11_ballots rfl rfl rfl (by decide +kernel) ⟨Nat.le_of_ble_eq_true rfl, Nat.le_of_ble_eq_true rfl⟩) ⟨fun a U g mk h => ⟨h.1, gD_blind h.2.1, h.2.2⟩, g_recv (C := RX11) (T := TX11) (N := 44) hK hH 40 0 (by decide) Nat.zero_lt_one rfl rfl, fun U hU hW => ⟨rfl, gD_at hK hG hB hH hS hU hW, q⟩⟩ rfl rfl hl.1 rfl (lv_room (Nat.le_of_ble_eq_true rfl)) dL_law_1540 ⟨by show cl + 1 + 0 ≤ 601024; omega, by show sl + 6 + 0 ≤ 7293034; omega⟩) hS (fun _ _ h => h) (fun _ h => h) (fun r3 F4 t H locs ht hvm q hB1 hz hk hS => ?_)
  have hH : gH G ad F4 H := gH_to ht hB1
  refine lv_istore (lv' := [(6, .int r3), (5, .int r1), (0, .ref b), (1, .ref (ad 0 0)), (2, .ref (ad 40 0)), (3, .ref (ad 79 0)), (4, .int x4)]) hx hb dL_law_1543 hl (by decide) rfl (fun ls hl => ?_)
  refine lv_aload_n hx hb dL_law_1545 rfl (lv_at hl 4 rfl) ?_
  refine va_calli (va_runV (As := []) (rest := []) ⟨hx, hb, hml, hown, hts⟩ (c_X11_thrown l G ad F4 _) (cwV 0 hts gL_law_X11_thrown rfl rfl rfl (by decide +kernel) ⟨Nat.le_of_ble_eq_true rfl, Nat.le_of_ble_eq_true rfl⟩) ⟨fun a U g mk h => ⟨h.1, gD_blind h.2.1, h.2.2⟩, g_recv (C := RX11) (T := TX11) (N := 44) hK hH 40 0 (by decide) Nat.zero_lt_one rfl rfl, fun U hU hW => ⟨rfl, gD_at hK hG hB hH hS hU hW, q⟩⟩ rfl rfl hl.1 rfl (lv_room (Nat.le_of_ble_eq_true rfl)) dL_law_1546 ⟨by show cl + 1 + 0 ≤ 601024; omega, by show sl + 6 + 0 ≤ 7293034; omega⟩) hS (fun _ _ h => h) (fun _ h => h) (fun r5 F6 t H locs ht hvm q hB1 hz hk hS => ?_)
  have hH : gH G ad F6 H := gH_to ht hB1
  refine lv_iload hx hb dL_law_1549 (lv_at hl 1 rfl) ?_
  refine lv_icmp_eq (tgt := 1556) hx hb dL_law_1551 (by decide) (fun c7 => ?_) (fun c7 => ?_)
  · have q := (if_pos c7).mp q
    refine lv_iload hx hb dL_law_1556 (lv_at hl 1 rfl) ?_
    refine lv_if_ne (tgt := 1573) hx hb dL_law_1558 (by decide) (fun c8 => ?_) (fun c8 => ?_)
    · have q := (if_neg c8).mp q
      refine lv_goto (tgt := 2280) hx hb dL_law_1573 (by decide) ?_
      refine W.widen (k := cl + MCL) (n := sl + MSL) (by unfold MCL; omega) (by unfold MSL; omega) ?_
      exact hkk F6 ad _ _ _ (fun _ _ _ => rfl) hH hS (lv_sub hl [2, 3, 4, 5, 6] rfl) q
    · have q := (if_pos c8).mp q
      refine lv_aload_n hx hb dL_law_1561 rfl (lv_at hl 5 rfl) ?_
      refine lv_iconst (v := 0) hx hb dL_law_1562 (by decide) ?_
      obtain ⟨h9, q⟩ := q
      refine g_lald hx hb hK hH h9 dL_law_1563 ?_
      refine lv_iload hx hb dL_law_1564 (lv_at hl 0 rfl) ?_
      refine lv_i2l (v := r3.toInt64) hx hb dL_law_1566 rfl ?_
      refine W.lcmp hx hb dL_law_1567 ?_
      refine lv_if_eq (tgt := 1573) hx hb dL_law_1568 (by decide) (fun c10 => ?_) (fun c10 => ?_)
      · have q := (if_pos (lcmp_eq.mp c10)).mp q
        refine lv_goto (tgt := 2280) hx hb dL_law_1573 (by decide) ?_
        refine W.widen (k := cl + MCL) (n := sl + MSL) (by unfold MCL; omega) (by unfold MSL; omega) ?_
        exact hkk F6 ad _ _ _ (fun _ _ _ => rfl) hH hS (lv_sub hl [2, 3, 4, 5, 6] rfl) q
      · have q := (if_neg (fun z => c10 (lcmp_eq.mpr z))).mp q
        refine lv_iconst (v := 0) hx hb dL_law_1571 (by decide) ?_
        exact q.elim
  · have q := (if_neg c7).mp q
    refine lv_iconst (v := 0) hx hb dL_law_1554 (by decide) ?_
    exact q.elim
set_option maxHeartbeats 4000000 in
set_option maxRecDepth 100000 in
theorem law_23 {p : Program} {l : Launch} {e : Env} {s : State} {m : MethodId} {below : List Frame} {meth : Method} {c : Code} {b L : Nat} {xs : Nat → Int32} {Q : State → Prop} {G : GP} (hfl : l.stackTraces = false) (hx : p.tables.exec = Jvm.exec) (hb : c.code = code) (hml : c.maxLocals = 7) (hown : s.vm.findClass RL = some m.cls) (hts : ∀ w ∈ wsL_law, w.before #[Value.ref b] s = true) (hX : va_X b L xs s s.heap) (hbl : b < s.heap.size) (hK : gK G s) (hG : gS G s) (hB : G.2.2.2 ≤ s.heap.size) (hL : gL s) (hBe : G.2.2.2 = s.heap.size) (ad : Nat → Nat → Nat) (F : GF) (x4 a1 a2 a3 : Int32) (hi1 : vp_in (x4 + 1) L) (hi2 : vp_in (x4 + 2) L) (hi3 : vp_in (x4 + 3) L) (ha1 : xs (x4 + 1).toNatClampNeg = a1) (ha2 : xs (x4 + 2).toNatClampNeg = a2) (ha3 : xs (x4 + 3).toNatClampNeg = a3) (cl sl : Nat) (hcl : cl + MCL ≤ 601024) (hsl : sl + MSL ≤ 7293034) (H : Heap) (locs : List Loc) (ls : Array Slot) (hH : gH G ad F H) (hS : va_S (gA G) s.heap H locs) (hl : lv_has ls 7 [(0, .ref b), (1, .ref (ad 0 0)), (2, .ref (ad 40 0)), (3, .ref (ad 79 0)), (4, .int x4)]) (K : GF → Prop) (hkk : ∀ (F1 : GF) (ad1 : Nat → Nat → Nat) (H : Heap) (locs : List Loc) (ls : Array Slot), (∀ f i : Nat, f ≠ 39 → ad1 f i = ad f i) → gH G ad1 F1 H → va_S (gA G) s.heap H locs → lv_has ls 7 [(0, .ref b), (1, .ref (ad1 0 0)), (2, .ref (ad1 40 0)), (3, .ref (ad1 79 0)), (4, .int x4)] → K F1 → W p l e room_1 s m #[Value.ref b] below meth c H locs (cl + MCL) (sl + MSL) Q (F0 m 2280 ls [])) (q : PL_23 a1 a2 a3 K F) : W p l e room_1 s m #[Value.ref b] below meth c H locs cl sl Q (F0 m 1576 ls []) := by
  have hbA : ¬ gA G b := by
    intro h
    have h2 : G.2.2.2 ≤ b := h
    omega
  unfold MCL at hcl
  unfold MSL at hsl
  unfold PL_23 at q
  refine lv_aload_n hx hb dL_law_1576 rfl (lv_at hl 1 rfl) ?_
  refine lv_aload_n hx hb dL_law_1577 rfl (lv_at hl 0 rfl) ?_
  refine lv_iload hx hb dL_law_1578 (lv_at hl 4 rfl) ?_
  refine lv_iconst (v := 1) hx hb dL_law_1580 (by decide) ?_
  refine lv_iadd hx hb dL_law_1581 ?_
  refine va_sld hx hb hX hbl hbA hS hi1 dL_law_1582 ?_
  rw [ha1]
  refine lv_aload_n hx hb dL_law_1583 rfl (lv_at hl 0 rfl) ?_
  refine lv_iload hx hb dL_law_1584 (lv_at hl 4 rfl) ?_
  refine lv_iconst (v := 2) hx hb dL_law_1586 (by decide) ?_
  refine lv_iadd hx hb dL_law_1587 ?_
  refine va_sld hx hb hX hbl hbA hS hi2 dL_law_1588 ?_
  rw [ha2]
  refine lv_aload_n hx hb dL_law_1589 rfl (lv_at hl 3 rfl) ?_
  refine va_calli (vx_runSW (As := [.ref (ad 0 0), .int a1, .int a2, .ref (ad 79 0)]) (rest := []) ⟨hx, hb, hml, hown, hts⟩ (c_L_setSlip l hfl G ad F a1 a2 _) (vx_cwSW 4 hts gL_law_L_setSlip rfl rfl rfl (by decide +kernel) ⟨Nat.le_of_ble_eq_true rfl, Nat.le_of_ble_eq_true rfl⟩) ⟨fun a U g mk h => ⟨h.1, ⟨gD_blind h.2.1.1, gL.moved (u := U) (U := U.calling g mk a) (Vm.Alike.refl U.vm) h.2.1.2⟩, h.2.2⟩, fun U hU hW => ⟨rfl, ⟨gD_at hK hG hB hH hS hU hW, gL.moved hW.alike hL⟩, q⟩⟩ rfl rfl hl.1 rfl (lv_room (Nat.le_of_ble_eq_true rfl)) dL_law_1590 ⟨by show cl + 0 + 3 ≤ 601024; omega, by show sl + 0 + 18 ≤ 7293034; omega⟩) hS (fun _ _ h => h) (fun _ h => h) (fun r1 F2 t H locs ht hvm q hB1 hz hk hS => ?_)
  have hH : gH G ad F2 H := gH_to ht hB1
  refine lv_istore (lv' := [(5, .int r1), (0, .ref b), (1, .ref (ad 0 0)), (2, .ref (ad 40 0)), (3, .ref (ad 79 0)), (4, .int x4)]) hx hb dL_law_1593 hl (by decide) rfl (fun ls hl => ?_)
  refine lv_aload_n hx hb dL_law_1595 rfl (lv_at hl 3 rfl) ?_
  refine lv_aload_n hx hb dL_law_1596 rfl (lv_at hl 1 rfl) ?_
  refine lv_iload hx hb dL_law_1597 (lv_at hl 5 rfl) ?_
  refine lv_iconst (v := 1) hx hb dL_law_1599 (by decide) ?_
  refine lv_iadd hx hb dL_law_1600 ?_
  refine va_sld hx hb hX hbl hbA hS hi1 dL_law_1601 ?_
  rw [ha1]
  refine lv_aload_n hx hb dL_law_1602 rfl (lv_at hl 1 rfl) ?_
  refine lv_iload hx hb dL_law_1603 (lv_at hl 5 rfl) ?_
  refine lv_iconst (v := 2) hx hb dL_law_1605 (by decide) ?_
  refine lv_iadd hx hb dL_law_1606 ?_
  refine va_sld hx hb hX hbl hbA hS hi2 dL_law_1607 ?_
  rw [ha2]
  refine va_calli (va_runV (As := [.int a1, .int a2]) (rest := []) ⟨hx, hb, hml, hown, hts⟩ (c_X11_setSlip l G ad F2 a1 a2 _) (cwV 2 hts gL_law_X11_setSlip rfl rfl rfl (by decide +kernel) ⟨Nat.le_of_ble_eq_true rfl, Nat.le_of_ble_eq_true rfl⟩) ⟨fun a U g mk h => ⟨h.1, gD_blind h.2.1, h.2.2⟩, g_recv (C := RX11) (T := TX11) (N := 44) hK hH 40 0 (by decide) Nat.zero_lt_one rfl rfl, fun U hU hW => ⟨rfl, gD_at hK hG hB hH hS hU hW, q⟩⟩ rfl rfl hl.1 rfl (lv_room (Nat.le_of_ble_eq_true rfl)) dL_law_1608 ⟨by show cl + 3 + 0 ≤ 601024; omega, by show sl + 18 + 0 ≤ 7293034; omega⟩) hS (fun _ _ h => h) (fun _ h => h) (fun r3 F4 t H locs ht hvm q hB1 hz hk hS => ?_)
  have hH : gH G ad F4 H := gH_to ht hB1
  refine lv_istore (lv' := [(6, .int r3), (5, .int r1), (0, .ref b), (1, .ref (ad 0 0)), (2, .ref (ad 40 0)), (3, .ref (ad 79 0)), (4, .int x4)]) hx hb dL_law_1611 hl (by decide) rfl (fun ls hl => ?_)
  refine lv_aload_n hx hb dL_law_1613 rfl (lv_at hl 4 rfl) ?_
  refine va_calli (va_runV (As := []) (rest := []) ⟨hx, hb, hml, hown, hts⟩ (c_X11_thrown l G ad F4 _) (cwV 0 hts gL_law_X11_thrown rfl rfl rfl (by decide +kernel) ⟨Nat.le_of_ble_eq_true rfl, Nat.le_of_ble_eq_true rfl⟩) ⟨fun a U g mk h => ⟨h.1, gD_blind h.2.1, h.2.2⟩, g_recv (C := RX11) (T := TX11) (N := 44) hK hH 40 0 (by decide) Nat.zero_lt_one rfl rfl, fun U hU hW => ⟨rfl, gD_at hK hG hB hH hS hU hW, q⟩⟩ rfl rfl hl.1 rfl (lv_room (Nat.le_of_ble_eq_true rfl)) dL_law_1614 ⟨by show cl + 3 + 0 ≤ 601024; omega, by show sl + 18 + 0 ≤ 7293034; omega⟩) hS (fun _ _ h => h) (fun _ h => h) (fun r5 F6 t H locs ht hvm q hB1 hz hk hS => ?_)
  have hH : gH G ad F6 H := gH_to ht hB1
  refine lv_iload hx hb dL_law_1617 (lv_at hl 1 rfl) ?_
  refine lv_icmp_eq (tgt := 1624) hx hb dL_law_1619 (by decide) (fun c7 => ?_) (fun c7 => ?_)
  · have q := (if_pos c7).mp q
    refine lv_iload hx hb dL_law_1624 (lv_at hl 1 rfl) ?_
    refine lv_if_ne (tgt := 1641) hx hb dL_law_1626 (by decide) (fun c8 => ?_) (fun c8 => ?_)
    · have q := (if_neg c8).mp q
      refine lv_goto (tgt := 2280) hx hb dL_law_1641 (by decide) ?_
      refine W.widen (k := cl + MCL) (n := sl + MSL) (by unfold MCL; omega) (by unfold MSL; omega) ?_
      exact hkk F6 ad _ _ _ (fun _ _ _ => rfl) hH hS (lv_sub hl [2, 3, 4, 5, 6] rfl) q
    · have q := (if_pos c8).mp q
      refine lv_aload_n hx hb dL_law_1629 rfl (lv_at hl 5 rfl) ?_
      refine lv_iconst (v := 0) hx hb dL_law_1630 (by decide) ?_
      obtain ⟨h9, q⟩ := q
      refine g_lald hx hb hK hH h9 dL_law_1631 ?_
      refine lv_iload hx hb dL_law_1632 (lv_at hl 0 rfl) ?_
      refine lv_i2l (v := r3.toInt64) hx hb dL_law_1634 rfl ?_
      refine W.lcmp hx hb dL_law_1635 ?_
      refine lv_if_eq (tgt := 1641) hx hb dL_law_1636 (by decide) (fun c10 => ?_) (fun c10 => ?_)
      · have q := (if_pos (lcmp_eq.mp c10)).mp q
        refine lv_goto (tgt := 2280) hx hb dL_law_1641 (by decide) ?_
        refine W.widen (k := cl + MCL) (n := sl + MSL) (by unfold MCL; omega) (by unfold MSL; omega) ?_
        exact hkk F6 ad _ _ _ (fun _ _ _ => rfl) hH hS (lv_sub hl [2, 3, 4, 5, 6] rfl) q
      · have q := (if_neg (fun z => c10 (lcmp_eq.mpr z))).mp q
        refine lv_iconst (v := 0) hx hb dL_law_1639 (by decide) ?_
        exact q.elim
  · have q := (if_neg c7).mp q
    refine lv_iconst (v := 0) hx hb dL_law_1622 (by decide) ?_
    exact q.elim
