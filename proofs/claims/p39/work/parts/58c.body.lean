def MCL : Nat := 58
def MSL : Nat := 348
set_option maxHeartbeats 8000000 in
set_option maxRecDepth 100000 in
theorem law_body {p : Program} {l : Launch} {e : Env} {s : State} {m : MethodId} {below : List Frame} {meth : Method} {c : Code} {b L : Nat} {xs : Nat → Int32} {Q : State → Prop} {G : GPz} {a0 b0 ca : Nat} (hfl : l.stackTraces = false) (hx : p.tables.exec = Jvm.exec) (hb : c.code = code) (hml : c.maxLocals = 12) (hown : s.vm.findClass RL = some m.cls) (hts : ∀ w ∈ wsL_law, w.before #[Value.ref b] s = true) (hX : va_X b L xs s s.heap) (hbl : b < s.heap.size) (hLL : L < 2 ^ 31) (hK : gK (zg G) s) (hG : gS (zg G) s) (hL : gL s) (hBe : G.2.2.2 = s.heap.size) (F : S3) (k : Int32) (cl sl : Nat) (hcl : cl + MCL ≤ 600130) (hsl : sl + MSL ≤ 7301080) (H : Heap) (locs : List Loc) (ls : Array Slot) (hH : tH G a0 b0 ca F H) (hS : va_S (gA (zg G)) s.heap H locs) (hl : lv_has ls 12 [(0, .ref b), (1, .ref a0), (2, .ref b0), (3, .ref ca), (4, .int 1), (5, .int k)]) (K : Int32 → S3 → Prop) (hkk : ∀ (r : Int32) (F1 : S3) (H : Heap) (locs : List Loc) (ls : Array Slot), tH G a0 b0 ca F1 H → va_S (gA (zg G)) s.heap H locs → lv_has ls 12 [(0, .ref b), (1, .ref a0), (2, .ref b0), (3, .ref ca), (4, .int r), (5, .int (k + 1))] → K r F1 → W p l e room_1 s m #[Value.ref b] below meth c H locs (cl + MCL) (sl + MSL) Q (F0 m 26 ls [])) (q : P_M_body L xs k F K) : W p l e room_1 s m #[Value.ref b] below meth c H locs cl sl Q (F0 m 38 ls []) := by
  have hB : G.2.2.2 ≤ s.heap.size := Nat.le_of_eq hBe
  have hbA : ¬ gA (zg G) b := by
    intro h
    have h2 : G.2.2.2 ≤ b := h
    omega
  unfold MCL at hcl
  unfold MSL at hsl
  have t_625 : ∀ (F : S3) (s0 : Int32) (H : Heap) (locs : List Loc) (ls : Array Slot), tH G a0 b0 ca F H → va_S (gA (zg G)) s.heap H locs → lv_has ls 12 [(0, .ref b), (1, .ref a0), (2, .ref b0), (3, .ref ca), (5, .int k)] → (P_M_body_625 L xs k K) F s0 → W p l e room_1 s m #[Value.ref b] below meth c H locs (cl + 58) (sl + 348) Q (F0 m 625 ls [.int s0]) := by
    intro F s0 H locs ls hH hS hl q
    unfold P_M_body_625 at q
    refine lv_istore (lv' := [(4, .int s0), (0, .ref b), (1, .ref a0), (2, .ref b0), (3, .ref ca), (5, .int k)]) hx hb dL_law_625 hl (by decide) rfl (fun ls hl => ?_)
    refine lv_iinc (v := k + 1) (lv' := [(5, .int (k + 1)), (4, .int s0), (0, .ref b), (1, .ref a0), (2, .ref b0), (3, .ref ca)]) hx hb dL_law_627 hl (k := 5) rfl rfl (by decide) rfl (fun ls hl => ?_)
    refine lv_goto (tgt := 26) hx hb dL_law_630 (by decide) ?_
    refine W.widen (k := cl + MCL) (n := sl + MSL) (by unfold MCL; omega) (by unfold MSL; omega) ?_
    exact hkk s0 F _ _ _ hH hS (lv_sub hl [2, 3, 4, 5, 1, 0] rfl) q
  have t_624 : ∀ (F : S3) (H : Heap) (locs : List Loc) (ls : Array Slot), tH G a0 b0 ca F H → va_S (gA (zg G)) s.heap H locs → lv_has ls 12 [(0, .ref b), (1, .ref a0), (2, .ref b0), (3, .ref ca), (5, .int k)] → (P_M_body_624 L xs k K) F → W p l e room_1 s m #[Value.ref b] below meth c H locs (cl + 58) (sl + 348) Q (F0 m 624 ls []) := by
    intro F H locs ls hH hS hl q
    unfold P_M_body_624 at q
    refine lv_iconst (v := 0) hx hb dL_law_624 (by decide) ?_
    exact t_625 F 0 _ _ _ hH hS (lv_sub hl [0, 1, 2, 3, 4] rfl) q
  have t_620 : ∀ (F : S3) (H : Heap) (locs : List Loc) (ls : Array Slot), tH G a0 b0 ca F H → va_S (gA (zg G)) s.heap H locs → lv_has ls 12 [(0, .ref b), (1, .ref a0), (2, .ref b0), (3, .ref ca), (5, .int k)] → (P_M_body_620 L xs k K) F → W p l e room_1 s m #[Value.ref b] below meth c H locs (cl + 58) (sl + 348) Q (F0 m 620 ls []) := by
    intro F H locs ls hH hS hl q
    unfold P_M_body_620 at q
    refine lv_iconst (v := 1) hx hb dL_law_620 (by decide) ?_
    refine lv_goto (tgt := 625) hx hb dL_law_621 (by decide) ?_
    exact t_625 F 1 _ _ _ hH hS (lv_sub hl [0, 1, 2, 3, 4] rfl) q
  have t_594 : ∀ (F : S3) (x4 : Int32) (x6 : Int32) (H : Heap) (locs : List Loc) (ls : Array Slot), tH G a0 b0 ca F H → va_S (gA (zg G)) s.heap H locs → lv_has ls 12 [(0, .ref b), (1, .ref a0), (2, .ref b0), (3, .ref ca), (4, .int x4), (5, .int k), (6, .int x6)] → (P_M_body_594 L xs k K) F x4 x6 → W p l e room_1 s m #[Value.ref b] below meth c H locs (cl + 18) (sl + 108) Q (F0 m 594 ls []) := by
    intro F x4 x6 H locs ls hH hS hl q
    unfold P_M_body_594 at q
    refine lv_iload hx hb dL_law_594 (lv_at hl 4 rfl) ?_
    refine lv_if_eq (tgt := 624) hx hb dL_law_596 (by decide) (fun c30 => ?_) (fun c30 => ?_)
    · have q := (if_pos c30).mp q
      refine W.widen (k := cl + 58) (n := sl + 348) (by omega) (by omega) ?_
      exact t_624 F  _ _ _ hH hS (lv_sub hl [0, 1, 2, 3, 5] rfl) q
    · have q := (if_neg c30).mp q
      refine lv_iload hx hb dL_law_599 (lv_at hl 5 rfl) ?_
      refine lv_iconst (v := 3) hx hb dL_law_601 (by decide) ?_
      refine lv_irem hx hb dL_law_602 (by decide) ?_
      refine lv_iconst (v := 2) hx hb dL_law_603 (by decide) ?_
      refine lv_icmp_lt (tgt := 620) hx hb dL_law_604 (by decide) (fun c31 => ?_) (fun c31 => ?_)
      · have q := (if_pos c31).mp q
        refine W.widen (k := cl + 58) (n := sl + 348) (by omega) (by omega) ?_
        exact t_620 F  _ _ _ hH hS (lv_sub hl [0, 1, 2, 3, 5] rfl) q
      · have q := (if_neg c31).mp q
        refine lv_aload_n hx hb dL_law_607 rfl (lv_at hl 1 rfl) ?_
        refine lv_aload_n hx hb dL_law_608 rfl (lv_at hl 2 rfl) ?_
        refine lv_aload_n hx hb dL_law_609 rfl (lv_at hl 3 rfl) ?_
        refine lv_iload hx hb dL_law_610 (lv_at hl 6 rfl) ?_
        refine lv_iconst (v := 3) hx hb dL_law_612 (by decide) ?_
        refine lv_idiv hx hb dL_law_613 (by decide) ?_
        refine va_calli (va_runS (As := [.ref a0, .ref b0, .ref ca, .int (x6 / 3)]) (rest := []) ⟨hx, hb, hml, hown, hts⟩ (c_L_same l hfl G a0 b0 ca F (x6 / 3) _) (va_cwS 4 hts gL_law_L_same rfl rfl rfl (by decide +kernel) ⟨Nat.le_of_ble_eq_true rfl, Nat.le_of_ble_eq_true rfl⟩) ⟨fun a U g mk h => ⟨h.1, tD_blind h.2.1, h.2.2⟩, fun U hU hW => ⟨rfl, tD_at hK hG hL hB hH hS hU hW, q⟩⟩ rfl rfl hl.1 rfl (lv_room (Nat.le_of_ble_eq_true rfl)) dL_law_614 ⟨by show cl + 18 + 40 ≤ 600130; omega, by show sl + 108 + 240 ≤ 7301080; omega⟩) hS (fun _ _ h => h) (fun _ h => h) (fun r32 F34 t H locs ht hvm q hB1 hz hk hS => ?_)
        have hH := tH_to ht hB1
        refine lv_if_eq (tgt := 624) hx hb dL_law_617 (by decide) (fun c35 => ?_) (fun c35 => ?_)
        · have q := (if_pos c35).mp q
          exact t_624 F34  _ _ _ hH hS (lv_sub hl [0, 1, 2, 3, 5] rfl) q
        · have q := (if_neg c35).mp q
          exact t_620 F34  _ _ _ hH hS (lv_sub hl [0, 1, 2, 3, 5] rfl) q
  have t_592 : ∀ (F : S3) (x6 : Int32) (s0 : Int32) (H : Heap) (locs : List Loc) (ls : Array Slot), tH G a0 b0 ca F H → va_S (gA (zg G)) s.heap H locs → lv_has ls 12 [(0, .ref b), (1, .ref a0), (2, .ref b0), (3, .ref ca), (5, .int k), (6, .int x6)] → (P_M_body_592 L xs k K) F x6 s0 → W p l e room_1 s m #[Value.ref b] below meth c H locs (cl + 6) (sl + 36) Q (F0 m 592 ls [.int s0]) := by
    intro F x6 s0 H locs ls hH hS hl q
    unfold P_M_body_592 at q
    refine lv_istore (lv' := [(4, .int s0), (0, .ref b), (1, .ref a0), (2, .ref b0), (3, .ref ca), (5, .int k), (6, .int x6)]) hx hb dL_law_592 hl (by decide) rfl (fun ls hl => ?_)
    refine W.widen (k := cl + 18) (n := sl + 108) (by omega) (by omega) ?_
    exact t_594 F s0 x6 _ _ _ hH hS (lv_sub hl [1, 2, 3, 4, 0, 5, 6] rfl) q
  have t_565 : ∀ (F : S3) (x6 : Int32) (s0 : Int32) (H : Heap) (locs : List Loc) (ls : Array Slot), tH G a0 b0 ca F H → va_S (gA (zg G)) s.heap H locs → lv_has ls 12 [(0, .ref b), (1, .ref a0), (2, .ref b0), (3, .ref ca), (5, .int k), (6, .int x6)] → (P_M_body_565 L xs k K) F x6 s0 → W p l e room_1 s m #[Value.ref b] below meth c H locs (cl + 8) (sl + 48) Q (F0 m 565 ls [.int s0]) := by
    intro F x6 s0 H locs ls hH hS hl q
    unfold P_M_body_565 at q
    refine lv_istore (lv' := [(4, .int s0), (0, .ref b), (1, .ref a0), (2, .ref b0), (3, .ref ca), (5, .int k), (6, .int x6)]) hx hb dL_law_565 hl (by decide) rfl (fun ls hl => ?_)
    refine lv_goto (tgt := 594) hx hb dL_law_567 (by decide) ?_
    refine W.widen (k := cl + 18) (n := sl + 108) (by omega) (by omega) ?_
    exact t_594 F s0 x6 _ _ _ hH hS (lv_sub hl [1, 2, 3, 4, 0, 5, 6] rfl) q
  have t_521 : ∀ (F : S3) (x6 : Int32) (s0 : Int32) (H : Heap) (locs : List Loc) (ls : Array Slot), tH G a0 b0 ca F H → va_S (gA (zg G)) s.heap H locs → lv_has ls 12 [(0, .ref b), (1, .ref a0), (2, .ref b0), (3, .ref ca), (5, .int k), (6, .int x6)] → (P_M_body_521 L xs k K) F x6 s0 → W p l e room_1 s m #[Value.ref b] below meth c H locs (cl + 12) (sl + 72) Q (F0 m 521 ls [.int s0]) := by
    intro F x6 s0 H locs ls hH hS hl q
    unfold P_M_body_521 at q
    refine lv_istore (lv' := [(4, .int s0), (0, .ref b), (1, .ref a0), (2, .ref b0), (3, .ref ca), (5, .int k), (6, .int x6)]) hx hb dL_law_521 hl (by decide) rfl (fun ls hl => ?_)
    refine lv_goto (tgt := 594) hx hb dL_law_523 (by decide) ?_
    refine W.widen (k := cl + 18) (n := sl + 108) (by omega) (by omega) ?_
    exact t_594 F s0 x6 _ _ _ hH hS (lv_sub hl [1, 2, 3, 4, 0, 5, 6] rfl) q
  have t_487 : ∀ (F : S3) (x6 : Int32) (x8 : Int32) (s0 : Int32) (H : Heap) (locs : List Loc) (ls : Array Slot), tH G a0 b0 ca F H → va_S (gA (zg G)) s.heap H locs → lv_has ls 12 [(0, .ref b), (1, .ref a0), (2, .ref b0), (3, .ref ca), (5, .int k), (6, .int x6), (8, .int x8)] → (P_M_body_487 L xs k K) F x6 x8 s0 → W p l e room_1 s m #[Value.ref b] below meth c H locs (cl + 0) (sl + 0) Q (F0 m 487 ls [.int s0]) := by
    intro F x6 x8 s0 H locs ls hH hS hl q
    unfold P_M_body_487 at q
    refine lv_istore (lv' := [(11, .int s0), (0, .ref b), (1, .ref a0), (2, .ref b0), (3, .ref ca), (5, .int k), (6, .int x6), (8, .int x8)]) hx hb dL_law_487 hl (by decide) rfl (fun ls hl => ?_)
    refine lv_aload_n hx hb dL_law_489 rfl (lv_at hl 2 rfl) ?_
    refine lv_bipush (v := 6) hx hb dL_law_490 (by decide) ?_
    refine lv_iload hx hb dL_law_492 (lv_at hl 7 rfl) ?_
    refine lv_iconst (v := 4) hx hb dL_law_494 (by decide) ?_
    refine lv_irem hx hb dL_law_495 (by decide) ?_
    refine lv_iload hx hb dL_law_496 (lv_at hl 0 rfl) ?_
    have hH0 := hH
    obtain ⟨ada, adb, ea, eb, hT⟩ := hH
    refine va_calli (vx_runSW (As := [.ref a0, .int 6, .int (x8 - x8 / 4 * 4), .int s0]) (rest := []) ⟨hx, hb, hml, hown, hts⟩ (cm_L_does l hfl (tG G adb F.2.1 ca) ada F.1 6 (x8 - x8 / 4 * 4) s0 a0 ea _) (vx_cwSW 4 hts gL_law_L_does rfl rfl rfl (by decide +kernel) ⟨Nat.le_of_ble_eq_true rfl, Nat.le_of_ble_eq_true rfl⟩) ⟨fun a U g mk h => ⟨h.1, ⟨gD_blind h.2.1.1, gL.moved (u := U) (U := U.calling g mk a) (Vm.Alike.refl U.vm) h.2.1.2⟩, h.2.2⟩, fun U hU hW => ⟨rfl, ⟨tD_A hK hG hB hT hS hU hW, gL.moved hW.alike hL⟩, q⟩⟩ rfl rfl hl.1 rfl (lv_room (Nat.le_of_ble_eq_true rfl)) dL_law_498 ⟨by show cl + 0 + 6 ≤ 600130; omega, by show sl + 0 + 36 ≤ 7301080; omega⟩) hS (fun _ _ h => h.1) (fun _ h => h.1) (fun r44 Z45u t H locs ht hvm q hB1 hz hk hS => ?_)
    obtain ⟨Z45, ad1⟩ := Z45u
    obtain ⟨q, hα⟩ := q
    have hB1 : gH (tG G adb F.2.1 ca) ad1 Z45 H := gH_to ht hB1
    have hT := tO_A hT hk hB1
    obtain ⟨F46, eF46, q⟩ := q
    have hH : tH G a0 b0 ca F46 H := tH_eq ⟨ad1, adb, ((hα 0 0 (by decide)).trans ea), eb, hT⟩ eF46
    refine lv_aload_n hx hb dL_law_501 rfl (lv_at hl 3 rfl) ?_
    refine lv_bipush (v := 6) hx hb dL_law_502 (by decide) ?_
    refine lv_iload hx hb dL_law_504 (lv_at hl 7 rfl) ?_
    refine lv_iconst (v := 4) hx hb dL_law_506 (by decide) ?_
    refine lv_irem hx hb dL_law_507 (by decide) ?_
    refine lv_iload hx hb dL_law_508 (lv_at hl 0 rfl) ?_
    have hH0 := hH
    obtain ⟨ada, adb, ea, eb, hT⟩ := hH
    refine va_calli (vx_runSW (As := [.ref b0, .int 6, .int (x8 - x8 / 4 * 4), .int s0]) (rest := [.int r44]) ⟨hx, hb, hml, hown, hts⟩ (cm_L_does l hfl (tG G ada F46.1 ca) adb F46.2.1 6 (x8 - x8 / 4 * 4) s0 b0 eb _) (vx_cwSW 4 hts gL_law_L_does rfl rfl rfl (by decide +kernel) ⟨Nat.le_of_ble_eq_true rfl, Nat.le_of_ble_eq_true rfl⟩) ⟨fun a U g mk h => ⟨h.1, ⟨gD_blind h.2.1.1, gL.moved (u := U) (U := U.calling g mk a) (Vm.Alike.refl U.vm) h.2.1.2⟩, h.2.2⟩, fun U hU hW => ⟨rfl, ⟨tD_B hK hG hB hT hS hU hW, gL.moved hW.alike hL⟩, q⟩⟩ rfl rfl hl.1 rfl (lv_room (Nat.le_of_ble_eq_true rfl)) dL_law_510 ⟨by show cl + 6 + 6 ≤ 600130; omega, by show sl + 36 + 36 ≤ 7301080; omega⟩) hS (fun _ _ h => h.1) (fun _ h => h.1) (fun r47 Z48u t H locs ht hvm q hB1 hz hk hS => ?_)
    obtain ⟨Z48, ad1⟩ := Z48u
    obtain ⟨q, hα⟩ := q
    have hB1 : gH (tG G ada F46.1 ca) ad1 Z48 H := gH_to ht hB1
    have hT := tO_B hT hk hB1
    obtain ⟨F49, eF49, q⟩ := q
    have hH : tH G a0 b0 ca F49 H := tH_eq ⟨ada, ad1, ea, ((hα 0 0 (by decide)).trans eb), hT⟩ eF49
    refine lv_icmp_ne (tgt := 520) hx hb dL_law_513 (by decide) (fun c50 => ?_) (fun c50 => ?_)
    · have q := (if_neg c50).mp q
      refine lv_iconst (v := 0) hx hb dL_law_520 (by decide) ?_
      exact t_521 F49 x6 0 _ _ _ hH hS (lv_sub hl [1, 2, 3, 4, 5, 6] rfl) q
    · have q := (if_pos c50).mp q
      refine lv_iconst (v := 1) hx hb dL_law_516 (by decide) ?_
      refine lv_goto (tgt := 521) hx hb dL_law_517 (by decide) ?_
      exact t_521 F49 x6 1 _ _ _ hH hS (lv_sub hl [1, 2, 3, 4, 5, 6] rfl) q
  have t_453 : ∀ (F : S3) (x6 : Int32) (s0 : Int32) (H : Heap) (locs : List Loc) (ls : Array Slot), tH G a0 b0 ca F H → va_S (gA (zg G)) s.heap H locs → lv_has ls 12 [(0, .ref b), (1, .ref a0), (2, .ref b0), (3, .ref ca), (5, .int k), (6, .int x6)] → (P_M_body_453 L xs k K) F x6 s0 → W p l e room_1 s m #[Value.ref b] below meth c H locs (cl + 6) (sl + 36) Q (F0 m 453 ls [.int s0]) := by
    intro F x6 s0 H locs ls hH hS hl q
    unfold P_M_body_453 at q
    refine lv_istore (lv' := [(4, .int s0), (0, .ref b), (1, .ref a0), (2, .ref b0), (3, .ref ca), (5, .int k), (6, .int x6)]) hx hb dL_law_453 hl (by decide) rfl (fun ls hl => ?_)
    refine lv_goto (tgt := 594) hx hb dL_law_455 (by decide) ?_
    refine W.widen (k := cl + 18) (n := sl + 108) (by omega) (by omega) ?_
    exact t_594 F s0 x6 _ _ _ hH hS (lv_sub hl [1, 2, 3, 4, 0, 5, 6] rfl) q
  have t_419 : ∀ (F : S3) (x6 : Int32) (s0 : Int32) (H : Heap) (locs : List Loc) (ls : Array Slot), tH G a0 b0 ca F H → va_S (gA (zg G)) s.heap H locs → lv_has ls 12 [(0, .ref b), (1, .ref a0), (2, .ref b0), (3, .ref ca), (5, .int k), (6, .int x6)] → (P_M_body_419 L xs k K) F x6 s0 → W p l e room_1 s m #[Value.ref b] below meth c H locs (cl + 15) (sl + 90) Q (F0 m 419 ls [.int s0]) := by
    intro F x6 s0 H locs ls hH hS hl q
    unfold P_M_body_419 at q
    refine lv_istore (lv' := [(4, .int s0), (0, .ref b), (1, .ref a0), (2, .ref b0), (3, .ref ca), (5, .int k), (6, .int x6)]) hx hb dL_law_419 hl (by decide) rfl (fun ls hl => ?_)
    refine lv_goto (tgt := 594) hx hb dL_law_421 (by decide) ?_
    refine W.widen (k := cl + 18) (n := sl + 108) (by omega) (by omega) ?_
    exact t_594 F s0 x6 _ _ _ hH hS (lv_sub hl [1, 2, 3, 4, 0, 5, 6] rfl) q
  have t_358 : ∀ (F : S3) (x6 : Int32) (s0 : Int32) (H : Heap) (locs : List Loc) (ls : Array Slot), tH G a0 b0 ca F H → va_S (gA (zg G)) s.heap H locs → lv_has ls 12 [(0, .ref b), (1, .ref a0), (2, .ref b0), (3, .ref ca), (5, .int k), (6, .int x6)] → (P_M_body_358 L xs k K) F x6 s0 → W p l e room_1 s m #[Value.ref b] below meth c H locs (cl + 12) (sl + 72) Q (F0 m 358 ls [.int s0]) := by
    intro F x6 s0 H locs ls hH hS hl q
    unfold P_M_body_358 at q
    refine lv_istore (lv' := [(4, .int s0), (0, .ref b), (1, .ref a0), (2, .ref b0), (3, .ref ca), (5, .int k), (6, .int x6)]) hx hb dL_law_358 hl (by decide) rfl (fun ls hl => ?_)
    refine lv_goto (tgt := 594) hx hb dL_law_360 (by decide) ?_
    refine W.widen (k := cl + 18) (n := sl + 108) (by omega) (by omega) ?_
    exact t_594 F s0 x6 _ _ _ hH hS (lv_sub hl [1, 2, 3, 4, 0, 5, 6] rfl) q
  have t_308 : ∀ (F : S3) (x6 : Int32) (s0 : Int32) (H : Heap) (locs : List Loc) (ls : Array Slot), tH G a0 b0 ca F H → va_S (gA (zg G)) s.heap H locs → lv_has ls 12 [(0, .ref b), (1, .ref a0), (2, .ref b0), (3, .ref ca), (5, .int k), (6, .int x6)] → (P_M_body_308 L xs k K) F x6 s0 → W p l e room_1 s m #[Value.ref b] below meth c H locs (cl + 6) (sl + 36) Q (F0 m 308 ls [.int s0]) := by
    intro F x6 s0 H locs ls hH hS hl q
    unfold P_M_body_308 at q
    refine lv_istore (lv' := [(4, .int s0), (0, .ref b), (1, .ref a0), (2, .ref b0), (3, .ref ca), (5, .int k), (6, .int x6)]) hx hb dL_law_308 hl (by decide) rfl (fun ls hl => ?_)
    refine lv_goto (tgt := 594) hx hb dL_law_310 (by decide) ?_
    refine W.widen (k := cl + 18) (n := sl + 108) (by omega) (by omega) ?_
    exact t_594 F s0 x6 _ _ _ hH hS (lv_sub hl [1, 2, 3, 4, 0, 5, 6] rfl) q
  have t_266 : ∀ (F : S3) (x6 : Int32) (s0 : Int32) (H : Heap) (locs : List Loc) (ls : Array Slot), tH G a0 b0 ca F H → va_S (gA (zg G)) s.heap H locs → lv_has ls 12 [(0, .ref b), (1, .ref a0), (2, .ref b0), (3, .ref ca), (5, .int k), (6, .int x6)] → (P_M_body_266 L xs k K) F x6 s0 → W p l e room_1 s m #[Value.ref b] below meth c H locs (cl + 18) (sl + 108) Q (F0 m 266 ls [.int s0]) := by
    intro F x6 s0 H locs ls hH hS hl q
    unfold P_M_body_266 at q
    refine lv_istore (lv' := [(4, .int s0), (0, .ref b), (1, .ref a0), (2, .ref b0), (3, .ref ca), (5, .int k), (6, .int x6)]) hx hb dL_law_266 hl (by decide) rfl (fun ls hl => ?_)
    refine lv_goto (tgt := 594) hx hb dL_law_268 (by decide) ?_
    exact t_594 F s0 x6 _ _ _ hH hS (lv_sub hl [1, 2, 3, 4, 0, 5, 6] rfl) q
  have t_265 : ∀ (F : S3) (x6 : Int32) (H : Heap) (locs : List Loc) (ls : Array Slot), tH G a0 b0 ca F H → va_S (gA (zg G)) s.heap H locs → lv_has ls 12 [(0, .ref b), (1, .ref a0), (2, .ref b0), (3, .ref ca), (5, .int k), (6, .int x6)] → (P_M_body_265 L xs k K) F x6 → W p l e room_1 s m #[Value.ref b] below meth c H locs (cl + 18) (sl + 108) Q (F0 m 265 ls []) := by
    intro F x6 H locs ls hH hS hl q
    unfold P_M_body_265 at q
    refine lv_iconst (v := 0) hx hb dL_law_265 (by decide) ?_
    exact t_266 F x6 0 _ _ _ hH hS (lv_sub hl [0, 1, 2, 3, 4, 5] rfl) q
  have t_220 : ∀ (F : S3) (x6 : Int32) (x8 : Int32) (s0 : Int32) (s2 : Int32) (s3 : Int32) (s4 : Int32) (H : Heap) (locs : List Loc) (ls : Array Slot), tH G a0 b0 ca F H → va_S (gA (zg G)) s.heap H locs → lv_has ls 12 [(0, .ref b), (1, .ref a0), (2, .ref b0), (3, .ref ca), (5, .int k), (6, .int x6), (8, .int x8)] → (P_M_body_220 L xs k K) F x6 x8 s0 s2 s3 s4 → W p l e room_1 s m #[Value.ref b] below meth c H locs (cl + 3) (sl + 18) Q (F0 m 220 ls [.int s4, .int s3, .int s2, .ref b0, .int s0]) := by
    intro F x6 x8 s0 s2 s3 s4 H locs ls hH hS hl q
    unfold P_M_body_220 at q
    have hH0 := hH
    obtain ⟨ada, adb, ea, eb, hT⟩ := hH
    refine va_calli (vx_runSW (As := [.ref b0, .int s2, .int s3, .int s4]) (rest := [.int s0]) ⟨hx, hb, hml, hown, hts⟩ (cm_L_call l hfl (tG G ada F.1 ca) adb F.2.1 s2 s3 s4 b0 eb _) (vx_cwSW 4 hts gL_law_L_call rfl rfl rfl (by decide +kernel) ⟨Nat.le_of_ble_eq_true rfl, Nat.le_of_ble_eq_true rfl⟩) ⟨fun a U g mk h => ⟨h.1, ⟨gD_blind h.2.1.1, gL.moved (u := U) (U := U.calling g mk a) (Vm.Alike.refl U.vm) h.2.1.2⟩, h.2.2⟩, fun U hU hW => ⟨rfl, ⟨tD_B hK hG hB hT hS hU hW, gL.moved hW.alike hL⟩, q⟩⟩ rfl rfl hl.1 rfl (lv_room (Nat.le_of_ble_eq_true rfl)) dL_law_220 ⟨by show cl + 3 + 3 ≤ 600130; omega, by show sl + 18 + 18 ≤ 7301080; omega⟩) hS (fun _ _ h => h.1) (fun _ h => h.1) (fun r87 Z88 t H locs ht hvm q hB1 hz hk hS => ?_)
    have hB1 : gH (tG G ada F.1 ca) adb Z88 H := gH_to ht hB1
    have hT := tO_B hT hk hB1
    obtain ⟨F89, eF89, q⟩ := q
    have hH : tH G a0 b0 ca F89 H := tH_eq ⟨ada, adb, ea, eb, hT⟩ eF89
    refine lv_icmp_ne (tgt := 265) hx hb dL_law_223 (by decide) (fun c90 => ?_) (fun c90 => ?_)
    · have q := (if_neg c90).mp q
      refine W.widen (k := cl + 18) (n := sl + 108) (by omega) (by omega) ?_
      exact t_265 F89 x6 _ _ _ hH hS (lv_sub hl [0, 1, 2, 3, 4, 5] rfl) q
    · have q := (if_pos c90).mp q
      refine lv_aload_n hx hb dL_law_226 rfl (lv_at hl 1 rfl) ?_
      refine lv_iconst (v := 4) hx hb dL_law_227 (by decide) ?_
      refine lv_iload hx hb dL_law_228 (lv_at hl 6 rfl) ?_
      refine lv_iconst (v := 5) hx hb dL_law_230 (by decide) ?_
      refine lv_irem hx hb dL_law_231 (by decide) ?_
      refine lv_iload hx hb dL_law_232 (lv_at hl 6 rfl) ?_
      refine lv_iconst (v := 5) hx hb dL_law_234 (by decide) ?_
      refine lv_idiv hx hb dL_law_235 (by decide) ?_
      refine lv_bipush (v := 100) hx hb dL_law_236 (by decide) ?_
      refine lv_irem hx hb dL_law_238 (by decide) ?_
      have hH0 := hH
      obtain ⟨ada, adb, ea, eb, hT⟩ := hH
      refine va_calli (vx_runSW (As := [.ref a0, .int 4, .int (x8 - x8 / 5 * 5), .int ((x8 / 5) - (x8 / 5) / 100 * 100)]) (rest := []) ⟨hx, hb, hml, hown, hts⟩ (cm_L_does l hfl (tG G adb F89.2.1 ca) ada F89.1 4 (x8 - x8 / 5 * 5) ((x8 / 5) - (x8 / 5) / 100 * 100) a0 ea _) (vx_cwSW 4 hts gL_law_L_does rfl rfl rfl (by decide +kernel) ⟨Nat.le_of_ble_eq_true rfl, Nat.le_of_ble_eq_true rfl⟩) ⟨fun a U g mk h => ⟨h.1, ⟨gD_blind h.2.1.1, gL.moved (u := U) (U := U.calling g mk a) (Vm.Alike.refl U.vm) h.2.1.2⟩, h.2.2⟩, fun U hU hW => ⟨rfl, ⟨tD_A hK hG hB hT hS hU hW, gL.moved hW.alike hL⟩, q⟩⟩ rfl rfl hl.1 rfl (lv_room (Nat.le_of_ble_eq_true rfl)) dL_law_239 ⟨by show cl + 6 + 6 ≤ 600130; omega, by show sl + 36 + 36 ≤ 7301080; omega⟩) hS (fun _ _ h => h.1) (fun _ h => h.1) (fun r91 Z92u t H locs ht hvm q hB1 hz hk hS => ?_)
      obtain ⟨Z92, ad1⟩ := Z92u
      obtain ⟨q, hα⟩ := q
      have hB1 : gH (tG G adb F89.2.1 ca) ad1 Z92 H := gH_to ht hB1
      have hT := tO_A hT hk hB1
      obtain ⟨F93, eF93, q⟩ := q
      have hH : tH G a0 b0 ca F93 H := tH_eq ⟨ad1, adb, ((hα 0 0 (by decide)).trans ea), eb, hT⟩ eF93
      refine lv_aload_n hx hb dL_law_242 rfl (lv_at hl 2 rfl) ?_
      refine lv_iconst (v := 4) hx hb dL_law_243 (by decide) ?_
      refine lv_iload hx hb dL_law_244 (lv_at hl 6 rfl) ?_
      refine lv_iconst (v := 5) hx hb dL_law_246 (by decide) ?_
      refine lv_irem hx hb dL_law_247 (by decide) ?_
      refine lv_iload hx hb dL_law_248 (lv_at hl 6 rfl) ?_
      refine lv_iconst (v := 5) hx hb dL_law_250 (by decide) ?_
      refine lv_idiv hx hb dL_law_251 (by decide) ?_
      refine lv_bipush (v := 100) hx hb dL_law_252 (by decide) ?_
      refine lv_irem hx hb dL_law_254 (by decide) ?_
      have hH0 := hH
      obtain ⟨ada, adb, ea, eb, hT⟩ := hH
      refine va_calli (vx_runSW (As := [.ref b0, .int 4, .int (x8 - x8 / 5 * 5), .int ((x8 / 5) - (x8 / 5) / 100 * 100)]) (rest := [.int r91]) ⟨hx, hb, hml, hown, hts⟩ (cm_L_does l hfl (tG G ada F93.1 ca) adb F93.2.1 4 (x8 - x8 / 5 * 5) ((x8 / 5) - (x8 / 5) / 100 * 100) b0 eb _) (vx_cwSW 4 hts gL_law_L_does rfl rfl rfl (by decide +kernel) ⟨Nat.le_of_ble_eq_true rfl, Nat.le_of_ble_eq_true rfl⟩) ⟨fun a U g mk h => ⟨h.1, ⟨gD_blind h.2.1.1, gL.moved (u := U) (U := U.calling g mk a) (Vm.Alike.refl U.vm) h.2.1.2⟩, h.2.2⟩, fun U hU hW => ⟨rfl, ⟨tD_B hK hG hB hT hS hU hW, gL.moved hW.alike hL⟩, q⟩⟩ rfl rfl hl.1 rfl (lv_room (Nat.le_of_ble_eq_true rfl)) dL_law_255 ⟨by show cl + 12 + 6 ≤ 600130; omega, by show sl + 72 + 36 ≤ 7301080; omega⟩) hS (fun _ _ h => h.1) (fun _ h => h.1) (fun r94 Z95u t H locs ht hvm q hB1 hz hk hS => ?_)
      obtain ⟨Z95, ad1⟩ := Z95u
      obtain ⟨q, hα⟩ := q
      have hB1 : gH (tG G ada F93.1 ca) ad1 Z95 H := gH_to ht hB1
      have hT := tO_B hT hk hB1
      obtain ⟨F96, eF96, q⟩ := q
      have hH : tH G a0 b0 ca F96 H := tH_eq ⟨ada, ad1, ea, ((hα 0 0 (by decide)).trans eb), hT⟩ eF96
      refine lv_icmp_ne (tgt := 265) hx hb dL_law_258 (by decide) (fun c97 => ?_) (fun c97 => ?_)
      · have q := (if_neg c97).mp q
        exact t_265 F96 x6 _ _ _ hH hS (lv_sub hl [0, 1, 2, 3, 4, 5] rfl) q
      · have q := (if_pos c97).mp q
        refine lv_iconst (v := 1) hx hb dL_law_261 (by decide) ?_
        refine lv_goto (tgt := 266) hx hb dL_law_262 (by decide) ?_
        exact t_266 F96 x6 1 _ _ _ hH hS (lv_sub hl [0, 1, 2, 3, 4, 5] rfl) q
  have t_186 : ∀ (F : S3) (x6 : Int32) (x8 : Int32) (s1 : Int32) (s2 : Int32) (s3 : Int32) (H : Heap) (locs : List Loc) (ls : Array Slot), tH G a0 b0 ca F H → va_S (gA (zg G)) s.heap H locs → lv_has ls 12 [(0, .ref b), (1, .ref a0), (2, .ref b0), (3, .ref ca), (5, .int k), (6, .int x6), (8, .int x8)] → (P_M_body_186 L xs k K) F x6 x8 s1 s2 s3 → W p l e room_1 s m #[Value.ref b] below meth c H locs (cl + 0) (sl + 0) Q (F0 m 186 ls [.int s3, .int s2, .int s1, .ref a0]) := by
    intro F x6 x8 s1 s2 s3 H locs ls hH hS hl q
    unfold P_M_body_186 at q
    have hH0 := hH
    obtain ⟨ada, adb, ea, eb, hT⟩ := hH
    refine va_calli (vx_runSW (As := [.ref a0, .int s1, .int s2, .int s3]) (rest := []) ⟨hx, hb, hml, hown, hts⟩ (cm_L_call l hfl (tG G adb F.2.1 ca) ada F.1 s1 s2 s3 a0 ea _) (vx_cwSW 4 hts gL_law_L_call rfl rfl rfl (by decide +kernel) ⟨Nat.le_of_ble_eq_true rfl, Nat.le_of_ble_eq_true rfl⟩) ⟨fun a U g mk h => ⟨h.1, ⟨gD_blind h.2.1.1, gL.moved (u := U) (U := U.calling g mk a) (Vm.Alike.refl U.vm) h.2.1.2⟩, h.2.2⟩, fun U hU hW => ⟨rfl, ⟨tD_A hK hG hB hT hS hU hW, gL.moved hW.alike hL⟩, q⟩⟩ rfl rfl hl.1 rfl (lv_room (Nat.le_of_ble_eq_true rfl)) dL_law_186 ⟨by show cl + 0 + 3 ≤ 600130; omega, by show sl + 0 + 18 ≤ 7301080; omega⟩) hS (fun _ _ h => h.1) (fun _ h => h.1) (fun r83 Z84 t H locs ht hvm q hB1 hz hk hS => ?_)
    have hB1 : gH (tG G adb F.2.1 ca) ada Z84 H := gH_to ht hB1
    have hT := tO_A hT hk hB1
    obtain ⟨F85, eF85, q⟩ := q
    have hH : tH G a0 b0 ca F85 H := tH_eq ⟨ada, adb, ea, eb, hT⟩ eF85
    refine lv_aload_n hx hb dL_law_189 rfl (lv_at hl 2 rfl) ?_
    refine lv_bipush (v := 8) hx hb dL_law_190 (by decide) ?_
    refine lv_iload hx hb dL_law_192 (lv_at hl 6 rfl) ?_
    refine lv_iconst (v := 5) hx hb dL_law_194 (by decide) ?_
    refine lv_irem hx hb dL_law_195 (by decide) ?_
    refine lv_iadd hx hb dL_law_196 ?_
    refine lv_iload hx hb dL_law_197 (lv_at hl 6 rfl) ?_
    refine lv_iconst (v := 5) hx hb dL_law_199 (by decide) ?_
    refine lv_idiv hx hb dL_law_200 (by decide) ?_
    refine lv_bipush (v := 12) hx hb dL_law_201 (by decide) ?_
    refine lv_irem hx hb dL_law_203 (by decide) ?_
    refine lv_iload hx hb dL_law_204 (lv_at hl 6 rfl) ?_
    refine lv_bipush (v := 60) hx hb dL_law_206 (by decide) ?_
    refine lv_idiv hx hb dL_law_208 (by decide) ?_
    refine lv_iconst (v := 2) hx hb dL_law_209 (by decide) ?_
    refine lv_irem hx hb dL_law_210 (by decide) ?_
    refine lv_iconst (v := 1) hx hb dL_law_211 (by decide) ?_
    refine lv_icmp_ne (tgt := 219) hx hb dL_law_212 (by decide) (fun c86 => ?_) (fun c86 => ?_)
    · have q := (if_neg c86).mp q
      refine lv_iconst (v := 0) hx hb dL_law_219 (by decide) ?_
      exact t_220 F85 x6 x8 r83 (8 + (x8 - x8 / 5 * 5)) ((x8 / 5) - (x8 / 5) / 12 * 12) 0 _ _ _ hH hS (lv_sub hl [0, 1, 2, 3, 4, 5, 6] rfl) q
    · have q := (if_pos c86).mp q
      refine lv_iconst (v := 1) hx hb dL_law_215 (by decide) ?_
      refine lv_goto (tgt := 220) hx hb dL_law_216 (by decide) ?_
      exact t_220 F85 x6 x8 r83 (8 + (x8 - x8 / 5 * 5)) ((x8 / 5) - (x8 / 5) / 12 * 12) 1 _ _ _ hH hS (lv_sub hl [0, 1, 2, 3, 4, 5, 6] rfl) q
  have t_124 : ∀ (F : S3) (x6 : Int32) (x7 : Int32) (x8 : Int32) (x9 : Int32) (s0 : Int32) (H : Heap) (locs : List Loc) (ls : Array Slot), tH G a0 b0 ca F H → va_S (gA (zg G)) s.heap H locs → lv_has ls 12 [(0, .ref b), (1, .ref a0), (2, .ref b0), (3, .ref ca), (5, .int k), (6, .int x6), (7, .int x7), (8, .int x8), (9, .int x9)] → (P_M_body_124 L xs k K) F x6 x7 x8 x9 s0 → W p l e room_1 s m #[Value.ref b] below meth c H locs (cl + 0) (sl + 0) Q (F0 m 124 ls [.int s0]) := by
    intro F x6 x7 x8 x9 s0 H locs ls hH hS hl q
    unfold P_M_body_124 at q
    refine lv_istore (lv' := [(10, .int s0), (0, .ref b), (1, .ref a0), (2, .ref b0), (3, .ref ca), (5, .int k), (6, .int x6), (7, .int x7), (8, .int x8), (9, .int x9)]) hx hb dL_law_124 hl (by decide) rfl (fun ls hl => ?_)
    refine lv_iload hx hb dL_law_126 (lv_at hl 7 rfl) ?_
    refine lv_bipush (v := 11) hx hb dL_law_128 (by decide) ?_
    refine lv_icmp_ge (tgt := 148) hx hb dL_law_130 (by decide) (fun c15 => ?_) (fun c15 => ?_)
    · have q := (if_pos c15).mp q
      refine lv_iload hx hb dL_law_148 (lv_at hl 7 rfl) ?_
      refine lv_bipush (v := 13) hx hb dL_law_150 (by decide) ?_
      refine lv_icmp_ge (tgt := 271) hx hb dL_law_152 (by decide) (fun c16 => ?_) (fun c16 => ?_)
      · have q := (if_pos c16).mp q
        refine lv_iload hx hb dL_law_271 (lv_at hl 7 rfl) ?_
        refine lv_bipush (v := 18) hx hb dL_law_273 (by decide) ?_
        refine lv_icmp_ge (tgt := 313) hx hb dL_law_275 (by decide) (fun c17 => ?_) (fun c17 => ?_)
        · have q := (if_pos c17).mp q
          refine lv_iload hx hb dL_law_313 (lv_at hl 7 rfl) ?_
          refine lv_bipush (v := 25) hx hb dL_law_315 (by decide) ?_
          refine lv_icmp_ge (tgt := 363) hx hb dL_law_317 (by decide) (fun c18 => ?_) (fun c18 => ?_)
          · have q := (if_pos c18).mp q
            refine lv_iload hx hb dL_law_363 (lv_at hl 7 rfl) ?_
            refine lv_bipush (v := 31) hx hb dL_law_365 (by decide) ?_
            refine lv_icmp_ge (tgt := 424) hx hb dL_law_367 (by decide) (fun c19 => ?_) (fun c19 => ?_)
            · have q := (if_pos c19).mp q
              refine lv_iload hx hb dL_law_424 (lv_at hl 7 rfl) ?_
              refine lv_bipush (v := 31) hx hb dL_law_426 (by decide) ?_
              refine lv_icmp_ne (tgt := 458) hx hb dL_law_428 (by decide) (fun c20 => ?_) (fun c20 => ?_)
              · have q := (if_neg c20).mp q
                refine lv_iload hx hb dL_law_458 (lv_at hl 7 rfl) ?_
                refine lv_bipush (v := 32) hx hb dL_law_460 (by decide) ?_
                refine lv_icmp_ne (tgt := 526) hx hb dL_law_462 (by decide) (fun c21 => ?_) (fun c21 => ?_)
                · have q := (if_neg c21).mp q
                  refine lv_iload hx hb dL_law_526 (lv_at hl 7 rfl) ?_
                  refine lv_bipush (v := 39) hx hb dL_law_528 (by decide) ?_
                  refine lv_icmp_ge (tgt := 570) hx hb dL_law_530 (by decide) (fun c22 => ?_) (fun c22 => ?_)
                  · have q := (if_pos c22).mp q
                    refine lv_aload_n hx hb dL_law_570 rfl (lv_at hl 2 rfl) ?_
                    refine lv_iconst (v := 3) hx hb dL_law_571 (by decide) ?_
                    refine lv_iload hx hb dL_law_572 (lv_at hl 0 rfl) ?_
                    have hH0 := hH
                    obtain ⟨ada, adb, ea, eb, hT⟩ := hH
                    refine va_calli (vx_runSW (As := [.ref a0, .int 3, .int s0]) (rest := []) ⟨hx, hb, hml, hown, hts⟩ (cm_L_act l hfl (tG G adb F.2.1 ca) ada F.1 3 s0 a0 ea _) (vx_cwSW 3 hts gL_law_L_act rfl rfl rfl (by decide +kernel) ⟨Nat.le_of_ble_eq_true rfl, Nat.le_of_ble_eq_true rfl⟩) ⟨fun a U g mk h => ⟨h.1, ⟨gD_blind h.2.1.1, gL.moved (u := U) (U := U.calling g mk a) (Vm.Alike.refl U.vm) h.2.1.2⟩, h.2.2⟩, fun U hU hW => ⟨rfl, ⟨tD_A hK hG hB hT hS hU hW, gL.moved hW.alike hL⟩, q⟩⟩ rfl rfl hl.1 rfl (lv_room (Nat.le_of_ble_eq_true rfl)) dL_law_574 ⟨by show cl + 0 + 3 ≤ 600130; omega, by show sl + 0 + 18 ≤ 7301080; omega⟩) hS (fun _ _ h => h.1) (fun _ h => h.1) (fun r23 Z24 t H locs ht hvm q hB1 hz hk hS => ?_)
                    have hB1 : gH (tG G adb F.2.1 ca) ada Z24 H := gH_to ht hB1
                    have hT := tO_A hT hk hB1
                    obtain ⟨F25, eF25, q⟩ := q
                    have hH : tH G a0 b0 ca F25 H := tH_eq ⟨ada, adb, ea, eb, hT⟩ eF25
                    refine lv_aload_n hx hb dL_law_577 rfl (lv_at hl 3 rfl) ?_
                    refine lv_iconst (v := 3) hx hb dL_law_578 (by decide) ?_
                    refine lv_iload hx hb dL_law_579 (lv_at hl 0 rfl) ?_
                    have hH0 := hH
                    obtain ⟨ada, adb, ea, eb, hT⟩ := hH
                    refine va_calli (vx_runSW (As := [.ref b0, .int 3, .int s0]) (rest := [.int r23]) ⟨hx, hb, hml, hown, hts⟩ (cm_L_act l hfl (tG G ada F25.1 ca) adb F25.2.1 3 s0 b0 eb _) (vx_cwSW 3 hts gL_law_L_act rfl rfl rfl (by decide +kernel) ⟨Nat.le_of_ble_eq_true rfl, Nat.le_of_ble_eq_true rfl⟩) ⟨fun a U g mk h => ⟨h.1, ⟨gD_blind h.2.1.1, gL.moved (u := U) (U := U.calling g mk a) (Vm.Alike.refl U.vm) h.2.1.2⟩, h.2.2⟩, fun U hU hW => ⟨rfl, ⟨tD_B hK hG hB hT hS hU hW, gL.moved hW.alike hL⟩, q⟩⟩ rfl rfl hl.1 rfl (lv_room (Nat.le_of_ble_eq_true rfl)) dL_law_581 ⟨by show cl + 3 + 3 ≤ 600130; omega, by show sl + 18 + 18 ≤ 7301080; omega⟩) hS (fun _ _ h => h.1) (fun _ h => h.1) (fun r26 Z27 t H locs ht hvm q hB1 hz hk hS => ?_)
                    have hB1 : gH (tG G ada F25.1 ca) adb Z27 H := gH_to ht hB1
                    have hT := tO_B hT hk hB1
                    obtain ⟨F28, eF28, q⟩ := q
                    have hH : tH G a0 b0 ca F28 H := tH_eq ⟨ada, adb, ea, eb, hT⟩ eF28
                    refine lv_icmp_ne (tgt := 591) hx hb dL_law_584 (by decide) (fun c29 => ?_) (fun c29 => ?_)
                    · have q := (if_neg c29).mp q
                      refine lv_iconst (v := 0) hx hb dL_law_591 (by decide) ?_
                      exact t_592 F28 x6 0 _ _ _ hH hS (lv_sub hl [1, 2, 3, 4, 5, 6] rfl) q
                    · have q := (if_pos c29).mp q
                      refine lv_iconst (v := 1) hx hb dL_law_587 (by decide) ?_
                      refine lv_goto (tgt := 592) hx hb dL_law_588 (by decide) ?_
                      exact t_592 F28 x6 1 _ _ _ hH hS (lv_sub hl [1, 2, 3, 4, 5, 6] rfl) q
                  · have q := (if_neg c22).mp q
                    refine lv_aload_n hx hb dL_law_533 rfl (lv_at hl 2 rfl) ?_
                    refine lv_iload hx hb dL_law_534 (lv_at hl 0 rfl) ?_
                    refine lv_iload hx hb dL_law_536 (lv_at hl 8 rfl) ?_
                    refine lv_iconst (v := 5) hx hb dL_law_538 (by decide) ?_
                    refine lv_idiv hx hb dL_law_539 (by decide) ?_
                    refine lv_iconst (v := 4) hx hb dL_law_540 (by decide) ?_
                    refine lv_irem hx hb dL_law_541 (by decide) ?_
                    have hH0 := hH
                    obtain ⟨ada, adb, ea, eb, hT⟩ := hH
                    refine va_calli (vx_runSW (As := [.ref a0, .int s0, .int ((x8 / 5) - (x8 / 5) / 4 * 4)]) (rest := []) ⟨hx, hb, hml, hown, hts⟩ (cm_L_count l hfl (tG G adb F.2.1 ca) ada F.1 s0 ((x8 / 5) - (x8 / 5) / 4 * 4) a0 ea _) (vx_cwSW 3 hts gL_law_L_count rfl rfl rfl (by decide +kernel) ⟨Nat.le_of_ble_eq_true rfl, Nat.le_of_ble_eq_true rfl⟩) ⟨fun a U g mk h => ⟨h.1, ⟨gD_blind h.2.1.1, gL.moved (u := U) (U := U.calling g mk a) (Vm.Alike.refl U.vm) h.2.1.2⟩, h.2.2⟩, fun U hU hW => ⟨rfl, ⟨tD_A hK hG hB hT hS hU hW, gL.moved hW.alike hL⟩, q⟩⟩ rfl rfl hl.1 rfl (lv_room (Nat.le_of_ble_eq_true rfl)) dL_law_542 ⟨by show cl + 0 + 4 ≤ 600130; omega, by show sl + 0 + 24 ≤ 7301080; omega⟩) hS (fun _ _ h => h.1) (fun _ h => h.1) (fun r36 Z37 t H locs ht hvm q hB1 hz hk hS => ?_)
                    have hB1 : gH (tG G adb F.2.1 ca) ada Z37 H := gH_to ht hB1
                    have hT := tO_A hT hk hB1
                    obtain ⟨F38, eF38, q⟩ := q
                    have hH : tH G a0 b0 ca F38 H := tH_eq ⟨ada, adb, ea, eb, hT⟩ eF38
                    refine lv_aload_n hx hb dL_law_545 rfl (lv_at hl 3 rfl) ?_
                    refine lv_iload hx hb dL_law_546 (lv_at hl 0 rfl) ?_
                    refine lv_iload hx hb dL_law_548 (lv_at hl 8 rfl) ?_
                    refine lv_iconst (v := 5) hx hb dL_law_550 (by decide) ?_
                    refine lv_idiv hx hb dL_law_551 (by decide) ?_
                    refine lv_iconst (v := 4) hx hb dL_law_552 (by decide) ?_
                    refine lv_irem hx hb dL_law_553 (by decide) ?_
                    have hH0 := hH
                    obtain ⟨ada, adb, ea, eb, hT⟩ := hH
                    refine va_calli (vx_runSW (As := [.ref b0, .int s0, .int ((x8 / 5) - (x8 / 5) / 4 * 4)]) (rest := [.int r36]) ⟨hx, hb, hml, hown, hts⟩ (cm_L_count l hfl (tG G ada F38.1 ca) adb F38.2.1 s0 ((x8 / 5) - (x8 / 5) / 4 * 4) b0 eb _) (vx_cwSW 3 hts gL_law_L_count rfl rfl rfl (by decide +kernel) ⟨Nat.le_of_ble_eq_true rfl, Nat.le_of_ble_eq_true rfl⟩) ⟨fun a U g mk h => ⟨h.1, ⟨gD_blind h.2.1.1, gL.moved (u := U) (U := U.calling g mk a) (Vm.Alike.refl U.vm) h.2.1.2⟩, h.2.2⟩, fun U hU hW => ⟨rfl, ⟨tD_B hK hG hB hT hS hU hW, gL.moved hW.alike hL⟩, q⟩⟩ rfl rfl hl.1 rfl (lv_room (Nat.le_of_ble_eq_true rfl)) dL_law_554 ⟨by show cl + 4 + 4 ≤ 600130; omega, by show sl + 24 + 24 ≤ 7301080; omega⟩) hS (fun _ _ h => h.1) (fun _ h => h.1) (fun r39 Z40 t H locs ht hvm q hB1 hz hk hS => ?_)
                    have hB1 : gH (tG G ada F38.1 ca) adb Z40 H := gH_to ht hB1
                    have hT := tO_B hT hk hB1
                    obtain ⟨F41, eF41, q⟩ := q
                    have hH : tH G a0 b0 ca F41 H := tH_eq ⟨ada, adb, ea, eb, hT⟩ eF41
                    refine lv_icmp_ne (tgt := 564) hx hb dL_law_557 (by decide) (fun c42 => ?_) (fun c42 => ?_)
                    · have q := (if_neg c42).mp q
                      refine lv_iconst (v := 0) hx hb dL_law_564 (by decide) ?_
                      exact t_565 F41 x6 0 _ _ _ hH hS (lv_sub hl [1, 2, 3, 4, 5, 6] rfl) q
                    · have q := (if_pos c42).mp q
                      refine lv_iconst (v := 1) hx hb dL_law_560 (by decide) ?_
                      refine lv_goto (tgt := 565) hx hb dL_law_561 (by decide) ?_
                      exact t_565 F41 x6 1 _ _ _ hH hS (lv_sub hl [1, 2, 3, 4, 5, 6] rfl) q
                · have q := (if_pos c21).mp q
                  refine lv_iload hx hb dL_law_465 (lv_at hl 8 rfl) ?_
                  refine lv_iconst (v := 4) hx hb dL_law_467 (by decide) ?_
                  refine lv_idiv hx hb dL_law_468 (by decide) ?_
                  refine lv_iconst (v := 3) hx hb dL_law_469 (by decide) ?_
                  refine lv_irem hx hb dL_law_470 (by decide) ?_
                  refine lv_if_ne (tgt := 486) hx hb dL_law_471 (by decide) (fun c43 => ?_) (fun c43 => ?_)
                  · have q := (if_neg c43).mp q
                    refine lv_iconst (v := 0) hx hb dL_law_486 (by decide) ?_
                    exact t_487 F x6 x8 0 _ _ _ hH hS (lv_sub hl [1, 2, 3, 4, 5, 6, 8] rfl) q
                  · have q := (if_pos c43).mp q
                    refine lv_iconst (v := 2) hx hb dL_law_474 (by decide) ?_
                    refine lv_iload hx hb dL_law_475 (lv_at hl 8 rfl) ?_
                    refine lv_bipush (v := 12) hx hb dL_law_477 (by decide) ?_
                    refine lv_idiv hx hb dL_law_479 (by decide) ?_
                    refine lv_iconst (v := 4) hx hb dL_law_480 (by decide) ?_
                    refine lv_irem hx hb dL_law_481 (by decide) ?_
                    refine lv_iadd hx hb dL_law_482 ?_
                    refine lv_goto (tgt := 487) hx hb dL_law_483 (by decide) ?_
                    exact t_487 F x6 x8 (2 + ((x8 / 12) - (x8 / 12) / 4 * 4)) _ _ _ hH hS (lv_sub hl [1, 2, 3, 4, 5, 6, 8] rfl) q
              · have q := (if_pos c20).mp q
                refine lv_aload_n hx hb dL_law_431 rfl (lv_at hl 2 rfl) ?_
                refine lv_iconst (v := 2) hx hb dL_law_432 (by decide) ?_
                refine lv_iload hx hb dL_law_433 (lv_at hl 9 rfl) ?_
                have hH0 := hH
                obtain ⟨ada, adb, ea, eb, hT⟩ := hH
                refine va_calli (vx_runSW (As := [.ref a0, .int 2, .int x9]) (rest := []) ⟨hx, hb, hml, hown, hts⟩ (cm_L_act l hfl (tG G adb F.2.1 ca) ada F.1 2 x9 a0 ea _) (vx_cwSW 3 hts gL_law_L_act rfl rfl rfl (by decide +kernel) ⟨Nat.le_of_ble_eq_true rfl, Nat.le_of_ble_eq_true rfl⟩) ⟨fun a U g mk h => ⟨h.1, ⟨gD_blind h.2.1.1, gL.moved (u := U) (U := U.calling g mk a) (Vm.Alike.refl U.vm) h.2.1.2⟩, h.2.2⟩, fun U hU hW => ⟨rfl, ⟨tD_A hK hG hB hT hS hU hW, gL.moved hW.alike hL⟩, q⟩⟩ rfl rfl hl.1 rfl (lv_room (Nat.le_of_ble_eq_true rfl)) dL_law_435 ⟨by show cl + 0 + 3 ≤ 600130; omega, by show sl + 0 + 18 ≤ 7301080; omega⟩) hS (fun _ _ h => h.1) (fun _ h => h.1) (fun r51 Z52 t H locs ht hvm q hB1 hz hk hS => ?_)
                have hB1 : gH (tG G adb F.2.1 ca) ada Z52 H := gH_to ht hB1
                have hT := tO_A hT hk hB1
                obtain ⟨F53, eF53, q⟩ := q
                have hH : tH G a0 b0 ca F53 H := tH_eq ⟨ada, adb, ea, eb, hT⟩ eF53
                refine lv_aload_n hx hb dL_law_438 rfl (lv_at hl 3 rfl) ?_
                refine lv_iconst (v := 2) hx hb dL_law_439 (by decide) ?_
                refine lv_iload hx hb dL_law_440 (lv_at hl 9 rfl) ?_
                have hH0 := hH
                obtain ⟨ada, adb, ea, eb, hT⟩ := hH
                refine va_calli (vx_runSW (As := [.ref b0, .int 2, .int x9]) (rest := [.int r51]) ⟨hx, hb, hml, hown, hts⟩ (cm_L_act l hfl (tG G ada F53.1 ca) adb F53.2.1 2 x9 b0 eb _) (vx_cwSW 3 hts gL_law_L_act rfl rfl rfl (by decide +kernel) ⟨Nat.le_of_ble_eq_true rfl, Nat.le_of_ble_eq_true rfl⟩) ⟨fun a U g mk h => ⟨h.1, ⟨gD_blind h.2.1.1, gL.moved (u := U) (U := U.calling g mk a) (Vm.Alike.refl U.vm) h.2.1.2⟩, h.2.2⟩, fun U hU hW => ⟨rfl, ⟨tD_B hK hG hB hT hS hU hW, gL.moved hW.alike hL⟩, q⟩⟩ rfl rfl hl.1 rfl (lv_room (Nat.le_of_ble_eq_true rfl)) dL_law_442 ⟨by show cl + 3 + 3 ≤ 600130; omega, by show sl + 18 + 18 ≤ 7301080; omega⟩) hS (fun _ _ h => h.1) (fun _ h => h.1) (fun r54 Z55 t H locs ht hvm q hB1 hz hk hS => ?_)
                have hB1 : gH (tG G ada F53.1 ca) adb Z55 H := gH_to ht hB1
                have hT := tO_B hT hk hB1
                obtain ⟨F56, eF56, q⟩ := q
                have hH : tH G a0 b0 ca F56 H := tH_eq ⟨ada, adb, ea, eb, hT⟩ eF56
                refine lv_icmp_ne (tgt := 452) hx hb dL_law_445 (by decide) (fun c57 => ?_) (fun c57 => ?_)
                · have q := (if_neg c57).mp q
                  refine lv_iconst (v := 0) hx hb dL_law_452 (by decide) ?_
                  exact t_453 F56 x6 0 _ _ _ hH hS (lv_sub hl [1, 2, 3, 4, 5, 6] rfl) q
                · have q := (if_pos c57).mp q
                  refine lv_iconst (v := 1) hx hb dL_law_448 (by decide) ?_
                  refine lv_goto (tgt := 453) hx hb dL_law_449 (by decide) ?_
                  exact t_453 F56 x6 1 _ _ _ hH hS (lv_sub hl [1, 2, 3, 4, 5, 6] rfl) q
            · have q := (if_neg c19).mp q
              refine lv_aload_n hx hb dL_law_370 rfl (lv_at hl 2 rfl) ?_
              refine lv_iconst (v := 1) hx hb dL_law_371 (by decide) ?_
              refine lv_iload hx hb dL_law_372 (lv_at hl 9 rfl) ?_
              have hH0 := hH
              obtain ⟨ada, adb, ea, eb, hT⟩ := hH
              refine va_calli (vx_runSW (As := [.ref a0, .int 1, .int x9]) (rest := []) ⟨hx, hb, hml, hown, hts⟩ (cm_L_of l hfl (tG G adb F.2.1 ca) ada F.1 1 x9 a0 ea _) (vx_cwSW 3 hts gL_law_L_of rfl rfl rfl (by decide +kernel) ⟨Nat.le_of_ble_eq_true rfl, Nat.le_of_ble_eq_true rfl⟩) ⟨fun a U g mk h => ⟨h.1, ⟨gD_blind h.2.1.1, gL.moved (u := U) (U := U.calling g mk a) (Vm.Alike.refl U.vm) h.2.1.2⟩, h.2.2⟩, fun U hU hW => ⟨rfl, ⟨tD_A hK hG hB hT hS hU hW, gL.moved hW.alike hL⟩, q⟩⟩ rfl rfl hl.1 rfl (lv_room (Nat.le_of_ble_eq_true rfl)) dL_law_374 ⟨by show cl + 0 + 1 ≤ 600130; omega, by show sl + 0 + 6 ≤ 7301080; omega⟩) hS (fun _ _ h => h.1) (fun _ h => h.1) (fun r58 Z59 t H locs ht hvm q hB1 hz hk hS => ?_)
              have hB1 : gH (tG G adb F.2.1 ca) ada Z59 H := gH_to ht hB1
              have hT := tO_A hT hk hB1
              obtain ⟨F60, eF60, q⟩ := q
              have hH : tH G a0 b0 ca F60 H := tH_eq ⟨ada, adb, ea, eb, hT⟩ eF60
              refine lv_istore (lv' := [(11, .int r58), (10, .int s0), (0, .ref b), (1, .ref a0), (2, .ref b0), (3, .ref ca), (5, .int k), (6, .int x6), (7, .int x7), (8, .int x8), (9, .int x9)]) hx hb dL_law_377 hl (by decide) rfl (fun ls hl => ?_)
              refine lv_aload_n hx hb dL_law_379 rfl (lv_at hl 3 rfl) ?_
              refine lv_iload hx hb dL_law_380 (lv_at hl 10 rfl) ?_
              refine lv_iload hx hb dL_law_382 (lv_at hl 0 rfl) ?_
              refine lv_iload hx hb dL_law_384 (lv_at hl 9 rfl) ?_
              refine lv_bipush (v := 20) hx hb dL_law_386 (by decide) ?_
              refine lv_idiv hx hb dL_law_388 (by decide) ?_
              refine lv_bipush (v := 6) hx hb dL_law_389 (by decide) ?_
              refine lv_irem hx hb dL_law_391 (by decide) ?_
              have hH0 := hH
              obtain ⟨ada, adb, ea, eb, hT⟩ := hH
              refine va_calli (vx_runSW (As := [.ref a0, .int x9, .int r58, .int ((x8 / 20) - (x8 / 20) / 6 * 6)]) (rest := []) ⟨hx, hb, hml, hown, hts⟩ (cm_L_vote l hfl (tG G adb F60.2.1 ca) ada F60.1 x9 r58 ((x8 / 20) - (x8 / 20) / 6 * 6) a0 ea _) (vx_cwSW 4 hts gL_law_L_vote rfl rfl rfl (by decide +kernel) ⟨Nat.le_of_ble_eq_true rfl, Nat.le_of_ble_eq_true rfl⟩) ⟨fun a U g mk h => ⟨h.1, ⟨gD_blind h.2.1.1, gL.moved (u := U) (U := U.calling g mk a) (Vm.Alike.refl U.vm) h.2.1.2⟩, h.2.2⟩, fun U hU hW => ⟨rfl, ⟨tD_A hK hG hB hT hS hU hW, gL.moved hW.alike hL⟩, q⟩⟩ rfl rfl hl.1 rfl (lv_room (Nat.le_of_ble_eq_true rfl)) dL_law_392 ⟨by show cl + 1 + 7 ≤ 600130; omega, by show sl + 6 + 42 ≤ 7301080; omega⟩) hS (fun _ _ h => h.1) (fun _ h => h.1) (fun r61 Z62 t H locs ht hvm q hB1 hz hk hS => ?_)
              have hB1 : gH (tG G adb F60.2.1 ca) ada Z62 H := gH_to ht hB1
              have hT := tO_A hT hk hB1
              obtain ⟨F63, eF63, q⟩ := q
              have hH : tH G a0 b0 ca F63 H := tH_eq ⟨ada, adb, ea, eb, hT⟩ eF63
              refine lv_aload_n hx hb dL_law_395 rfl (lv_at hl 4 rfl) ?_
              refine lv_iload hx hb dL_law_396 (lv_at hl 10 rfl) ?_
              refine lv_iload hx hb dL_law_398 (lv_at hl 0 rfl) ?_
              refine lv_iload hx hb dL_law_400 (lv_at hl 9 rfl) ?_
              refine lv_bipush (v := 20) hx hb dL_law_402 (by decide) ?_
              refine lv_idiv hx hb dL_law_404 (by decide) ?_
              refine lv_bipush (v := 6) hx hb dL_law_405 (by decide) ?_
              refine lv_irem hx hb dL_law_407 (by decide) ?_
              have hH0 := hH
              obtain ⟨ada, adb, ea, eb, hT⟩ := hH
              refine va_calli (vx_runSW (As := [.ref b0, .int x9, .int r58, .int ((x8 / 20) - (x8 / 20) / 6 * 6)]) (rest := [.int r61]) ⟨hx, hb, hml, hown, hts⟩ (cm_L_vote l hfl (tG G ada F63.1 ca) adb F63.2.1 x9 r58 ((x8 / 20) - (x8 / 20) / 6 * 6) b0 eb _) (vx_cwSW 4 hts gL_law_L_vote rfl rfl rfl (by decide +kernel) ⟨Nat.le_of_ble_eq_true rfl, Nat.le_of_ble_eq_true rfl⟩) ⟨fun a U g mk h => ⟨h.1, ⟨gD_blind h.2.1.1, gL.moved (u := U) (U := U.calling g mk a) (Vm.Alike.refl U.vm) h.2.1.2⟩, h.2.2⟩, fun U hU hW => ⟨rfl, ⟨tD_B hK hG hB hT hS hU hW, gL.moved hW.alike hL⟩, q⟩⟩ rfl rfl hl.1 rfl (lv_room (Nat.le_of_ble_eq_true rfl)) dL_law_408 ⟨by show cl + 8 + 7 ≤ 600130; omega, by show sl + 48 + 42 ≤ 7301080; omega⟩) hS (fun _ _ h => h.1) (fun _ h => h.1) (fun r64 Z65 t H locs ht hvm q hB1 hz hk hS => ?_)
              have hB1 : gH (tG G ada F63.1 ca) adb Z65 H := gH_to ht hB1
              have hT := tO_B hT hk hB1
              obtain ⟨F66, eF66, q⟩ := q
              have hH : tH G a0 b0 ca F66 H := tH_eq ⟨ada, adb, ea, eb, hT⟩ eF66
              refine lv_icmp_ne (tgt := 418) hx hb dL_law_411 (by decide) (fun c67 => ?_) (fun c67 => ?_)
              · have q := (if_neg c67).mp q
                refine lv_iconst (v := 0) hx hb dL_law_418 (by decide) ?_
                exact t_419 F66 x6 0 _ _ _ hH hS (lv_sub hl [2, 3, 4, 5, 6, 7] rfl) q
              · have q := (if_pos c67).mp q
                refine lv_iconst (v := 1) hx hb dL_law_414 (by decide) ?_
                refine lv_goto (tgt := 419) hx hb dL_law_415 (by decide) ?_
                exact t_419 F66 x6 1 _ _ _ hH hS (lv_sub hl [2, 3, 4, 5, 6, 7] rfl) q
          · have q := (if_neg c18).mp q
            refine lv_aload_n hx hb dL_law_320 rfl (lv_at hl 2 rfl) ?_
            refine lv_iconst (v := 5) hx hb dL_law_321 (by decide) ?_
            refine lv_iload hx hb dL_law_322 (lv_at hl 9 rfl) ?_
            refine lv_iload hx hb dL_law_324 (lv_at hl 8 rfl) ?_
            refine lv_bipush (v := 20) hx hb dL_law_326 (by decide) ?_
            refine lv_idiv hx hb dL_law_328 (by decide) ?_
            refine lv_bipush (v := 6) hx hb dL_law_329 (by decide) ?_
            refine lv_irem hx hb dL_law_331 (by decide) ?_
            have hH0 := hH
            obtain ⟨ada, adb, ea, eb, hT⟩ := hH
            refine va_calli (vx_runSW (As := [.ref a0, .int 5, .int x9, .int ((x8 / 20) - (x8 / 20) / 6 * 6)]) (rest := []) ⟨hx, hb, hml, hown, hts⟩ (cm_L_does l hfl (tG G adb F.2.1 ca) ada F.1 5 x9 ((x8 / 20) - (x8 / 20) / 6 * 6) a0 ea _) (vx_cwSW 4 hts gL_law_L_does rfl rfl rfl (by decide +kernel) ⟨Nat.le_of_ble_eq_true rfl, Nat.le_of_ble_eq_true rfl⟩) ⟨fun a U g mk h => ⟨h.1, ⟨gD_blind h.2.1.1, gL.moved (u := U) (U := U.calling g mk a) (Vm.Alike.refl U.vm) h.2.1.2⟩, h.2.2⟩, fun U hU hW => ⟨rfl, ⟨tD_A hK hG hB hT hS hU hW, gL.moved hW.alike hL⟩, q⟩⟩ rfl rfl hl.1 rfl (lv_room (Nat.le_of_ble_eq_true rfl)) dL_law_332 ⟨by show cl + 0 + 6 ≤ 600130; omega, by show sl + 0 + 36 ≤ 7301080; omega⟩) hS (fun _ _ h => h.1) (fun _ h => h.1) (fun r68 Z69u t H locs ht hvm q hB1 hz hk hS => ?_)
            obtain ⟨Z69, ad1⟩ := Z69u
            obtain ⟨q, hα⟩ := q
            have hB1 : gH (tG G adb F.2.1 ca) ad1 Z69 H := gH_to ht hB1
            have hT := tO_A hT hk hB1
            obtain ⟨F70, eF70, q⟩ := q
            have hH : tH G a0 b0 ca F70 H := tH_eq ⟨ad1, adb, ((hα 0 0 (by decide)).trans ea), eb, hT⟩ eF70
            refine lv_aload_n hx hb dL_law_335 rfl (lv_at hl 3 rfl) ?_
            refine lv_iconst (v := 5) hx hb dL_law_336 (by decide) ?_
            refine lv_iload hx hb dL_law_337 (lv_at hl 9 rfl) ?_
            refine lv_iload hx hb dL_law_339 (lv_at hl 8 rfl) ?_
            refine lv_bipush (v := 20) hx hb dL_law_341 (by decide) ?_
            refine lv_idiv hx hb dL_law_343 (by decide) ?_
            refine lv_bipush (v := 6) hx hb dL_law_344 (by decide) ?_
            refine lv_irem hx hb dL_law_346 (by decide) ?_
            have hH0 := hH
            obtain ⟨ada, adb, ea, eb, hT⟩ := hH
            refine va_calli (vx_runSW (As := [.ref b0, .int 5, .int x9, .int ((x8 / 20) - (x8 / 20) / 6 * 6)]) (rest := [.int r68]) ⟨hx, hb, hml, hown, hts⟩ (cm_L_does l hfl (tG G ada F70.1 ca) adb F70.2.1 5 x9 ((x8 / 20) - (x8 / 20) / 6 * 6) b0 eb _) (vx_cwSW 4 hts gL_law_L_does rfl rfl rfl (by decide +kernel) ⟨Nat.le_of_ble_eq_true rfl, Nat.le_of_ble_eq_true rfl⟩) ⟨fun a U g mk h => ⟨h.1, ⟨gD_blind h.2.1.1, gL.moved (u := U) (U := U.calling g mk a) (Vm.Alike.refl U.vm) h.2.1.2⟩, h.2.2⟩, fun U hU hW => ⟨rfl, ⟨tD_B hK hG hB hT hS hU hW, gL.moved hW.alike hL⟩, q⟩⟩ rfl rfl hl.1 rfl (lv_room (Nat.le_of_ble_eq_true rfl)) dL_law_347 ⟨by show cl + 6 + 6 ≤ 600130; omega, by show sl + 36 + 36 ≤ 7301080; omega⟩) hS (fun _ _ h => h.1) (fun _ h => h.1) (fun r71 Z72u t H locs ht hvm q hB1 hz hk hS => ?_)
            obtain ⟨Z72, ad1⟩ := Z72u
            obtain ⟨q, hα⟩ := q
            have hB1 : gH (tG G ada F70.1 ca) ad1 Z72 H := gH_to ht hB1
            have hT := tO_B hT hk hB1
            obtain ⟨F73, eF73, q⟩ := q
            have hH : tH G a0 b0 ca F73 H := tH_eq ⟨ada, ad1, ea, ((hα 0 0 (by decide)).trans eb), hT⟩ eF73
            refine lv_icmp_ne (tgt := 357) hx hb dL_law_350 (by decide) (fun c74 => ?_) (fun c74 => ?_)
            · have q := (if_neg c74).mp q
              refine lv_iconst (v := 0) hx hb dL_law_357 (by decide) ?_
              exact t_358 F73 x6 0 _ _ _ hH hS (lv_sub hl [1, 2, 3, 4, 5, 6] rfl) q
            · have q := (if_pos c74).mp q
              refine lv_iconst (v := 1) hx hb dL_law_353 (by decide) ?_
              refine lv_goto (tgt := 358) hx hb dL_law_354 (by decide) ?_
              exact t_358 F73 x6 1 _ _ _ hH hS (lv_sub hl [1, 2, 3, 4, 5, 6] rfl) q
        · have q := (if_neg c17).mp q
          refine lv_aload_n hx hb dL_law_278 rfl (lv_at hl 2 rfl) ?_
          refine lv_iconst (v := 1) hx hb dL_law_279 (by decide) ?_
          refine lv_iconst (v := 1) hx hb dL_law_280 (by decide) ?_
          refine lv_iload hx hb dL_law_281 (lv_at hl 8 rfl) ?_
          refine lv_iconst (v := 3) hx hb dL_law_283 (by decide) ?_
          refine lv_irem hx hb dL_law_284 (by decide) ?_
          refine lv_iadd hx hb dL_law_285 ?_
          have hH0 := hH
          obtain ⟨ada, adb, ea, eb, hT⟩ := hH
          refine va_calli (vx_runSW (As := [.ref a0, .int 1, .int (1 + (x8 - x8 / 3 * 3))]) (rest := []) ⟨hx, hb, hml, hown, hts⟩ (cm_L_act l hfl (tG G adb F.2.1 ca) ada F.1 1 (1 + (x8 - x8 / 3 * 3)) a0 ea _) (vx_cwSW 3 hts gL_law_L_act rfl rfl rfl (by decide +kernel) ⟨Nat.le_of_ble_eq_true rfl, Nat.le_of_ble_eq_true rfl⟩) ⟨fun a U g mk h => ⟨h.1, ⟨gD_blind h.2.1.1, gL.moved (u := U) (U := U.calling g mk a) (Vm.Alike.refl U.vm) h.2.1.2⟩, h.2.2⟩, fun U hU hW => ⟨rfl, ⟨tD_A hK hG hB hT hS hU hW, gL.moved hW.alike hL⟩, q⟩⟩ rfl rfl hl.1 rfl (lv_room (Nat.le_of_ble_eq_true rfl)) dL_law_286 ⟨by show cl + 0 + 3 ≤ 600130; omega, by show sl + 0 + 18 ≤ 7301080; omega⟩) hS (fun _ _ h => h.1) (fun _ h => h.1) (fun r75 Z76 t H locs ht hvm q hB1 hz hk hS => ?_)
          have hB1 : gH (tG G adb F.2.1 ca) ada Z76 H := gH_to ht hB1
          have hT := tO_A hT hk hB1
          obtain ⟨F77, eF77, q⟩ := q
          have hH : tH G a0 b0 ca F77 H := tH_eq ⟨ada, adb, ea, eb, hT⟩ eF77
          refine lv_aload_n hx hb dL_law_289 rfl (lv_at hl 3 rfl) ?_
          refine lv_iconst (v := 1) hx hb dL_law_290 (by decide) ?_
          refine lv_iconst (v := 1) hx hb dL_law_291 (by decide) ?_
          refine lv_iload hx hb dL_law_292 (lv_at hl 8 rfl) ?_
          refine lv_iconst (v := 3) hx hb dL_law_294 (by decide) ?_
          refine lv_irem hx hb dL_law_295 (by decide) ?_
          refine lv_iadd hx hb dL_law_296 ?_
          have hH0 := hH
          obtain ⟨ada, adb, ea, eb, hT⟩ := hH
          refine va_calli (vx_runSW (As := [.ref b0, .int 1, .int (1 + (x8 - x8 / 3 * 3))]) (rest := [.int r75]) ⟨hx, hb, hml, hown, hts⟩ (cm_L_act l hfl (tG G ada F77.1 ca) adb F77.2.1 1 (1 + (x8 - x8 / 3 * 3)) b0 eb _) (vx_cwSW 3 hts gL_law_L_act rfl rfl rfl (by decide +kernel) ⟨Nat.le_of_ble_eq_true rfl, Nat.le_of_ble_eq_true rfl⟩) ⟨fun a U g mk h => ⟨h.1, ⟨gD_blind h.2.1.1, gL.moved (u := U) (U := U.calling g mk a) (Vm.Alike.refl U.vm) h.2.1.2⟩, h.2.2⟩, fun U hU hW => ⟨rfl, ⟨tD_B hK hG hB hT hS hU hW, gL.moved hW.alike hL⟩, q⟩⟩ rfl rfl hl.1 rfl (lv_room (Nat.le_of_ble_eq_true rfl)) dL_law_297 ⟨by show cl + 3 + 3 ≤ 600130; omega, by show sl + 18 + 18 ≤ 7301080; omega⟩) hS (fun _ _ h => h.1) (fun _ h => h.1) (fun r78 Z79 t H locs ht hvm q hB1 hz hk hS => ?_)
          have hB1 : gH (tG G ada F77.1 ca) adb Z79 H := gH_to ht hB1
          have hT := tO_B hT hk hB1
          obtain ⟨F80, eF80, q⟩ := q
          have hH : tH G a0 b0 ca F80 H := tH_eq ⟨ada, adb, ea, eb, hT⟩ eF80
          refine lv_icmp_ne (tgt := 307) hx hb dL_law_300 (by decide) (fun c81 => ?_) (fun c81 => ?_)
          · have q := (if_neg c81).mp q
            refine lv_iconst (v := 0) hx hb dL_law_307 (by decide) ?_
            exact t_308 F80 x6 0 _ _ _ hH hS (lv_sub hl [1, 2, 3, 4, 5, 6] rfl) q
          · have q := (if_pos c81).mp q
            refine lv_iconst (v := 1) hx hb dL_law_303 (by decide) ?_
            refine lv_goto (tgt := 308) hx hb dL_law_304 (by decide) ?_
            exact t_308 F80 x6 1 _ _ _ hH hS (lv_sub hl [1, 2, 3, 4, 5, 6] rfl) q
      · have q := (if_neg c16).mp q
        refine lv_aload_n hx hb dL_law_155 rfl (lv_at hl 2 rfl) ?_
        refine lv_bipush (v := 8) hx hb dL_law_156 (by decide) ?_
        refine lv_iload hx hb dL_law_158 (lv_at hl 8 rfl) ?_
        refine lv_iconst (v := 5) hx hb dL_law_160 (by decide) ?_
        refine lv_irem hx hb dL_law_161 (by decide) ?_
        refine lv_iadd hx hb dL_law_162 ?_
        refine lv_iload hx hb dL_law_163 (lv_at hl 8 rfl) ?_
        refine lv_iconst (v := 5) hx hb dL_law_165 (by decide) ?_
        refine lv_idiv hx hb dL_law_166 (by decide) ?_
        refine lv_bipush (v := 12) hx hb dL_law_167 (by decide) ?_
        refine lv_irem hx hb dL_law_169 (by decide) ?_
        refine lv_iload hx hb dL_law_170 (lv_at hl 8 rfl) ?_
        refine lv_bipush (v := 60) hx hb dL_law_172 (by decide) ?_
        refine lv_idiv hx hb dL_law_174 (by decide) ?_
        refine lv_iconst (v := 2) hx hb dL_law_175 (by decide) ?_
        refine lv_irem hx hb dL_law_176 (by decide) ?_
        refine lv_iconst (v := 1) hx hb dL_law_177 (by decide) ?_
        refine lv_icmp_ne (tgt := 185) hx hb dL_law_178 (by decide) (fun c82 => ?_) (fun c82 => ?_)
        · have q := (if_neg c82).mp q
          refine lv_iconst (v := 0) hx hb dL_law_185 (by decide) ?_
          exact t_186 F x6 x8 (8 + (x8 - x8 / 5 * 5)) ((x8 / 5) - (x8 / 5) / 12 * 12) 0 _ _ _ hH hS (lv_sub hl [1, 2, 3, 4, 5, 6, 8] rfl) q
        · have q := (if_pos c82).mp q
          refine lv_iconst (v := 1) hx hb dL_law_181 (by decide) ?_
          refine lv_goto (tgt := 186) hx hb dL_law_182 (by decide) ?_
          exact t_186 F x6 x8 (8 + (x8 - x8 / 5 * 5)) ((x8 / 5) - (x8 / 5) / 12 * 12) 1 _ _ _ hH hS (lv_sub hl [1, 2, 3, 4, 5, 6, 8] rfl) q
    · have q := (if_neg c15).mp q
      refine lv_aload_n hx hb dL_law_133 rfl (lv_at hl 2 rfl) ?_
      refine lv_aload_n hx hb dL_law_134 rfl (lv_at hl 3 rfl) ?_
      refine lv_aload_n hx hb dL_law_135 rfl (lv_at hl 4 rfl) ?_
      refine lv_iload hx hb dL_law_136 (lv_at hl 7 rfl) ?_
      refine lv_iload hx hb dL_law_138 (lv_at hl 8 rfl) ?_
      refine va_calli (va_runS (As := [.ref a0, .ref b0, .ref ca, .int x7, .int x8]) (rest := []) ⟨hx, hb, hml, hown, hts⟩ (c_L_town l hfl G a0 b0 ca F x7 x8 _) (va_cwS 5 hts gL_law_L_town rfl rfl rfl (by decide +kernel) ⟨Nat.le_of_ble_eq_true rfl, Nat.le_of_ble_eq_true rfl⟩) ⟨fun a U g mk h => ⟨h.1, tD_blind h.2.1, h.2.2⟩, fun U hU hW => ⟨rfl, tD_at hK hG hL hB hH hS hU hW, q⟩⟩ rfl rfl hl.1 rfl (lv_room (Nat.le_of_ble_eq_true rfl)) dL_law_140 ⟨by show cl + 0 + 12 ≤ 600130; omega, by show sl + 0 + 72 ≤ 7301080; omega⟩) hS (fun _ _ h => h) (fun _ h => h) (fun r98 F100 t H locs ht hvm q hB1 hz hk hS => ?_)
      have hH := tH_to ht hB1
      refine lv_istore (lv' := [(4, .int r98), (10, .int s0), (0, .ref b), (1, .ref a0), (2, .ref b0), (3, .ref ca), (5, .int k), (6, .int x6), (7, .int x7), (8, .int x8), (9, .int x9)]) hx hb dL_law_143 hl (by decide) rfl (fun ls hl => ?_)
      refine lv_goto (tgt := 594) hx hb dL_law_145 (by decide) ?_
      refine W.widen (k := cl + 18) (n := sl + 108) (by omega) (by omega) ?_
      exact t_594 F100 r98 x6 _ _ _ hH hS (lv_sub hl [2, 3, 4, 5, 0, 6, 7] rfl) q
  have t_106 : ∀ (F : S3) (x6 : Int32) (x7 : Int32) (x8 : Int32) (s0 : Int32) (H : Heap) (locs : List Loc) (ls : Array Slot), tH G a0 b0 ca F H → va_S (gA (zg G)) s.heap H locs → lv_has ls 12 [(0, .ref b), (1, .ref a0), (2, .ref b0), (3, .ref ca), (5, .int k), (6, .int x6), (7, .int x7), (8, .int x8)] → (P_M_body_106 L xs k K) F x6 x7 x8 s0 → W p l e room_1 s m #[Value.ref b] below meth c H locs (cl + 0) (sl + 0) Q (F0 m 106 ls [.int s0]) := by
    intro F x6 x7 x8 s0 H locs ls hH hS hl q
    unfold P_M_body_106 at q
    refine lv_istore (lv' := [(9, .int s0), (0, .ref b), (1, .ref a0), (2, .ref b0), (3, .ref ca), (5, .int k), (6, .int x6), (7, .int x7), (8, .int x8)]) hx hb dL_law_106 hl (by decide) rfl (fun ls hl => ?_)
    refine lv_aload_n hx hb dL_law_108 rfl (lv_at hl 4 rfl) ?_
    refine lv_iconst (v := 1) hx hb dL_law_109 (by decide) ?_
    obtain ⟨h11, q⟩ := q
    refine t_cld hx hb hK hH h11 dL_law_110 ?_
    refine lv_if_ne (tgt := 118) hx hb dL_law_111 (by decide) (fun c12 => ?_) (fun c12 => ?_)
    · have q := (if_neg c12).mp q
      refine lv_iload hx hb dL_law_118 (lv_at hl 8 rfl) ?_
      refine lv_aload_n hx hb dL_law_120 rfl (lv_at hl 4 rfl) ?_
      refine lv_iconst (v := 1) hx hb dL_law_121 (by decide) ?_
      obtain ⟨h13, q⟩ := q
      refine t_cld hx hb hK hH h13 dL_law_122 ?_
      obtain ⟨h14, q⟩ := q
      refine lv_irem hx hb dL_law_123 h14 ?_
      exact t_124 F x6 x7 x8 s0 (x8 - x8 / (F.2.2 (1 : Int32).toNatClampNeg) * (F.2.2 (1 : Int32).toNatClampNeg)) _ _ _ hH hS (lv_sub hl [1, 2, 3, 4, 5, 6, 7, 8, 0] rfl) q
    · have q := (if_pos c12).mp q
      refine lv_iconst (v := 0) hx hb dL_law_114 (by decide) ?_
      refine lv_goto (tgt := 124) hx hb dL_law_115 (by decide) ?_
      exact t_124 F x6 x7 x8 s0 0 _ _ _ hH hS (lv_sub hl [1, 2, 3, 4, 5, 6, 7, 8, 0] rfl) q
  have t_81 : ∀ (F : S3) (x6 : Int32) (s0 : Int32) (H : Heap) (locs : List Loc) (ls : Array Slot), tH G a0 b0 ca F H → va_S (gA (zg G)) s.heap H locs → lv_has ls 12 [(0, .ref b), (1, .ref a0), (2, .ref b0), (3, .ref ca), (5, .int k), (6, .int x6)] → (P_M_body_81 L xs k K) F x6 s0 → W p l e room_1 s m #[Value.ref b] below meth c H locs (cl + 0) (sl + 0) Q (F0 m 81 ls [.int s0]) := by
    intro F x6 s0 H locs ls hH hS hl q
    unfold P_M_body_81 at q
    refine lv_istore (lv' := [(7, .int s0), (0, .ref b), (1, .ref a0), (2, .ref b0), (3, .ref ca), (5, .int k), (6, .int x6)]) hx hb dL_law_81 hl (by decide) rfl (fun ls hl => ?_)
    refine lv_iload hx hb dL_law_83 (lv_at hl 6 rfl) ?_
    refine lv_bipush (v := 40) hx hb dL_law_85 (by decide) ?_
    refine lv_idiv hx hb dL_law_87 (by decide) ?_
    refine lv_istore (lv' := [(8, .int (x6 / 40)), (7, .int s0), (0, .ref b), (1, .ref a0), (2, .ref b0), (3, .ref ca), (5, .int k), (6, .int x6)]) hx hb dL_law_88 hl (by decide) rfl (fun ls hl => ?_)
    refine lv_aload_n hx hb dL_law_90 rfl (lv_at hl 5 rfl) ?_
    refine lv_iconst (v := 0) hx hb dL_law_91 (by decide) ?_
    obtain ⟨h7, q⟩ := q
    refine t_cld hx hb hK hH h7 dL_law_92 ?_
    refine lv_if_ne (tgt := 100) hx hb dL_law_93 (by decide) (fun c8 => ?_) (fun c8 => ?_)
    · have q := (if_neg c8).mp q
      refine lv_iload hx hb dL_law_100 (lv_at hl 0 rfl) ?_
      refine lv_aload_n hx hb dL_law_102 rfl (lv_at hl 5 rfl) ?_
      refine lv_iconst (v := 0) hx hb dL_law_103 (by decide) ?_
      obtain ⟨h9, q⟩ := q
      refine t_cld hx hb hK hH h9 dL_law_104 ?_
      obtain ⟨h10, q⟩ := q
      refine lv_irem hx hb dL_law_105 h10 ?_
      exact t_106 F x6 s0 (x6 / 40) ((x6 / 40) - (x6 / 40) / (F.2.2 (0 : Int32).toNatClampNeg) * (F.2.2 (0 : Int32).toNatClampNeg)) _ _ _ hH hS (lv_sub hl [2, 3, 4, 5, 6, 7, 1, 0] rfl) q
    · have q := (if_pos c8).mp q
      refine lv_iconst (v := 0) hx hb dL_law_96 (by decide) ?_
      refine lv_goto (tgt := 106) hx hb dL_law_97 (by decide) ?_
      exact t_106 F x6 s0 (x6 / 40) 0 _ _ _ hH hS (lv_sub hl [2, 3, 4, 5, 6, 7, 1, 0] rfl) q
  unfold P_M_body at q
  refine lv_aload_n hx hb dL_law_38 rfl (lv_at hl 0 rfl) ?_
  refine lv_iload hx hb dL_law_39 (lv_at hl 5 rfl) ?_
  refine lv_bipush (v := 60) hx hb dL_law_41 (by decide) ?_
  refine lv_irem hx hb dL_law_43 (by decide) ?_
  obtain ⟨h3, q⟩ := q
  refine va_calli (va_runS (As := [.ref b, .int (k - k / 60 * 60)]) (rest := []) ⟨hx, hb, hml, hown, hts⟩ (c_L_drawn l hLL (k - k / 60 * 60) h3) (va_cwS 2 hts gL_law_L_drawn rfl rfl rfl (by decide +kernel) ⟨Nat.le_of_ble_eq_true rfl, Nat.le_of_ble_eq_true rfl⟩) ⟨fun a U g mk h => ⟨h.1, va_X.moved (u := U) (U := U.calling g mk a) (Vm.Alike.refl U.vm) h.2⟩, fun U hU hW => ⟨rfl, (va_X.moved hW.alike hX).kept (by rw [hU]; exact hS.2.1 b hbl hbA)⟩⟩ rfl rfl hl.1 rfl (lv_room (Nat.le_of_ble_eq_true rfl)) dL_law_44 ⟨by show cl + 0 + 0 ≤ 600130; omega, by show sl + 0 + 0 ≤ 7301080; omega⟩) hS (fun _ _ h => h.elim) (fun _ h => h.elim) (fun r1 z2 t H locs ht hvm z2q hB1 hz hk hS => ?_)
  have hH := tH_grow hH (fun q hq => hk q hq (fun h => h))
  rw [z2q]
  refine lv_iconst (v := 1) hx hb dL_law_47 (by decide) ?_
  refine lv_iload hx hb dL_law_48 (lv_at hl 5 rfl) ?_
  refine lv_bipush (v := 60) hx hb dL_law_50 (by decide) ?_
  refine lv_idiv hx hb dL_law_52 (by decide) ?_
  refine lv_iadd hx hb dL_law_53 ?_
  obtain ⟨h4, q⟩ := q
  refine lv_idiv hx hb dL_law_54 h4 ?_
  refine lv_bipush (v := 7) hx hb dL_law_55 (by decide) ?_
  refine lv_iload hx hb dL_law_57 (lv_at hl 5 rfl) ?_
  refine lv_bipush (v := 60) hx hb dL_law_59 (by decide) ?_
  refine lv_idiv hx hb dL_law_61 (by decide) ?_
  refine lv_imul hx hb dL_law_62 ?_
  refine lv_iadd hx hb dL_law_63 ?_
  refine lv_topi (fun y5 ey5 => ?_)
  have q := q y5 ey5
  refine lv_istore (lv' := [(6, .int y5), (0, .ref b), (1, .ref a0), (2, .ref b0), (3, .ref ca), (4, .int 1), (5, .int k)]) hx hb dL_law_64 hl (by decide) rfl (fun ls hl => ?_)
  refine lv_iload hx hb dL_law_66 (lv_at hl 6 rfl) ?_
  refine lv_iconst (v := 2) hx hb dL_law_68 (by decide) ?_
  refine lv_icmp_ge (tgt := 76) hx hb dL_law_69 (by decide) (fun c6 => ?_) (fun c6 => ?_)
  · have q := (if_pos c6).mp q
    refine lv_iload hx hb dL_law_76 (lv_at hl 0 rfl) ?_
    refine lv_bipush (v := 40) hx hb dL_law_78 (by decide) ?_
    refine lv_irem hx hb dL_law_80 (by decide) ?_
    exact t_81 F y5 (y5 - y5 / 40 * 40) _ _ _ hH hS (lv_sub hl [1, 2, 3, 4, 6, 0] rfl) q
  · have q := (if_neg c6).mp q
    refine lv_iconst (v := 3) hx hb dL_law_72 (by decide) ?_
    refine lv_goto (tgt := 81) hx hb dL_law_73 (by decide) ?_
    exact t_81 F y5 3 _ _ _ hH hS (lv_sub hl [1, 2, 3, 4, 6, 0] rfl) q
