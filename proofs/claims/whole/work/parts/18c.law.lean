set_option maxHeartbeats 4000000 in
set_option maxRecDepth 100000 in
theorem law_24 {p : Program} {l : Launch} {e : Env} {s : State} {m : MethodId} {below : List Frame} {meth : Method} {c : Code} {b L : Nat} {xs : Nat → Int32} {Q : State → Prop} {G : GP} (hfl : l.stackTraces = false) (hx : p.tables.exec = Jvm.exec) (hb : c.code = code) (hml : c.maxLocals = 7) (hown : s.vm.findClass RL = some m.cls) (hts : ∀ w ∈ wsL_law, w.before #[Value.ref b] s = true) (hX : va_X b L xs s s.heap) (hbl : b < s.heap.size) (hK : gK G s) (hG : gS G s) (hB : G.2.2.2 ≤ s.heap.size) (hL : gL s) (hBe : G.2.2.2 = s.heap.size) (ad : Nat → Nat → Nat) (F : GF) (x4 a1 a2 a3 : Int32) (hi1 : vp_in (x4 + 1) L) (hi2 : vp_in (x4 + 2) L) (hi3 : vp_in (x4 + 3) L) (ha1 : xs (x4 + 1).toNatClampNeg = a1) (ha2 : xs (x4 + 2).toNatClampNeg = a2) (ha3 : xs (x4 + 3).toNatClampNeg = a3) (cl sl : Nat) (hcl : cl + MCL ≤ 601024) (hsl : sl + MSL ≤ 7293034) (H : Heap) (locs : List Loc) (ls : Array Slot) (hH : gH G ad F H) (hS : va_S (gA G) s.heap H locs) (hl : lv_has ls 7 [(0, .ref b), (1, .ref (ad 0 0)), (2, .ref (ad 40 0)), (3, .ref (ad 79 0)), (4, .int x4)]) (K : GF → Prop) (hkk : ∀ (F1 : GF) (ad1 : Nat → Nat → Nat) (H : Heap) (locs : List Loc) (ls : Array Slot), (∀ f i : Nat, f ≠ 39 → ad1 f i = ad f i) → gH G ad1 F1 H → va_S (gA G) s.heap H locs → lv_has ls 7 [(0, .ref b), (1, .ref (ad1 0 0)), (2, .ref (ad1 40 0)), (3, .ref (ad1 79 0)), (4, .int x4)] → K F1 → W p l e room_1 s m #[Value.ref b] below meth c H locs (cl + MCL) (sl + MSL) Q (F0 m 2280 ls [])) (q : PL_24 a1 a2 a3 K F) : W p l e room_1 s m #[Value.ref b] below meth c H locs cl sl Q (F0 m 1644 ls []) := by
  have hbA : ¬ gA G b := by
    intro h
    have h2 : G.2.2.2 ≤ b := h
    omega
  unfold MCL at hcl
  unfold MSL at hsl
  have t_1710 : ∀ (F : GF) (s0 : Int32) (s1 : Int32) (H : Heap) (locs : List Loc) (ls : Array Slot), gH G ad F H → va_S (gA G) s.heap H locs → lv_has ls 7 [(0, .ref b), (1, .ref (ad 0 0)), (2, .ref (ad 40 0)), (3, .ref (ad 79 0)), (4, .int x4)] → (P_L_law_1710 a1 a2 a3 K) F s0 s1 → W p l e room_1 s m #[Value.ref b] below meth c H locs (cl + 4) (sl + 24) Q (F0 m 1710 ls [.long s1.toInt64, .long s0.toInt64]) := by
    intro F s0 s1 H locs ls hH hS hl q
    unfold P_L_law_1710 at q
    refine W.lcmp hx hb dL_law_1710 ?_
    refine lv_if_eq (tgt := 1716) hx hb dL_law_1711 (by decide) (fun c11 => ?_) (fun c11 => ?_)
    · have q := (if_pos (lcmp_eq.mp c11)).mp q
      refine lv_goto (tgt := 2280) hx hb dL_law_1716 (by decide) ?_
      refine W.widen (k := cl + MCL) (n := sl + MSL) (by unfold MCL; omega) (by unfold MSL; omega) ?_
      exact hkk F ad _ _ _ (fun _ _ _ => rfl) hH hS (lv_sub hl [0, 1, 2, 3, 4] rfl) q
    · have q := (if_neg (fun z => c11 (lcmp_eq.mpr z))).mp q
      refine lv_iconst (v := 0) hx hb dL_law_1714 (by decide) ?_
      exact q.elim
  unfold PL_24 at q
  refine lv_aload_n hx hb dL_law_1644 rfl (lv_at hl 1 rfl) ?_
  refine lv_aload_n hx hb dL_law_1645 rfl (lv_at hl 0 rfl) ?_
  refine lv_iload hx hb dL_law_1646 (lv_at hl 4 rfl) ?_
  refine lv_iconst (v := 1) hx hb dL_law_1648 (by decide) ?_
  refine lv_iadd hx hb dL_law_1649 ?_
  refine va_sld hx hb hX hbl hbA hS hi1 dL_law_1650 ?_
  rw [ha1]
  refine lv_aload_n hx hb dL_law_1651 rfl (lv_at hl 0 rfl) ?_
  refine lv_iload hx hb dL_law_1652 (lv_at hl 4 rfl) ?_
  refine lv_iconst (v := 2) hx hb dL_law_1654 (by decide) ?_
  refine lv_iadd hx hb dL_law_1655 ?_
  refine va_sld hx hb hX hbl hbA hS hi2 dL_law_1656 ?_
  rw [ha2]
  refine lv_aload_n hx hb dL_law_1657 rfl (lv_at hl 3 rfl) ?_
  refine va_calli (vx_runSW (As := [.ref (ad 0 0), .int a1, .int a2, .ref (ad 79 0)]) (rest := []) ⟨hx, hb, hml, hown, hts⟩ (c_L_count l hfl G ad F a1 a2 _) (vx_cwSW 4 hts gL_law_L_count rfl rfl rfl (by decide +kernel) ⟨Nat.le_of_ble_eq_true rfl, Nat.le_of_ble_eq_true rfl⟩) ⟨fun a U g mk h => ⟨h.1, ⟨gD_blind h.2.1.1, gL.moved (u := U) (U := U.calling g mk a) (Vm.Alike.refl U.vm) h.2.1.2⟩, h.2.2⟩, fun U hU hW => ⟨rfl, ⟨gD_at hK hG hB hH hS hU hW, gL.moved hW.alike hL⟩, q⟩⟩ rfl rfl hl.1 rfl (lv_room (Nat.le_of_ble_eq_true rfl)) dL_law_1658 ⟨by show cl + 0 + 4 ≤ 601024; omega, by show sl + 0 + 24 ≤ 7293034; omega⟩) hS (fun _ _ h => h) (fun _ h => h) (fun r1 F2 t H locs ht hvm q hB1 hz hk hS => ?_)
  have hH : gH G ad F2 H := gH_to ht hB1
  refine lv_istore (lv' := [(5, .int r1), (0, .ref b), (1, .ref (ad 0 0)), (2, .ref (ad 40 0)), (3, .ref (ad 79 0)), (4, .int x4)]) hx hb dL_law_1661 hl (by decide) rfl (fun ls hl => ?_)
  refine lv_aload_n hx hb dL_law_1663 rfl (lv_at hl 3 rfl) ?_
  refine lv_aload_n hx hb dL_law_1664 rfl (lv_at hl 1 rfl) ?_
  refine lv_iload hx hb dL_law_1665 (lv_at hl 5 rfl) ?_
  refine lv_iconst (v := 1) hx hb dL_law_1667 (by decide) ?_
  refine lv_iadd hx hb dL_law_1668 ?_
  refine va_sld hx hb hX hbl hbA hS hi1 dL_law_1669 ?_
  rw [ha1]
  refine lv_aload_n hx hb dL_law_1670 rfl (lv_at hl 1 rfl) ?_
  refine lv_iload hx hb dL_law_1671 (lv_at hl 5 rfl) ?_
  refine lv_iconst (v := 2) hx hb dL_law_1673 (by decide) ?_
  refine lv_iadd hx hb dL_law_1674 ?_
  refine va_sld hx hb hX hbl hbA hS hi2 dL_law_1675 ?_
  rw [ha2]
  refine va_calli (va_runV (As := [.int a1, .int a2]) (rest := []) ⟨hx, hb, hml, hown, hts⟩ (c_X11_count l G ad F2 a1 a2 _) (cwV 2 hts gL_law_X11_count rfl rfl rfl (by decide +kernel) ⟨Nat.le_of_ble_eq_true rfl, Nat.le_of_ble_eq_true rfl⟩) ⟨fun a U g mk h => ⟨h.1, gD_blind h.2.1, h.2.2⟩, g_recv (C := RX11) (T := TX11) (N := 44) hK hH 40 0 (by decide) Nat.zero_lt_one rfl rfl, fun U hU hW => ⟨rfl, gD_at hK hG hB hH hS hU hW, q⟩⟩ rfl rfl hl.1 rfl (lv_room (Nat.le_of_ble_eq_true rfl)) dL_law_1676 ⟨by show cl + 4 + 0 ≤ 601024; omega, by show sl + 24 + 0 ≤ 7293034; omega⟩) hS (fun _ _ h => h) (fun _ h => h) (fun r3 F4 t H locs ht hvm q hB1 hz hk hS => ?_)
  have hH : gH G ad F4 H := gH_to ht hB1
  refine lv_istore (lv' := [(6, .int r3), (5, .int r1), (0, .ref b), (1, .ref (ad 0 0)), (2, .ref (ad 40 0)), (3, .ref (ad 79 0)), (4, .int x4)]) hx hb dL_law_1679 hl (by decide) rfl (fun ls hl => ?_)
  refine lv_aload_n hx hb dL_law_1681 rfl (lv_at hl 4 rfl) ?_
  refine va_calli (va_runV (As := []) (rest := []) ⟨hx, hb, hml, hown, hts⟩ (c_X11_thrown l G ad F4 _) (cwV 0 hts gL_law_X11_thrown rfl rfl rfl (by decide +kernel) ⟨Nat.le_of_ble_eq_true rfl, Nat.le_of_ble_eq_true rfl⟩) ⟨fun a U g mk h => ⟨h.1, gD_blind h.2.1, h.2.2⟩, g_recv (C := RX11) (T := TX11) (N := 44) hK hH 40 0 (by decide) Nat.zero_lt_one rfl rfl, fun U hU hW => ⟨rfl, gD_at hK hG hB hH hS hU hW, q⟩⟩ rfl rfl hl.1 rfl (lv_room (Nat.le_of_ble_eq_true rfl)) dL_law_1682 ⟨by show cl + 4 + 0 ≤ 601024; omega, by show sl + 24 + 0 ≤ 7293034; omega⟩) hS (fun _ _ h => h) (fun _ h => h) (fun r5 F6 t H locs ht hvm q hB1 hz hk hS => ?_)
  have hH : gH G ad F6 H := gH_to ht hB1
  refine lv_iload hx hb dL_law_1685 (lv_at hl 1 rfl) ?_
  refine lv_icmp_eq (tgt := 1692) hx hb dL_law_1687 (by decide) (fun c7 => ?_) (fun c7 => ?_)
  · have q := (if_pos c7).mp q
    refine lv_iload hx hb dL_law_1692 (lv_at hl 1 rfl) ?_
    refine lv_if_ne (tgt := 1716) hx hb dL_law_1694 (by decide) (fun c8 => ?_) (fun c8 => ?_)
    · have q := (if_neg c8).mp q
      refine lv_goto (tgt := 2280) hx hb dL_law_1716 (by decide) ?_
      refine W.widen (k := cl + MCL) (n := sl + MSL) (by unfold MCL; omega) (by unfold MSL; omega) ?_
      exact hkk F6 ad _ _ _ (fun _ _ _ => rfl) hH hS (lv_sub hl [2, 3, 4, 5, 6] rfl) q
    · have q := (if_pos c8).mp q
      refine lv_aload_n hx hb dL_law_1697 rfl (lv_at hl 5 rfl) ?_
      refine lv_iconst (v := 0) hx hb dL_law_1698 (by decide) ?_
      obtain ⟨h9, q⟩ := q
      refine g_lald hx hb hK hH h9 dL_law_1699 ?_
      refine lv_iload hx hb dL_law_1700 (lv_at hl 0 rfl) ?_
      refine lv_if_eq (tgt := 1709) hx hb dL_law_1702 (by decide) (fun c10 => ?_) (fun c10 => ?_)
      · have q := (if_pos c10).mp q
        refine lv_lconst (v := (0 : Int32).toInt64) hx hb dL_law_1709 (by decide) ?_
        exact t_1710 F6 (F6 79 0 (0 : Int32).toNatClampNeg) 0 _ _ _ hH hS (lv_sub hl [2, 3, 4, 5, 6] rfl) q
      · have q := (if_neg c10).mp q
        refine lv_lconst (v := (1 : Int32).toInt64) hx hb dL_law_1705 (by decide) ?_
        refine lv_goto (tgt := 1710) hx hb dL_law_1706 (by decide) ?_
        exact t_1710 F6 (F6 79 0 (0 : Int32).toNatClampNeg) 1 _ _ _ hH hS (lv_sub hl [2, 3, 4, 5, 6] rfl) q
  · have q := (if_neg c7).mp q
    refine lv_iconst (v := 0) hx hb dL_law_1690 (by decide) ?_
    exact q.elim
set_option maxHeartbeats 4000000 in
set_option maxRecDepth 100000 in
theorem law_25 {p : Program} {l : Launch} {e : Env} {s : State} {m : MethodId} {below : List Frame} {meth : Method} {c : Code} {b L : Nat} {xs : Nat → Int32} {Q : State → Prop} {G : GP} (hfl : l.stackTraces = false) (hx : p.tables.exec = Jvm.exec) (hb : c.code = code) (hml : c.maxLocals = 7) (hown : s.vm.findClass RL = some m.cls) (hts : ∀ w ∈ wsL_law, w.before #[Value.ref b] s = true) (hX : va_X b L xs s s.heap) (hbl : b < s.heap.size) (hK : gK G s) (hG : gS G s) (hB : G.2.2.2 ≤ s.heap.size) (hL : gL s) (hBe : G.2.2.2 = s.heap.size) (ad : Nat → Nat → Nat) (F : GF) (x4 a1 a2 a3 : Int32) (hi1 : vp_in (x4 + 1) L) (hi2 : vp_in (x4 + 2) L) (hi3 : vp_in (x4 + 3) L) (ha1 : xs (x4 + 1).toNatClampNeg = a1) (ha2 : xs (x4 + 2).toNatClampNeg = a2) (ha3 : xs (x4 + 3).toNatClampNeg = a3) (cl sl : Nat) (hcl : cl + MCL ≤ 601024) (hsl : sl + MSL ≤ 7293034) (H : Heap) (locs : List Loc) (ls : Array Slot) (hH : gH G ad F H) (hS : va_S (gA G) s.heap H locs) (hl : lv_has ls 7 [(0, .ref b), (1, .ref (ad 0 0)), (2, .ref (ad 40 0)), (3, .ref (ad 79 0)), (4, .int x4)]) (K : GF → Prop) (hkk : ∀ (F1 : GF) (ad1 : Nat → Nat → Nat) (H : Heap) (locs : List Loc) (ls : Array Slot), (∀ f i : Nat, f ≠ 39 → ad1 f i = ad f i) → gH G ad1 F1 H → va_S (gA G) s.heap H locs → lv_has ls 7 [(0, .ref b), (1, .ref (ad1 0 0)), (2, .ref (ad1 40 0)), (3, .ref (ad1 79 0)), (4, .int x4)] → K F1 → W p l e room_1 s m #[Value.ref b] below meth c H locs (cl + MCL) (sl + MSL) Q (F0 m 2280 ls [])) (q : PL_25 a1 a2 a3 K F) : W p l e room_1 s m #[Value.ref b] below meth c H locs cl sl Q (F0 m 1719 ls []) := by
  have hbA : ¬ gA G b := by
    intro h
    have h2 : G.2.2.2 ≤ b := h
    omega
  unfold MCL at hcl
  unfold MSL at hsl
  unfold PL_25 at q
  refine lv_aload_n hx hb dL_law_1719 rfl (lv_at hl 1 rfl) ?_
  refine lv_aload_n hx hb dL_law_1720 rfl (lv_at hl 0 rfl) ?_
  refine lv_iload hx hb dL_law_1721 (lv_at hl 4 rfl) ?_
  refine lv_iconst (v := 1) hx hb dL_law_1723 (by decide) ?_
  refine lv_iadd hx hb dL_law_1724 ?_
  refine va_sld hx hb hX hbl hbA hS hi1 dL_law_1725 ?_
  rw [ha1]
  refine lv_aload_n hx hb dL_law_1726 rfl (lv_at hl 3 rfl) ?_
  refine va_calli (vx_runSW (As := [.ref (ad 0 0), .int a1, .ref (ad 79 0)]) (rest := []) ⟨hx, hb, hml, hown, hts⟩ (c_L_recount l hfl G ad F a1 _) (vx_cwSW 3 hts gL_law_L_recount rfl rfl rfl (by decide +kernel) ⟨Nat.le_of_ble_eq_true rfl, Nat.le_of_ble_eq_true rfl⟩) ⟨fun a U g mk h => ⟨h.1, ⟨gD_blind h.2.1.1, gL.moved (u := U) (U := U.calling g mk a) (Vm.Alike.refl U.vm) h.2.1.2⟩, h.2.2⟩, fun U hU hW => ⟨rfl, ⟨gD_at hK hG hB hH hS hU hW, gL.moved hW.alike hL⟩, q⟩⟩ rfl rfl hl.1 rfl (lv_room (Nat.le_of_ble_eq_true rfl)) dL_law_1727 ⟨by show cl + 0 + 2 ≤ 601024; omega, by show sl + 0 + 12 ≤ 7293034; omega⟩) hS (fun _ _ h => h) (fun _ h => h) (fun r1 F2 t H locs ht hvm q hB1 hz hk hS => ?_)
  have hH : gH G ad F2 H := gH_to ht hB1
  refine lv_istore (lv' := [(5, .int r1), (0, .ref b), (1, .ref (ad 0 0)), (2, .ref (ad 40 0)), (3, .ref (ad 79 0)), (4, .int x4)]) hx hb dL_law_1730 hl (by decide) rfl (fun ls hl => ?_)
  refine lv_aload_n hx hb dL_law_1732 rfl (lv_at hl 3 rfl) ?_
  refine lv_aload_n hx hb dL_law_1733 rfl (lv_at hl 1 rfl) ?_
  refine lv_iload hx hb dL_law_1734 (lv_at hl 5 rfl) ?_
  refine lv_iconst (v := 1) hx hb dL_law_1736 (by decide) ?_
  refine lv_iadd hx hb dL_law_1737 ?_
  refine va_sld hx hb hX hbl hbA hS hi1 dL_law_1738 ?_
  rw [ha1]
  refine va_calli (va_runV (As := [.int a1]) (rest := []) ⟨hx, hb, hml, hown, hts⟩ (c_X11_recount l G ad F2 a1 _) (cwV 1 hts gL_law_X11_recount rfl rfl rfl (by decide +kernel) ⟨Nat.le_of_ble_eq_true rfl, Nat.le_of_ble_eq_true rfl⟩) ⟨fun a U g mk h => ⟨h.1, gD_blind h.2.1, h.2.2⟩, g_recv (C := RX11) (T := TX11) (N := 44) hK hH 40 0 (by decide) Nat.zero_lt_one rfl rfl, fun U hU hW => ⟨rfl, gD_at hK hG hB hH hS hU hW, q⟩⟩ rfl rfl hl.1 rfl (lv_room (Nat.le_of_ble_eq_true rfl)) dL_law_1739 ⟨by show cl + 2 + 0 ≤ 601024; omega, by show sl + 12 + 0 ≤ 7293034; omega⟩) hS (fun _ _ h => h) (fun _ h => h) (fun r3 F4 t H locs ht hvm q hB1 hz hk hS => ?_)
  have hH : gH G ad F4 H := gH_to ht hB1
  refine lv_istore (lv' := [(6, .int r3), (5, .int r1), (0, .ref b), (1, .ref (ad 0 0)), (2, .ref (ad 40 0)), (3, .ref (ad 79 0)), (4, .int x4)]) hx hb dL_law_1742 hl (by decide) rfl (fun ls hl => ?_)
  refine lv_aload_n hx hb dL_law_1744 rfl (lv_at hl 4 rfl) ?_
  refine va_calli (va_runV (As := []) (rest := []) ⟨hx, hb, hml, hown, hts⟩ (c_X11_thrown l G ad F4 _) (cwV 0 hts gL_law_X11_thrown rfl rfl rfl (by decide +kernel) ⟨Nat.le_of_ble_eq_true rfl, Nat.le_of_ble_eq_true rfl⟩) ⟨fun a U g mk h => ⟨h.1, gD_blind h.2.1, h.2.2⟩, g_recv (C := RX11) (T := TX11) (N := 44) hK hH 40 0 (by decide) Nat.zero_lt_one rfl rfl, fun U hU hW => ⟨rfl, gD_at hK hG hB hH hS hU hW, q⟩⟩ rfl rfl hl.1 rfl (lv_room (Nat.le_of_ble_eq_true rfl)) dL_law_1745 ⟨by show cl + 2 + 0 ≤ 601024; omega, by show sl + 12 + 0 ≤ 7293034; omega⟩) hS (fun _ _ h => h) (fun _ h => h) (fun r5 F6 t H locs ht hvm q hB1 hz hk hS => ?_)
  have hH : gH G ad F6 H := gH_to ht hB1
  refine lv_iload hx hb dL_law_1748 (lv_at hl 1 rfl) ?_
  refine lv_icmp_eq (tgt := 1755) hx hb dL_law_1750 (by decide) (fun c7 => ?_) (fun c7 => ?_)
  · have q := (if_pos c7).mp q
    refine lv_iload hx hb dL_law_1755 (lv_at hl 1 rfl) ?_
    refine lv_if_ne (tgt := 1772) hx hb dL_law_1757 (by decide) (fun c8 => ?_) (fun c8 => ?_)
    · have q := (if_neg c8).mp q
      refine lv_goto (tgt := 2280) hx hb dL_law_1772 (by decide) ?_
      refine W.widen (k := cl + MCL) (n := sl + MSL) (by unfold MCL; omega) (by unfold MSL; omega) ?_
      exact hkk F6 ad _ _ _ (fun _ _ _ => rfl) hH hS (lv_sub hl [2, 3, 4, 5, 6] rfl) q
    · have q := (if_pos c8).mp q
      refine lv_aload_n hx hb dL_law_1760 rfl (lv_at hl 5 rfl) ?_
      refine lv_iconst (v := 0) hx hb dL_law_1761 (by decide) ?_
      obtain ⟨h9, q⟩ := q
      refine g_lald hx hb hK hH h9 dL_law_1762 ?_
      refine lv_iload hx hb dL_law_1763 (lv_at hl 0 rfl) ?_
      refine lv_i2l (v := r3.toInt64) hx hb dL_law_1765 rfl ?_
      refine W.lcmp hx hb dL_law_1766 ?_
      refine lv_if_eq (tgt := 1772) hx hb dL_law_1767 (by decide) (fun c10 => ?_) (fun c10 => ?_)
      · have q := (if_pos (lcmp_eq.mp c10)).mp q
        refine lv_goto (tgt := 2280) hx hb dL_law_1772 (by decide) ?_
        refine W.widen (k := cl + MCL) (n := sl + MSL) (by unfold MCL; omega) (by unfold MSL; omega) ?_
        exact hkk F6 ad _ _ _ (fun _ _ _ => rfl) hH hS (lv_sub hl [2, 3, 4, 5, 6] rfl) q
      · have q := (if_neg (fun z => c10 (lcmp_eq.mpr z))).mp q
        refine lv_iconst (v := 0) hx hb dL_law_1770 (by decide) ?_
        exact q.elim
  · have q := (if_neg c7).mp q
    refine lv_iconst (v := 0) hx hb dL_law_1753 (by decide) ?_
    exact q.elim
set_option maxHeartbeats 4000000 in
set_option maxRecDepth 100000 in
theorem law_26 {p : Program} {l : Launch} {e : Env} {s : State} {m : MethodId} {below : List Frame} {meth : Method} {c : Code} {b L : Nat} {xs : Nat → Int32} {Q : State → Prop} {G : GP} (hfl : l.stackTraces = false) (hx : p.tables.exec = Jvm.exec) (hb : c.code = code) (hml : c.maxLocals = 7) (hown : s.vm.findClass RL = some m.cls) (hts : ∀ w ∈ wsL_law, w.before #[Value.ref b] s = true) (hX : va_X b L xs s s.heap) (hbl : b < s.heap.size) (hK : gK G s) (hG : gS G s) (hB : G.2.2.2 ≤ s.heap.size) (hL : gL s) (hBe : G.2.2.2 = s.heap.size) (ad : Nat → Nat → Nat) (F : GF) (x4 a1 a2 a3 : Int32) (hi1 : vp_in (x4 + 1) L) (hi2 : vp_in (x4 + 2) L) (hi3 : vp_in (x4 + 3) L) (ha1 : xs (x4 + 1).toNatClampNeg = a1) (ha2 : xs (x4 + 2).toNatClampNeg = a2) (ha3 : xs (x4 + 3).toNatClampNeg = a3) (cl sl : Nat) (hcl : cl + MCL ≤ 601024) (hsl : sl + MSL ≤ 7293034) (H : Heap) (locs : List Loc) (ls : Array Slot) (hH : gH G ad F H) (hS : va_S (gA G) s.heap H locs) (hl : lv_has ls 7 [(0, .ref b), (1, .ref (ad 0 0)), (2, .ref (ad 40 0)), (3, .ref (ad 79 0)), (4, .int x4)]) (K : GF → Prop) (hkk : ∀ (F1 : GF) (ad1 : Nat → Nat → Nat) (H : Heap) (locs : List Loc) (ls : Array Slot), (∀ f i : Nat, f ≠ 39 → ad1 f i = ad f i) → gH G ad1 F1 H → va_S (gA G) s.heap H locs → lv_has ls 7 [(0, .ref b), (1, .ref (ad1 0 0)), (2, .ref (ad1 40 0)), (3, .ref (ad1 79 0)), (4, .int x4)] → K F1 → W p l e room_1 s m #[Value.ref b] below meth c H locs (cl + MCL) (sl + MSL) Q (F0 m 2280 ls [])) (q : PL_26 a1 a2 a3 K F) : W p l e room_1 s m #[Value.ref b] below meth c H locs cl sl Q (F0 m 1775 ls []) := by
  have hbA : ¬ gA G b := by
    intro h
    have h2 : G.2.2.2 ≤ b := h
    omega
  unfold MCL at hcl
  unfold MSL at hsl
  have t_1829 : ∀ (F : GF) (s0 : Int32) (s1 : Int32) (H : Heap) (locs : List Loc) (ls : Array Slot), gH G ad F H → va_S (gA G) s.heap H locs → lv_has ls 7 [(0, .ref b), (1, .ref (ad 0 0)), (2, .ref (ad 40 0)), (3, .ref (ad 79 0)), (4, .int x4)] → (P_L_law_1829 a1 a2 a3 K) F s0 s1 → W p l e room_1 s m #[Value.ref b] below meth c H locs (cl + 1) (sl + 6) Q (F0 m 1829 ls [.long s1.toInt64, .long s0.toInt64]) := by
    intro F s0 s1 H locs ls hH hS hl q
    unfold P_L_law_1829 at q
    refine W.lcmp hx hb dL_law_1829 ?_
    refine lv_if_eq (tgt := 1835) hx hb dL_law_1830 (by decide) (fun c11 => ?_) (fun c11 => ?_)
    · have q := (if_pos (lcmp_eq.mp c11)).mp q
      refine lv_goto (tgt := 2280) hx hb dL_law_1835 (by decide) ?_
      refine W.widen (k := cl + MCL) (n := sl + MSL) (by unfold MCL; omega) (by unfold MSL; omega) ?_
      exact hkk F ad _ _ _ (fun _ _ _ => rfl) hH hS (lv_sub hl [0, 1, 2, 3, 4] rfl) q
    · have q := (if_neg (fun z => c11 (lcmp_eq.mpr z))).mp q
      refine lv_iconst (v := 0) hx hb dL_law_1833 (by decide) ?_
      exact q.elim
  unfold PL_26 at q
  refine lv_aload_n hx hb dL_law_1775 rfl (lv_at hl 1 rfl) ?_
  refine lv_aload_n hx hb dL_law_1776 rfl (lv_at hl 0 rfl) ?_
  refine lv_iload hx hb dL_law_1777 (lv_at hl 4 rfl) ?_
  refine lv_iconst (v := 1) hx hb dL_law_1779 (by decide) ?_
  refine lv_iadd hx hb dL_law_1780 ?_
  refine va_sld hx hb hX hbl hbA hS hi1 dL_law_1781 ?_
  rw [ha1]
  refine lv_aload_n hx hb dL_law_1782 rfl (lv_at hl 3 rfl) ?_
  refine va_calli (vx_runSW (As := [.ref (ad 0 0), .int a1, .ref (ad 79 0)]) (rest := []) ⟨hx, hb, hml, hown, hts⟩ (c_L_isSettled l hfl G ad F a1 _) (vx_cwSW 3 hts gL_law_L_isSettled rfl rfl rfl (by decide +kernel) ⟨Nat.le_of_ble_eq_true rfl, Nat.le_of_ble_eq_true rfl⟩) ⟨fun a U g mk h => ⟨h.1, ⟨gD_blind h.2.1.1, gL.moved (u := U) (U := U.calling g mk a) (Vm.Alike.refl U.vm) h.2.1.2⟩, h.2.2⟩, fun U hU hW => ⟨rfl, ⟨gD_at hK hG hB hH hS hU hW, gL.moved hW.alike hL⟩, q⟩⟩ rfl rfl hl.1 rfl (lv_room (Nat.le_of_ble_eq_true rfl)) dL_law_1783 ⟨by show cl + 0 + 1 ≤ 601024; omega, by show sl + 0 + 6 ≤ 7293034; omega⟩) hS (fun _ _ h => h) (fun _ h => h) (fun r1 F2 t H locs ht hvm q hB1 hz hk hS => ?_)
  have hH : gH G ad F2 H := gH_to ht hB1
  refine lv_istore (lv' := [(5, .int r1), (0, .ref b), (1, .ref (ad 0 0)), (2, .ref (ad 40 0)), (3, .ref (ad 79 0)), (4, .int x4)]) hx hb dL_law_1786 hl (by decide) rfl (fun ls hl => ?_)
  refine lv_aload_n hx hb dL_law_1788 rfl (lv_at hl 3 rfl) ?_
  refine lv_aload_n hx hb dL_law_1789 rfl (lv_at hl 1 rfl) ?_
  refine lv_iload hx hb dL_law_1790 (lv_at hl 5 rfl) ?_
  refine lv_iconst (v := 1) hx hb dL_law_1792 (by decide) ?_
  refine lv_iadd hx hb dL_law_1793 ?_
  refine va_sld hx hb hX hbl hbA hS hi1 dL_law_1794 ?_
  rw [ha1]
  refine va_calli (va_runV (As := [.int a1]) (rest := []) ⟨hx, hb, hml, hown, hts⟩ (c_X11_isSettled l G ad F2 a1 _) (cwV 1 hts gL_law_X11_isSettled rfl rfl rfl (by decide +kernel) ⟨Nat.le_of_ble_eq_true rfl, Nat.le_of_ble_eq_true rfl⟩) ⟨fun a U g mk h => ⟨h.1, gD_blind h.2.1, h.2.2⟩, g_recv (C := RX11) (T := TX11) (N := 44) hK hH 40 0 (by decide) Nat.zero_lt_one rfl rfl, fun U hU hW => ⟨rfl, gD_at hK hG hB hH hS hU hW, q⟩⟩ rfl rfl hl.1 rfl (lv_room (Nat.le_of_ble_eq_true rfl)) dL_law_1795 ⟨by show cl + 1 + 0 ≤ 601024; omega, by show sl + 6 + 0 ≤ 7293034; omega⟩) hS (fun _ _ h => h) (fun _ h => h) (fun r3 F4 t H locs ht hvm q hB1 hz hk hS => ?_)
  have hH : gH G ad F4 H := gH_to ht hB1
  refine lv_istore (lv' := [(6, .int r3), (5, .int r1), (0, .ref b), (1, .ref (ad 0 0)), (2, .ref (ad 40 0)), (3, .ref (ad 79 0)), (4, .int x4)]) hx hb dL_law_1798 hl (by decide) rfl (fun ls hl => ?_)
  refine lv_aload_n hx hb dL_law_1800 rfl (lv_at hl 4 rfl) ?_
  refine va_calli (va_runV (As := []) (rest := []) ⟨hx, hb, hml, hown, hts⟩ (c_X11_thrown l G ad F4 _) (cwV 0 hts gL_law_X11_thrown rfl rfl rfl (by decide +kernel) ⟨Nat.le_of_ble_eq_true rfl, Nat.le_of_ble_eq_true rfl⟩) ⟨fun a U g mk h => ⟨h.1, gD_blind h.2.1, h.2.2⟩, g_recv (C := RX11) (T := TX11) (N := 44) hK hH 40 0 (by decide) Nat.zero_lt_one rfl rfl, fun U hU hW => ⟨rfl, gD_at hK hG hB hH hS hU hW, q⟩⟩ rfl rfl hl.1 rfl (lv_room (Nat.le_of_ble_eq_true rfl)) dL_law_1801 ⟨by show cl + 1 + 0 ≤ 601024; omega, by show sl + 6 + 0 ≤ 7293034; omega⟩) hS (fun _ _ h => h) (fun _ h => h) (fun r5 F6 t H locs ht hvm q hB1 hz hk hS => ?_)
  have hH : gH G ad F6 H := gH_to ht hB1
  refine lv_iload hx hb dL_law_1804 (lv_at hl 1 rfl) ?_
  refine lv_icmp_eq (tgt := 1811) hx hb dL_law_1806 (by decide) (fun c7 => ?_) (fun c7 => ?_)
  · have q := (if_pos c7).mp q
    refine lv_iload hx hb dL_law_1811 (lv_at hl 1 rfl) ?_
    refine lv_if_ne (tgt := 1835) hx hb dL_law_1813 (by decide) (fun c8 => ?_) (fun c8 => ?_)
    · have q := (if_neg c8).mp q
      refine lv_goto (tgt := 2280) hx hb dL_law_1835 (by decide) ?_
      refine W.widen (k := cl + MCL) (n := sl + MSL) (by unfold MCL; omega) (by unfold MSL; omega) ?_
      exact hkk F6 ad _ _ _ (fun _ _ _ => rfl) hH hS (lv_sub hl [2, 3, 4, 5, 6] rfl) q
    · have q := (if_pos c8).mp q
      refine lv_aload_n hx hb dL_law_1816 rfl (lv_at hl 5 rfl) ?_
      refine lv_iconst (v := 0) hx hb dL_law_1817 (by decide) ?_
      obtain ⟨h9, q⟩ := q
      refine g_lald hx hb hK hH h9 dL_law_1818 ?_
      refine lv_iload hx hb dL_law_1819 (lv_at hl 0 rfl) ?_
      refine lv_if_eq (tgt := 1828) hx hb dL_law_1821 (by decide) (fun c10 => ?_) (fun c10 => ?_)
      · have q := (if_pos c10).mp q
        refine lv_lconst (v := (0 : Int32).toInt64) hx hb dL_law_1828 (by decide) ?_
        exact t_1829 F6 (F6 79 0 (0 : Int32).toNatClampNeg) 0 _ _ _ hH hS (lv_sub hl [2, 3, 4, 5, 6] rfl) q
      · have q := (if_neg c10).mp q
        refine lv_lconst (v := (1 : Int32).toInt64) hx hb dL_law_1824 (by decide) ?_
        refine lv_goto (tgt := 1829) hx hb dL_law_1825 (by decide) ?_
        exact t_1829 F6 (F6 79 0 (0 : Int32).toNatClampNeg) 1 _ _ _ hH hS (lv_sub hl [2, 3, 4, 5, 6] rfl) q
  · have q := (if_neg c7).mp q
    refine lv_iconst (v := 0) hx hb dL_law_1809 (by decide) ?_
    exact q.elim
set_option maxHeartbeats 4000000 in
set_option maxRecDepth 100000 in
theorem law_27 {p : Program} {l : Launch} {e : Env} {s : State} {m : MethodId} {below : List Frame} {meth : Method} {c : Code} {b L : Nat} {xs : Nat → Int32} {Q : State → Prop} {G : GP} (hfl : l.stackTraces = false) (hx : p.tables.exec = Jvm.exec) (hb : c.code = code) (hml : c.maxLocals = 7) (hown : s.vm.findClass RL = some m.cls) (hts : ∀ w ∈ wsL_law, w.before #[Value.ref b] s = true) (hX : va_X b L xs s s.heap) (hbl : b < s.heap.size) (hK : gK G s) (hG : gS G s) (hB : G.2.2.2 ≤ s.heap.size) (hL : gL s) (hBe : G.2.2.2 = s.heap.size) (ad : Nat → Nat → Nat) (F : GF) (x4 a1 a2 a3 : Int32) (hi1 : vp_in (x4 + 1) L) (hi2 : vp_in (x4 + 2) L) (hi3 : vp_in (x4 + 3) L) (ha1 : xs (x4 + 1).toNatClampNeg = a1) (ha2 : xs (x4 + 2).toNatClampNeg = a2) (ha3 : xs (x4 + 3).toNatClampNeg = a3) (cl sl : Nat) (hcl : cl + MCL ≤ 601024) (hsl : sl + MSL ≤ 7293034) (H : Heap) (locs : List Loc) (ls : Array Slot) (hH : gH G ad F H) (hS : va_S (gA G) s.heap H locs) (hl : lv_has ls 7 [(0, .ref b), (1, .ref (ad 0 0)), (2, .ref (ad 40 0)), (3, .ref (ad 79 0)), (4, .int x4)]) (K : GF → Prop) (hkk : ∀ (F1 : GF) (ad1 : Nat → Nat → Nat) (H : Heap) (locs : List Loc) (ls : Array Slot), (∀ f i : Nat, f ≠ 39 → ad1 f i = ad f i) → gH G ad1 F1 H → va_S (gA G) s.heap H locs → lv_has ls 7 [(0, .ref b), (1, .ref (ad1 0 0)), (2, .ref (ad1 40 0)), (3, .ref (ad1 79 0)), (4, .int x4)] → K F1 → W p l e room_1 s m #[Value.ref b] below meth c H locs (cl + MCL) (sl + MSL) Q (F0 m 2280 ls [])) (q : PL_27 a1 a2 a3 K F) : W p l e room_1 s m #[Value.ref b] below meth c H locs cl sl Q (F0 m 1838 ls []) := by
  have hbA : ¬ gA G b := by
    intro h
    have h2 : G.2.2.2 ≤ b := h
    omega
  unfold MCL at hcl
  unfold MSL at hsl
  unfold PL_27 at q
  refine lv_aload_n hx hb dL_law_1838 rfl (lv_at hl 1 rfl) ?_
  refine lv_aload_n hx hb dL_law_1839 rfl (lv_at hl 0 rfl) ?_
  refine lv_iload hx hb dL_law_1840 (lv_at hl 4 rfl) ?_
  refine lv_iconst (v := 1) hx hb dL_law_1842 (by decide) ?_
  refine lv_iadd hx hb dL_law_1843 ?_
  refine va_sld hx hb hX hbl hbA hS hi1 dL_law_1844 ?_
  rw [ha1]
  refine lv_aload_n hx hb dL_law_1845 rfl (lv_at hl 0 rfl) ?_
  refine lv_iload hx hb dL_law_1846 (lv_at hl 4 rfl) ?_
  refine lv_iconst (v := 2) hx hb dL_law_1848 (by decide) ?_
  refine lv_iadd hx hb dL_law_1849 ?_
  refine va_sld hx hb hX hbl hbA hS hi2 dL_law_1850 ?_
  rw [ha2]
  refine lv_aload_n hx hb dL_law_1851 rfl (lv_at hl 3 rfl) ?_
  refine va_calli (vx_runSW (As := [.ref (ad 0 0), .int a1, .int a2, .ref (ad 79 0)]) (rest := []) ⟨hx, hb, hml, hown, hts⟩ (c_L_numberOf l hfl G ad F a1 a2 _) (vx_cwSW 4 hts gL_law_L_numberOf rfl rfl rfl (by decide +kernel) ⟨Nat.le_of_ble_eq_true rfl, Nat.le_of_ble_eq_true rfl⟩) ⟨fun a U g mk h => ⟨h.1, ⟨gD_blind h.2.1.1, gL.moved (u := U) (U := U.calling g mk a) (Vm.Alike.refl U.vm) h.2.1.2⟩, h.2.2⟩, fun U hU hW => ⟨rfl, ⟨gD_at hK hG hB hH hS hU hW, gL.moved hW.alike hL⟩, q⟩⟩ rfl rfl hl.1 rfl (lv_room (Nat.le_of_ble_eq_true rfl)) dL_law_1852 ⟨by show cl + 0 + 2 ≤ 601024; omega, by show sl + 0 + 12 ≤ 7293034; omega⟩) hS (fun _ _ h => h) (fun _ h => h) (fun r1 F2 t H locs ht hvm q hB1 hz hk hS => ?_)
  have hH : gH G ad F2 H := gH_to ht hB1
  refine lv_istore (lv' := [(5, .int r1), (0, .ref b), (1, .ref (ad 0 0)), (2, .ref (ad 40 0)), (3, .ref (ad 79 0)), (4, .int x4)]) hx hb dL_law_1855 hl (by decide) rfl (fun ls hl => ?_)
  refine lv_aload_n hx hb dL_law_1857 rfl (lv_at hl 3 rfl) ?_
  refine lv_aload_n hx hb dL_law_1858 rfl (lv_at hl 1 rfl) ?_
  refine lv_iload hx hb dL_law_1859 (lv_at hl 5 rfl) ?_
  refine lv_iconst (v := 1) hx hb dL_law_1861 (by decide) ?_
  refine lv_iadd hx hb dL_law_1862 ?_
  refine va_sld hx hb hX hbl hbA hS hi1 dL_law_1863 ?_
  rw [ha1]
  refine lv_aload_n hx hb dL_law_1864 rfl (lv_at hl 1 rfl) ?_
  refine lv_iload hx hb dL_law_1865 (lv_at hl 5 rfl) ?_
  refine lv_iconst (v := 2) hx hb dL_law_1867 (by decide) ?_
  refine lv_iadd hx hb dL_law_1868 ?_
  refine va_sld hx hb hX hbl hbA hS hi2 dL_law_1869 ?_
  rw [ha2]
  refine va_calli (va_runV (As := [.int a1, .int a2]) (rest := []) ⟨hx, hb, hml, hown, hts⟩ (c_X11_numberOf l G ad F2 a1 a2 _) (cwV 2 hts gL_law_X11_numberOf rfl rfl rfl (by decide +kernel) ⟨Nat.le_of_ble_eq_true rfl, Nat.le_of_ble_eq_true rfl⟩) ⟨fun a U g mk h => ⟨h.1, gD_blind h.2.1, h.2.2⟩, g_recv (C := RX11) (T := TX11) (N := 44) hK hH 40 0 (by decide) Nat.zero_lt_one rfl rfl, fun U hU hW => ⟨rfl, gD_at hK hG hB hH hS hU hW, q⟩⟩ rfl rfl hl.1 rfl (lv_room (Nat.le_of_ble_eq_true rfl)) dL_law_1870 ⟨by show cl + 2 + 0 ≤ 601024; omega, by show sl + 12 + 0 ≤ 7293034; omega⟩) hS (fun _ _ h => h) (fun _ h => h) (fun r3 F4 t H locs ht hvm q hB1 hz hk hS => ?_)
  have hH : gH G ad F4 H := gH_to ht hB1
  refine lv_istore (lv' := [(6, .int r3), (5, .int r1), (0, .ref b), (1, .ref (ad 0 0)), (2, .ref (ad 40 0)), (3, .ref (ad 79 0)), (4, .int x4)]) hx hb dL_law_1873 hl (by decide) rfl (fun ls hl => ?_)
  refine lv_aload_n hx hb dL_law_1875 rfl (lv_at hl 4 rfl) ?_
  refine va_calli (va_runV (As := []) (rest := []) ⟨hx, hb, hml, hown, hts⟩ (c_X11_thrown l G ad F4 _) (cwV 0 hts gL_law_X11_thrown rfl rfl rfl (by decide +kernel) ⟨Nat.le_of_ble_eq_true rfl, Nat.le_of_ble_eq_true rfl⟩) ⟨fun a U g mk h => ⟨h.1, gD_blind h.2.1, h.2.2⟩, g_recv (C := RX11) (T := TX11) (N := 44) hK hH 40 0 (by decide) Nat.zero_lt_one rfl rfl, fun U hU hW => ⟨rfl, gD_at hK hG hB hH hS hU hW, q⟩⟩ rfl rfl hl.1 rfl (lv_room (Nat.le_of_ble_eq_true rfl)) dL_law_1876 ⟨by show cl + 2 + 0 ≤ 601024; omega, by show sl + 12 + 0 ≤ 7293034; omega⟩) hS (fun _ _ h => h) (fun _ h => h) (fun r5 F6 t H locs ht hvm q hB1 hz hk hS => ?_)
  have hH : gH G ad F6 H := gH_to ht hB1
  refine lv_iload hx hb dL_law_1879 (lv_at hl 1 rfl) ?_
  refine lv_icmp_eq (tgt := 1886) hx hb dL_law_1881 (by decide) (fun c7 => ?_) (fun c7 => ?_)
  · have q := (if_pos c7).mp q
    refine lv_iload hx hb dL_law_1886 (lv_at hl 1 rfl) ?_
    refine lv_if_ne (tgt := 1903) hx hb dL_law_1888 (by decide) (fun c8 => ?_) (fun c8 => ?_)
    · have q := (if_neg c8).mp q
      refine lv_goto (tgt := 2280) hx hb dL_law_1903 (by decide) ?_
      refine W.widen (k := cl + MCL) (n := sl + MSL) (by unfold MCL; omega) (by unfold MSL; omega) ?_
      exact hkk F6 ad _ _ _ (fun _ _ _ => rfl) hH hS (lv_sub hl [2, 3, 4, 5, 6] rfl) q
    · have q := (if_pos c8).mp q
      refine lv_aload_n hx hb dL_law_1891 rfl (lv_at hl 5 rfl) ?_
      refine lv_iconst (v := 0) hx hb dL_law_1892 (by decide) ?_
      obtain ⟨h9, q⟩ := q
      refine g_lald hx hb hK hH h9 dL_law_1893 ?_
      refine lv_iload hx hb dL_law_1894 (lv_at hl 0 rfl) ?_
      refine lv_i2l (v := r3.toInt64) hx hb dL_law_1896 rfl ?_
      refine W.lcmp hx hb dL_law_1897 ?_
      refine lv_if_eq (tgt := 1903) hx hb dL_law_1898 (by decide) (fun c10 => ?_) (fun c10 => ?_)
      · have q := (if_pos (lcmp_eq.mp c10)).mp q
        refine lv_goto (tgt := 2280) hx hb dL_law_1903 (by decide) ?_
        refine W.widen (k := cl + MCL) (n := sl + MSL) (by unfold MCL; omega) (by unfold MSL; omega) ?_
        exact hkk F6 ad _ _ _ (fun _ _ _ => rfl) hH hS (lv_sub hl [2, 3, 4, 5, 6] rfl) q
      · have q := (if_neg (fun z => c10 (lcmp_eq.mpr z))).mp q
        refine lv_iconst (v := 0) hx hb dL_law_1901 (by decide) ?_
        exact q.elim
  · have q := (if_neg c7).mp q
    refine lv_iconst (v := 0) hx hb dL_law_1884 (by decide) ?_
    exact q.elim
set_option maxHeartbeats 4000000 in
set_option maxRecDepth 100000 in
theorem law_28 {p : Program} {l : Launch} {e : Env} {s : State} {m : MethodId} {below : List Frame} {meth : Method} {c : Code} {b L : Nat} {xs : Nat → Int32} {Q : State → Prop} {G : GP} (hfl : l.stackTraces = false) (hx : p.tables.exec = Jvm.exec) (hb : c.code = code) (hml : c.maxLocals = 7) (hown : s.vm.findClass RL = some m.cls) (hts : ∀ w ∈ wsL_law, w.before #[Value.ref b] s = true) (hX : va_X b L xs s s.heap) (hbl : b < s.heap.size) (hK : gK G s) (hG : gS G s) (hB : G.2.2.2 ≤ s.heap.size) (hL : gL s) (hBe : G.2.2.2 = s.heap.size) (ad : Nat → Nat → Nat) (F : GF) (x4 a1 a2 a3 : Int32) (hi1 : vp_in (x4 + 1) L) (hi2 : vp_in (x4 + 2) L) (hi3 : vp_in (x4 + 3) L) (ha1 : xs (x4 + 1).toNatClampNeg = a1) (ha2 : xs (x4 + 2).toNatClampNeg = a2) (ha3 : xs (x4 + 3).toNatClampNeg = a3) (cl sl : Nat) (hcl : cl + MCL ≤ 601024) (hsl : sl + MSL ≤ 7293034) (H : Heap) (locs : List Loc) (ls : Array Slot) (hH : gH G ad F H) (hS : va_S (gA G) s.heap H locs) (hl : lv_has ls 7 [(0, .ref b), (1, .ref (ad 0 0)), (2, .ref (ad 40 0)), (3, .ref (ad 79 0)), (4, .int x4)]) (K : GF → Prop) (hkk : ∀ (F1 : GF) (ad1 : Nat → Nat → Nat) (H : Heap) (locs : List Loc) (ls : Array Slot), (∀ f i : Nat, f ≠ 39 → ad1 f i = ad f i) → gH G ad1 F1 H → va_S (gA G) s.heap H locs → lv_has ls 7 [(0, .ref b), (1, .ref (ad1 0 0)), (2, .ref (ad1 40 0)), (3, .ref (ad1 79 0)), (4, .int x4)] → K F1 → W p l e room_1 s m #[Value.ref b] below meth c H locs (cl + MCL) (sl + MSL) Q (F0 m 2280 ls [])) (q : PL_28 a1 a2 a3 K F) : W p l e room_1 s m #[Value.ref b] below meth c H locs cl sl Q (F0 m 1906 ls []) := by
  have hbA : ¬ gA G b := by
    intro h
    have h2 : G.2.2.2 ≤ b := h
    omega
  unfold MCL at hcl
  unfold MSL at hsl
  unfold PL_28 at q
  refine lv_aload_n hx hb dL_law_1906 rfl (lv_at hl 1 rfl) ?_
  refine lv_aload_n hx hb dL_law_1907 rfl (lv_at hl 0 rfl) ?_
  refine lv_iload hx hb dL_law_1908 (lv_at hl 4 rfl) ?_
  refine lv_iconst (v := 1) hx hb dL_law_1910 (by decide) ?_
  refine lv_iadd hx hb dL_law_1911 ?_
  refine va_sld hx hb hX hbl hbA hS hi1 dL_law_1912 ?_
  rw [ha1]
  refine lv_aload_n hx hb dL_law_1913 rfl (lv_at hl 3 rfl) ?_
  refine va_calli (vx_runSW (As := [.ref (ad 0 0), .int a1, .ref (ad 79 0)]) (rest := []) ⟨hx, hb, hml, hown, hts⟩ (c_L_misread l hfl G ad F a1 _) (vx_cwSW 3 hts gL_law_L_misread rfl rfl rfl (by decide +kernel) ⟨Nat.le_of_ble_eq_true rfl, Nat.le_of_ble_eq_true rfl⟩) ⟨fun a U g mk h => ⟨h.1, ⟨gD_blind h.2.1.1, gL.moved (u := U) (U := U.calling g mk a) (Vm.Alike.refl U.vm) h.2.1.2⟩, h.2.2⟩, fun U hU hW => ⟨rfl, ⟨gD_at hK hG hB hH hS hU hW, gL.moved hW.alike hL⟩, q⟩⟩ rfl rfl hl.1 rfl (lv_room (Nat.le_of_ble_eq_true rfl)) dL_law_1914 ⟨by show cl + 0 + 1 ≤ 601024; omega, by show sl + 0 + 6 ≤ 7293034; omega⟩) hS (fun _ _ h => h) (fun _ h => h) (fun r1 F2 t H locs ht hvm q hB1 hz hk hS => ?_)
  have hH : gH G ad F2 H := gH_to ht hB1
  refine lv_istore (lv' := [(5, .int r1), (0, .ref b), (1, .ref (ad 0 0)), (2, .ref (ad 40 0)), (3, .ref (ad 79 0)), (4, .int x4)]) hx hb dL_law_1917 hl (by decide) rfl (fun ls hl => ?_)
  refine lv_aload_n hx hb dL_law_1919 rfl (lv_at hl 3 rfl) ?_
  refine lv_aload_n hx hb dL_law_1920 rfl (lv_at hl 1 rfl) ?_
  refine lv_iload hx hb dL_law_1921 (lv_at hl 5 rfl) ?_
  refine lv_iconst (v := 1) hx hb dL_law_1923 (by decide) ?_
  refine lv_iadd hx hb dL_law_1924 ?_
  refine va_sld hx hb hX hbl hbA hS hi1 dL_law_1925 ?_
  rw [ha1]
  refine va_calli (va_runV (As := [.int a1]) (rest := []) ⟨hx, hb, hml, hown, hts⟩ (c_X11_misread l G ad F2 a1 _) (cwV 1 hts gL_law_X11_misread rfl rfl rfl (by decide +kernel) ⟨Nat.le_of_ble_eq_true rfl, Nat.le_of_ble_eq_true rfl⟩) ⟨fun a U g mk h => ⟨h.1, gD_blind h.2.1, h.2.2⟩, g_recv (C := RX11) (T := TX11) (N := 44) hK hH 40 0 (by decide) Nat.zero_lt_one rfl rfl, fun U hU hW => ⟨rfl, gD_at hK hG hB hH hS hU hW, q⟩⟩ rfl rfl hl.1 rfl (lv_room (Nat.le_of_ble_eq_true rfl)) dL_law_1926 ⟨by show cl + 1 + 0 ≤ 601024; omega, by show sl + 6 + 0 ≤ 7293034; omega⟩) hS (fun _ _ h => h) (fun _ h => h) (fun r3 F4 t H locs ht hvm q hB1 hz hk hS => ?_)
  have hH : gH G ad F4 H := gH_to ht hB1
  refine lv_istore (lv' := [(6, .int r3), (5, .int r1), (0, .ref b), (1, .ref (ad 0 0)), (2, .ref (ad 40 0)), (3, .ref (ad 79 0)), (4, .int x4)]) hx hb dL_law_1929 hl (by decide) rfl (fun ls hl => ?_)
  refine lv_aload_n hx hb dL_law_1931 rfl (lv_at hl 4 rfl) ?_
  refine va_calli (va_runV (As := []) (rest := []) ⟨hx, hb, hml, hown, hts⟩ (c_X11_thrown l G ad F4 _) (cwV 0 hts gL_law_X11_thrown rfl rfl rfl (by decide +kernel) ⟨Nat.le_of_ble_eq_true rfl, Nat.le_of_ble_eq_true rfl⟩) ⟨fun a U g mk h => ⟨h.1, gD_blind h.2.1, h.2.2⟩, g_recv (C := RX11) (T := TX11) (N := 44) hK hH 40 0 (by decide) Nat.zero_lt_one rfl rfl, fun U hU hW => ⟨rfl, gD_at hK hG hB hH hS hU hW, q⟩⟩ rfl rfl hl.1 rfl (lv_room (Nat.le_of_ble_eq_true rfl)) dL_law_1932 ⟨by show cl + 1 + 0 ≤ 601024; omega, by show sl + 6 + 0 ≤ 7293034; omega⟩) hS (fun _ _ h => h) (fun _ h => h) (fun r5 F6 t H locs ht hvm q hB1 hz hk hS => ?_)
  have hH : gH G ad F6 H := gH_to ht hB1
  refine lv_iload hx hb dL_law_1935 (lv_at hl 1 rfl) ?_
  refine lv_icmp_eq (tgt := 1942) hx hb dL_law_1937 (by decide) (fun c7 => ?_) (fun c7 => ?_)
  · have q := (if_pos c7).mp q
    refine lv_iload hx hb dL_law_1942 (lv_at hl 1 rfl) ?_
    refine lv_if_ne (tgt := 1959) hx hb dL_law_1944 (by decide) (fun c8 => ?_) (fun c8 => ?_)
    · have q := (if_neg c8).mp q
      refine lv_goto (tgt := 2280) hx hb dL_law_1959 (by decide) ?_
      refine W.widen (k := cl + MCL) (n := sl + MSL) (by unfold MCL; omega) (by unfold MSL; omega) ?_
      exact hkk F6 ad _ _ _ (fun _ _ _ => rfl) hH hS (lv_sub hl [2, 3, 4, 5, 6] rfl) q
    · have q := (if_pos c8).mp q
      refine lv_aload_n hx hb dL_law_1947 rfl (lv_at hl 5 rfl) ?_
      refine lv_iconst (v := 0) hx hb dL_law_1948 (by decide) ?_
      obtain ⟨h9, q⟩ := q
      refine g_lald hx hb hK hH h9 dL_law_1949 ?_
      refine lv_iload hx hb dL_law_1950 (lv_at hl 0 rfl) ?_
      refine lv_i2l (v := r3.toInt64) hx hb dL_law_1952 rfl ?_
      refine W.lcmp hx hb dL_law_1953 ?_
      refine lv_if_eq (tgt := 1959) hx hb dL_law_1954 (by decide) (fun c10 => ?_) (fun c10 => ?_)
      · have q := (if_pos (lcmp_eq.mp c10)).mp q
        refine lv_goto (tgt := 2280) hx hb dL_law_1959 (by decide) ?_
        refine W.widen (k := cl + MCL) (n := sl + MSL) (by unfold MCL; omega) (by unfold MSL; omega) ?_
        exact hkk F6 ad _ _ _ (fun _ _ _ => rfl) hH hS (lv_sub hl [2, 3, 4, 5, 6] rfl) q
      · have q := (if_neg (fun z => c10 (lcmp_eq.mpr z))).mp q
        refine lv_iconst (v := 0) hx hb dL_law_1957 (by decide) ?_
        exact q.elim
  · have q := (if_neg c7).mp q
    refine lv_iconst (v := 0) hx hb dL_law_1940 (by decide) ?_
    exact q.elim
set_option maxHeartbeats 4000000 in
set_option maxRecDepth 100000 in
theorem law_29 {p : Program} {l : Launch} {e : Env} {s : State} {m : MethodId} {below : List Frame} {meth : Method} {c : Code} {b L : Nat} {xs : Nat → Int32} {Q : State → Prop} {G : GP} (hfl : l.stackTraces = false) (hx : p.tables.exec = Jvm.exec) (hb : c.code = code) (hml : c.maxLocals = 7) (hown : s.vm.findClass RL = some m.cls) (hts : ∀ w ∈ wsL_law, w.before #[Value.ref b] s = true) (hX : va_X b L xs s s.heap) (hbl : b < s.heap.size) (hK : gK G s) (hG : gS G s) (hB : G.2.2.2 ≤ s.heap.size) (hL : gL s) (hBe : G.2.2.2 = s.heap.size) (ad : Nat → Nat → Nat) (F : GF) (x4 a1 a2 a3 : Int32) (hi1 : vp_in (x4 + 1) L) (hi2 : vp_in (x4 + 2) L) (hi3 : vp_in (x4 + 3) L) (ha1 : xs (x4 + 1).toNatClampNeg = a1) (ha2 : xs (x4 + 2).toNatClampNeg = a2) (ha3 : xs (x4 + 3).toNatClampNeg = a3) (cl sl : Nat) (hcl : cl + MCL ≤ 601024) (hsl : sl + MSL ≤ 7293034) (H : Heap) (locs : List Loc) (ls : Array Slot) (hH : gH G ad F H) (hS : va_S (gA G) s.heap H locs) (hl : lv_has ls 7 [(0, .ref b), (1, .ref (ad 0 0)), (2, .ref (ad 40 0)), (3, .ref (ad 79 0)), (4, .int x4)]) (K : GF → Prop) (hkk : ∀ (F1 : GF) (ad1 : Nat → Nat → Nat) (H : Heap) (locs : List Loc) (ls : Array Slot), (∀ f i : Nat, f ≠ 39 → ad1 f i = ad f i) → gH G ad1 F1 H → va_S (gA G) s.heap H locs → lv_has ls 7 [(0, .ref b), (1, .ref (ad1 0 0)), (2, .ref (ad1 40 0)), (3, .ref (ad1 79 0)), (4, .int x4)] → K F1 → W p l e room_1 s m #[Value.ref b] below meth c H locs (cl + MCL) (sl + MSL) Q (F0 m 2280 ls [])) (q : PL_29 a1 a2 a3 K F) : W p l e room_1 s m #[Value.ref b] below meth c H locs cl sl Q (F0 m 1962 ls []) := by
  have hbA : ¬ gA G b := by
    intro h
    have h2 : G.2.2.2 ≤ b := h
    omega
  unfold MCL at hcl
  unfold MSL at hsl
  unfold PL_29 at q
  refine lv_aload_n hx hb dL_law_1962 rfl (lv_at hl 1 rfl) ?_
  refine lv_aload_n hx hb dL_law_1963 rfl (lv_at hl 0 rfl) ?_
  refine lv_iload hx hb dL_law_1964 (lv_at hl 4 rfl) ?_
  refine lv_iconst (v := 1) hx hb dL_law_1966 (by decide) ?_
  refine lv_iadd hx hb dL_law_1967 ?_
  refine va_sld hx hb hX hbl hbA hS hi1 dL_law_1968 ?_
  rw [ha1]
  refine lv_aload_n hx hb dL_law_1969 rfl (lv_at hl 3 rfl) ?_
  refine va_calli (vx_runSW (As := [.ref (ad 0 0), .int a1, .ref (ad 79 0)]) (rest := []) ⟨hx, hb, hml, hown, hts⟩ (c_L_votes l hfl G ad F a1 _) (vx_cwSW 3 hts gL_law_L_votes rfl rfl rfl (by decide +kernel) ⟨Nat.le_of_ble_eq_true rfl, Nat.le_of_ble_eq_true rfl⟩) ⟨fun a U g mk h => ⟨h.1, ⟨gD_blind h.2.1.1, gL.moved (u := U) (U := U.calling g mk a) (Vm.Alike.refl U.vm) h.2.1.2⟩, h.2.2⟩, fun U hU hW => ⟨rfl, ⟨gD_at hK hG hB hH hS hU hW, gL.moved hW.alike hL⟩, q⟩⟩ rfl rfl hl.1 rfl (lv_room (Nat.le_of_ble_eq_true rfl)) dL_law_1970 ⟨by show cl + 0 + 1 ≤ 601024; omega, by show sl + 0 + 6 ≤ 7293034; omega⟩) hS (fun _ _ h => h) (fun _ h => h) (fun r1 F2 t H locs ht hvm q hB1 hz hk hS => ?_)
  have hH : gH G ad F2 H := gH_to ht hB1
  refine lv_istore (lv' := [(5, .int r1), (0, .ref b), (1, .ref (ad 0 0)), (2, .ref (ad 40 0)), (3, .ref (ad 79 0)), (4, .int x4)]) hx hb dL_law_1973 hl (by decide) rfl (fun ls hl => ?_)
  refine lv_aload_n hx hb dL_law_1975 rfl (lv_at hl 3 rfl) ?_
  refine lv_aload_n hx hb dL_law_1976 rfl (lv_at hl 1 rfl) ?_
  refine lv_iload hx hb dL_law_1977 (lv_at hl 5 rfl) ?_
  refine lv_iconst (v := 1) hx hb dL_law_1979 (by decide) ?_
  refine lv_iadd hx hb dL_law_1980 ?_
  refine va_sld hx hb hX hbl hbA hS hi1 dL_law_1981 ?_
  rw [ha1]
  refine va_calli (va_runV (As := [.int a1]) (rest := []) ⟨hx, hb, hml, hown, hts⟩ (c_X11_votes l G ad F2 a1 _) (cwV 1 hts gL_law_X11_votes rfl rfl rfl (by decide +kernel) ⟨Nat.le_of_ble_eq_true rfl, Nat.le_of_ble_eq_true rfl⟩) ⟨fun a U g mk h => ⟨h.1, gD_blind h.2.1, h.2.2⟩, g_recv (C := RX11) (T := TX11) (N := 44) hK hH 40 0 (by decide) Nat.zero_lt_one rfl rfl, fun U hU hW => ⟨rfl, gD_at hK hG hB hH hS hU hW, q⟩⟩ rfl rfl hl.1 rfl (lv_room (Nat.le_of_ble_eq_true rfl)) dL_law_1982 ⟨by show cl + 1 + 0 ≤ 601024; omega, by show sl + 6 + 0 ≤ 7293034; omega⟩) hS (fun _ _ h => h) (fun _ h => h) (fun r3 F4 t H locs ht hvm q hB1 hz hk hS => ?_)
  have hH : gH G ad F4 H := gH_to ht hB1
  refine lv_istore (lv' := [(6, .int r3), (5, .int r1), (0, .ref b), (1, .ref (ad 0 0)), (2, .ref (ad 40 0)), (3, .ref (ad 79 0)), (4, .int x4)]) hx hb dL_law_1985 hl (by decide) rfl (fun ls hl => ?_)
  refine lv_aload_n hx hb dL_law_1987 rfl (lv_at hl 4 rfl) ?_
  refine va_calli (va_runV (As := []) (rest := []) ⟨hx, hb, hml, hown, hts⟩ (c_X11_thrown l G ad F4 _) (cwV 0 hts gL_law_X11_thrown rfl rfl rfl (by decide +kernel) ⟨Nat.le_of_ble_eq_true rfl, Nat.le_of_ble_eq_true rfl⟩) ⟨fun a U g mk h => ⟨h.1, gD_blind h.2.1, h.2.2⟩, g_recv (C := RX11) (T := TX11) (N := 44) hK hH 40 0 (by decide) Nat.zero_lt_one rfl rfl, fun U hU hW => ⟨rfl, gD_at hK hG hB hH hS hU hW, q⟩⟩ rfl rfl hl.1 rfl (lv_room (Nat.le_of_ble_eq_true rfl)) dL_law_1988 ⟨by show cl + 1 + 0 ≤ 601024; omega, by show sl + 6 + 0 ≤ 7293034; omega⟩) hS (fun _ _ h => h) (fun _ h => h) (fun r5 F6 t H locs ht hvm q hB1 hz hk hS => ?_)
  have hH : gH G ad F6 H := gH_to ht hB1
  refine lv_iload hx hb dL_law_1991 (lv_at hl 1 rfl) ?_
  refine lv_icmp_eq (tgt := 1998) hx hb dL_law_1993 (by decide) (fun c7 => ?_) (fun c7 => ?_)
  · have q := (if_pos c7).mp q
    refine lv_iload hx hb dL_law_1998 (lv_at hl 1 rfl) ?_
    refine lv_if_ne (tgt := 2015) hx hb dL_law_2000 (by decide) (fun c8 => ?_) (fun c8 => ?_)
    · have q := (if_neg c8).mp q
      refine lv_goto (tgt := 2280) hx hb dL_law_2015 (by decide) ?_
      refine W.widen (k := cl + MCL) (n := sl + MSL) (by unfold MCL; omega) (by unfold MSL; omega) ?_
      exact hkk F6 ad _ _ _ (fun _ _ _ => rfl) hH hS (lv_sub hl [2, 3, 4, 5, 6] rfl) q
    · have q := (if_pos c8).mp q
      refine lv_aload_n hx hb dL_law_2003 rfl (lv_at hl 5 rfl) ?_
      refine lv_iconst (v := 0) hx hb dL_law_2004 (by decide) ?_
      obtain ⟨h9, q⟩ := q
      refine g_lald hx hb hK hH h9 dL_law_2005 ?_
      refine lv_iload hx hb dL_law_2006 (lv_at hl 0 rfl) ?_
      refine lv_i2l (v := r3.toInt64) hx hb dL_law_2008 rfl ?_
      refine W.lcmp hx hb dL_law_2009 ?_
      refine lv_if_eq (tgt := 2015) hx hb dL_law_2010 (by decide) (fun c10 => ?_) (fun c10 => ?_)
      · have q := (if_pos (lcmp_eq.mp c10)).mp q
        refine lv_goto (tgt := 2280) hx hb dL_law_2015 (by decide) ?_
        refine W.widen (k := cl + MCL) (n := sl + MSL) (by unfold MCL; omega) (by unfold MSL; omega) ?_
        exact hkk F6 ad _ _ _ (fun _ _ _ => rfl) hH hS (lv_sub hl [2, 3, 4, 5, 6] rfl) q
      · have q := (if_neg (fun z => c10 (lcmp_eq.mpr z))).mp q
        refine lv_iconst (v := 0) hx hb dL_law_2013 (by decide) ?_
        exact q.elim
  · have q := (if_neg c7).mp q
    refine lv_iconst (v := 0) hx hb dL_law_1996 (by decide) ?_
    exact q.elim
set_option maxHeartbeats 4000000 in
set_option maxRecDepth 100000 in
theorem law_30 {p : Program} {l : Launch} {e : Env} {s : State} {m : MethodId} {below : List Frame} {meth : Method} {c : Code} {b L : Nat} {xs : Nat → Int32} {Q : State → Prop} {G : GP} (hfl : l.stackTraces = false) (hx : p.tables.exec = Jvm.exec) (hb : c.code = code) (hml : c.maxLocals = 7) (hown : s.vm.findClass RL = some m.cls) (hts : ∀ w ∈ wsL_law, w.before #[Value.ref b] s = true) (hX : va_X b L xs s s.heap) (hbl : b < s.heap.size) (hK : gK G s) (hG : gS G s) (hB : G.2.2.2 ≤ s.heap.size) (hL : gL s) (hBe : G.2.2.2 = s.heap.size) (ad : Nat → Nat → Nat) (F : GF) (x4 a1 a2 a3 : Int32) (hi1 : vp_in (x4 + 1) L) (hi2 : vp_in (x4 + 2) L) (hi3 : vp_in (x4 + 3) L) (ha1 : xs (x4 + 1).toNatClampNeg = a1) (ha2 : xs (x4 + 2).toNatClampNeg = a2) (ha3 : xs (x4 + 3).toNatClampNeg = a3) (cl sl : Nat) (hcl : cl + MCL ≤ 601024) (hsl : sl + MSL ≤ 7293034) (H : Heap) (locs : List Loc) (ls : Array Slot) (hH : gH G ad F H) (hS : va_S (gA G) s.heap H locs) (hl : lv_has ls 7 [(0, .ref b), (1, .ref (ad 0 0)), (2, .ref (ad 40 0)), (3, .ref (ad 79 0)), (4, .int x4)]) (K : GF → Prop) (hkk : ∀ (F1 : GF) (ad1 : Nat → Nat → Nat) (H : Heap) (locs : List Loc) (ls : Array Slot), (∀ f i : Nat, f ≠ 39 → ad1 f i = ad f i) → gH G ad1 F1 H → va_S (gA G) s.heap H locs → lv_has ls 7 [(0, .ref b), (1, .ref (ad1 0 0)), (2, .ref (ad1 40 0)), (3, .ref (ad1 79 0)), (4, .int x4)] → K F1 → W p l e room_1 s m #[Value.ref b] below meth c H locs (cl + MCL) (sl + MSL) Q (F0 m 2280 ls [])) (q : PL_30 a1 a2 a3 K F) : W p l e room_1 s m #[Value.ref b] below meth c H locs cl sl Q (F0 m 2018 ls []) := by
  have hbA : ¬ gA G b := by
    intro h
    have h2 : G.2.2.2 ≤ b := h
    omega
  unfold MCL at hcl
  unfold MSL at hsl
  unfold PL_30 at q
  refine lv_aload_n hx hb dL_law_2018 rfl (lv_at hl 1 rfl) ?_
  refine lv_aload_n hx hb dL_law_2019 rfl (lv_at hl 0 rfl) ?_
  refine lv_iload hx hb dL_law_2020 (lv_at hl 4 rfl) ?_
  refine lv_iconst (v := 1) hx hb dL_law_2022 (by decide) ?_
  refine lv_iadd hx hb dL_law_2023 ?_
  refine va_sld hx hb hX hbl hbA hS hi1 dL_law_2024 ?_
  rw [ha1]
  refine lv_aload_n hx hb dL_law_2025 rfl (lv_at hl 3 rfl) ?_
  refine va_calli (vx_runSW (As := [.ref (ad 0 0), .int a1, .ref (ad 79 0)]) (rest := []) ⟨hx, hb, hml, hown, hts⟩ (c_L_seats l hfl G ad F a1 _) (vx_cwSW 3 hts gL_law_L_seats rfl rfl rfl (by decide +kernel) ⟨Nat.le_of_ble_eq_true rfl, Nat.le_of_ble_eq_true rfl⟩) ⟨fun a U g mk h => ⟨h.1, ⟨gD_blind h.2.1.1, gL.moved (u := U) (U := U.calling g mk a) (Vm.Alike.refl U.vm) h.2.1.2⟩, h.2.2⟩, fun U hU hW => ⟨rfl, ⟨gD_at hK hG hB hH hS hU hW, gL.moved hW.alike hL⟩, q⟩⟩ rfl rfl hl.1 rfl (lv_room (Nat.le_of_ble_eq_true rfl)) dL_law_2026 ⟨by show cl + 0 + 1 ≤ 601024; omega, by show sl + 0 + 6 ≤ 7293034; omega⟩) hS (fun _ _ h => h) (fun _ h => h) (fun r1 F2 t H locs ht hvm q hB1 hz hk hS => ?_)
  have hH : gH G ad F2 H := gH_to ht hB1
  refine lv_istore (lv' := [(5, .int r1), (0, .ref b), (1, .ref (ad 0 0)), (2, .ref (ad 40 0)), (3, .ref (ad 79 0)), (4, .int x4)]) hx hb dL_law_2029 hl (by decide) rfl (fun ls hl => ?_)
  refine lv_aload_n hx hb dL_law_2031 rfl (lv_at hl 3 rfl) ?_
  refine lv_aload_n hx hb dL_law_2032 rfl (lv_at hl 1 rfl) ?_
  refine lv_iload hx hb dL_law_2033 (lv_at hl 5 rfl) ?_
  refine lv_iconst (v := 1) hx hb dL_law_2035 (by decide) ?_
  refine lv_iadd hx hb dL_law_2036 ?_
  refine va_sld hx hb hX hbl hbA hS hi1 dL_law_2037 ?_
  rw [ha1]
  refine va_calli (va_runV (As := [.int a1]) (rest := []) ⟨hx, hb, hml, hown, hts⟩ (c_X11_seats l G ad F2 a1 _) (cwV 1 hts gL_law_X11_seats rfl rfl rfl (by decide +kernel) ⟨Nat.le_of_ble_eq_true rfl, Nat.le_of_ble_eq_true rfl⟩) ⟨fun a U g mk h => ⟨h.1, gD_blind h.2.1, h.2.2⟩, g_recv (C := RX11) (T := TX11) (N := 44) hK hH 40 0 (by decide) Nat.zero_lt_one rfl rfl, fun U hU hW => ⟨rfl, gD_at hK hG hB hH hS hU hW, q⟩⟩ rfl rfl hl.1 rfl (lv_room (Nat.le_of_ble_eq_true rfl)) dL_law_2038 ⟨by show cl + 1 + 0 ≤ 601024; omega, by show sl + 6 + 0 ≤ 7293034; omega⟩) hS (fun _ _ h => h) (fun _ h => h) (fun r3 F4 t H locs ht hvm q hB1 hz hk hS => ?_)
  have hH : gH G ad F4 H := gH_to ht hB1
  refine lv_istore (lv' := [(6, .int r3), (5, .int r1), (0, .ref b), (1, .ref (ad 0 0)), (2, .ref (ad 40 0)), (3, .ref (ad 79 0)), (4, .int x4)]) hx hb dL_law_2041 hl (by decide) rfl (fun ls hl => ?_)
  refine lv_aload_n hx hb dL_law_2043 rfl (lv_at hl 4 rfl) ?_
  refine va_calli (va_runV (As := []) (rest := []) ⟨hx, hb, hml, hown, hts⟩ (c_X11_thrown l G ad F4 _) (cwV 0 hts gL_law_X11_thrown rfl rfl rfl (by decide +kernel) ⟨Nat.le_of_ble_eq_true rfl, Nat.le_of_ble_eq_true rfl⟩) ⟨fun a U g mk h => ⟨h.1, gD_blind h.2.1, h.2.2⟩, g_recv (C := RX11) (T := TX11) (N := 44) hK hH 40 0 (by decide) Nat.zero_lt_one rfl rfl, fun U hU hW => ⟨rfl, gD_at hK hG hB hH hS hU hW, q⟩⟩ rfl rfl hl.1 rfl (lv_room (Nat.le_of_ble_eq_true rfl)) dL_law_2044 ⟨by show cl + 1 + 0 ≤ 601024; omega, by show sl + 6 + 0 ≤ 7293034; omega⟩) hS (fun _ _ h => h) (fun _ h => h) (fun r5 F6 t H locs ht hvm q hB1 hz hk hS => ?_)
  have hH : gH G ad F6 H := gH_to ht hB1
  refine lv_iload hx hb dL_law_2047 (lv_at hl 1 rfl) ?_
  refine lv_icmp_eq (tgt := 2054) hx hb dL_law_2049 (by decide) (fun c7 => ?_) (fun c7 => ?_)
  · have q := (if_pos c7).mp q
    refine lv_iload hx hb dL_law_2054 (lv_at hl 1 rfl) ?_
    refine lv_if_ne (tgt := 2071) hx hb dL_law_2056 (by decide) (fun c8 => ?_) (fun c8 => ?_)
    · have q := (if_neg c8).mp q
      refine lv_goto (tgt := 2280) hx hb dL_law_2071 (by decide) ?_
      refine W.widen (k := cl + MCL) (n := sl + MSL) (by unfold MCL; omega) (by unfold MSL; omega) ?_
      exact hkk F6 ad _ _ _ (fun _ _ _ => rfl) hH hS (lv_sub hl [2, 3, 4, 5, 6] rfl) q
    · have q := (if_pos c8).mp q
      refine lv_aload_n hx hb dL_law_2059 rfl (lv_at hl 5 rfl) ?_
      refine lv_iconst (v := 0) hx hb dL_law_2060 (by decide) ?_
      obtain ⟨h9, q⟩ := q
      refine g_lald hx hb hK hH h9 dL_law_2061 ?_
      refine lv_iload hx hb dL_law_2062 (lv_at hl 0 rfl) ?_
      refine lv_i2l (v := r3.toInt64) hx hb dL_law_2064 rfl ?_
      refine W.lcmp hx hb dL_law_2065 ?_
      refine lv_if_eq (tgt := 2071) hx hb dL_law_2066 (by decide) (fun c10 => ?_) (fun c10 => ?_)
      · have q := (if_pos (lcmp_eq.mp c10)).mp q
        refine lv_goto (tgt := 2280) hx hb dL_law_2071 (by decide) ?_
        refine W.widen (k := cl + MCL) (n := sl + MSL) (by unfold MCL; omega) (by unfold MSL; omega) ?_
        exact hkk F6 ad _ _ _ (fun _ _ _ => rfl) hH hS (lv_sub hl [2, 3, 4, 5, 6] rfl) q
      · have q := (if_neg (fun z => c10 (lcmp_eq.mpr z))).mp q
        refine lv_iconst (v := 0) hx hb dL_law_2069 (by decide) ?_
        exact q.elim
  · have q := (if_neg c7).mp q
    refine lv_iconst (v := 0) hx hb dL_law_2052 (by decide) ?_
    exact q.elim
set_option maxHeartbeats 4000000 in
set_option maxRecDepth 100000 in
theorem law_31 {p : Program} {l : Launch} {e : Env} {s : State} {m : MethodId} {below : List Frame} {meth : Method} {c : Code} {b L : Nat} {xs : Nat → Int32} {Q : State → Prop} {G : GP} (hfl : l.stackTraces = false) (hx : p.tables.exec = Jvm.exec) (hb : c.code = code) (hml : c.maxLocals = 7) (hown : s.vm.findClass RL = some m.cls) (hts : ∀ w ∈ wsL_law, w.before #[Value.ref b] s = true) (hX : va_X b L xs s s.heap) (hbl : b < s.heap.size) (hK : gK G s) (hG : gS G s) (hB : G.2.2.2 ≤ s.heap.size) (hL : gL s) (hBe : G.2.2.2 = s.heap.size) (ad : Nat → Nat → Nat) (F : GF) (x4 a1 a2 a3 : Int32) (hi1 : vp_in (x4 + 1) L) (hi2 : vp_in (x4 + 2) L) (hi3 : vp_in (x4 + 3) L) (ha1 : xs (x4 + 1).toNatClampNeg = a1) (ha2 : xs (x4 + 2).toNatClampNeg = a2) (ha3 : xs (x4 + 3).toNatClampNeg = a3) (cl sl : Nat) (hcl : cl + MCL ≤ 601024) (hsl : sl + MSL ≤ 7293034) (H : Heap) (locs : List Loc) (ls : Array Slot) (hH : gH G ad F H) (hS : va_S (gA G) s.heap H locs) (hl : lv_has ls 7 [(0, .ref b), (1, .ref (ad 0 0)), (2, .ref (ad 40 0)), (3, .ref (ad 79 0)), (4, .int x4)]) (K : GF → Prop) (hkk : ∀ (F1 : GF) (ad1 : Nat → Nat → Nat) (H : Heap) (locs : List Loc) (ls : Array Slot), (∀ f i : Nat, f ≠ 39 → ad1 f i = ad f i) → gH G ad1 F1 H → va_S (gA G) s.heap H locs → lv_has ls 7 [(0, .ref b), (1, .ref (ad1 0 0)), (2, .ref (ad1 40 0)), (3, .ref (ad1 79 0)), (4, .int x4)] → K F1 → W p l e room_1 s m #[Value.ref b] below meth c H locs (cl + MCL) (sl + MSL) Q (F0 m 2280 ls [])) (q : PL_31 a1 a2 a3 K F) : W p l e room_1 s m #[Value.ref b] below meth c H locs cl sl Q (F0 m 2074 ls []) := by
  have hbA : ¬ gA G b := by
    intro h
    have h2 : G.2.2.2 ≤ b := h
    omega
  unfold MCL at hcl
  unfold MSL at hsl
  unfold PL_31 at q
  refine lv_aload_n hx hb dL_law_2074 rfl (lv_at hl 1 rfl) ?_
  refine lv_aload_n hx hb dL_law_2075 rfl (lv_at hl 0 rfl) ?_
  refine lv_iload hx hb dL_law_2076 (lv_at hl 4 rfl) ?_
  refine lv_iconst (v := 1) hx hb dL_law_2078 (by decide) ?_
  refine lv_iadd hx hb dL_law_2079 ?_
  refine va_sld hx hb hX hbl hbA hS hi1 dL_law_2080 ?_
  rw [ha1]
  refine lv_aload_n hx hb dL_law_2081 rfl (lv_at hl 3 rfl) ?_
  refine va_calli (vx_runSW (As := [.ref (ad 0 0), .int a1, .ref (ad 79 0)]) (rest := []) ⟨hx, hb, hml, hown, hts⟩ (c_L_seatAt l hfl G ad F a1 _) (vx_cwSW 3 hts gL_law_L_seatAt rfl rfl rfl (by decide +kernel) ⟨Nat.le_of_ble_eq_true rfl, Nat.le_of_ble_eq_true rfl⟩) ⟨fun a U g mk h => ⟨h.1, ⟨gD_blind h.2.1.1, gL.moved (u := U) (U := U.calling g mk a) (Vm.Alike.refl U.vm) h.2.1.2⟩, h.2.2⟩, fun U hU hW => ⟨rfl, ⟨gD_at hK hG hB hH hS hU hW, gL.moved hW.alike hL⟩, q⟩⟩ rfl rfl hl.1 rfl (lv_room (Nat.le_of_ble_eq_true rfl)) dL_law_2082 ⟨by show cl + 0 + 1 ≤ 601024; omega, by show sl + 0 + 6 ≤ 7293034; omega⟩) hS (fun _ _ h => h) (fun _ h => h) (fun r1 F2 t H locs ht hvm q hB1 hz hk hS => ?_)
  have hH : gH G ad F2 H := gH_to ht hB1
  refine lv_istore (lv' := [(5, .int r1), (0, .ref b), (1, .ref (ad 0 0)), (2, .ref (ad 40 0)), (3, .ref (ad 79 0)), (4, .int x4)]) hx hb dL_law_2085 hl (by decide) rfl (fun ls hl => ?_)
  refine lv_aload_n hx hb dL_law_2087 rfl (lv_at hl 3 rfl) ?_
  refine lv_aload_n hx hb dL_law_2088 rfl (lv_at hl 1 rfl) ?_
  refine lv_iload hx hb dL_law_2089 (lv_at hl 5 rfl) ?_
  refine lv_iconst (v := 1) hx hb dL_law_2091 (by decide) ?_
  refine lv_iadd hx hb dL_law_2092 ?_
  refine va_sld hx hb hX hbl hbA hS hi1 dL_law_2093 ?_
  rw [ha1]
  refine va_calli (va_runV (As := [.int a1]) (rest := []) ⟨hx, hb, hml, hown, hts⟩ (c_X11_seatAt l G ad F2 a1 _) (cwV 1 hts gL_law_X11_seatAt rfl rfl rfl (by decide +kernel) ⟨Nat.le_of_ble_eq_true rfl, Nat.le_of_ble_eq_true rfl⟩) ⟨fun a U g mk h => ⟨h.1, gD_blind h.2.1, h.2.2⟩, g_recv (C := RX11) (T := TX11) (N := 44) hK hH 40 0 (by decide) Nat.zero_lt_one rfl rfl, fun U hU hW => ⟨rfl, gD_at hK hG hB hH hS hU hW, q⟩⟩ rfl rfl hl.1 rfl (lv_room (Nat.le_of_ble_eq_true rfl)) dL_law_2094 ⟨by show cl + 1 + 0 ≤ 601024; omega, by show sl + 6 + 0 ≤ 7293034; omega⟩) hS (fun _ _ h => h) (fun _ h => h) (fun r3 F4 t H locs ht hvm q hB1 hz hk hS => ?_)
  have hH : gH G ad F4 H := gH_to ht hB1
  refine lv_istore (lv' := [(6, .int r3), (5, .int r1), (0, .ref b), (1, .ref (ad 0 0)), (2, .ref (ad 40 0)), (3, .ref (ad 79 0)), (4, .int x4)]) hx hb dL_law_2097 hl (by decide) rfl (fun ls hl => ?_)
  refine lv_aload_n hx hb dL_law_2099 rfl (lv_at hl 4 rfl) ?_
  refine va_calli (va_runV (As := []) (rest := []) ⟨hx, hb, hml, hown, hts⟩ (c_X11_thrown l G ad F4 _) (cwV 0 hts gL_law_X11_thrown rfl rfl rfl (by decide +kernel) ⟨Nat.le_of_ble_eq_true rfl, Nat.le_of_ble_eq_true rfl⟩) ⟨fun a U g mk h => ⟨h.1, gD_blind h.2.1, h.2.2⟩, g_recv (C := RX11) (T := TX11) (N := 44) hK hH 40 0 (by decide) Nat.zero_lt_one rfl rfl, fun U hU hW => ⟨rfl, gD_at hK hG hB hH hS hU hW, q⟩⟩ rfl rfl hl.1 rfl (lv_room (Nat.le_of_ble_eq_true rfl)) dL_law_2100 ⟨by show cl + 1 + 0 ≤ 601024; omega, by show sl + 6 + 0 ≤ 7293034; omega⟩) hS (fun _ _ h => h) (fun _ h => h) (fun r5 F6 t H locs ht hvm q hB1 hz hk hS => ?_)
  have hH : gH G ad F6 H := gH_to ht hB1
  refine lv_iload hx hb dL_law_2103 (lv_at hl 1 rfl) ?_
  refine lv_icmp_eq (tgt := 2110) hx hb dL_law_2105 (by decide) (fun c7 => ?_) (fun c7 => ?_)
  · have q := (if_pos c7).mp q
    refine lv_iload hx hb dL_law_2110 (lv_at hl 1 rfl) ?_
    refine lv_if_ne (tgt := 2127) hx hb dL_law_2112 (by decide) (fun c8 => ?_) (fun c8 => ?_)
    · have q := (if_neg c8).mp q
      refine lv_goto (tgt := 2280) hx hb dL_law_2127 (by decide) ?_
      refine W.widen (k := cl + MCL) (n := sl + MSL) (by unfold MCL; omega) (by unfold MSL; omega) ?_
      exact hkk F6 ad _ _ _ (fun _ _ _ => rfl) hH hS (lv_sub hl [2, 3, 4, 5, 6] rfl) q
    · have q := (if_pos c8).mp q
      refine lv_aload_n hx hb dL_law_2115 rfl (lv_at hl 5 rfl) ?_
      refine lv_iconst (v := 0) hx hb dL_law_2116 (by decide) ?_
      obtain ⟨h9, q⟩ := q
      refine g_lald hx hb hK hH h9 dL_law_2117 ?_
      refine lv_iload hx hb dL_law_2118 (lv_at hl 0 rfl) ?_
      refine lv_i2l (v := r3.toInt64) hx hb dL_law_2120 rfl ?_
      refine W.lcmp hx hb dL_law_2121 ?_
      refine lv_if_eq (tgt := 2127) hx hb dL_law_2122 (by decide) (fun c10 => ?_) (fun c10 => ?_)
      · have q := (if_pos (lcmp_eq.mp c10)).mp q
        refine lv_goto (tgt := 2280) hx hb dL_law_2127 (by decide) ?_
        refine W.widen (k := cl + MCL) (n := sl + MSL) (by unfold MCL; omega) (by unfold MSL; omega) ?_
        exact hkk F6 ad _ _ _ (fun _ _ _ => rfl) hH hS (lv_sub hl [2, 3, 4, 5, 6] rfl) q
      · have q := (if_neg (fun z => c10 (lcmp_eq.mpr z))).mp q
        refine lv_iconst (v := 0) hx hb dL_law_2125 (by decide) ?_
        exact q.elim
  · have q := (if_neg c7).mp q
    refine lv_iconst (v := 0) hx hb dL_law_2108 (by decide) ?_
    exact q.elim
set_option maxHeartbeats 4000000 in
set_option maxRecDepth 100000 in
theorem law_32 {p : Program} {l : Launch} {e : Env} {s : State} {m : MethodId} {below : List Frame} {meth : Method} {c : Code} {b L : Nat} {xs : Nat → Int32} {Q : State → Prop} {G : GP} (hfl : l.stackTraces = false) (hx : p.tables.exec = Jvm.exec) (hb : c.code = code) (hml : c.maxLocals = 7) (hown : s.vm.findClass RL = some m.cls) (hts : ∀ w ∈ wsL_law, w.before #[Value.ref b] s = true) (hX : va_X b L xs s s.heap) (hbl : b < s.heap.size) (hK : gK G s) (hG : gS G s) (hB : G.2.2.2 ≤ s.heap.size) (hL : gL s) (hBe : G.2.2.2 = s.heap.size) (ad : Nat → Nat → Nat) (F : GF) (x4 a1 a2 a3 : Int32) (hi1 : vp_in (x4 + 1) L) (hi2 : vp_in (x4 + 2) L) (hi3 : vp_in (x4 + 3) L) (ha1 : xs (x4 + 1).toNatClampNeg = a1) (ha2 : xs (x4 + 2).toNatClampNeg = a2) (ha3 : xs (x4 + 3).toNatClampNeg = a3) (cl sl : Nat) (hcl : cl + MCL ≤ 601024) (hsl : sl + MSL ≤ 7293034) (H : Heap) (locs : List Loc) (ls : Array Slot) (hH : gH G ad F H) (hS : va_S (gA G) s.heap H locs) (hl : lv_has ls 7 [(0, .ref b), (1, .ref (ad 0 0)), (2, .ref (ad 40 0)), (3, .ref (ad 79 0)), (4, .int x4)]) (K : GF → Prop) (hkk : ∀ (F1 : GF) (ad1 : Nat → Nat → Nat) (H : Heap) (locs : List Loc) (ls : Array Slot), (∀ f i : Nat, f ≠ 39 → ad1 f i = ad f i) → gH G ad1 F1 H → va_S (gA G) s.heap H locs → lv_has ls 7 [(0, .ref b), (1, .ref (ad1 0 0)), (2, .ref (ad1 40 0)), (3, .ref (ad1 79 0)), (4, .int x4)] → K F1 → W p l e room_1 s m #[Value.ref b] below meth c H locs (cl + MCL) (sl + MSL) Q (F0 m 2280 ls [])) (q : PL_32 a1 a2 a3 K F) : W p l e room_1 s m #[Value.ref b] below meth c H locs cl sl Q (F0 m 2130 ls []) := by
  have hbA : ¬ gA G b := by
    intro h
    have h2 : G.2.2.2 ≤ b := h
    omega
  unfold MCL at hcl
  unfold MSL at hsl
  unfold PL_32 at q
  refine lv_aload_n hx hb dL_law_2130 rfl (lv_at hl 1 rfl) ?_
  refine va_calli (va_runV (As := []) (rest := []) ⟨hx, hb, hml, hown, hts⟩ (c_X10_lots l G ad F _) (cwV 0 hts gL_law_X10_lots rfl rfl rfl (by decide +kernel) ⟨Nat.le_of_ble_eq_true rfl, Nat.le_of_ble_eq_true rfl⟩) ⟨fun a U g mk h => ⟨h.1, gD_blind h.2.1, h.2.2⟩, g_recv (C := RX10) (T := TX10) (N := 8) hK hH 0 0 (by decide) Nat.zero_lt_one rfl rfl, fun U hU hW => ⟨rfl, gD_at hK hG hB hH hS hU hW, q⟩⟩ rfl rfl hl.1 rfl (lv_room (Nat.le_of_ble_eq_true rfl)) dL_law_2131 ⟨by show cl + 0 + 0 ≤ 601024; omega, by show sl + 0 + 0 ≤ 7293034; omega⟩) hS (fun _ _ h => h) (fun _ h => h) (fun r1 F2 t H locs ht hvm q hB1 hz hk hS => ?_)
  have hH : gH G ad F2 H := gH_to ht hB1
  refine lv_aload_n hx hb dL_law_2134 rfl (lv_at hl 2 rfl) ?_
  refine va_calli (va_runV (As := []) (rest := [.int r1]) ⟨hx, hb, hml, hown, hts⟩ (c_X11_lots l G ad F2 _) (cwV 0 hts gL_law_X11_lots rfl rfl rfl (by decide +kernel) ⟨Nat.le_of_ble_eq_true rfl, Nat.le_of_ble_eq_true rfl⟩) ⟨fun a U g mk h => ⟨h.1, gD_blind h.2.1, h.2.2⟩, g_recv (C := RX11) (T := TX11) (N := 44) hK hH 40 0 (by decide) Nat.zero_lt_one rfl rfl, fun U hU hW => ⟨rfl, gD_at hK hG hB hH hS hU hW, q⟩⟩ rfl rfl hl.1 rfl (lv_room (Nat.le_of_ble_eq_true rfl)) dL_law_2135 ⟨by show cl + 0 + 0 ≤ 601024; omega, by show sl + 0 + 0 ≤ 7293034; omega⟩) hS (fun _ _ h => h) (fun _ h => h) (fun r3 F4 t H locs ht hvm q hB1 hz hk hS => ?_)
  have hH : gH G ad F4 H := gH_to ht hB1
  refine lv_icmp_eq (tgt := 2280) hx hb dL_law_2138 (by decide) (fun c5 => ?_) (fun c5 => ?_)
  · have q := (if_pos c5).mp q
    refine W.widen (k := cl + MCL) (n := sl + MSL) (by unfold MCL; omega) (by unfold MSL; omega) ?_
    exact hkk F4 ad _ _ _ (fun _ _ _ => rfl) hH hS (lv_sub hl [0, 1, 2, 3, 4] rfl) q
  · have q := (if_neg c5).mp q
    refine lv_iconst (v := 0) hx hb dL_law_2141 (by decide) ?_
    exact q.elim
set_option maxHeartbeats 4000000 in
set_option maxRecDepth 100000 in
theorem law_33 {p : Program} {l : Launch} {e : Env} {s : State} {m : MethodId} {below : List Frame} {meth : Method} {c : Code} {b L : Nat} {xs : Nat → Int32} {Q : State → Prop} {G : GP} (hfl : l.stackTraces = false) (hx : p.tables.exec = Jvm.exec) (hb : c.code = code) (hml : c.maxLocals = 7) (hown : s.vm.findClass RL = some m.cls) (hts : ∀ w ∈ wsL_law, w.before #[Value.ref b] s = true) (hX : va_X b L xs s s.heap) (hbl : b < s.heap.size) (hK : gK G s) (hG : gS G s) (hB : G.2.2.2 ≤ s.heap.size) (hL : gL s) (hBe : G.2.2.2 = s.heap.size) (ad : Nat → Nat → Nat) (F : GF) (x4 a1 a2 a3 : Int32) (hi1 : vp_in (x4 + 1) L) (hi2 : vp_in (x4 + 2) L) (hi3 : vp_in (x4 + 3) L) (ha1 : xs (x4 + 1).toNatClampNeg = a1) (ha2 : xs (x4 + 2).toNatClampNeg = a2) (ha3 : xs (x4 + 3).toNatClampNeg = a3) (cl sl : Nat) (hcl : cl + MCL ≤ 601024) (hsl : sl + MSL ≤ 7293034) (H : Heap) (locs : List Loc) (ls : Array Slot) (hH : gH G ad F H) (hS : va_S (gA G) s.heap H locs) (hl : lv_has ls 7 [(0, .ref b), (1, .ref (ad 0 0)), (2, .ref (ad 40 0)), (3, .ref (ad 79 0)), (4, .int x4)]) (K : GF → Prop) (hkk : ∀ (F1 : GF) (ad1 : Nat → Nat → Nat) (H : Heap) (locs : List Loc) (ls : Array Slot), (∀ f i : Nat, f ≠ 39 → ad1 f i = ad f i) → gH G ad1 F1 H → va_S (gA G) s.heap H locs → lv_has ls 7 [(0, .ref b), (1, .ref (ad1 0 0)), (2, .ref (ad1 40 0)), (3, .ref (ad1 79 0)), (4, .int x4)] → K F1 → W p l e room_1 s m #[Value.ref b] below meth c H locs (cl + MCL) (sl + MSL) Q (F0 m 2280 ls [])) (q : PL_33 a1 a2 a3 K F) : W p l e room_1 s m #[Value.ref b] below meth c H locs cl sl Q (F0 m 2143 ls []) := by
  have hbA : ¬ gA G b := by
    intro h
    have h2 : G.2.2.2 ≤ b := h
    omega
  unfold MCL at hcl
  unfold MSL at hsl
  unfold PL_33 at q
  refine lv_aload_n hx hb dL_law_2143 rfl (lv_at hl 1 rfl) ?_
  refine lv_aload_n hx hb dL_law_2144 rfl (lv_at hl 0 rfl) ?_
  refine lv_iload hx hb dL_law_2145 (lv_at hl 4 rfl) ?_
  refine lv_iconst (v := 1) hx hb dL_law_2147 (by decide) ?_
  refine lv_iadd hx hb dL_law_2148 ?_
  refine va_sld hx hb hX hbl hbA hS hi1 dL_law_2149 ?_
  rw [ha1]
  refine lv_aload_n hx hb dL_law_2150 rfl (lv_at hl 3 rfl) ?_
  refine va_calli (vx_runSW (As := [.ref (ad 0 0), .int a1, .ref (ad 79 0)]) (rest := []) ⟨hx, hb, hml, hown, hts⟩ (c_L_seatsByBallots l hfl G ad F a1 _) (vx_cwSW 3 hts gL_law_L_seatsByBallots rfl rfl rfl (by decide +kernel) ⟨Nat.le_of_ble_eq_true rfl, Nat.le_of_ble_eq_true rfl⟩) ⟨fun a U g mk h => ⟨h.1, ⟨gD_blind h.2.1.1, gL.moved (u := U) (U := U.calling g mk a) (Vm.Alike.refl U.vm) h.2.1.2⟩, h.2.2⟩, fun U hU hW => ⟨rfl, ⟨gD_at hK hG hB hH hS hU hW, gL.moved hW.alike hL⟩, q⟩⟩ rfl rfl hl.1 rfl (lv_room (Nat.le_of_ble_eq_true rfl)) dL_law_2151 ⟨by show cl + 0 + 1 ≤ 601024; omega, by show sl + 0 + 6 ≤ 7293034; omega⟩) hS (fun _ _ h => h) (fun _ h => h) (fun r1 F2 t H locs ht hvm q hB1 hz hk hS => ?_)
  have hH : gH G ad F2 H := gH_to ht hB1
  refine lv_istore (lv' := [(5, .int r1), (0, .ref b), (1, .ref (ad 0 0)), (2, .ref (ad 40 0)), (3, .ref (ad 79 0)), (4, .int x4)]) hx hb dL_law_2154 hl (by decide) rfl (fun ls hl => ?_)
  refine lv_aload_n hx hb dL_law_2156 rfl (lv_at hl 3 rfl) ?_
  refine lv_aload_n hx hb dL_law_2157 rfl (lv_at hl 1 rfl) ?_
  refine lv_iload hx hb dL_law_2158 (lv_at hl 5 rfl) ?_
  refine lv_iconst (v := 1) hx hb dL_law_2160 (by decide) ?_
  refine lv_iadd hx hb dL_law_2161 ?_
  refine va_sld hx hb hX hbl hbA hS hi1 dL_law_2162 ?_
  rw [ha1]
  refine va_calli (va_runV (As := [.int a1]) (rest := []) ⟨hx, hb, hml, hown, hts⟩ (c_X11_seatsByBallots l G ad F2 a1 _) (cwV 1 hts gL_law_X11_seatsByBallots rfl rfl rfl (by decide +kernel) ⟨Nat.le_of_ble_eq_true rfl, Nat.le_of_ble_eq_true rfl⟩) ⟨fun a U g mk h => ⟨h.1, gD_blind h.2.1, h.2.2⟩, g_recv (C := RX11) (T := TX11) (N := 44) hK hH 40 0 (by decide) Nat.zero_lt_one rfl rfl, fun U hU hW => ⟨rfl, gD_at hK hG hB hH hS hU hW, q⟩⟩ rfl rfl hl.1 rfl (lv_room (Nat.le_of_ble_eq_true rfl)) dL_law_2163 ⟨by show cl + 1 + 0 ≤ 601024; omega, by show sl + 6 + 0 ≤ 7293034; omega⟩) hS (fun _ _ h => h) (fun _ h => h) (fun r3 F4 t H locs ht hvm q hB1 hz hk hS => ?_)
  have hH : gH G ad F4 H := gH_to ht hB1
  refine lv_istore (lv' := [(6, .int r3), (5, .int r1), (0, .ref b), (1, .ref (ad 0 0)), (2, .ref (ad 40 0)), (3, .ref (ad 79 0)), (4, .int x4)]) hx hb dL_law_2166 hl (by decide) rfl (fun ls hl => ?_)
  refine lv_aload_n hx hb dL_law_2168 rfl (lv_at hl 4 rfl) ?_
  refine va_calli (va_runV (As := []) (rest := []) ⟨hx, hb, hml, hown, hts⟩ (c_X11_thrown l G ad F4 _) (cwV 0 hts gL_law_X11_thrown rfl rfl rfl (by decide +kernel) ⟨Nat.le_of_ble_eq_true rfl, Nat.le_of_ble_eq_true rfl⟩) ⟨fun a U g mk h => ⟨h.1, gD_blind h.2.1, h.2.2⟩, g_recv (C := RX11) (T := TX11) (N := 44) hK hH 40 0 (by decide) Nat.zero_lt_one rfl rfl, fun U hU hW => ⟨rfl, gD_at hK hG hB hH hS hU hW, q⟩⟩ rfl rfl hl.1 rfl (lv_room (Nat.le_of_ble_eq_true rfl)) dL_law_2169 ⟨by show cl + 1 + 0 ≤ 601024; omega, by show sl + 6 + 0 ≤ 7293034; omega⟩) hS (fun _ _ h => h) (fun _ h => h) (fun r5 F6 t H locs ht hvm q hB1 hz hk hS => ?_)
  have hH : gH G ad F6 H := gH_to ht hB1
  refine lv_iload hx hb dL_law_2172 (lv_at hl 1 rfl) ?_
  refine lv_icmp_eq (tgt := 2179) hx hb dL_law_2174 (by decide) (fun c7 => ?_) (fun c7 => ?_)
  · have q := (if_pos c7).mp q
    refine lv_iload hx hb dL_law_2179 (lv_at hl 1 rfl) ?_
    refine lv_if_ne (tgt := 2196) hx hb dL_law_2181 (by decide) (fun c8 => ?_) (fun c8 => ?_)
    · have q := (if_neg c8).mp q
      refine lv_goto (tgt := 2280) hx hb dL_law_2196 (by decide) ?_
      refine W.widen (k := cl + MCL) (n := sl + MSL) (by unfold MCL; omega) (by unfold MSL; omega) ?_
      exact hkk F6 ad _ _ _ (fun _ _ _ => rfl) hH hS (lv_sub hl [2, 3, 4, 5, 6] rfl) q
    · have q := (if_pos c8).mp q
      refine lv_aload_n hx hb dL_law_2184 rfl (lv_at hl 5 rfl) ?_
      refine lv_iconst (v := 0) hx hb dL_law_2185 (by decide) ?_
      obtain ⟨h9, q⟩ := q
      refine g_lald hx hb hK hH h9 dL_law_2186 ?_
      refine lv_iload hx hb dL_law_2187 (lv_at hl 0 rfl) ?_
      refine lv_i2l (v := r3.toInt64) hx hb dL_law_2189 rfl ?_
      refine W.lcmp hx hb dL_law_2190 ?_
      refine lv_if_eq (tgt := 2196) hx hb dL_law_2191 (by decide) (fun c10 => ?_) (fun c10 => ?_)
      · have q := (if_pos (lcmp_eq.mp c10)).mp q
        refine lv_goto (tgt := 2280) hx hb dL_law_2196 (by decide) ?_
        refine W.widen (k := cl + MCL) (n := sl + MSL) (by unfold MCL; omega) (by unfold MSL; omega) ?_
        exact hkk F6 ad _ _ _ (fun _ _ _ => rfl) hH hS (lv_sub hl [2, 3, 4, 5, 6] rfl) q
      · have q := (if_neg (fun z => c10 (lcmp_eq.mpr z))).mp q
        refine lv_iconst (v := 0) hx hb dL_law_2194 (by decide) ?_
        exact q.elim
  · have q := (if_neg c7).mp q
    refine lv_iconst (v := 0) hx hb dL_law_2177 (by decide) ?_
    exact q.elim
set_option maxHeartbeats 4000000 in
set_option maxRecDepth 100000 in
theorem law_34 {p : Program} {l : Launch} {e : Env} {s : State} {m : MethodId} {below : List Frame} {meth : Method} {c : Code} {b L : Nat} {xs : Nat → Int32} {Q : State → Prop} {G : GP} (hfl : l.stackTraces = false) (hx : p.tables.exec = Jvm.exec) (hb : c.code = code) (hml : c.maxLocals = 7) (hown : s.vm.findClass RL = some m.cls) (hts : ∀ w ∈ wsL_law, w.before #[Value.ref b] s = true) (hX : va_X b L xs s s.heap) (hbl : b < s.heap.size) (hK : gK G s) (hG : gS G s) (hB : G.2.2.2 ≤ s.heap.size) (hL : gL s) (hBe : G.2.2.2 = s.heap.size) (ad : Nat → Nat → Nat) (F : GF) (x4 a1 a2 a3 : Int32) (hi1 : vp_in (x4 + 1) L) (hi2 : vp_in (x4 + 2) L) (hi3 : vp_in (x4 + 3) L) (ha1 : xs (x4 + 1).toNatClampNeg = a1) (ha2 : xs (x4 + 2).toNatClampNeg = a2) (ha3 : xs (x4 + 3).toNatClampNeg = a3) (cl sl : Nat) (hcl : cl + MCL ≤ 601024) (hsl : sl + MSL ≤ 7293034) (H : Heap) (locs : List Loc) (ls : Array Slot) (hH : gH G ad F H) (hS : va_S (gA G) s.heap H locs) (hl : lv_has ls 7 [(0, .ref b), (1, .ref (ad 0 0)), (2, .ref (ad 40 0)), (3, .ref (ad 79 0)), (4, .int x4)]) (K : GF → Prop) (hkk : ∀ (F1 : GF) (ad1 : Nat → Nat → Nat) (H : Heap) (locs : List Loc) (ls : Array Slot), (∀ f i : Nat, f ≠ 39 → ad1 f i = ad f i) → gH G ad1 F1 H → va_S (gA G) s.heap H locs → lv_has ls 7 [(0, .ref b), (1, .ref (ad1 0 0)), (2, .ref (ad1 40 0)), (3, .ref (ad1 79 0)), (4, .int x4)] → K F1 → W p l e room_1 s m #[Value.ref b] below meth c H locs (cl + MCL) (sl + MSL) Q (F0 m 2280 ls [])) (q : PL_34 a1 a2 a3 K F) : W p l e room_1 s m #[Value.ref b] below meth c H locs cl sl Q (F0 m 2199 ls []) := by
  have hbA : ¬ gA G b := by
    intro h
    have h2 : G.2.2.2 ≤ b := h
    omega
  unfold MCL at hcl
  unfold MSL at hsl
  unfold PL_34 at q
  refine lv_aload_n hx hb dL_law_2199 rfl (lv_at hl 1 rfl) ?_
  refine va_calli (va_runV (As := []) (rest := []) ⟨hx, hb, hml, hown, hts⟩ (c_X10_notes l G ad F _) (cwV 0 hts gL_law_X10_notes rfl rfl rfl (by decide +kernel) ⟨Nat.le_of_ble_eq_true rfl, Nat.le_of_ble_eq_true rfl⟩) ⟨fun a U g mk h => ⟨h.1, gD_blind h.2.1, h.2.2⟩, g_recv (C := RX10) (T := TX10) (N := 8) hK hH 0 0 (by decide) Nat.zero_lt_one rfl rfl, fun U hU hW => ⟨rfl, gD_at hK hG hB hH hS hU hW, q⟩⟩ rfl rfl hl.1 rfl (lv_room (Nat.le_of_ble_eq_true rfl)) dL_law_2200 ⟨by show cl + 0 + 0 ≤ 601024; omega, by show sl + 0 + 0 ≤ 7293034; omega⟩) hS (fun _ _ h => h) (fun _ h => h) (fun r1 F2 t H locs ht hvm q hB1 hz hk hS => ?_)
  have hH : gH G ad F2 H := gH_to ht hB1
  refine lv_aload_n hx hb dL_law_2203 rfl (lv_at hl 2 rfl) ?_
  refine va_calli (va_runV (As := []) (rest := [.int r1]) ⟨hx, hb, hml, hown, hts⟩ (c_X11_notes_ l G ad F2 _) (cwV 0 hts gL_law_X11_notes_ rfl rfl rfl (by decide +kernel) ⟨Nat.le_of_ble_eq_true rfl, Nat.le_of_ble_eq_true rfl⟩) ⟨fun a U g mk h => ⟨h.1, gD_blind h.2.1, h.2.2⟩, g_recv (C := RX11) (T := TX11) (N := 44) hK hH 40 0 (by decide) Nat.zero_lt_one rfl rfl, fun U hU hW => ⟨rfl, gD_at hK hG hB hH hS hU hW, q⟩⟩ rfl rfl hl.1 rfl (lv_room (Nat.le_of_ble_eq_true rfl)) dL_law_2204 ⟨by show cl + 0 + 0 ≤ 601024; omega, by show sl + 0 + 0 ≤ 7293034; omega⟩) hS (fun _ _ h => h) (fun _ h => h) (fun r3 F4 t H locs ht hvm q hB1 hz hk hS => ?_)
  have hH : gH G ad F4 H := gH_to ht hB1
  refine lv_icmp_eq (tgt := 2280) hx hb dL_law_2207 (by decide) (fun c5 => ?_) (fun c5 => ?_)
  · have q := (if_pos c5).mp q
    refine W.widen (k := cl + MCL) (n := sl + MSL) (by unfold MCL; omega) (by unfold MSL; omega) ?_
    exact hkk F4 ad _ _ _ (fun _ _ _ => rfl) hH hS (lv_sub hl [0, 1, 2, 3, 4] rfl) q
  · have q := (if_neg c5).mp q
    refine lv_iconst (v := 0) hx hb dL_law_2210 (by decide) ?_
    exact q.elim
set_option maxHeartbeats 4000000 in
set_option maxRecDepth 100000 in
theorem law_35 {p : Program} {l : Launch} {e : Env} {s : State} {m : MethodId} {below : List Frame} {meth : Method} {c : Code} {b L : Nat} {xs : Nat → Int32} {Q : State → Prop} {G : GP} (hfl : l.stackTraces = false) (hx : p.tables.exec = Jvm.exec) (hb : c.code = code) (hml : c.maxLocals = 7) (hown : s.vm.findClass RL = some m.cls) (hts : ∀ w ∈ wsL_law, w.before #[Value.ref b] s = true) (hX : va_X b L xs s s.heap) (hbl : b < s.heap.size) (hK : gK G s) (hG : gS G s) (hB : G.2.2.2 ≤ s.heap.size) (hL : gL s) (hBe : G.2.2.2 = s.heap.size) (ad : Nat → Nat → Nat) (F : GF) (x4 a1 a2 a3 : Int32) (hi1 : vp_in (x4 + 1) L) (hi2 : vp_in (x4 + 2) L) (hi3 : vp_in (x4 + 3) L) (ha1 : xs (x4 + 1).toNatClampNeg = a1) (ha2 : xs (x4 + 2).toNatClampNeg = a2) (ha3 : xs (x4 + 3).toNatClampNeg = a3) (cl sl : Nat) (hcl : cl + MCL ≤ 601024) (hsl : sl + MSL ≤ 7293034) (H : Heap) (locs : List Loc) (ls : Array Slot) (hH : gH G ad F H) (hS : va_S (gA G) s.heap H locs) (hl : lv_has ls 7 [(0, .ref b), (1, .ref (ad 0 0)), (2, .ref (ad 40 0)), (3, .ref (ad 79 0)), (4, .int x4)]) (K : GF → Prop) (hkk : ∀ (F1 : GF) (ad1 : Nat → Nat → Nat) (H : Heap) (locs : List Loc) (ls : Array Slot), (∀ f i : Nat, f ≠ 39 → ad1 f i = ad f i) → gH G ad1 F1 H → va_S (gA G) s.heap H locs → lv_has ls 7 [(0, .ref b), (1, .ref (ad1 0 0)), (2, .ref (ad1 40 0)), (3, .ref (ad1 79 0)), (4, .int x4)] → K F1 → W p l e room_1 s m #[Value.ref b] below meth c H locs (cl + MCL) (sl + MSL) Q (F0 m 2280 ls [])) (q : PL_35 a1 a2 a3 K F) : W p l e room_1 s m #[Value.ref b] below meth c H locs cl sl Q (F0 m 2212 ls []) := by
  have hbA : ¬ gA G b := by
    intro h
    have h2 : G.2.2.2 ≤ b := h
    omega
  unfold MCL at hcl
  unfold MSL at hsl
  unfold PL_35 at q
  refine lv_aload_n hx hb dL_law_2212 rfl (lv_at hl 1 rfl) ?_
  refine lv_aload_n hx hb dL_law_2213 rfl (lv_at hl 0 rfl) ?_
  refine lv_iload hx hb dL_law_2214 (lv_at hl 4 rfl) ?_
  refine lv_iconst (v := 1) hx hb dL_law_2216 (by decide) ?_
  refine lv_iadd hx hb dL_law_2217 ?_
  refine va_sld hx hb hX hbl hbA hS hi1 dL_law_2218 ?_
  rw [ha1]
  refine lv_aload_n hx hb dL_law_2219 rfl (lv_at hl 0 rfl) ?_
  refine lv_iload hx hb dL_law_2220 (lv_at hl 4 rfl) ?_
  refine lv_iconst (v := 2) hx hb dL_law_2222 (by decide) ?_
  refine lv_iadd hx hb dL_law_2223 ?_
  refine va_sld hx hb hX hbl hbA hS hi2 dL_law_2224 ?_
  rw [ha2]
  refine lv_aload_n hx hb dL_law_2225 rfl (lv_at hl 3 rfl) ?_
  refine va_calli (vx_runSW (As := [.ref (ad 0 0), .int a1, .int a2, .ref (ad 79 0)]) (rest := []) ⟨hx, hb, hml, hown, hts⟩ (c_L_signAt l hfl G ad F a1 a2 _) (vx_cwSW 4 hts gL_law_L_signAt rfl rfl rfl (by decide +kernel) ⟨Nat.le_of_ble_eq_true rfl, Nat.le_of_ble_eq_true rfl⟩) ⟨fun a U g mk h => ⟨h.1, ⟨gD_blind h.2.1.1, gL.moved (u := U) (U := U.calling g mk a) (Vm.Alike.refl U.vm) h.2.1.2⟩, h.2.2⟩, fun U hU hW => ⟨rfl, ⟨gD_at hK hG hB hH hS hU hW, gL.moved hW.alike hL⟩, q⟩⟩ rfl rfl hl.1 rfl (lv_room (Nat.le_of_ble_eq_true rfl)) dL_law_2226 ⟨by show cl + 0 + 1 ≤ 601024; omega, by show sl + 0 + 6 ≤ 7293034; omega⟩) hS (fun _ _ h => h) (fun _ h => h) (fun r1 F2 t H locs ht hvm q hB1 hz hk hS => ?_)
  have hH : gH G ad F2 H := gH_to ht hB1
  refine lv_istore (lv' := [(5, .int r1), (0, .ref b), (1, .ref (ad 0 0)), (2, .ref (ad 40 0)), (3, .ref (ad 79 0)), (4, .int x4)]) hx hb dL_law_2229 hl (by decide) rfl (fun ls hl => ?_)
  refine lv_aload_n hx hb dL_law_2231 rfl (lv_at hl 3 rfl) ?_
  refine lv_aload_n hx hb dL_law_2232 rfl (lv_at hl 1 rfl) ?_
  refine lv_iload hx hb dL_law_2233 (lv_at hl 5 rfl) ?_
  refine lv_iconst (v := 1) hx hb dL_law_2235 (by decide) ?_
  refine lv_iadd hx hb dL_law_2236 ?_
  refine va_sld hx hb hX hbl hbA hS hi1 dL_law_2237 ?_
  rw [ha1]
  refine lv_aload_n hx hb dL_law_2238 rfl (lv_at hl 1 rfl) ?_
  refine lv_iload hx hb dL_law_2239 (lv_at hl 5 rfl) ?_
  refine lv_iconst (v := 2) hx hb dL_law_2241 (by decide) ?_
  refine lv_iadd hx hb dL_law_2242 ?_
  refine va_sld hx hb hX hbl hbA hS hi2 dL_law_2243 ?_
  rw [ha2]
  refine va_calli (va_runV (As := [.int a1, .int a2]) (rest := []) ⟨hx, hb, hml, hown, hts⟩ (c_X11_signAt l G ad F2 a1 a2 _) (cwV 2 hts gL_law_X11_signAt rfl rfl rfl (by decide +kernel) ⟨Nat.le_of_ble_eq_true rfl, Nat.le_of_ble_eq_true rfl⟩) ⟨fun a U g mk h => ⟨h.1, gD_blind h.2.1, h.2.2⟩, g_recv (C := RX11) (T := TX11) (N := 44) hK hH 40 0 (by decide) Nat.zero_lt_one rfl rfl, fun U hU hW => ⟨rfl, gD_at hK hG hB hH hS hU hW, q⟩⟩ rfl rfl hl.1 rfl (lv_room (Nat.le_of_ble_eq_true rfl)) dL_law_2244 ⟨by show cl + 1 + 0 ≤ 601024; omega, by show sl + 6 + 0 ≤ 7293034; omega⟩) hS (fun _ _ h => h) (fun _ h => h) (fun r3 F4 t H locs ht hvm q hB1 hz hk hS => ?_)
  have hH : gH G ad F4 H := gH_to ht hB1
  refine lv_istore (lv' := [(6, .int r3), (5, .int r1), (0, .ref b), (1, .ref (ad 0 0)), (2, .ref (ad 40 0)), (3, .ref (ad 79 0)), (4, .int x4)]) hx hb dL_law_2247 hl (by decide) rfl (fun ls hl => ?_)
  refine lv_aload_n hx hb dL_law_2249 rfl (lv_at hl 4 rfl) ?_
  refine va_calli (va_runV (As := []) (rest := []) ⟨hx, hb, hml, hown, hts⟩ (c_X11_thrown l G ad F4 _) (cwV 0 hts gL_law_X11_thrown rfl rfl rfl (by decide +kernel) ⟨Nat.le_of_ble_eq_true rfl, Nat.le_of_ble_eq_true rfl⟩) ⟨fun a U g mk h => ⟨h.1, gD_blind h.2.1, h.2.2⟩, g_recv (C := RX11) (T := TX11) (N := 44) hK hH 40 0 (by decide) Nat.zero_lt_one rfl rfl, fun U hU hW => ⟨rfl, gD_at hK hG hB hH hS hU hW, q⟩⟩ rfl rfl hl.1 rfl (lv_room (Nat.le_of_ble_eq_true rfl)) dL_law_2250 ⟨by show cl + 1 + 0 ≤ 601024; omega, by show sl + 6 + 0 ≤ 7293034; omega⟩) hS (fun _ _ h => h) (fun _ h => h) (fun r5 F6 t H locs ht hvm q hB1 hz hk hS => ?_)
  have hH : gH G ad F6 H := gH_to ht hB1
  refine lv_iload hx hb dL_law_2253 (lv_at hl 1 rfl) ?_
  refine lv_icmp_eq (tgt := 2260) hx hb dL_law_2255 (by decide) (fun c7 => ?_) (fun c7 => ?_)
  · have q := (if_pos c7).mp q
    refine lv_iload hx hb dL_law_2260 (lv_at hl 1 rfl) ?_
    refine lv_if_ne (tgt := 2277) hx hb dL_law_2262 (by decide) (fun c8 => ?_) (fun c8 => ?_)
    · have q := (if_neg c8).mp q
      refine lv_goto (tgt := 2280) hx hb dL_law_2277 (by decide) ?_
      refine W.widen (k := cl + MCL) (n := sl + MSL) (by unfold MCL; omega) (by unfold MSL; omega) ?_
      exact hkk F6 ad _ _ _ (fun _ _ _ => rfl) hH hS (lv_sub hl [2, 3, 4, 5, 6] rfl) q
    · have q := (if_pos c8).mp q
      refine lv_aload_n hx hb dL_law_2265 rfl (lv_at hl 5 rfl) ?_
      refine lv_iconst (v := 0) hx hb dL_law_2266 (by decide) ?_
      obtain ⟨h9, q⟩ := q
      refine g_lald hx hb hK hH h9 dL_law_2267 ?_
      refine lv_iload hx hb dL_law_2268 (lv_at hl 0 rfl) ?_
      refine lv_i2l (v := r3.toInt64) hx hb dL_law_2270 rfl ?_
      refine W.lcmp hx hb dL_law_2271 ?_
      refine lv_if_eq (tgt := 2277) hx hb dL_law_2272 (by decide) (fun c10 => ?_) (fun c10 => ?_)
      · have q := (if_pos (lcmp_eq.mp c10)).mp q
        refine lv_goto (tgt := 2280) hx hb dL_law_2277 (by decide) ?_
        refine W.widen (k := cl + MCL) (n := sl + MSL) (by unfold MCL; omega) (by unfold MSL; omega) ?_
        exact hkk F6 ad _ _ _ (fun _ _ _ => rfl) hH hS (lv_sub hl [2, 3, 4, 5, 6] rfl) q
      · have q := (if_neg (fun z => c10 (lcmp_eq.mpr z))).mp q
        refine lv_iconst (v := 0) hx hb dL_law_2275 (by decide) ?_
        exact q.elim
  · have q := (if_neg c7).mp q
    refine lv_iconst (v := 0) hx hb dL_law_2258 (by decide) ?_
    exact q.elim
