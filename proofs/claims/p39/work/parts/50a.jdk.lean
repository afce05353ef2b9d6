abbrev rm_J6_compare_7cf53 : Room := { frames := 0, cells := 0, slots := 0, locals := 0 }
abbrev q_J6_compare_7cf53 (G : GP) (ad : Nat → Nat → Nat) (K : Int32 → GF → Prop) (below : List Frame) (args : Array Value) (s : State) : State → Prop := MQ below (gQi G ad K) args s 0 0 (gA G)
set_option maxHeartbeats 4000000 in
set_option maxRecDepth 100000 in
theorem c_J6_compare_7cf53 (l : Launch) (G : GP) (ad : Nat → Nat → Nat) (F : GF) (p0 : Int32) (p1 : Int32) (K : Int32 → GF → Prop) : Met l yJ6_compare_7cf53 wsJ6_compare_7cf53 rm_J6_compare_7cf53 (va_Pc [.int p0, .int p1] (fun U => gD G ad F U ∧ P_J6_compare_7cf53 F p0 p1 K)) (gQi G ad K) 0 0 (gA G) := by
  refine Met.ofW (cc := cJ6_compare_7cf53) (maxL := 2) (ret := (some .int)) (by decide) rfl ?_
  intro p e s m args below meth c s₁ Bd hml hv
  obtain ⟨rfl, ⟨hK, hG, hB, hH⟩, q⟩ := hv
  have hx := Bd.exec
  have hb := Bd.bytes
  have hr := Bd.returns
  have hts := atoms_spec (ws := wsJ6_compare_7cf53) Bd.pre
  have hown : s.vm.findClass RJ6 = some m.cls := findClass_of_methodNamed Bd.named
  have hlocks := Bd.notSynchronized
  have hS : va_S (gA G) s.heap s.heap [] := va_S.rf
  have hl := lv_entry [.int p0, .int p1] (n := 2) (Nat.le_of_ble_eq_true rfl)
  rw [lg_entry_eq]
  generalize (lg_sl [.int p0, .int p1] ++ List.replicate (2 - (lg_sl [.int p0, .int p1]).length) Slot.unset).toArray = ls at hl ⊢
  have hl : lv_has ls 2 [(0, .int p0), (1, .int p1)] := hl
  unfold P_J6_compare_7cf53 at q
  refine lv_iload_n hx hb dJ6_compare_7cf53_0 rfl (lv_at hl 0 rfl) ?_
  refine lv_iload_n hx hb dJ6_compare_7cf53_1 rfl (lv_at hl 1 rfl) ?_
  refine lv_icmp_ge (tgt := 9) hx hb dJ6_compare_7cf53_2 (by decide) (fun c1 => ?_) (fun c1 => ?_)
  · have q := (if_pos c1).mp q
    refine lv_iload_n hx hb dJ6_compare_7cf53_9 rfl (lv_at hl 0 rfl) ?_
    refine lv_iload_n hx hb dJ6_compare_7cf53_10 rfl (lv_at hl 1 rfl) ?_
    refine lv_icmp_ne (tgt := 18) hx hb dJ6_compare_7cf53_11 (by decide) (fun c2 => ?_) (fun c2 => ?_)
    · have q := (if_neg c2).mp q
      refine lv_iconst (v := 1) hx hb dJ6_compare_7cf53_18 (by decide) ?_
      exact (W.iret (v := 1) hx hb hr (fun t ht hW => ⟨⟨1, F, rfl, q, gH_at ht hH⟩, hS.F ht⟩) hS.2.2 dJ6_compare_7cf53_19)
    · have q := (if_pos c2).mp q
      refine lv_iconst (v := 0) hx hb dJ6_compare_7cf53_14 (by decide) ?_
      refine lv_goto (tgt := 19) hx hb dJ6_compare_7cf53_15 (by decide) ?_
      exact (W.iret (v := 0) hx hb hr (fun t ht hW => ⟨⟨0, F, rfl, q, gH_at ht hH⟩, hS.F ht⟩) hS.2.2 dJ6_compare_7cf53_19)
  · have q := (if_neg c1).mp q
    refine lv_iconst (v := (-1)) hx hb dJ6_compare_7cf53_5 (by decide) ?_
    refine lv_goto (tgt := 19) hx hb dJ6_compare_7cf53_6 (by decide) ?_
    exact (W.iret (v := (-1)) hx hb hr (fun t ht hW => ⟨⟨(-1), F, rfl, q, gH_at ht hH⟩, hS.F ht⟩) hS.2.2 dJ6_compare_7cf53_19)
abbrev rm_J6_stringSize_0f7a4 : Room := { frames := 0, cells := 0, slots := 0, locals := 0 }
abbrev q_J6_stringSize_0f7a4 (G : GP) (ad : Nat → Nat → Nat) (K : Int32 → GF → Prop) (below : List Frame) (args : Array Value) (s : State) : State → Prop := MQ below (gQi G ad K) args s 0 0 (gA G)
set_option maxHeartbeats 4000000 in
set_option maxRecDepth 100000 in
theorem c_J6_stringSize_0f7a4 (l : Launch) (G : GP) (ad : Nat → Nat → Nat) (F : GF) (p0 : Int32) (K : Int32 → GF → Prop) : Met l yJ6_stringSize_0f7a4 wsJ6_stringSize_0f7a4 rm_J6_stringSize_0f7a4 (va_Pc [.int p0] (fun U => gD G ad F U ∧ P_J6_stringSize_0f7a4 F p0 K)) (gQi G ad K) 0 0 (gA G) := by
  refine Met.ofW (cc := cJ6_stringSize_0f7a4) (maxL := 4) (ret := (some .int)) (by decide) rfl ?_
  intro p e s m args below meth c s₁ Bd hml hv
  obtain ⟨rfl, ⟨hK, hG, hB, hH⟩, q⟩ := hv
  have hx := Bd.exec
  have hb := Bd.bytes
  have hr := Bd.returns
  have hts := atoms_spec (ws := wsJ6_stringSize_0f7a4) Bd.pre
  have hown : s.vm.findClass RJ6 = some m.cls := findClass_of_methodNamed Bd.named
  have hlocks := Bd.notSynchronized
  have hS : va_S (gA G) s.heap s.heap [] := va_S.rf
  have hl := lv_entry [.int p0] (n := 4) (Nat.le_of_ble_eq_true rfl)
  rw [lg_entry_eq]
  generalize (lg_sl [.int p0] ++ List.replicate (4 - (lg_sl [.int p0]).length) Slot.unset).toArray = ls at hl ⊢
  have hl : lv_has ls 4 [(0, .int p0)] := hl
  show W p l e rm_J6_stringSize_0f7a4 s m ([.int p0] : List Value).toArray below meth c s.heap [] 0 0 (q_J6_stringSize_0f7a4 G ad K below ([.int p0] : List Value).toArray s) _
  have t_16 : ∀ n : Nat, ∀ (F : GF) (x0 : Int32) (x1 : Int32) (x2 : Int32) (x3 : Int32) (H : Heap) (locs : List Loc) (ls : Array Slot), gH G ad F H → va_S (gA G) s.heap H locs → lv_has ls 4 [(0, .int x0), (1, .int x1), (2, .int x2), (3, .int x3)] → (P_J6_stringSize_0f7a4_16 K n) F x0 x1 x2 x3 → W p l e rm_J6_stringSize_0f7a4 s m ([.int p0] : List Value).toArray below meth c H locs 0 0 (q_J6_stringSize_0f7a4 G ad K below ([.int p0] : List Value).toArray s) (F0 m 16 ls []) := by
    intro n
    induction n with
    | zero =>
      intro F x0 x1 x2 x3 H locs ls hH hS hl q
      exact False.elim q
    | succ n ih =>
      intro F x0 x1 x2 x3 H locs ls hH hS hl q
      rw [P_J6_stringSize_0f7a4_16] at q
      refine lv_iload_n hx hb dJ6_stringSize_0f7a4_16 rfl (lv_at hl 3 rfl) ?_
      refine lv_bipush (v := 10) hx hb dJ6_stringSize_0f7a4_17 (by decide) ?_
      refine lv_icmp_ge (tgt := 42) hx hb dJ6_stringSize_0f7a4_19 (by decide) (fun c2 => ?_) (fun c2 => ?_)
      · have q := (if_pos c2).mp q
        refine lv_bipush (v := 10) hx hb dJ6_stringSize_0f7a4_42 (by decide) ?_
        refine lv_iload_n hx hb dJ6_stringSize_0f7a4_44 rfl (lv_at hl 1 rfl) ?_
        refine lv_iadd hx hb dJ6_stringSize_0f7a4_45 ?_
        exact (W.iret (v := (10 + x1)) hx hb hr (fun t ht hW => ⟨⟨(10 + x1), F, rfl, q, gH_at ht hH⟩, hS.F ht⟩) hS.2.2 dJ6_stringSize_0f7a4_46)
      · have q := (if_neg c2).mp q
        refine lv_iload_n hx hb dJ6_stringSize_0f7a4_22 rfl (lv_at hl 0 rfl) ?_
        refine lv_iload_n hx hb dJ6_stringSize_0f7a4_23 rfl (lv_at hl 2 rfl) ?_
        refine lv_icmp_le (tgt := 31) hx hb dJ6_stringSize_0f7a4_24 (by decide) (fun c3 => ?_) (fun c3 => ?_)
        · have q := (if_pos c3).mp q
          refine lv_bipush (v := 10) hx hb dJ6_stringSize_0f7a4_31 (by decide) ?_
          refine lv_iload_n hx hb dJ6_stringSize_0f7a4_33 rfl (lv_at hl 2 rfl) ?_
          refine lv_imul hx hb dJ6_stringSize_0f7a4_34 ?_
          refine lv_istore_n (lv' := [(2, .int (10 * x2)), (0, .int x0), (1, .int x1), (3, .int x3)]) hx hb dJ6_stringSize_0f7a4_35 rfl hl (by decide) rfl (fun ls hl => ?_)
          refine lv_iinc (v := x3 + 1) (lv' := [(3, .int (x3 + 1)), (2, .int (10 * x2)), (0, .int x0), (1, .int x1)]) hx hb dJ6_stringSize_0f7a4_36 hl (k := 3) rfl rfl (by decide) rfl (fun ls hl => ?_)
          refine lv_goto (tgt := 16) hx hb dJ6_stringSize_0f7a4_39 (by decide) ?_
          exact ih F x0 x1 (10 * x2) (x3 + 1) _ _ _ hH hS (lv_sub hl [2, 3, 1, 0] rfl) q
        · have q := (if_neg c3).mp q
          refine lv_iload_n hx hb dJ6_stringSize_0f7a4_27 rfl (lv_at hl 3 rfl) ?_
          refine lv_iload_n hx hb dJ6_stringSize_0f7a4_28 rfl (lv_at hl 1 rfl) ?_
          refine lv_iadd hx hb dJ6_stringSize_0f7a4_29 ?_
          exact (W.iret (v := (x3 + x1)) hx hb hr (fun t ht hW => ⟨⟨(x3 + x1), F, rfl, q, gH_at ht hH⟩, hS.F ht⟩) hS.2.2 dJ6_stringSize_0f7a4_30)
  have t_11 : ∀ (F : GF) (x0 : Int32) (x1 : Int32) (H : Heap) (locs : List Loc) (ls : Array Slot), gH G ad F H → va_S (gA G) s.heap H locs → lv_has ls 4 [(0, .int x0), (1, .int x1)] → (P_J6_stringSize_0f7a4_11 K) F x0 x1 → W p l e rm_J6_stringSize_0f7a4 s m ([.int p0] : List Value).toArray below meth c H locs 0 0 (q_J6_stringSize_0f7a4 G ad K below ([.int p0] : List Value).toArray s) (F0 m 11 ls []) := by
    intro F x0 x1 H locs ls hH hS hl q
    unfold P_J6_stringSize_0f7a4_11 at q
    refine lv_bipush (v := (-10)) hx hb dJ6_stringSize_0f7a4_11 (by decide) ?_
    refine lv_istore_n (lv' := [(2, .int (-10)), (0, .int x0), (1, .int x1)]) hx hb dJ6_stringSize_0f7a4_13 rfl hl (by decide) rfl (fun ls hl => ?_)
    refine lv_iconst (v := 1) hx hb dJ6_stringSize_0f7a4_14 (by decide) ?_
    refine lv_istore_n (lv' := [(3, .int 1), (2, .int (-10)), (0, .int x0), (1, .int x1)]) hx hb dJ6_stringSize_0f7a4_15 rfl hl (by decide) rfl (fun ls hl => ?_)
    obtain ⟨nn, q⟩ := q
    exact t_16 nn F x0 x1 (-10) 1 _ _ _ hH hS (lv_sub hl [2, 3, 1, 0] rfl) q
  unfold P_J6_stringSize_0f7a4 at q
  refine lv_iconst (v := 1) hx hb dJ6_stringSize_0f7a4_0 (by decide) ?_
  refine lv_istore_n (lv' := [(1, .int 1), (0, .int p0)]) hx hb dJ6_stringSize_0f7a4_1 rfl hl (by decide) rfl (fun ls hl => ?_)
  refine lv_iload_n hx hb dJ6_stringSize_0f7a4_2 rfl (lv_at hl 1 rfl) ?_
  refine lv_if_lt (tgt := 11) hx hb dJ6_stringSize_0f7a4_3 (by decide) (fun c1 => ?_) (fun c1 => ?_)
  · have q := (if_pos c1).mp q
    exact t_11 F p0 1 _ _ _ hH hS (lv_sub hl [1, 0] rfl) q
  · have q := (if_neg c1).mp q
    refine lv_iconst (v := 0) hx hb dJ6_stringSize_0f7a4_6 (by decide) ?_
    refine lv_istore_n (lv' := [(1, .int 0), (0, .int p0)]) hx hb dJ6_stringSize_0f7a4_7 rfl hl (by decide) rfl (fun ls hl => ?_)
    refine lv_iload_n hx hb dJ6_stringSize_0f7a4_8 rfl (lv_at hl 1 rfl) ?_
    refine lv_ineg hx hb dJ6_stringSize_0f7a4_9 ?_
    refine lv_istore_n (lv' := [(0, .int (-p0)), (1, .int 0)]) hx hb dJ6_stringSize_0f7a4_10 rfl hl (by decide) rfl (fun ls hl => ?_)
    exact t_11 F (-p0) 0 _ _ _ hH hS (lv_sub hl [0, 1] rfl) q
abbrev rm_J6_getChars_ba4f3 : Room := { frames := 0, cells := 0, slots := 0, locals := 0 }
abbrev q_J6_getChars_ba4f3 (G : GP) (ad : Nat → Nat → Nat) (K : Int32 → GF → Prop) (below : List Frame) (args : Array Value) (s : State) : State → Prop := MQ below (gQi G ad K) args s 0 0 (gA G)
set_option maxHeartbeats 4000000 in
set_option maxRecDepth 100000 in
theorem c_J6_getChars_ba4f3 (l : Launch) (G : GP) (ad : Nat → Nat → Nat) (F : GF) (p0 : Int32) (p1 : Int32) (K : Int32 → GF → Prop) : Met l yJ6_getChars_ba4f3 wsJ6_getChars_ba4f3 rm_J6_getChars_ba4f3 (va_Pc [.int p0, .int p1, .ref (ad 26 0)] (fun U => gD G ad F U ∧ P_J6_getChars_ba4f3 F p0 p1 K)) (gQi G ad K) 0 0 (gA G) := by
  refine Met.ofW (cc := cJ6_getChars_ba4f3) (maxL := 7) (ret := (some .int)) (by decide) rfl ?_
  intro p e s m args below meth c s₁ Bd hml hv
  obtain ⟨rfl, ⟨hK, hG, hB, hH⟩, q⟩ := hv
  have hx := Bd.exec
  have hb := Bd.bytes
  have hr := Bd.returns
  have hts := atoms_spec (ws := wsJ6_getChars_ba4f3) Bd.pre
  have hown : s.vm.findClass RJ6 = some m.cls := findClass_of_methodNamed Bd.named
  have hlocks := Bd.notSynchronized
  have hS : va_S (gA G) s.heap s.heap [] := va_S.rf
  have hl := lv_entry [.int p0, .int p1, .ref (ad 26 0)] (n := 7) (Nat.le_of_ble_eq_true rfl)
  rw [lg_entry_eq]
  generalize (lg_sl [.int p0, .int p1, .ref (ad 26 0)] ++ List.replicate (7 - (lg_sl [.int p0, .int p1, .ref (ad 26 0)]).length) Slot.unset).toArray = ls at hl ⊢
  have hl : lv_has ls 7 [(0, .int p0), (1, .int p1), (2, .ref (ad 26 0))] := hl
  show W p l e rm_J6_getChars_ba4f3 s m ([.int p0, .int p1, .ref (ad 26 0)] : List Value).toArray below meth c s.heap [] 0 0 (q_J6_getChars_ba4f3 G ad K below ([.int p0, .int p1, .ref (ad 26 0)] : List Value).toArray s) _
  have t_104 : ∀ (F : GF) (x5 : Int32) (x6 : Int32) (H : Heap) (locs : List Loc) (ls : Array Slot), gH G ad F H → va_S (gA G) s.heap H locs → lv_has ls 7 [(2, .ref (ad 26 0)), (5, .int x5), (6, .int x6)] → (P_J6_getChars_ba4f3_104 K) F x5 x6 → W p l e rm_J6_getChars_ba4f3 s m ([.int p0, .int p1, .ref (ad 26 0)] : List Value).toArray below meth c H locs 0 0 (q_J6_getChars_ba4f3 G ad K below ([.int p0, .int p1, .ref (ad 26 0)] : List Value).toArray s) (F0 m 104 ls []) := by
    intro F x5 x6 H locs ls hH hS hl q
    unfold P_J6_getChars_ba4f3_104 at q
    refine lv_iload hx hb dJ6_getChars_ba4f3_104 (lv_at hl 2 rfl) ?_
    refine lv_if_eq (tgt := 118) hx hb dJ6_getChars_ba4f3_106 (by decide) (fun c9 => ?_) (fun c9 => ?_)
    · have q := (if_pos c9).mp q
      refine lv_iload hx hb dJ6_getChars_ba4f3_118 (lv_at hl 1 rfl) ?_
      exact (W.iret (v := x5) hx hb hr (fun t ht hW => ⟨⟨x5, F, rfl, q, gH_at ht hH⟩, hS.F ht⟩) hS.2.2 dJ6_getChars_ba4f3_120)
    · have q := (if_neg c9).mp q
      refine lv_aload_n hx hb dJ6_getChars_ba4f3_109 rfl (lv_at hl 0 rfl) ?_
      refine lv_iinc (v := x5 + (-1)) (lv' := [(5, .int (x5 + (-1))), (2, .ref (ad 26 0)), (6, .int x6)]) hx hb dJ6_getChars_ba4f3_110 hl (k := 1) rfl rfl (by decide) rfl (fun ls hl => ?_)
      refine lv_iload hx hb dJ6_getChars_ba4f3_113 (lv_at hl 0 rfl) ?_
      refine lv_bipush (v := 45) hx hb dJ6_getChars_ba4f3_115 (by decide) ?_
      obtain ⟨h10, q⟩ := q
      refine g_bast hx hb hK hH hS 26 0 (by decide) Nat.zero_lt_one (by decide) 16 (fun _ => rfl) h10 dJ6_getChars_ba4f3_117 (fun H locs hH hS => ?_)
      obtain ⟨F11, eF11⟩ : ∃ z, z = fs F 26 0 (x5 + (-1)).toNatClampNeg (vp_nar .byte 45) := ⟨_, rfl⟩
      have q := q F11 eF11
      rw [← eF11] at hH
      refine lv_iload hx hb dJ6_getChars_ba4f3_118 (lv_at hl 0 rfl) ?_
      exact (W.iret (v := (x5 + (-1))) hx hb hr (fun t ht hW => ⟨⟨(x5 + (-1)), F11, rfl, q, gH_at ht hH⟩, hS.F ht⟩) hS.2.2 dJ6_getChars_ba4f3_120)
  have t_22 : ∀ n : Nat, ∀ (F : GF) (x0 : Int32) (x5 : Int32) (x6 : Int32) (H : Heap) (locs : List Loc) (ls : Array Slot), gH G ad F H → va_S (gA G) s.heap H locs → lv_has ls 7 [(0, .int x0), (2, .ref (ad 26 0)), (5, .int x5), (6, .int x6)] → (P_J6_getChars_ba4f3_22 K n) F x0 x5 x6 → W p l e rm_J6_getChars_ba4f3 s m ([.int p0, .int p1, .ref (ad 26 0)] : List Value).toArray below meth c H locs 0 0 (q_J6_getChars_ba4f3 G ad K below ([.int p0, .int p1, .ref (ad 26 0)] : List Value).toArray s) (F0 m 22 ls []) := by
    intro n
    induction n with
    | zero =>
      intro F x0 x5 x6 H locs ls hH hS hl q
      exact False.elim q
    | succ n ih =>
      intro F x0 x5 x6 H locs ls hH hS hl q
      rw [P_J6_getChars_ba4f3_22] at q
      refine lv_iload_n hx hb dJ6_getChars_ba4f3_22 rfl (lv_at hl 0 rfl) ?_
      refine lv_bipush (v := (-100)) hx hb dJ6_getChars_ba4f3_23 (by decide) ?_
      refine lv_icmp_gt (tgt := 72) hx hb dJ6_getChars_ba4f3_25 (by decide) (fun c3 => ?_) (fun c3 => ?_)
      · have q := (if_pos c3).mp q
        refine lv_aload_n hx hb dJ6_getChars_ba4f3_72 rfl (lv_at hl 1 rfl) ?_
        refine lv_iinc (v := x5 + (-1)) (lv' := [(5, .int (x5 + (-1))), (0, .int x0), (2, .ref (ad 26 0)), (6, .int x6)]) hx hb dJ6_getChars_ba4f3_73 hl (k := 2) rfl rfl (by decide) rfl (fun ls hl => ?_)
        refine lv_iload hx hb dJ6_getChars_ba4f3_76 (lv_at hl 0 rfl) ?_
        obtain ⟨t4, hzt4, htt4⟩ := hG.2.2.2.2.2.2.2.2.2
        refine va_gets hx hb hzt4 hS hown (hts (.fieldLink RJ6 83 "java/lang/Integer" "DigitOnes" "[B") (List.mem_of_getElem? (i := 1) rfl)) (fun _ h => h) dJ6_getChars_ba4f3_78 ?_
        refine lv_iload_n hx hb dJ6_getChars_ba4f3_81 rfl (lv_at hl 1 rfl) ?_
        refine lv_ineg hx hb dJ6_getChars_ba4f3_82 ?_
        obtain ⟨h5, q⟩ := q
        refine va_tb (v := .int (nI (48 + (-x0).toNatClampNeg % 10))) hx hb htt4 hS h5 rfl dJ6_getChars_ba4f3_83 ?_
        obtain ⟨h6, q⟩ := q
        refine g_bast hx hb hK hH hS 26 0 (by decide) Nat.zero_lt_one (by decide) 16 (fun _ => rfl) h6 dJ6_getChars_ba4f3_84 (fun H locs hH hS => ?_)
        obtain ⟨F7, eF7⟩ : ∃ z, z = fs F 26 0 (x5 + (-1)).toNatClampNeg (vp_nar .byte (nI (48 + (-x0).toNatClampNeg % 10))) := ⟨_, rfl⟩
        have q := q F7 eF7
        rw [← eF7] at hH
        refine lv_iload_n hx hb dJ6_getChars_ba4f3_85 rfl (lv_at hl 1 rfl) ?_
        refine lv_bipush (v := (-9)) hx hb dJ6_getChars_ba4f3_86 (by decide) ?_
        refine lv_icmp_ge (tgt := 104) hx hb dJ6_getChars_ba4f3_88 (by decide) (fun c8 => ?_) (fun c8 => ?_)
        · have q := (if_pos c8).mp q
          exact t_104 F7 (x5 + (-1)) x6 _ _ _ hH hS (lv_sub hl [2, 0, 3] rfl) q
        · have q := (if_neg c8).mp q
          refine lv_aload_n hx hb dJ6_getChars_ba4f3_91 rfl (lv_at hl 2 rfl) ?_
          refine lv_iinc (v := (x5 + (-1)) + (-1)) (lv' := [(5, .int ((x5 + (-1)) + (-1))), (0, .int x0), (2, .ref (ad 26 0)), (6, .int x6)]) hx hb dJ6_getChars_ba4f3_92 hl (k := 0) rfl rfl (by decide) rfl (fun ls hl => ?_)
          refine lv_iload hx hb dJ6_getChars_ba4f3_95 (lv_at hl 0 rfl) ?_
          obtain ⟨t12, hzt12, htt12⟩ := hG.2.2.2.2.2.2.2.2.1
          refine va_gets hx hb hzt12 hS hown (hts (.fieldLink RJ6 87 "java/lang/Integer" "DigitTens" "[B") (List.mem_of_getElem? (i := 2) rfl)) (fun _ h => h) dJ6_getChars_ba4f3_97 ?_
          refine lv_iload_n hx hb dJ6_getChars_ba4f3_100 rfl (lv_at hl 1 rfl) ?_
          refine lv_ineg hx hb dJ6_getChars_ba4f3_101 ?_
          obtain ⟨h13, q⟩ := q
          refine va_tb (v := .int (nI (48 + (-x0).toNatClampNeg / 10))) hx hb htt12 hS h13 rfl dJ6_getChars_ba4f3_102 ?_
          obtain ⟨h14, q⟩ := q
          refine g_bast hx hb hK hH hS 26 0 (by decide) Nat.zero_lt_one (by decide) 16 (fun _ => rfl) h14 dJ6_getChars_ba4f3_103 (fun H locs hH hS => ?_)
          obtain ⟨F15, eF15⟩ : ∃ z, z = fs F7 26 0 ((x5 + (-1)) + (-1)).toNatClampNeg (vp_nar .byte (nI (48 + (-x0).toNatClampNeg / 10))) := ⟨_, rfl⟩
          have q := q F15 eF15
          rw [← eF15] at hH
          exact t_104 F15 ((x5 + (-1)) + (-1)) x6 _ _ _ hH hS (lv_sub hl [2, 0, 3] rfl) q
      · have q := (if_neg c3).mp q
        refine lv_iload_n hx hb dJ6_getChars_ba4f3_28 rfl (lv_at hl 0 rfl) ?_
        refine lv_bipush (v := 100) hx hb dJ6_getChars_ba4f3_29 (by decide) ?_
        refine lv_idiv hx hb dJ6_getChars_ba4f3_31 (by decide) ?_
        refine lv_istore_n (lv' := [(3, .int (x0 / 100)), (0, .int x0), (2, .ref (ad 26 0)), (5, .int x5), (6, .int x6)]) hx hb dJ6_getChars_ba4f3_32 rfl hl (by decide) rfl (fun ls hl => ?_)
        refine lv_iload_n hx hb dJ6_getChars_ba4f3_33 rfl (lv_at hl 0 rfl) ?_
        refine lv_bipush (v := 100) hx hb dJ6_getChars_ba4f3_34 (by decide) ?_
        refine lv_imul hx hb dJ6_getChars_ba4f3_36 ?_
        refine lv_iload_n hx hb dJ6_getChars_ba4f3_37 rfl (lv_at hl 1 rfl) ?_
        refine lv_isub hx hb dJ6_getChars_ba4f3_38 ?_
        refine lv_istore (lv' := [(4, .int (((x0 / 100) * 100) - x0)), (3, .int (x0 / 100)), (0, .int x0), (2, .ref (ad 26 0)), (5, .int x5), (6, .int x6)]) hx hb dJ6_getChars_ba4f3_39 hl (by decide) rfl (fun ls hl => ?_)
        refine lv_iload_n hx hb dJ6_getChars_ba4f3_41 rfl (lv_at hl 1 rfl) ?_
        refine lv_istore_n (lv' := [(0, .int (x0 / 100)), (4, .int (((x0 / 100) * 100) - x0)), (3, .int (x0 / 100)), (2, .ref (ad 26 0)), (5, .int x5), (6, .int x6)]) hx hb dJ6_getChars_ba4f3_42 rfl hl (by decide) rfl (fun ls hl => ?_)
        refine lv_aload_n hx hb dJ6_getChars_ba4f3_43 rfl (lv_at hl 3 rfl) ?_
        refine lv_iinc (v := x5 + (-1)) (lv' := [(5, .int (x5 + (-1))), (0, .int (x0 / 100)), (4, .int (((x0 / 100) * 100) - x0)), (3, .int (x0 / 100)), (2, .ref (ad 26 0)), (6, .int x6)]) hx hb dJ6_getChars_ba4f3_44 hl (k := 4) rfl rfl (by decide) rfl (fun ls hl => ?_)
        refine lv_iload hx hb dJ6_getChars_ba4f3_47 (lv_at hl 0 rfl) ?_
        obtain ⟨t16, hzt16, htt16⟩ := hG.2.2.2.2.2.2.2.2.2
        refine va_gets hx hb hzt16 hS hown (hts (.fieldLink RJ6 83 "java/lang/Integer" "DigitOnes" "[B") (List.mem_of_getElem? (i := 1) rfl)) (fun _ h => h) dJ6_getChars_ba4f3_49 ?_
        refine lv_iload hx hb dJ6_getChars_ba4f3_52 (lv_at hl 2 rfl) ?_
        obtain ⟨h17, q⟩ := q
        refine va_tb (v := .int (nI (48 + (((x0 / 100) * 100) - x0).toNatClampNeg % 10))) hx hb htt16 hS h17 rfl dJ6_getChars_ba4f3_54 ?_
        obtain ⟨h18, q⟩ := q
        refine g_bast hx hb hK hH hS 26 0 (by decide) Nat.zero_lt_one (by decide) 16 (fun _ => rfl) h18 dJ6_getChars_ba4f3_55 (fun H locs hH hS => ?_)
        obtain ⟨F19, eF19⟩ : ∃ z, z = fs F 26 0 (x5 + (-1)).toNatClampNeg (vp_nar .byte (nI (48 + (((x0 / 100) * 100) - x0).toNatClampNeg % 10))) := ⟨_, rfl⟩
        have q := q F19 eF19
        rw [← eF19] at hH
        refine lv_aload_n hx hb dJ6_getChars_ba4f3_56 rfl (lv_at hl 4 rfl) ?_
        refine lv_iinc (v := (x5 + (-1)) + (-1)) (lv' := [(5, .int ((x5 + (-1)) + (-1))), (0, .int (x0 / 100)), (4, .int (((x0 / 100) * 100) - x0)), (3, .int (x0 / 100)), (2, .ref (ad 26 0)), (6, .int x6)]) hx hb dJ6_getChars_ba4f3_57 hl (k := 0) rfl rfl (by decide) rfl (fun ls hl => ?_)
        refine lv_iload hx hb dJ6_getChars_ba4f3_60 (lv_at hl 0 rfl) ?_
        obtain ⟨t20, hzt20, htt20⟩ := hG.2.2.2.2.2.2.2.2.1
        refine va_gets hx hb hzt20 hS hown (hts (.fieldLink RJ6 87 "java/lang/Integer" "DigitTens" "[B") (List.mem_of_getElem? (i := 2) rfl)) (fun _ h => h) dJ6_getChars_ba4f3_62 ?_
        refine lv_iload hx hb dJ6_getChars_ba4f3_65 (lv_at hl 2 rfl) ?_
        obtain ⟨h21, q⟩ := q
        refine va_tb (v := .int (nI (48 + (((x0 / 100) * 100) - x0).toNatClampNeg / 10))) hx hb htt20 hS h21 rfl dJ6_getChars_ba4f3_67 ?_
        obtain ⟨h22, q⟩ := q
        refine g_bast hx hb hK hH hS 26 0 (by decide) Nat.zero_lt_one (by decide) 16 (fun _ => rfl) h22 dJ6_getChars_ba4f3_68 (fun H locs hH hS => ?_)
        obtain ⟨F23, eF23⟩ : ∃ z, z = fs F19 26 0 ((x5 + (-1)) + (-1)).toNatClampNeg (vp_nar .byte (nI (48 + (((x0 / 100) * 100) - x0).toNatClampNeg / 10))) := ⟨_, rfl⟩
        have q := q F23 eF23
        rw [← eF23] at hH
        refine lv_goto (tgt := 22) hx hb dJ6_getChars_ba4f3_69 (by decide) ?_
        exact ih F23 (x0 / 100) ((x5 + (-1)) + (-1)) x6 _ _ _ hH hS (lv_sub hl [1, 4, 0, 5] rfl) q
  have t_12 : ∀ (F : GF) (x0 : Int32) (x5 : Int32) (s0 : Int32) (H : Heap) (locs : List Loc) (ls : Array Slot), gH G ad F H → va_S (gA G) s.heap H locs → lv_has ls 7 [(0, .int x0), (2, .ref (ad 26 0)), (5, .int x5)] → (P_J6_getChars_ba4f3_12 K) F x0 x5 s0 → W p l e rm_J6_getChars_ba4f3 s m ([.int p0, .int p1, .ref (ad 26 0)] : List Value).toArray below meth c H locs 0 0 (q_J6_getChars_ba4f3 G ad K below ([.int p0, .int p1, .ref (ad 26 0)] : List Value).toArray s) (F0 m 12 ls [.int s0]) := by
    intro F x0 x5 s0 H locs ls hH hS hl q
    unfold P_J6_getChars_ba4f3_12 at q
    refine lv_istore (lv' := [(6, .int s0), (0, .int x0), (2, .ref (ad 26 0)), (5, .int x5)]) hx hb dJ6_getChars_ba4f3_12 hl (by decide) rfl (fun ls hl => ?_)
    refine lv_iload hx hb dJ6_getChars_ba4f3_14 (lv_at hl 0 rfl) ?_
    refine lv_if_ne (tgt := 22) hx hb dJ6_getChars_ba4f3_16 (by decide) (fun c2 => ?_) (fun c2 => ?_)
    · have q := (if_neg c2).mp q
      obtain ⟨nn, q⟩ := q
      exact t_22 nn F x0 x5 s0 _ _ _ hH hS (lv_sub hl [1, 2, 3, 0] rfl) q
    · have q := (if_pos c2).mp q
      refine lv_iload_n hx hb dJ6_getChars_ba4f3_19 rfl (lv_at hl 1 rfl) ?_
      refine lv_ineg hx hb dJ6_getChars_ba4f3_20 ?_
      refine lv_istore_n (lv' := [(0, .int (-x0)), (6, .int s0), (2, .ref (ad 26 0)), (5, .int x5)]) hx hb dJ6_getChars_ba4f3_21 rfl hl (by decide) rfl (fun ls hl => ?_)
      obtain ⟨nn, q⟩ := q
      exact t_22 nn F (-x0) x5 s0 _ _ _ hH hS (lv_sub hl [0, 2, 3, 1] rfl) q
  unfold P_J6_getChars_ba4f3 at q
  refine lv_iload_n hx hb dJ6_getChars_ba4f3_0 rfl (lv_at hl 1 rfl) ?_
  refine lv_istore (lv' := [(5, .int p1), (0, .int p0), (1, .int p1), (2, .ref (ad 26 0))]) hx hb dJ6_getChars_ba4f3_1 hl (by decide) rfl (fun ls hl => ?_)
  refine lv_iload_n hx hb dJ6_getChars_ba4f3_3 rfl (lv_at hl 1 rfl) ?_
  refine lv_if_ge (tgt := 11) hx hb dJ6_getChars_ba4f3_4 (by decide) (fun c1 => ?_) (fun c1 => ?_)
  · have q := (if_pos c1).mp q
    refine lv_iconst (v := 0) hx hb dJ6_getChars_ba4f3_11 (by decide) ?_
    exact t_12 F p0 p1 0 _ _ _ hH hS (lv_sub hl [1, 3, 0] rfl) q
  · have q := (if_neg c1).mp q
    refine lv_iconst (v := 1) hx hb dJ6_getChars_ba4f3_7 (by decide) ?_
    refine lv_goto (tgt := 12) hx hb dJ6_getChars_ba4f3_8 (by decide) ?_
    exact t_12 F p0 p1 1 _ _ _ hH hS (lv_sub hl [1, 3, 0] rfl) q
abbrev rm_J1_canEncode_fc78d : Room := { frames := 0, cells := 0, slots := 0, locals := 0 }
abbrev q_J1_canEncode_fc78d (G : GP) (ad : Nat → Nat → Nat) (K : Int32 → GF → Prop) (below : List Frame) (args : Array Value) (s : State) : State → Prop := MQ below (gQi G ad K) args s 0 0 (gA G)
set_option maxHeartbeats 4000000 in
set_option maxRecDepth 100000 in
theorem c_J1_canEncode_fc78d (l : Launch) (G : GP) (ad : Nat → Nat → Nat) (F : GF) (p0 : Int32) (K : Int32 → GF → Prop) : Met l yJ1_canEncode_fc78d wsJ1_canEncode_fc78d rm_J1_canEncode_fc78d (va_Pc [.int p0] (fun U => gD G ad F U ∧ P_J1_canEncode_fc78d F p0 K)) (gQi G ad K) 0 0 (gA G) := by
  refine Met.ofW (cc := cJ1_canEncode_fc78d) (maxL := 1) (ret := (some .boolean)) (by decide) rfl ?_
  intro p e s m args below meth c s₁ Bd hml hv
  obtain ⟨rfl, ⟨hK, hG, hB, hH⟩, q⟩ := hv
  have hx := Bd.exec
  have hb := Bd.bytes
  have hr := Bd.returns
  have hts := atoms_spec (ws := wsJ1_canEncode_fc78d) Bd.pre
  have hown : s.vm.findClass RJ1 = some m.cls := findClass_of_methodNamed Bd.named
  have hlocks := Bd.notSynchronized
  have hS : va_S (gA G) s.heap s.heap [] := va_S.rf
  have hl := lv_entry [.int p0] (n := 1) (Nat.le_of_ble_eq_true rfl)
  rw [lg_entry_eq]
  generalize (lg_sl [.int p0] ++ List.replicate (1 - (lg_sl [.int p0]).length) Slot.unset).toArray = ls at hl ⊢
  have hl : lv_has ls 1 [(0, .int p0)] := hl
  unfold P_J1_canEncode_fc78d at q
  refine lv_iload_n hx hb dJ1_canEncode_fc78d_0 rfl (lv_at hl 0 rfl) ?_
  refine lv_sipush (v := 255) hx hb dJ1_canEncode_fc78d_1 (by decide) ?_
  refine lv_icmp_gt (tgt := 11) hx hb dJ1_canEncode_fc78d_4 (by decide) (fun c1 => ?_) (fun c1 => ?_)
  · have q := (if_pos c1).mp q
    refine lv_iconst (v := 0) hx hb dJ1_canEncode_fc78d_11 (by decide) ?_
    exact (W.zret (v := 0) hx hb hr rfl (fun t ht hW => ⟨⟨0, F, rfl, q, gH_at ht hH⟩, hS.F ht⟩) hS.2.2 dJ1_canEncode_fc78d_12)
  · have q := (if_neg c1).mp q
    refine lv_iconst (v := 1) hx hb dJ1_canEncode_fc78d_7 (by decide) ?_
    refine lv_goto (tgt := 12) hx hb dJ1_canEncode_fc78d_8 (by decide) ?_
    exact (W.zret (v := 1) hx hb hr rfl (fun t ht hW => ⟨⟨1, F, rfl, q, gH_at ht hH⟩, hS.F ht⟩) hS.2.2 dJ1_canEncode_fc78d_12)
abbrev rm_J5_isLatin1_aae02 : Room := { frames := 0, cells := 0, slots := 0, locals := 0 }
abbrev q_J5_isLatin1_aae02 (G : GP) (ad : Nat → Nat → Nat) (K : Int32 → GF → Prop) (below : List Frame) (args : Array Value) (s : State) : State → Prop := MQ below (gQi G ad K) args s 0 0 (gA G)
set_option maxHeartbeats 4000000 in
set_option maxRecDepth 100000 in
theorem c_J5_isLatin1_aae02 (l : Launch) (G : GP) (ad : Nat → Nat → Nat) (F : GF) (K : Int32 → GF → Prop) : Met l yJ5_isLatin1_aae02 wsJ5_isLatin1_aae02 rm_J5_isLatin1_aae02 (va_Pc [.ref (ad 25 0)] (fun U => gD G ad F U ∧ P_J5_isLatin1_aae02 F K)) (gQi G ad K) 0 0 (gA G) := by
  refine Met.ofW (cc := cJ5_isLatin1_aae02) (maxL := 1) (ret := (some .boolean)) (by decide) rfl ?_
  intro p e s m args below meth c s₁ Bd hml hv
  obtain ⟨rfl, ⟨hK, hG, hB, hH⟩, q⟩ := hv
  have hx := Bd.exec
  have hb := Bd.bytes
  have hr := Bd.returns
  have hts := atoms_spec (ws := wsJ5_isLatin1_aae02) Bd.pre
  have hown : s.vm.findClass RJ5 = some m.cls := findClass_of_methodNamed Bd.named
  have hlocks := Bd.notSynchronized
  have hS : va_S (gA G) s.heap s.heap [] := va_S.rf
  have hl := lv_entry [.ref (ad 25 0)] (n := 1) (Nat.le_of_ble_eq_true rfl)
  rw [lg_entry_eq]
  generalize (lg_sl [.ref (ad 25 0)] ++ List.replicate (1 - (lg_sl [.ref (ad 25 0)]).length) Slot.unset).toArray = ls at hl ⊢
  have hl : lv_has ls 1 [(0, .ref (ad 25 0))] := hl
  unfold P_J5_isLatin1_aae02 at q
  refine va_gets hx hb hG.2.2.2.2.2.2.1 hS hown (hts (.fieldLink RJ5 18 "java/lang/String" "COMPACT_STRINGS" "Z") (List.mem_of_getElem? (i := 1) rfl)) (fun _ h => h) dJ5_isLatin1_aae02_0 ?_
  refine lv_if_eq (tgt := 17) hx hb dJ5_isLatin1_aae02_3 (by decide) (fun c1 => ?_) (fun c1 => ?_)
  · have q := (if_pos c1).mp q
    refine lv_iconst (v := 0) hx hb dJ5_isLatin1_aae02_17 (by decide) ?_
    exact (W.zret (v := 0) hx hb hr rfl (fun t ht hW => ⟨⟨0, F, rfl, q, gH_at ht hH⟩, hS.F ht⟩) hS.2.2 dJ5_isLatin1_aae02_18)
  · have q := (if_neg c1).mp q
    refine lv_aload_n hx hb dJ5_isLatin1_aae02_6 rfl (lv_at hl 0 rfl) ?_
    refine g_get (ci := 1) (v := .int (F 25 0 1)) (C := RJ4) (T := TJ4) (N := 4) hx hb hts (fun _ h => (List.mem_cons_of_mem _ (List.mem_append_right _ h))) hown hK hH 25 0 (by decide) Nat.zero_lt_one rfl rfl 1 (by decide) (hts (.fieldLink RJ5 22 "java/lang/AbstractStringBuilder" "coder" "B") (List.mem_of_getElem? (i := 2) rfl)) (fun _ h => h) rfl dJ5_isLatin1_aae02_7 ?_
    refine lv_if_ne (tgt := 17) hx hb dJ5_isLatin1_aae02_10 (by decide) (fun c2 => ?_) (fun c2 => ?_)
    · have q := (if_neg c2).mp q
      refine lv_iconst (v := 0) hx hb dJ5_isLatin1_aae02_17 (by decide) ?_
      exact (W.zret (v := 0) hx hb hr rfl (fun t ht hW => ⟨⟨0, F, rfl, q, gH_at ht hH⟩, hS.F ht⟩) hS.2.2 dJ5_isLatin1_aae02_18)
    · have q := (if_pos c2).mp q
      refine lv_iconst (v := 1) hx hb dJ5_isLatin1_aae02_13 (by decide) ?_
      refine lv_goto (tgt := 18) hx hb dJ5_isLatin1_aae02_14 (by decide) ?_
      exact (W.zret (v := 1) hx hb hr rfl (fun t ht hW => ⟨⟨1, F, rfl, q, gH_at ht hH⟩, hS.F ht⟩) hS.2.2 dJ5_isLatin1_aae02_18)
abbrev rm_J5_ensureCapacityInternal_d00df : Room := { frames := 0, cells := 0, slots := 0, locals := 0 }
abbrev q_J5_ensureCapacityInternal_d00df (G : GP) (ad : Nat → Nat → Nat) (K : GF → Prop) (below : List Frame) (args : Array Value) (s : State) : State → Prop := MQ below (gQv G ad K) args s 0 0 (gA G)
set_option maxHeartbeats 4000000 in
set_option maxRecDepth 100000 in
theorem c_J5_ensureCapacityInternal_d00df (l : Launch) (G : GP) (ad : Nat → Nat → Nat) (F : GF) (p1 : Int32) (K : GF → Prop) : Met l yJ5_ensureCapacityInternal_d00df wsJ5_ensureCapacityInternal_d00df rm_J5_ensureCapacityInternal_d00df (va_Pc [.ref (ad 25 0), .int p1] (fun U => gD G ad F U ∧ P_J5_ensureCapacityInternal_d00df F p1 K)) (gQv G ad K) 0 0 (gA G) := by
  refine Met.ofW (cc := cJ5_ensureCapacityInternal_d00df) (maxL := 3) (ret := none) (by decide) rfl ?_
  intro p e s m args below meth c s₁ Bd hml hv
  obtain ⟨rfl, ⟨hK, hG, hB, hH⟩, q⟩ := hv
  have hx := Bd.exec
  have hb := Bd.bytes
  have hr := Bd.returns
  have hts := atoms_spec (ws := wsJ5_ensureCapacityInternal_d00df) Bd.pre
  have hown : s.vm.findClass RJ5 = some m.cls := findClass_of_methodNamed Bd.named
  have hlocks := Bd.notSynchronized
  have hS : va_S (gA G) s.heap s.heap [] := va_S.rf
  have hl := lv_entry [.ref (ad 25 0), .int p1] (n := 3) (Nat.le_of_ble_eq_true rfl)
  rw [lg_entry_eq]
  generalize (lg_sl [.ref (ad 25 0), .int p1] ++ List.replicate (3 - (lg_sl [.ref (ad 25 0), .int p1]).length) Slot.unset).toArray = ls at hl ⊢
  have hl : lv_has ls 3 [(0, .ref (ad 25 0)), (1, .int p1)] := hl
  unfold P_J5_ensureCapacityInternal_d00df at q
  refine lv_aload_n hx hb dJ5_ensureCapacityInternal_d00df_0 rfl (lv_at hl 0 rfl) ?_
  refine g_get (ci := 1) (v := .ref (ad 26 0)) (C := RJ4) (T := TJ4) (N := 4) hx hb hts (fun _ h => (List.mem_cons_of_mem _ (List.mem_append_right _ h))) hown hK hH 25 0 (by decide) Nat.zero_lt_one rfl rfl 0 (by decide) (hts (.fieldLink RJ5 15 "java/lang/AbstractStringBuilder" "value" "[B") (List.mem_of_getElem? (i := 1) rfl)) (fun _ h => h) rfl dJ5_ensureCapacityInternal_d00df_1 ?_
  refine g_alen (v := 16) hx hb hK hH 26 0 (by decide) Nat.zero_lt_one 0 rfl rfl (by decide) dJ5_ensureCapacityInternal_d00df_4 ?_
  refine lv_aload_n hx hb dJ5_ensureCapacityInternal_d00df_5 rfl (lv_at hl 0 rfl) ?_
  refine g_get (ci := 1) (v := .int (F 25 0 1)) (C := RJ4) (T := TJ4) (N := 4) hx hb hts (fun _ h => (List.mem_cons_of_mem _ (List.mem_append_right _ h))) hown hK hH 25 0 (by decide) Nat.zero_lt_one rfl rfl 1 (by decide) (hts (.fieldLink RJ5 22 "java/lang/AbstractStringBuilder" "coder" "B") (List.mem_of_getElem? (i := 2) rfl)) (fun _ h => h) rfl dJ5_ensureCapacityInternal_d00df_6 ?_
  refine lv_ishr hx hb dJ5_ensureCapacityInternal_d00df_9 ?_
  refine lv_topi (fun y1 ey1 => ?_)
  have q := q y1 ey1
  refine lv_istore_n (lv' := [(2, .int y1), (0, .ref (ad 25 0)), (1, .int p1)]) hx hb dJ5_ensureCapacityInternal_d00df_10 rfl hl (by decide) rfl (fun ls hl => ?_)
  refine lv_iload_n hx hb dJ5_ensureCapacityInternal_d00df_11 rfl (lv_at hl 2 rfl) ?_
  refine lv_iload_n hx hb dJ5_ensureCapacityInternal_d00df_12 rfl (lv_at hl 0 rfl) ?_
  refine lv_isub hx hb dJ5_ensureCapacityInternal_d00df_13 ?_
  refine lv_if_le (tgt := 38) hx hb dJ5_ensureCapacityInternal_d00df_14 (by decide) (fun c2 => ?_) (fun c2 => ?_)
  · have q := (if_pos c2).mp q
    exact (W.vret hx hb hr (fun t ht hW => ⟨⟨F, rfl, q, gH_at ht hH⟩, hS.F ht⟩) hS.2.2 dJ5_ensureCapacityInternal_d00df_38)
  · have q := (if_neg c2).mp q
    refine lv_aload_n hx hb dJ5_ensureCapacityInternal_d00df_17 rfl (lv_at hl 1 rfl) ?_
    refine lv_aload_n hx hb dJ5_ensureCapacityInternal_d00df_18 rfl (lv_at hl 1 rfl) ?_
    refine g_get (ci := 1) (v := .ref (ad 26 0)) (C := RJ4) (T := TJ4) (N := 4) hx hb hts (fun _ h => (List.mem_cons_of_mem _ (List.mem_append_right _ h))) hown hK hH 25 0 (by decide) Nat.zero_lt_one rfl rfl 0 (by decide) (hts (.fieldLink RJ5 15 "java/lang/AbstractStringBuilder" "value" "[B") (List.mem_of_getElem? (i := 1) rfl)) (fun _ h => h) rfl dJ5_ensureCapacityInternal_d00df_19 ?_
    refine lv_aload_n hx hb dJ5_ensureCapacityInternal_d00df_22 rfl (lv_at hl 1 rfl) ?_
    refine lv_iload_n hx hb dJ5_ensureCapacityInternal_d00df_23 rfl (lv_at hl 2 rfl) ?_
    exact q.elim
abbrev rm_J5_length_8abf5 : Room := { frames := 0, cells := 0, slots := 0, locals := 0 }
abbrev q_J5_length_8abf5 (G : GP) (ad : Nat → Nat → Nat) (K : Int32 → GF → Prop) (below : List Frame) (args : Array Value) (s : State) : State → Prop := MQ below (gQi G ad K) args s 0 0 (gA G)
set_option maxHeartbeats 4000000 in
set_option maxRecDepth 100000 in
theorem c_J5_length_8abf5 (l : Launch) (G : GP) (ad : Nat → Nat → Nat) (F : GF) (K : Int32 → GF → Prop) : Met l yJ5_length_8abf5 wsJ5_length_8abf5 rm_J5_length_8abf5 (va_Pc [.ref (ad 25 0)] (fun U => gD G ad F U ∧ P_J5_length_8abf5 F K)) (gQi G ad K) 0 0 (gA G) := by
  refine Met.ofW (cc := cJ5_length_8abf5) (maxL := 1) (ret := (some .int)) (by decide) rfl ?_
  intro p e s m args below meth c s₁ Bd hml hv
  obtain ⟨rfl, ⟨hK, hG, hB, hH⟩, q⟩ := hv
  have hx := Bd.exec
  have hb := Bd.bytes
  have hr := Bd.returns
  have hts := atoms_spec (ws := wsJ5_length_8abf5) Bd.pre
  have hown : s.vm.findClass RJ5 = some m.cls := findClass_of_methodNamed Bd.named
  have hlocks := Bd.notSynchronized
  have hS : va_S (gA G) s.heap s.heap [] := va_S.rf
  have hl := lv_entry [.ref (ad 25 0)] (n := 1) (Nat.le_of_ble_eq_true rfl)
  rw [lg_entry_eq]
  generalize (lg_sl [.ref (ad 25 0)] ++ List.replicate (1 - (lg_sl [.ref (ad 25 0)]).length) Slot.unset).toArray = ls at hl ⊢
  have hl : lv_has ls 1 [(0, .ref (ad 25 0))] := hl
  unfold P_J5_length_8abf5 at q
  refine lv_aload_n hx hb dJ5_length_8abf5_0 rfl (lv_at hl 0 rfl) ?_
  refine g_get (ci := 1) (v := .int (F 25 0 3)) (C := RJ4) (T := TJ4) (N := 4) hx hb hts (fun _ h => (List.mem_cons_of_mem _ (List.mem_append_right _ h))) hown hK hH 25 0 (by decide) Nat.zero_lt_one rfl rfl 3 (by decide) (hts (.fieldLink RJ5 79 "java/lang/AbstractStringBuilder" "count" "I") (List.mem_of_getElem? (i := 1) rfl)) (fun _ h => h) rfl dJ5_length_8abf5_1 ?_
  exact (W.iret (v := (F 25 0 3)) hx hb hr (fun t ht hW => ⟨⟨(F 25 0 3), F, rfl, q, gH_at ht hH⟩, hS.F ht⟩) hS.2.2 dJ5_length_8abf5_4)
abbrev rm_J4_length_8abf5 : Room := { frames := 1, cells := 0, slots := 0, locals := 20 }
abbrev q_J4_length_8abf5 (G : GP) (ad : Nat → Nat → Nat) (K : Int32 → GF → Prop) (below : List Frame) (args : Array Value) (s : State) : State → Prop := MQ below (gQi G ad K) args s 0 0 (gA G)
set_option maxHeartbeats 4000000 in
set_option maxRecDepth 100000 in
theorem c_J4_length_8abf5 (l : Launch) (G : GP) (ad : Nat → Nat → Nat) (F : GF) (K : Int32 → GF → Prop) : Met l yJ4_length_8abf5 wsJ4_length_8abf5 rm_J4_length_8abf5 (va_Pc [.ref (ad 25 0)] (fun U => gD G ad F U ∧ P_J4_length_8abf5 F K)) (gQi G ad K) 0 0 (gA G) := by
  refine Met.ofW (cc := cJ4_length_8abf5) (maxL := 1) (ret := (some .int)) (by decide) rfl ?_
  intro p e s m args below meth c s₁ Bd hml hv
  obtain ⟨rfl, ⟨hK, hG, hB, hH⟩, q⟩ := hv
  have hx := Bd.exec
  have hb := Bd.bytes
  have hr := Bd.returns
  have hts := atoms_spec (ws := wsJ4_length_8abf5) Bd.pre
  have hown : s.vm.findClass RJ4 = some m.cls := findClass_of_methodNamed Bd.named
  have hlocks := Bd.notSynchronized
  have hS : va_S (gA G) s.heap s.heap [] := va_S.rf
  have hl := lv_entry [.ref (ad 25 0)] (n := 1) (Nat.le_of_ble_eq_true rfl)
  rw [lg_entry_eq]
  generalize (lg_sl [.ref (ad 25 0)] ++ List.replicate (1 - (lg_sl [.ref (ad 25 0)]).length) Slot.unset).toArray = ls at hl ⊢
  have hl : lv_has ls 1 [(0, .ref (ad 25 0))] := hl
  unfold P_J4_length_8abf5 at q
  refine lv_aload_n hx hb dJ4_length_8abf5_0 rfl (lv_at hl 0 rfl) ?_
  refine va_calli (va_runSU (hK.1 1 (RJ4, TJ4, 4) rfl).2 (As := []) (rest := []) ⟨hx, hb, hml, hown, hts⟩ (c_J5_length_8abf5 l G ad F _) (va_cwSU 0 hts gJ4_length_8abf5_J5_length_8abf5_s343 rfl rfl rfl (by decide +kernel) ⟨Nat.le_of_ble_eq_true rfl, Nat.le_of_ble_eq_true rfl⟩) ⟨fun a U g mk h => ⟨h.1, gD_blind h.2.1, h.2.2⟩, g_recv (C := RJ4) (T := TJ4) (N := 4) hK hH 25 0 (by decide) Nat.zero_lt_one rfl rfl, fun U hU hW => ⟨rfl, gD_at hK hG hB hH hS hU hW, q⟩⟩ rfl rfl hl.1 rfl (lv_room (Nat.le_of_ble_eq_true rfl)) dJ4_length_8abf5_1 ⟨Nat.le_of_ble_eq_true rfl, Nat.le_of_ble_eq_true rfl⟩) hS (fun _ _ h => h) (fun _ h => h) (fun r1 F2 t H locs ht hvm q hB1 hz hk hS => ?_)
  have hH : gH G ad F2 H := gH_to ht hB1
  exact (W.iret (v := r1) hx hb hr (fun t ht hW => ⟨⟨r1, F2, rfl, q, gH_at ht hH⟩, hS.F ht⟩) hS.2.2 dJ4_length_8abf5_4)
abbrev rm_J5_setLength_d00df : Room := { frames := 1, cells := 1, slots := 6, locals := 22 }
abbrev q_J5_setLength_d00df (G : GP) (ad : Nat → Nat → Nat) (K : GF → Prop) (below : List Frame) (args : Array Value) (s : State) : State → Prop := MQ below (gQv G ad K) args s 1 6 (gA G)
set_option maxHeartbeats 4000000 in
set_option maxRecDepth 100000 in
theorem c_J5_setLength_d00df (l : Launch) (G : GP) (ad : Nat → Nat → Nat) (F : GF) (p1 : Int32) (K : GF → Prop) : Met l yJ5_setLength_d00df wsJ5_setLength_d00df rm_J5_setLength_d00df (va_Pc [.ref (ad 25 0), .int p1] (fun U => gD G ad F U ∧ P_J5_setLength_d00df F p1 K)) (gQv G ad K) 1 6 (gA G) := by
  refine Met.ofW (cc := cJ5_setLength_d00df) (maxL := 2) (ret := none) (by decide) rfl ?_
  intro p e s m args below meth c s₁ Bd hml hv
  obtain ⟨rfl, ⟨hK, hG, hB, hH⟩, q⟩ := hv
  have hx := Bd.exec
  have hb := Bd.bytes
  have hr := Bd.returns
  have hts := atoms_spec (ws := wsJ5_setLength_d00df) Bd.pre
  have hown : s.vm.findClass RJ5 = some m.cls := findClass_of_methodNamed Bd.named
  have hlocks := Bd.notSynchronized
  have hS : va_S (gA G) s.heap s.heap [] := va_S.rf
  have hl := lv_entry [.ref (ad 25 0), .int p1] (n := 2) (Nat.le_of_ble_eq_true rfl)
  rw [lg_entry_eq]
  generalize (lg_sl [.ref (ad 25 0), .int p1] ++ List.replicate (2 - (lg_sl [.ref (ad 25 0), .int p1]).length) Slot.unset).toArray = ls at hl ⊢
  have hl : lv_has ls 2 [(0, .ref (ad 25 0)), (1, .int p1)] := hl
  show W p l e rm_J5_setLength_d00df s m ([.ref (ad 25 0), .int p1] : List Value).toArray below meth c s.heap [] 0 0 (q_J5_setLength_d00df G ad K below ([.ref (ad 25 0), .int p1] : List Value).toArray s) _
  have t_76 : ∀ (F : GF) (x1 : Int32) (H : Heap) (locs : List Loc) (ls : Array Slot), gH G ad F H → va_S (gA G) s.heap H locs → lv_has ls 2 [(0, .ref (ad 25 0)), (1, .int x1)] → (P_J5_setLength_d00df_76 K) F x1 → W p l e rm_J5_setLength_d00df s m ([.ref (ad 25 0), .int p1] : List Value).toArray below meth c H locs 0 0 (q_J5_setLength_d00df G ad K below ([.ref (ad 25 0), .int p1] : List Value).toArray s) (F0 m 76 ls []) := by
    intro F x1 H locs ls hH hS hl q
    unfold P_J5_setLength_d00df_76 at q
    refine lv_aload_n hx hb dJ5_setLength_d00df_76 rfl (lv_at hl 0 rfl) ?_
    refine lv_iload_n hx hb dJ5_setLength_d00df_77 rfl (lv_at hl 1 rfl) ?_
    refine g_put (ci := 1) (v := .int x1) (C := RJ4) (T := TJ4) (N := 4) hx hb hts (fun _ h => (List.mem_cons_of_mem _ (List.mem_append_left _ (List.mem_append_right _ h)))) tyJ4 tyJ4_ok nmJ4 hown hK hH hS 25 0 (by decide) Nat.zero_lt_one (by decide) rfl rfl 3 (by decide) (hts (.fieldLink RJ5 79 "java/lang/AbstractStringBuilder" "count" "I") (List.mem_of_getElem? (i := 4) rfl)) (fun _ h => h) rfl (ty := .int) (by decide +kernel) rfl rfl (Nat.le_of_ble_eq_true rfl) x1 rfl dJ5_setLength_d00df_78 (fun H locs hH hS => ?_)
    obtain ⟨F6, eF6⟩ : ∃ z, z = fs F 25 0 3 x1 := ⟨_, rfl⟩
    have q := q F6 eF6
    rw [← eF6] at hH
    refine W.widen (k := 1) (n := 6) (Nat.le_of_ble_eq_true rfl) (Nat.le_of_ble_eq_true rfl) ?_
    exact (W.vret hx hb hr (fun t ht hW => ⟨⟨F6, rfl, q, gH_at ht hH⟩, hS.F ht⟩) hS.2.2 dJ5_setLength_d00df_81)
  unfold P_J5_setLength_d00df at q
  refine lv_iload_n hx hb dJ5_setLength_d00df_0 rfl (lv_at hl 1 rfl) ?_
  refine lv_if_ge (tgt := 13) hx hb dJ5_setLength_d00df_1 (by decide) (fun c1 => ?_) (fun c1 => ?_)
  · have q := (if_pos c1).mp q
    refine lv_aload_n hx hb dJ5_setLength_d00df_13 rfl (lv_at hl 0 rfl) ?_
    refine lv_iload_n hx hb dJ5_setLength_d00df_14 rfl (lv_at hl 1 rfl) ?_
    refine va_callv (va_runU (As := [.int p1]) (rest := []) ⟨hx, hb, hml, hown, hts⟩ (c_J5_ensureCapacityInternal_d00df l G ad F p1 _) (va_cwU 1 hts gJ5_setLength_d00df_J5_ensureCapacityInternal_d00df_u100J4 rfl rfl rfl rfl (by decide +kernel) ⟨Nat.le_of_ble_eq_true rfl, Nat.le_of_ble_eq_true rfl⟩) ⟨fun a U g mk h => ⟨h.1, gD_blind h.2.1, h.2.2⟩, g_recv (C := RJ4) (T := TJ4) (N := 4) hK hH 25 0 (by decide) Nat.zero_lt_one rfl rfl, fun U hU hW => ⟨rfl, gD_at hK hG hB hH hS hU hW, q⟩⟩ rfl rfl hl.1 rfl (lv_room (Nat.le_of_ble_eq_true rfl)) dJ5_setLength_d00df_15 ⟨Nat.le_of_ble_eq_true rfl, Nat.le_of_ble_eq_true rfl⟩) hS (fun _ _ h => h) (fun _ h => h) (fun F3 t H locs ht hvm q hB1 hz hk hS => ?_)
    have hH : gH G ad F3 H := gH_to ht hB1
    refine lv_aload_n hx hb dJ5_setLength_d00df_18 rfl (lv_at hl 0 rfl) ?_
    refine g_get (ci := 1) (v := .int (F3 25 0 3)) (C := RJ4) (T := TJ4) (N := 4) hx hb hts (fun _ h => (List.mem_cons_of_mem _ (List.mem_append_left _ (List.mem_append_right _ h)))) hown hK hH 25 0 (by decide) Nat.zero_lt_one rfl rfl 3 (by decide) (hts (.fieldLink RJ5 79 "java/lang/AbstractStringBuilder" "count" "I") (List.mem_of_getElem? (i := 4) rfl)) (fun _ h => h) rfl dJ5_setLength_d00df_19 ?_
    refine lv_iload_n hx hb dJ5_setLength_d00df_22 rfl (lv_at hl 1 rfl) ?_
    refine lv_icmp_ge (tgt := 63) hx hb dJ5_setLength_d00df_23 (by decide) (fun c4 => ?_) (fun c4 => ?_)
    · have q := (if_pos c4).mp q
      refine lv_aload_n hx hb dJ5_setLength_d00df_63 rfl (lv_at hl 0 rfl) ?_
      refine g_get (ci := 1) (v := .int (F3 25 0 3)) (C := RJ4) (T := TJ4) (N := 4) hx hb hts (fun _ h => (List.mem_cons_of_mem _ (List.mem_append_left _ (List.mem_append_right _ h)))) hown hK hH 25 0 (by decide) Nat.zero_lt_one rfl rfl 3 (by decide) (hts (.fieldLink RJ5 79 "java/lang/AbstractStringBuilder" "count" "I") (List.mem_of_getElem? (i := 4) rfl)) (fun _ h => h) rfl dJ5_setLength_d00df_64 ?_
      refine lv_iload_n hx hb dJ5_setLength_d00df_67 rfl (lv_at hl 1 rfl) ?_
      refine lv_icmp_le (tgt := 76) hx hb dJ5_setLength_d00df_68 (by decide) (fun c5 => ?_) (fun c5 => ?_)
      · have q := (if_pos c5).mp q
        exact t_76 F3 p1 _ _ _ hH hS (lv_sub hl [0, 1] rfl) q
      · have q := (if_neg c5).mp q
        refine lv_aload_n hx hb dJ5_setLength_d00df_71 rfl (lv_at hl 0 rfl) ?_
        refine lv_iconst (v := 1) hx hb dJ5_setLength_d00df_72 (by decide) ?_
        refine g_put (ci := 1) (v := .int 1) (C := RJ4) (T := TJ4) (N := 4) hx hb hts (fun _ h => (List.mem_cons_of_mem _ (List.mem_append_left _ (List.mem_append_right _ h)))) tyJ4 tyJ4_ok nmJ4 hown hK hH hS 25 0 (by decide) Nat.zero_lt_one (by decide) rfl rfl 2 (by decide) (hts (.fieldLink RJ5 73 "java/lang/AbstractStringBuilder" "maybeLatin1" "Z") (List.mem_of_getElem? (i := 6) rfl)) (fun _ h => h) rfl (ty := .boolean) (by decide +kernel) rfl rfl (Nat.le_of_ble_eq_true rfl) 1 rfl dJ5_setLength_d00df_73 (fun H locs hH hS => ?_)
        obtain ⟨F7, eF7⟩ : ∃ z, z = fs F3 25 0 2 1 := ⟨_, rfl⟩
        have q := q F7 eF7
        rw [← eF7] at hH
        exact t_76 F7 p1 _ _ _ hH hS (lv_sub hl [0, 1] rfl) q
    · have q := (if_neg c4).mp q
      refine lv_aload_n hx hb dJ5_setLength_d00df_26 rfl (lv_at hl 0 rfl) ?_
      refine va_calli (va_runU (As := []) (rest := []) ⟨hx, hb, hml, hown, hts⟩ (c_J5_isLatin1_aae02 l G ad F3 _) (va_cwU 0 hts gJ5_setLength_d00df_J5_isLatin1_aae02_u83J4 rfl rfl rfl rfl (by decide +kernel) ⟨Nat.le_of_ble_eq_true rfl, Nat.le_of_ble_eq_true rfl⟩) ⟨fun a U g mk h => ⟨h.1, gD_blind h.2.1, h.2.2⟩, g_recv (C := RJ4) (T := TJ4) (N := 4) hK hH 25 0 (by decide) Nat.zero_lt_one rfl rfl, fun U hU hW => ⟨rfl, gD_at hK hG hB hH hS hU hW, q⟩⟩ rfl rfl hl.1 rfl (lv_room (Nat.le_of_ble_eq_true rfl)) dJ5_setLength_d00df_27 ⟨Nat.le_of_ble_eq_true rfl, Nat.le_of_ble_eq_true rfl⟩) hS (fun _ _ h => h) (fun _ h => h) (fun r8 F9 t H locs ht hvm q hB1 hz hk hS => ?_)
      have hH : gH G ad F9 H := gH_to ht hB1
      refine lv_if_eq (tgt := 48) hx hb dJ5_setLength_d00df_30 (by decide) (fun c10 => ?_) (fun c10 => ?_)
      · have q := (if_pos c10).mp q
        refine lv_aload_n hx hb dJ5_setLength_d00df_48 rfl (lv_at hl 0 rfl) ?_
        refine g_get (ci := 1) (v := .ref (ad 26 0)) (C := RJ4) (T := TJ4) (N := 4) hx hb hts (fun _ h => (List.mem_cons_of_mem _ (List.mem_append_left _ (List.mem_append_right _ h)))) hown hK hH 25 0 (by decide) Nat.zero_lt_one rfl rfl 0 (by decide) (hts (.fieldLink RJ5 15 "java/lang/AbstractStringBuilder" "value" "[B") (List.mem_of_getElem? (i := 5) rfl)) (fun _ h => h) rfl dJ5_setLength_d00df_49 ?_
        refine lv_aload_n hx hb dJ5_setLength_d00df_52 rfl (lv_at hl 0 rfl) ?_
        refine g_get (ci := 1) (v := .int (F9 25 0 3)) (C := RJ4) (T := TJ4) (N := 4) hx hb hts (fun _ h => (List.mem_cons_of_mem _ (List.mem_append_left _ (List.mem_append_right _ h)))) hown hK hH 25 0 (by decide) Nat.zero_lt_one rfl rfl 3 (by decide) (hts (.fieldLink RJ5 79 "java/lang/AbstractStringBuilder" "count" "I") (List.mem_of_getElem? (i := 4) rfl)) (fun _ h => h) rfl dJ5_setLength_d00df_53 ?_
        refine lv_iload_n hx hb dJ5_setLength_d00df_56 rfl (lv_at hl 1 rfl) ?_
        exact q.elim
      · have q := (if_neg c10).mp q
        refine lv_aload_n hx hb dJ5_setLength_d00df_33 rfl (lv_at hl 0 rfl) ?_
        refine g_get (ci := 1) (v := .ref (ad 26 0)) (C := RJ4) (T := TJ4) (N := 4) hx hb hts (fun _ h => (List.mem_cons_of_mem _ (List.mem_append_left _ (List.mem_append_right _ h)))) hown hK hH 25 0 (by decide) Nat.zero_lt_one rfl rfl 0 (by decide) (hts (.fieldLink RJ5 15 "java/lang/AbstractStringBuilder" "value" "[B") (List.mem_of_getElem? (i := 5) rfl)) (fun _ h => h) rfl dJ5_setLength_d00df_34 ?_
        refine lv_aload_n hx hb dJ5_setLength_d00df_37 rfl (lv_at hl 0 rfl) ?_
        refine g_get (ci := 1) (v := .int (F9 25 0 3)) (C := RJ4) (T := TJ4) (N := 4) hx hb hts (fun _ h => (List.mem_cons_of_mem _ (List.mem_append_left _ (List.mem_append_right _ h)))) hown hK hH 25 0 (by decide) Nat.zero_lt_one rfl rfl 3 (by decide) (hts (.fieldLink RJ5 79 "java/lang/AbstractStringBuilder" "count" "I") (List.mem_of_getElem? (i := 4) rfl)) (fun _ h => h) rfl dJ5_setLength_d00df_38 ?_
        refine lv_iload_n hx hb dJ5_setLength_d00df_41 rfl (lv_at hl 1 rfl) ?_
        exact q.elim
  · have q := (if_neg c1).mp q
    exact q.elim
abbrev rm_J4_setLength_d00df : Room := { frames := 2, cells := 1, slots := 6, locals := 43 }
abbrev q_J4_setLength_d00df (G : GP) (ad : Nat → Nat → Nat) (K : GF → Prop) (below : List Frame) (args : Array Value) (s : State) : State → Prop := MQ below (gQv G ad K) args s 1 6 (gA G)
set_option maxHeartbeats 4000000 in
set_option maxRecDepth 100000 in
theorem c_J4_setLength_d00df (l : Launch) (G : GP) (ad : Nat → Nat → Nat) (F : GF) (p1 : Int32) (K : GF → Prop) : Met l yJ4_setLength_d00df wsJ4_setLength_d00df rm_J4_setLength_d00df (va_Pc [.ref (ad 25 0), .int p1] (fun U => gD G ad F U ∧ P_J4_setLength_d00df F p1 K)) (gQv G ad K) 1 6 (gA G) := by
  refine Met.ofW (cc := cJ4_setLength_d00df) (maxL := 2) (ret := none) (by decide) rfl ?_
  intro p e s m args below meth c s₁ Bd hml hv
  obtain ⟨rfl, ⟨hK, hG, hB, hH⟩, q⟩ := hv
  have hx := Bd.exec
  have hb := Bd.bytes
  have hr := Bd.returns
  have hts := atoms_spec (ws := wsJ4_setLength_d00df) Bd.pre
  have hown : s.vm.findClass RJ4 = some m.cls := findClass_of_methodNamed Bd.named
  have hlocks := Bd.notSynchronized
  have hS : va_S (gA G) s.heap s.heap [] := va_S.rf
  have hl := lv_entry [.ref (ad 25 0), .int p1] (n := 2) (Nat.le_of_ble_eq_true rfl)
  rw [lg_entry_eq]
  generalize (lg_sl [.ref (ad 25 0), .int p1] ++ List.replicate (2 - (lg_sl [.ref (ad 25 0), .int p1]).length) Slot.unset).toArray = ls at hl ⊢
  have hl : lv_has ls 2 [(0, .ref (ad 25 0)), (1, .int p1)] := hl
  unfold P_J4_setLength_d00df at q
  refine lv_aload_n hx hb dJ4_setLength_d00df_0 rfl (lv_at hl 0 rfl) ?_
  refine lv_iload_n hx hb dJ4_setLength_d00df_1 rfl (lv_at hl 1 rfl) ?_
  refine va_callv (va_runSU (hK.1 1 (RJ4, TJ4, 4) rfl).2 (As := [.int p1]) (rest := []) ⟨hx, hb, hml, hown, hts⟩ (c_J5_setLength_d00df l G ad F p1 _) (va_cwSU 1 hts gJ4_setLength_d00df_J5_setLength_d00df_s333 rfl rfl rfl (by decide +kernel) ⟨Nat.le_of_ble_eq_true rfl, Nat.le_of_ble_eq_true rfl⟩) ⟨fun a U g mk h => ⟨h.1, gD_blind h.2.1, h.2.2⟩, g_recv (C := RJ4) (T := TJ4) (N := 4) hK hH 25 0 (by decide) Nat.zero_lt_one rfl rfl, fun U hU hW => ⟨rfl, gD_at hK hG hB hH hS hU hW, q⟩⟩ rfl rfl hl.1 rfl (lv_room (Nat.le_of_ble_eq_true rfl)) dJ4_setLength_d00df_2 ⟨Nat.le_of_ble_eq_true rfl, Nat.le_of_ble_eq_true rfl⟩) hS (fun _ _ h => h) (fun _ h => h) (fun F2 t H locs ht hvm q hB1 hz hk hS => ?_)
  have hH : gH G ad F2 H := gH_to ht hB1
  exact (W.vret hx hb hr (fun t ht hW => ⟨⟨F2, rfl, q, gH_at ht hH⟩, hS.F ht⟩) hS.2.2 dJ4_setLength_d00df_5)
abbrev rm_J5_append_c97b9 : Room := { frames := 1, cells := 0, slots := 0, locals := 26 }
abbrev q_J5_append_c97b9 (G : GP) (ad : Nat → Nat → Nat) (K : Nat → GF → Prop) (below : List Frame) (args : Array Value) (s : State) : State → Prop := MQ below (gQr G ad 25 1 K) args s 0 0 (gA G)
set_option maxHeartbeats 4000000 in
set_option maxRecDepth 100000 in
theorem c_J5_append_c97b9 (l : Launch) (G : GP) (ad : Nat → Nat → Nat) (F : GF) (p1 : Int32) (K : Nat → GF → Prop) : Met l yJ5_append_c97b9 wsJ5_append_c97b9 rm_J5_append_c97b9 (va_Pc [.ref (ad 25 0), .int p1] (fun U => gD G ad F U ∧ P_J5_append_c97b9 F p1 K)) (gQr G ad 25 1 K) 0 0 (gA G) := by
  refine Met.ofW (cc := cJ5_append_c97b9) (maxL := 4) (ret := (some (.object "java/lang/AbstractStringBuilder"))) (by decide) rfl ?_
  intro p e s m args below meth c s₁ Bd hml hv
  obtain ⟨rfl, ⟨hK, hG, hB, hH⟩, q⟩ := hv
  have hx := Bd.exec
  have hb := Bd.bytes
  have hr := Bd.returns
  have hts := atoms_spec (ws := wsJ5_append_c97b9) Bd.pre
  have hown : s.vm.findClass RJ5 = some m.cls := findClass_of_methodNamed Bd.named
  have hlocks := Bd.notSynchronized
  have hS : va_S (gA G) s.heap s.heap [] := va_S.rf
  have hl := lv_entry [.ref (ad 25 0), .int p1] (n := 4) (Nat.le_of_ble_eq_true rfl)
  rw [lg_entry_eq]
  generalize (lg_sl [.ref (ad 25 0), .int p1] ++ List.replicate (4 - (lg_sl [.ref (ad 25 0), .int p1]).length) Slot.unset).toArray = ls at hl ⊢
  have hl : lv_has ls 4 [(0, .ref (ad 25 0)), (1, .int p1)] := hl
  show W p l e rm_J5_append_c97b9 s m ([.ref (ad 25 0), .int p1] : List Value).toArray below meth c s.heap [] 0 0 (q_J5_append_c97b9 G ad K below ([.ref (ad 25 0), .int p1] : List Value).toArray s) _
  have t_48 : ∀ (F : GF) (x3 : Int32) (H : Heap) (locs : List Loc) (ls : Array Slot), gH G ad F H → va_S (gA G) s.heap H locs → lv_has ls 4 [(0, .ref (ad 25 0)), (3, .int x3)] → (P_J5_append_c97b9_48 K) F x3 → W p l e rm_J5_append_c97b9 s m ([.ref (ad 25 0), .int p1] : List Value).toArray below meth c H locs 0 0 (q_J5_append_c97b9 G ad K below ([.ref (ad 25 0), .int p1] : List Value).toArray s) (F0 m 48 ls []) := by
    intro F x3 H locs ls hH hS hl q
    unfold P_J5_append_c97b9_48 at q
    refine lv_aload_n hx hb dJ5_append_c97b9_48 rfl (lv_at hl 0 rfl) ?_
    refine lv_iload_n hx hb dJ5_append_c97b9_49 rfl (lv_at hl 1 rfl) ?_
    refine g_put (ci := 1) (v := .int x3) (C := RJ4) (T := TJ4) (N := 4) hx hb hts (fun _ h => (List.mem_cons_of_mem _ (List.mem_append_right _ h))) tyJ4 tyJ4_ok nmJ4 hown hK hH hS 25 0 (by decide) Nat.zero_lt_one (by decide) rfl rfl 3 (by decide) (hts (.fieldLink RJ5 79 "java/lang/AbstractStringBuilder" "count" "I") (List.mem_of_getElem? (i := 1) rfl)) (fun _ h => h) rfl (ty := .int) (by decide +kernel) rfl rfl (Nat.le_of_ble_eq_true rfl) x3 rfl dJ5_append_c97b9_50 (fun H locs hH hS => ?_)
    obtain ⟨F10, eF10⟩ : ∃ z, z = fs F 25 0 3 x3 := ⟨_, rfl⟩
    have q := q F10 eF10
    rw [← eF10] at hH
    refine lv_aload_n hx hb dJ5_append_c97b9_53 rfl (lv_at hl 0 rfl) ?_
    exact (W.aret (v := .ref (ad 25 0)) hx hb hr (Or.inl ⟨_, rfl⟩) (Or.inr ⟨_, rfl⟩) (fun t ht hW => ⟨⟨some (ad 25 0), (0, F10), rfl, ⟨rfl, Nat.zero_lt_one, q⟩, gH_at ht hH⟩, hS.F ht⟩) hS.2.2 dJ5_append_c97b9_54)
  unfold P_J5_append_c97b9 at q
  refine lv_aload_n hx hb dJ5_append_c97b9_0 rfl (lv_at hl 0 rfl) ?_
  refine g_get (ci := 1) (v := .int (F 25 0 3)) (C := RJ4) (T := TJ4) (N := 4) hx hb hts (fun _ h => (List.mem_cons_of_mem _ (List.mem_append_right _ h))) hown hK hH 25 0 (by decide) Nat.zero_lt_one rfl rfl 3 (by decide) (hts (.fieldLink RJ5 79 "java/lang/AbstractStringBuilder" "count" "I") (List.mem_of_getElem? (i := 1) rfl)) (fun _ h => h) rfl dJ5_append_c97b9_1 ?_
  refine lv_istore_n (lv' := [(2, .int (F 25 0 3)), (0, .ref (ad 25 0)), (1, .int p1)]) hx hb dJ5_append_c97b9_4 rfl hl (by decide) rfl (fun ls hl => ?_)
  refine lv_iload_n hx hb dJ5_append_c97b9_5 rfl (lv_at hl 0 rfl) ?_
  refine lv_iload_n hx hb dJ5_append_c97b9_6 rfl (lv_at hl 2 rfl) ?_
  refine va_calli (va_runS (As := [.int p1]) (rest := [.int (F 25 0 3)]) ⟨hx, hb, hml, hown, hts⟩ (c_J6_stringSize_0f7a4 l G ad F p1 _) (va_cwS 1 hts gJ5_append_c97b9_J6_stringSize_0f7a4 rfl rfl rfl (by decide +kernel) ⟨Nat.le_of_ble_eq_true rfl, Nat.le_of_ble_eq_true rfl⟩) ⟨fun a U g mk h => ⟨h.1, gD_blind h.2.1, h.2.2⟩, fun U hU hW => ⟨rfl, gD_at hK hG hB hH hS hU hW, q⟩⟩ rfl rfl hl.1 rfl (lv_room (Nat.le_of_ble_eq_true rfl)) dJ5_append_c97b9_7 ⟨Nat.le_of_ble_eq_true rfl, Nat.le_of_ble_eq_true rfl⟩) hS (fun _ _ h => h) (fun _ h => h) (fun r1 F2 t H locs ht hvm q hB1 hz hk hS => ?_)
  have hH : gH G ad F2 H := gH_to ht hB1
  refine lv_iadd hx hb dJ5_append_c97b9_10 ?_
  refine lv_istore_n (lv' := [(3, .int ((F 25 0 3) + r1)), (2, .int (F 25 0 3)), (0, .ref (ad 25 0)), (1, .int p1)]) hx hb dJ5_append_c97b9_11 rfl hl (by decide) rfl (fun ls hl => ?_)
  refine lv_aload_n hx hb dJ5_append_c97b9_12 rfl (lv_at hl 2 rfl) ?_
  refine lv_iload_n hx hb dJ5_append_c97b9_13 rfl (lv_at hl 0 rfl) ?_
  refine va_callv (va_runU (As := [.int ((F 25 0 3) + r1)]) (rest := []) ⟨hx, hb, hml, hown, hts⟩ (c_J5_ensureCapacityInternal_d00df l G ad F2 ((F 25 0 3) + r1) _) (va_cwU 1 hts gJ5_append_c97b9_J5_ensureCapacityInternal_d00df_u100J4 rfl rfl rfl rfl (by decide +kernel) ⟨Nat.le_of_ble_eq_true rfl, Nat.le_of_ble_eq_true rfl⟩) ⟨fun a U g mk h => ⟨h.1, gD_blind h.2.1, h.2.2⟩, g_recv (C := RJ4) (T := TJ4) (N := 4) hK hH 25 0 (by decide) Nat.zero_lt_one rfl rfl, fun U hU hW => ⟨rfl, gD_at hK hG hB hH hS hU hW, q⟩⟩ rfl rfl hl.1 rfl (lv_room (Nat.le_of_ble_eq_true rfl)) dJ5_append_c97b9_14 ⟨Nat.le_of_ble_eq_true rfl, Nat.le_of_ble_eq_true rfl⟩) hS (fun _ _ h => h) (fun _ h => h) (fun F4 t H locs ht hvm q hB1 hz hk hS => ?_)
  have hH : gH G ad F4 H := gH_to ht hB1
  refine lv_aload_n hx hb dJ5_append_c97b9_17 rfl (lv_at hl 2 rfl) ?_
  refine va_calli (va_runU (As := []) (rest := []) ⟨hx, hb, hml, hown, hts⟩ (c_J5_isLatin1_aae02 l G ad F4 _) (va_cwU 0 hts gJ5_append_c97b9_J5_isLatin1_aae02_u83J4 rfl rfl rfl rfl (by decide +kernel) ⟨Nat.le_of_ble_eq_true rfl, Nat.le_of_ble_eq_true rfl⟩) ⟨fun a U g mk h => ⟨h.1, gD_blind h.2.1, h.2.2⟩, g_recv (C := RJ4) (T := TJ4) (N := 4) hK hH 25 0 (by decide) Nat.zero_lt_one rfl rfl, fun U hU hW => ⟨rfl, gD_at hK hG hB hH hS hU hW, q⟩⟩ rfl rfl hl.1 rfl (lv_room (Nat.le_of_ble_eq_true rfl)) dJ5_append_c97b9_18 ⟨Nat.le_of_ble_eq_true rfl, Nat.le_of_ble_eq_true rfl⟩) hS (fun _ _ h => h) (fun _ h => h) (fun r5 F6 t H locs ht hvm q hB1 hz hk hS => ?_)
  have hH : gH G ad F6 H := gH_to ht hB1
  refine lv_if_eq (tgt := 37) hx hb dJ5_append_c97b9_21 (by decide) (fun c7 => ?_) (fun c7 => ?_)
  · have q := (if_pos c7).mp q
    refine lv_iload_n hx hb dJ5_append_c97b9_37 rfl (lv_at hl 3 rfl) ?_
    refine lv_iload_n hx hb dJ5_append_c97b9_38 rfl (lv_at hl 1 rfl) ?_
    refine lv_iload_n hx hb dJ5_append_c97b9_39 rfl (lv_at hl 0 rfl) ?_
    refine lv_aload_n hx hb dJ5_append_c97b9_40 rfl (lv_at hl 2 rfl) ?_
    refine g_get (ci := 1) (v := .ref (ad 26 0)) (C := RJ4) (T := TJ4) (N := 4) hx hb hts (fun _ h => (List.mem_cons_of_mem _ (List.mem_append_right _ h))) hown hK hH 25 0 (by decide) Nat.zero_lt_one rfl rfl 0 (by decide) (hts (.fieldLink RJ5 15 "java/lang/AbstractStringBuilder" "value" "[B") (List.mem_of_getElem? (i := 2) rfl)) (fun _ h => h) rfl dJ5_append_c97b9_41 ?_
    exact q.elim
  · have q := (if_neg c7).mp q
    refine lv_iload_n hx hb dJ5_append_c97b9_24 rfl (lv_at hl 3 rfl) ?_
    refine lv_iload_n hx hb dJ5_append_c97b9_25 rfl (lv_at hl 0 rfl) ?_
    refine lv_aload_n hx hb dJ5_append_c97b9_26 rfl (lv_at hl 2 rfl) ?_
    refine g_get (ci := 1) (v := .ref (ad 26 0)) (C := RJ4) (T := TJ4) (N := 4) hx hb hts (fun _ h => (List.mem_cons_of_mem _ (List.mem_append_right _ h))) hown hK hH 25 0 (by decide) Nat.zero_lt_one rfl rfl 0 (by decide) (hts (.fieldLink RJ5 15 "java/lang/AbstractStringBuilder" "value" "[B") (List.mem_of_getElem? (i := 2) rfl)) (fun _ h => h) rfl dJ5_append_c97b9_27 ?_
    refine va_calli (va_runS (As := [.int p1, .int ((F 25 0 3) + r1), .ref (ad 26 0)]) (rest := []) ⟨hx, hb, hml, hown, hts⟩ (c_J6_getChars_ba4f3 l G ad F6 p1 ((F 25 0 3) + r1) _) (va_cwS 3 hts gJ5_append_c97b9_J6_getChars_ba4f3 rfl rfl rfl (by decide +kernel) ⟨Nat.le_of_ble_eq_true rfl, Nat.le_of_ble_eq_true rfl⟩) ⟨fun a U g mk h => ⟨h.1, gD_blind h.2.1, h.2.2⟩, fun U hU hW => ⟨rfl, gD_at hK hG hB hH hS hU hW, q⟩⟩ rfl rfl hl.1 rfl (lv_room (Nat.le_of_ble_eq_true rfl)) dJ5_append_c97b9_30 ⟨Nat.le_of_ble_eq_true rfl, Nat.le_of_ble_eq_true rfl⟩) hS (fun _ _ h => h) (fun _ h => h) (fun r8 F9 t H locs ht hvm q hB1 hz hk hS => ?_)
    have hH : gH G ad F9 H := gH_to ht hB1
    refine lv_pop hx hb dJ5_append_c97b9_33 rfl ?_
    refine lv_goto (tgt := 48) hx hb dJ5_append_c97b9_34 (by decide) ?_
    exact t_48 F9 ((F 25 0 3) + r1) _ _ _ hH hS (lv_sub hl [2, 0] rfl) q
abbrev rm_J5_append_3fe6f : Room := { frames := 1, cells := 0, slots := 0, locals := 22 }
abbrev q_J5_append_3fe6f (G : GP) (ad : Nat → Nat → Nat) (K : Nat → GF → Prop) (below : List Frame) (args : Array Value) (s : State) : State → Prop := MQ below (gQr G ad 25 1 K) args s 0 0 (gA G)
set_option maxHeartbeats 4000000 in
set_option maxRecDepth 100000 in
theorem c_J5_append_3fe6f (l : Launch) (G : GP) (ad : Nat → Nat → Nat) (F : GF) (p1 : Int32) (K : Nat → GF → Prop) : Met l yJ5_append_3fe6f wsJ5_append_3fe6f rm_J5_append_3fe6f (va_Pc [.ref (ad 25 0), .int p1] (fun U => gD G ad F U ∧ P_J5_append_3fe6f F p1 K)) (gQr G ad 25 1 K) 0 0 (gA G) := by
  refine Met.ofW (cc := cJ5_append_3fe6f) (maxL := 2) (ret := (some (.object "java/lang/AbstractStringBuilder"))) (by decide) rfl ?_
  intro p e s m args below meth c s₁ Bd hml hv
  obtain ⟨rfl, ⟨hK, hG, hB, hH⟩, q⟩ := hv
  have hx := Bd.exec
  have hb := Bd.bytes
  have hr := Bd.returns
  have hts := atoms_spec (ws := wsJ5_append_3fe6f) Bd.pre
  have hown : s.vm.findClass RJ5 = some m.cls := findClass_of_methodNamed Bd.named
  have hlocks := Bd.notSynchronized
  have hS : va_S (gA G) s.heap s.heap [] := va_S.rf
  have hl := lv_entry [.ref (ad 25 0), .int p1] (n := 2) (Nat.le_of_ble_eq_true rfl)
  rw [lg_entry_eq]
  generalize (lg_sl [.ref (ad 25 0), .int p1] ++ List.replicate (2 - (lg_sl [.ref (ad 25 0), .int p1]).length) Slot.unset).toArray = ls at hl ⊢
  have hl : lv_has ls 2 [(0, .ref (ad 25 0)), (1, .int p1)] := hl
  show W p l e rm_J5_append_3fe6f s m ([.ref (ad 25 0), .int p1] : List Value).toArray below meth c s.heap [] 0 0 (q_J5_append_3fe6f G ad K below ([.ref (ad 25 0), .int p1] : List Value).toArray s) _
  have t_56 : ∀ (F : GF) (x1 : Int32) (H : Heap) (locs : List Loc) (ls : Array Slot), gH G ad F H → va_S (gA G) s.heap H locs → lv_has ls 2 [(0, .ref (ad 25 0)), (1, .int x1)] → (P_J5_append_3fe6f_56 K) F x1 → W p l e rm_J5_append_3fe6f s m ([.ref (ad 25 0), .int p1] : List Value).toArray below meth c H locs 0 0 (q_J5_append_3fe6f G ad K below ([.ref (ad 25 0), .int p1] : List Value).toArray s) (F0 m 56 ls []) := by
    intro F x1 H locs ls hH hS hl q
    unfold P_J5_append_3fe6f_56 at q
    refine lv_aload_n hx hb dJ5_append_3fe6f_56 rfl (lv_at hl 0 rfl) ?_
    refine g_get (ci := 1) (v := .ref (ad 26 0)) (C := RJ4) (T := TJ4) (N := 4) hx hb hts (fun _ h => (List.mem_cons_of_mem _ (List.mem_append_right _ h))) hown hK hH 25 0 (by decide) Nat.zero_lt_one rfl rfl 0 (by decide) (hts (.fieldLink RJ5 15 "java/lang/AbstractStringBuilder" "value" "[B") (List.mem_of_getElem? (i := 2) rfl)) (fun _ h => h) rfl dJ5_append_3fe6f_57 ?_
    refine lv_aload_n hx hb dJ5_append_3fe6f_60 rfl (lv_at hl 0 rfl) ?_
    refine lv_dup hx hb dJ5_append_3fe6f_61 rfl ?_
    refine g_get (ci := 1) (v := .int (F 25 0 3)) (C := RJ4) (T := TJ4) (N := 4) hx hb hts (fun _ h => (List.mem_cons_of_mem _ (List.mem_append_right _ h))) hown hK hH 25 0 (by decide) Nat.zero_lt_one rfl rfl 3 (by decide) (hts (.fieldLink RJ5 79 "java/lang/AbstractStringBuilder" "count" "I") (List.mem_of_getElem? (i := 1) rfl)) (fun _ h => h) rfl dJ5_append_3fe6f_62 ?_
    refine lv_dup_x1 hx hb dJ5_append_3fe6f_65 rfl rfl ?_
    refine lv_iconst (v := 1) hx hb dJ5_append_3fe6f_66 (by decide) ?_
    refine lv_iadd hx hb dJ5_append_3fe6f_67 ?_
    refine g_put (ci := 1) (v := .int ((F 25 0 3) + 1)) (C := RJ4) (T := TJ4) (N := 4) hx hb hts (fun _ h => (List.mem_cons_of_mem _ (List.mem_append_right _ h))) tyJ4 tyJ4_ok nmJ4 hown hK hH hS 25 0 (by decide) Nat.zero_lt_one (by decide) rfl rfl 3 (by decide) (hts (.fieldLink RJ5 79 "java/lang/AbstractStringBuilder" "count" "I") (List.mem_of_getElem? (i := 1) rfl)) (fun _ h => h) rfl (ty := .int) (by decide +kernel) rfl rfl (Nat.le_of_ble_eq_true rfl) ((F 25 0 3) + 1) rfl dJ5_append_3fe6f_68 (fun H locs hH hS => ?_)
    obtain ⟨F9, eF9⟩ : ∃ z, z = fs F 25 0 3 ((F 25 0 3) + 1) := ⟨_, rfl⟩
    have q := q F9 eF9
    rw [← eF9] at hH
    refine lv_iload_n hx hb dJ5_append_3fe6f_71 rfl (lv_at hl 1 rfl) ?_
    exact q.elim
  have t_45 : ∀ (F : GF) (x1 : Int32) (H : Heap) (locs : List Loc) (ls : Array Slot), gH G ad F H → va_S (gA G) s.heap H locs → lv_has ls 2 [(0, .ref (ad 25 0)), (1, .int x1)] → (P_J5_append_3fe6f_45 K) F x1 → W p l e rm_J5_append_3fe6f s m ([.ref (ad 25 0), .int p1] : List Value).toArray below meth c H locs 0 0 (q_J5_append_3fe6f G ad K below ([.ref (ad 25 0), .int p1] : List Value).toArray s) (F0 m 45 ls []) := by
    intro F x1 H locs ls hH hS hl q
    unfold P_J5_append_3fe6f_45 at q
    refine lv_aload_n hx hb dJ5_append_3fe6f_45 rfl (lv_at hl 0 rfl) ?_
    refine va_calli (va_runU (As := []) (rest := []) ⟨hx, hb, hml, hown, hts⟩ (c_J5_isLatin1_aae02 l G ad F _) (va_cwU 0 hts gJ5_append_3fe6f_J5_isLatin1_aae02_u83J4 rfl rfl rfl rfl (by decide +kernel) ⟨Nat.le_of_ble_eq_true rfl, Nat.le_of_ble_eq_true rfl⟩) ⟨fun a U g mk h => ⟨h.1, gD_blind h.2.1, h.2.2⟩, g_recv (C := RJ4) (T := TJ4) (N := 4) hK hH 25 0 (by decide) Nat.zero_lt_one rfl rfl, fun U hU hW => ⟨rfl, gD_at hK hG hB hH hS hU hW, q⟩⟩ rfl rfl hl.1 rfl (lv_room (Nat.le_of_ble_eq_true rfl)) dJ5_append_3fe6f_46 ⟨Nat.le_of_ble_eq_true rfl, Nat.le_of_ble_eq_true rfl⟩) hS (fun _ _ h => h) (fun _ h => h) (fun r6 F7 t H locs ht hvm q hB1 hz hk hS => ?_)
    have hH : gH G ad F7 H := gH_to ht hB1
    refine lv_if_eq (tgt := 56) hx hb dJ5_append_3fe6f_49 (by decide) (fun c8 => ?_) (fun c8 => ?_)
    · have q := (if_pos c8).mp q
      exact t_56 F7 x1 _ _ _ hH hS (lv_sub hl [0, 1] rfl) q
    · have q := (if_neg c8).mp q
      refine lv_aload_n hx hb dJ5_append_3fe6f_52 rfl (lv_at hl 0 rfl) ?_
      exact q.elim
  unfold P_J5_append_3fe6f at q
  refine lv_aload_n hx hb dJ5_append_3fe6f_0 rfl (lv_at hl 0 rfl) ?_
  refine lv_aload_n hx hb dJ5_append_3fe6f_1 rfl (lv_at hl 0 rfl) ?_
  refine g_get (ci := 1) (v := .int (F 25 0 3)) (C := RJ4) (T := TJ4) (N := 4) hx hb hts (fun _ h => (List.mem_cons_of_mem _ (List.mem_append_right _ h))) hown hK hH 25 0 (by decide) Nat.zero_lt_one rfl rfl 3 (by decide) (hts (.fieldLink RJ5 79 "java/lang/AbstractStringBuilder" "count" "I") (List.mem_of_getElem? (i := 1) rfl)) (fun _ h => h) rfl dJ5_append_3fe6f_2 ?_
  refine lv_iconst (v := 1) hx hb dJ5_append_3fe6f_5 (by decide) ?_
  refine lv_iadd hx hb dJ5_append_3fe6f_6 ?_
  refine va_callv (va_runU (As := [.int ((F 25 0 3) + 1)]) (rest := []) ⟨hx, hb, hml, hown, hts⟩ (c_J5_ensureCapacityInternal_d00df l G ad F ((F 25 0 3) + 1) _) (va_cwU 1 hts gJ5_append_3fe6f_J5_ensureCapacityInternal_d00df_u100J4 rfl rfl rfl rfl (by decide +kernel) ⟨Nat.le_of_ble_eq_true rfl, Nat.le_of_ble_eq_true rfl⟩) ⟨fun a U g mk h => ⟨h.1, gD_blind h.2.1, h.2.2⟩, g_recv (C := RJ4) (T := TJ4) (N := 4) hK hH 25 0 (by decide) Nat.zero_lt_one rfl rfl, fun U hU hW => ⟨rfl, gD_at hK hG hB hH hS hU hW, q⟩⟩ rfl rfl hl.1 rfl (lv_room (Nat.le_of_ble_eq_true rfl)) dJ5_append_3fe6f_7 ⟨Nat.le_of_ble_eq_true rfl, Nat.le_of_ble_eq_true rfl⟩) hS (fun _ _ h => h) (fun _ h => h) (fun F2 t H locs ht hvm q hB1 hz hk hS => ?_)
  have hH : gH G ad F2 H := gH_to ht hB1
  refine lv_aload_n hx hb dJ5_append_3fe6f_10 rfl (lv_at hl 0 rfl) ?_
  refine va_calli (va_runU (As := []) (rest := []) ⟨hx, hb, hml, hown, hts⟩ (c_J5_isLatin1_aae02 l G ad F2 _) (va_cwU 0 hts gJ5_append_3fe6f_J5_isLatin1_aae02_u83J4 rfl rfl rfl rfl (by decide +kernel) ⟨Nat.le_of_ble_eq_true rfl, Nat.le_of_ble_eq_true rfl⟩) ⟨fun a U g mk h => ⟨h.1, gD_blind h.2.1, h.2.2⟩, g_recv (C := RJ4) (T := TJ4) (N := 4) hK hH 25 0 (by decide) Nat.zero_lt_one rfl rfl, fun U hU hW => ⟨rfl, gD_at hK hG hB hH hS hU hW, q⟩⟩ rfl rfl hl.1 rfl (lv_room (Nat.le_of_ble_eq_true rfl)) dJ5_append_3fe6f_11 ⟨Nat.le_of_ble_eq_true rfl, Nat.le_of_ble_eq_true rfl⟩) hS (fun _ _ h => h) (fun _ h => h) (fun r3 F4 t H locs ht hvm q hB1 hz hk hS => ?_)
  have hH : gH G ad F4 H := gH_to ht hB1
  refine lv_if_eq (tgt := 45) hx hb dJ5_append_3fe6f_14 (by decide) (fun c5 => ?_) (fun c5 => ?_)
  · have q := (if_pos c5).mp q
    exact t_45 F4 p1 _ _ _ hH hS (lv_sub hl [0, 1] rfl) q
  · have q := (if_neg c5).mp q
    refine lv_iload_n hx hb dJ5_append_3fe6f_17 rfl (lv_at hl 1 rfl) ?_
    refine va_calli (va_runS (As := [.int p1]) (rest := []) ⟨hx, hb, hml, hown, hts⟩ (c_J1_canEncode_fc78d l G ad F4 p1 _) (va_cwS 1 hts gJ5_append_3fe6f_J1_canEncode_fc78d rfl rfl rfl (by decide +kernel) ⟨Nat.le_of_ble_eq_true rfl, Nat.le_of_ble_eq_true rfl⟩) ⟨fun a U g mk h => ⟨h.1, gD_blind h.2.1, h.2.2⟩, fun U hU hW => ⟨rfl, gD_at hK hG hB hH hS hU hW, q⟩⟩ rfl rfl hl.1 rfl (lv_room (Nat.le_of_ble_eq_true rfl)) dJ5_append_3fe6f_18 ⟨Nat.le_of_ble_eq_true rfl, Nat.le_of_ble_eq_true rfl⟩) hS (fun _ _ h => h) (fun _ h => h) (fun r10 F11 t H locs ht hvm q hB1 hz hk hS => ?_)
    have hH : gH G ad F11 H := gH_to ht hB1
    refine lv_if_eq (tgt := 45) hx hb dJ5_append_3fe6f_21 (by decide) (fun c12 => ?_) (fun c12 => ?_)
    · have q := (if_pos c12).mp q
      exact t_45 F11 p1 _ _ _ hH hS (lv_sub hl [0, 1] rfl) q
    · have q := (if_neg c12).mp q
      refine lv_aload_n hx hb dJ5_append_3fe6f_24 rfl (lv_at hl 0 rfl) ?_
      refine g_get (ci := 1) (v := .ref (ad 26 0)) (C := RJ4) (T := TJ4) (N := 4) hx hb hts (fun _ h => (List.mem_cons_of_mem _ (List.mem_append_right _ h))) hown hK hH 25 0 (by decide) Nat.zero_lt_one rfl rfl 0 (by decide) (hts (.fieldLink RJ5 15 "java/lang/AbstractStringBuilder" "value" "[B") (List.mem_of_getElem? (i := 2) rfl)) (fun _ h => h) rfl dJ5_append_3fe6f_25 ?_
      refine lv_aload_n hx hb dJ5_append_3fe6f_28 rfl (lv_at hl 0 rfl) ?_
      refine lv_dup hx hb dJ5_append_3fe6f_29 rfl ?_
      refine g_get (ci := 1) (v := .int (F11 25 0 3)) (C := RJ4) (T := TJ4) (N := 4) hx hb hts (fun _ h => (List.mem_cons_of_mem _ (List.mem_append_right _ h))) hown hK hH 25 0 (by decide) Nat.zero_lt_one rfl rfl 3 (by decide) (hts (.fieldLink RJ5 79 "java/lang/AbstractStringBuilder" "count" "I") (List.mem_of_getElem? (i := 1) rfl)) (fun _ h => h) rfl dJ5_append_3fe6f_30 ?_
      refine lv_dup_x1 hx hb dJ5_append_3fe6f_33 rfl rfl ?_
      refine lv_iconst (v := 1) hx hb dJ5_append_3fe6f_34 (by decide) ?_
      refine lv_iadd hx hb dJ5_append_3fe6f_35 ?_
      refine g_put (ci := 1) (v := .int ((F11 25 0 3) + 1)) (C := RJ4) (T := TJ4) (N := 4) hx hb hts (fun _ h => (List.mem_cons_of_mem _ (List.mem_append_right _ h))) tyJ4 tyJ4_ok nmJ4 hown hK hH hS 25 0 (by decide) Nat.zero_lt_one (by decide) rfl rfl 3 (by decide) (hts (.fieldLink RJ5 79 "java/lang/AbstractStringBuilder" "count" "I") (List.mem_of_getElem? (i := 1) rfl)) (fun _ h => h) rfl (ty := .int) (by decide +kernel) rfl rfl (Nat.le_of_ble_eq_true rfl) ((F11 25 0 3) + 1) rfl dJ5_append_3fe6f_36 (fun H locs hH hS => ?_)
      obtain ⟨F13, eF13⟩ : ∃ z, z = fs F11 25 0 3 ((F11 25 0 3) + 1) := ⟨_, rfl⟩
      have q := q F13 eF13
      rw [← eF13] at hH
      refine lv_iload_n hx hb dJ5_append_3fe6f_39 rfl (lv_at hl 1 rfl) ?_
      refine lv_i2b (v := p1.toInt8.toInt32) hx hb dJ5_append_3fe6f_40 rfl ?_
      obtain ⟨h14, q⟩ := q
      refine g_bast hx hb hK hH hS 26 0 (by decide) Nat.zero_lt_one (by decide) 16 (fun _ => rfl) h14 dJ5_append_3fe6f_41 (fun H locs hH hS => ?_)
      obtain ⟨F15, eF15⟩ : ∃ z, z = fs F13 26 0 (F11 25 0 3).toNatClampNeg (vp_nar .byte p1.toInt8.toInt32) := ⟨_, rfl⟩
      have q := q F15 eF15
      rw [← eF15] at hH
      refine lv_goto (tgt := 75) hx hb dJ5_append_3fe6f_42 (by decide) ?_
      refine lv_aload_n hx hb dJ5_append_3fe6f_75 rfl (lv_at hl 0 rfl) ?_
      exact (W.aret (v := .ref (ad 25 0)) hx hb hr (Or.inl ⟨_, rfl⟩) (Or.inr ⟨_, rfl⟩) (fun t ht hW => ⟨⟨some (ad 25 0), (0, F15), rfl, ⟨rfl, Nat.zero_lt_one, q⟩, gH_at ht hH⟩, hS.F ht⟩) hS.2.2 dJ5_append_3fe6f_76)
abbrev rm_J4_append_bf812 : Room := { frames := 2, cells := 0, slots := 0, locals := 49 }
abbrev q_J4_append_bf812 (G : GP) (ad : Nat → Nat → Nat) (K : Nat → GF → Prop) (below : List Frame) (args : Array Value) (s : State) : State → Prop := MQ below (gQr G ad 25 1 K) args s 0 0 (gA G)
set_option maxHeartbeats 4000000 in
set_option maxRecDepth 100000 in
theorem c_J4_append_bf812 (l : Launch) (G : GP) (ad : Nat → Nat → Nat) (F : GF) (p1 : Int32) (K : Nat → GF → Prop) : Met l yJ4_append_bf812 wsJ4_append_bf812 rm_J4_append_bf812 (va_Pc [.ref (ad 25 0), .int p1] (fun U => gD G ad F U ∧ P_J4_append_bf812 F p1 K)) (gQr G ad 25 1 K) 0 0 (gA G) := by
  refine Met.ofW (cc := cJ4_append_bf812) (maxL := 2) (ret := (some (.object "java/lang/StringBuilder"))) (by decide) rfl ?_
  intro p e s m args below meth c s₁ Bd hml hv
  obtain ⟨rfl, ⟨hK, hG, hB, hH⟩, q⟩ := hv
  have hx := Bd.exec
  have hb := Bd.bytes
  have hr := Bd.returns
  have hts := atoms_spec (ws := wsJ4_append_bf812) Bd.pre
  have hown : s.vm.findClass RJ4 = some m.cls := findClass_of_methodNamed Bd.named
  have hlocks := Bd.notSynchronized
  have hS : va_S (gA G) s.heap s.heap [] := va_S.rf
  have hl := lv_entry [.ref (ad 25 0), .int p1] (n := 2) (Nat.le_of_ble_eq_true rfl)
  rw [lg_entry_eq]
  generalize (lg_sl [.ref (ad 25 0), .int p1] ++ List.replicate (2 - (lg_sl [.ref (ad 25 0), .int p1]).length) Slot.unset).toArray = ls at hl ⊢
  have hl : lv_has ls 2 [(0, .ref (ad 25 0)), (1, .int p1)] := hl
  unfold P_J4_append_bf812 at q
  refine lv_aload_n hx hb dJ4_append_bf812_0 rfl (lv_at hl 0 rfl) ?_
  refine lv_iload_n hx hb dJ4_append_bf812_1 rfl (lv_at hl 1 rfl) ?_
  refine va_callq (va_runSU (hK.1 1 (RJ4, TJ4, 4) rfl).2 (As := [.int p1]) (rest := []) ⟨hx, hb, hml, hown, hts⟩ (c_J5_append_c97b9 l G ad F p1 _) (va_cwSU 1 hts gJ4_append_bf812_J5_append_c97b9_s53 rfl rfl rfl (by decide +kernel) ⟨Nat.le_of_ble_eq_true rfl, Nat.le_of_ble_eq_true rfl⟩) ⟨fun a U g mk h => ⟨h.1, gD_blind h.2.1, h.2.2⟩, g_recv (C := RJ4) (T := TJ4) (N := 4) hK hH 25 0 (by decide) Nat.zero_lt_one rfl rfl, fun U hU hW => ⟨rfl, gD_at hK hG hB hH hS hU hW, q⟩⟩ rfl rfl hl.1 rfl (lv_room (Nat.le_of_ble_eq_true rfl)) dJ4_append_bf812_2 ⟨Nat.le_of_ble_eq_true rfl, Nat.le_of_ble_eq_true rfl⟩) hS (fun _ _ h => h) (fun _ h => h) (fun r1o r1u t H locs ht hvm q hB1 hz hk hS => ?_)
  obtain ⟨r1, F2⟩ := r1u
  obtain ⟨r1e, r1h, q⟩ := q
  subst r1e
  have hH : gH G ad F2 H := gH_to ht hB1
  show W p l e rm_J4_append_bf812 s m ([.ref (ad 25 0), .int p1] : List Value).toArray below meth c H locs _ _ _ (F0 m _ ls (.ref (ad 25 r1) :: []))
  refine lv_pop hx hb dJ4_append_bf812_5 rfl ?_
  refine lv_aload_n hx hb dJ4_append_bf812_6 rfl (lv_at hl 0 rfl) ?_
  exact (W.aret (v := .ref (ad 25 0)) hx hb hr (Or.inl ⟨_, rfl⟩) (Or.inr ⟨_, rfl⟩) (fun t ht hW => ⟨⟨some (ad 25 0), (0, F2), rfl, ⟨rfl, Nat.zero_lt_one, q⟩, gH_at ht hH⟩, hS.F ht⟩) hS.2.2 dJ4_append_bf812_7)
abbrev rm_J4_append_cf468 : Room := { frames := 2, cells := 0, slots := 0, locals := 43 }
abbrev q_J4_append_cf468 (G : GP) (ad : Nat → Nat → Nat) (K : Nat → GF → Prop) (below : List Frame) (args : Array Value) (s : State) : State → Prop := MQ below (gQr G ad 25 1 K) args s 0 0 (gA G)
set_option maxHeartbeats 4000000 in
set_option maxRecDepth 100000 in
theorem c_J4_append_cf468 (l : Launch) (G : GP) (ad : Nat → Nat → Nat) (F : GF) (p1 : Int32) (K : Nat → GF → Prop) : Met l yJ4_append_cf468 wsJ4_append_cf468 rm_J4_append_cf468 (va_Pc [.ref (ad 25 0), .int p1] (fun U => gD G ad F U ∧ P_J4_append_cf468 F p1 K)) (gQr G ad 25 1 K) 0 0 (gA G) := by
  refine Met.ofW (cc := cJ4_append_cf468) (maxL := 2) (ret := (some (.object "java/lang/StringBuilder"))) (by decide) rfl ?_
  intro p e s m args below meth c s₁ Bd hml hv
  obtain ⟨rfl, ⟨hK, hG, hB, hH⟩, q⟩ := hv
  have hx := Bd.exec
  have hb := Bd.bytes
  have hr := Bd.returns
  have hts := atoms_spec (ws := wsJ4_append_cf468) Bd.pre
  have hown : s.vm.findClass RJ4 = some m.cls := findClass_of_methodNamed Bd.named
  have hlocks := Bd.notSynchronized
  have hS : va_S (gA G) s.heap s.heap [] := va_S.rf
  have hl := lv_entry [.ref (ad 25 0), .int p1] (n := 2) (Nat.le_of_ble_eq_true rfl)
  rw [lg_entry_eq]
  generalize (lg_sl [.ref (ad 25 0), .int p1] ++ List.replicate (2 - (lg_sl [.ref (ad 25 0), .int p1]).length) Slot.unset).toArray = ls at hl ⊢
  have hl : lv_has ls 2 [(0, .ref (ad 25 0)), (1, .int p1)] := hl
  unfold P_J4_append_cf468 at q
  refine lv_aload_n hx hb dJ4_append_cf468_0 rfl (lv_at hl 0 rfl) ?_
  refine lv_iload_n hx hb dJ4_append_cf468_1 rfl (lv_at hl 1 rfl) ?_
  refine va_callq (va_runSU (hK.1 1 (RJ4, TJ4, 4) rfl).2 (As := [.int p1]) (rest := []) ⟨hx, hb, hml, hown, hts⟩ (c_J5_append_3fe6f l G ad F p1 _) (va_cwSU 1 hts gJ4_append_cf468_J5_append_3fe6f_s50 rfl rfl rfl (by decide +kernel) ⟨Nat.le_of_ble_eq_true rfl, Nat.le_of_ble_eq_true rfl⟩) ⟨fun a U g mk h => ⟨h.1, gD_blind h.2.1, h.2.2⟩, g_recv (C := RJ4) (T := TJ4) (N := 4) hK hH 25 0 (by decide) Nat.zero_lt_one rfl rfl, fun U hU hW => ⟨rfl, gD_at hK hG hB hH hS hU hW, q⟩⟩ rfl rfl hl.1 rfl (lv_room (Nat.le_of_ble_eq_true rfl)) dJ4_append_cf468_2 ⟨Nat.le_of_ble_eq_true rfl, Nat.le_of_ble_eq_true rfl⟩) hS (fun _ _ h => h) (fun _ h => h) (fun r1o r1u t H locs ht hvm q hB1 hz hk hS => ?_)
  obtain ⟨r1, F2⟩ := r1u
  obtain ⟨r1e, r1h, q⟩ := q
  subst r1e
  have hH : gH G ad F2 H := gH_to ht hB1
  show W p l e rm_J4_append_cf468 s m ([.ref (ad 25 0), .int p1] : List Value).toArray below meth c H locs _ _ _ (F0 m _ ls (.ref (ad 25 r1) :: []))
  refine lv_pop hx hb dJ4_append_cf468_5 rfl ?_
  refine lv_aload_n hx hb dJ4_append_cf468_6 rfl (lv_at hl 0 rfl) ?_
  exact (W.aret (v := .ref (ad 25 0)) hx hb hr (Or.inl ⟨_, rfl⟩) (Or.inr ⟨_, rfl⟩) (fun t ht hW => ⟨⟨some (ad 25 0), (0, F2), rfl, ⟨rfl, Nat.zero_lt_one, q⟩, gH_at ht hH⟩, hS.F ht⟩) hS.2.2 dJ4_append_cf468_7)
abbrev rm_J5_charAt_5068e : Room := { frames := 2, cells := 0, slots := 0, locals := 43 }
abbrev q_J5_charAt_5068e (G : GP) (ad : Nat → Nat → Nat) (K : Int32 → GF → Prop) (below : List Frame) (args : Array Value) (s : State) : State → Prop := MQ below (gQi G ad K) args s 0 0 (gA G)
set_option maxHeartbeats 4000000 in
set_option maxRecDepth 100000 in
theorem c_J5_charAt_5068e (l : Launch) (G : GP) (ad : Nat → Nat → Nat) (F : GF) (p1 : Int32) (K : Int32 → GF → Prop) : Met l yJ5_charAt_5068e wsJ5_charAt_5068e rm_J5_charAt_5068e (va_Pc [.ref (ad 25 0), .int p1] (fun U => gD G ad F U ∧ P_J5_charAt_5068e F p1 K)) (gQi G ad K) 0 0 (gA G) := by
  refine Met.ofW (cc := cJ5_charAt_5068e) (maxL := 5) (ret := (some .char)) (by decide) rfl ?_
  intro p e s m args below meth c s₁ Bd hml hv
  obtain ⟨rfl, ⟨hK, hG, hB, hH⟩, q⟩ := hv
  have hx := Bd.exec
  have hb := Bd.bytes
  have hr := Bd.returns
  have hts := atoms_spec (ws := wsJ5_charAt_5068e) Bd.pre
  have hown : s.vm.findClass RJ5 = some m.cls := findClass_of_methodNamed Bd.named
  have hlocks := Bd.notSynchronized
  have hS : va_S (gA G) s.heap s.heap [] := va_S.rf
  have hl := lv_entry [.ref (ad 25 0), .int p1] (n := 5) (Nat.le_of_ble_eq_true rfl)
  rw [lg_entry_eq]
  generalize (lg_sl [.ref (ad 25 0), .int p1] ++ List.replicate (5 - (lg_sl [.ref (ad 25 0), .int p1]).length) Slot.unset).toArray = ls at hl ⊢
  have hl : lv_has ls 5 [(0, .ref (ad 25 0)), (1, .int p1)] := hl
  unfold P_J5_charAt_5068e at q
  refine lv_aload_n hx hb dJ5_charAt_5068e_0 rfl (lv_at hl 0 rfl) ?_
  refine g_get (ci := 1) (v := .int (F 25 0 1)) (C := RJ4) (T := TJ4) (N := 4) hx hb hts (fun _ h => (List.mem_cons_of_mem _ (List.mem_append_right _ h))) hown hK hH 25 0 (by decide) Nat.zero_lt_one rfl rfl 1 (by decide) (hts (.fieldLink RJ5 22 "java/lang/AbstractStringBuilder" "coder" "B") (List.mem_of_getElem? (i := 1) rfl)) (fun _ h => h) rfl dJ5_charAt_5068e_1 ?_
  refine lv_istore_n (lv' := [(2, .int (F 25 0 1)), (0, .ref (ad 25 0)), (1, .int p1)]) hx hb dJ5_charAt_5068e_4 rfl hl (by decide) rfl (fun ls hl => ?_)
  refine lv_aload_n hx hb dJ5_charAt_5068e_5 rfl (lv_at hl 1 rfl) ?_
  refine g_get (ci := 1) (v := .ref (ad 26 0)) (C := RJ4) (T := TJ4) (N := 4) hx hb hts (fun _ h => (List.mem_cons_of_mem _ (List.mem_append_right _ h))) hown hK hH 25 0 (by decide) Nat.zero_lt_one rfl rfl 0 (by decide) (hts (.fieldLink RJ5 15 "java/lang/AbstractStringBuilder" "value" "[B") (List.mem_of_getElem? (i := 2) rfl)) (fun _ h => h) rfl dJ5_charAt_5068e_6 ?_
  refine lv_astore_n (lv' := [(3, .ref (ad 26 0)), (2, .int (F 25 0 1)), (0, .ref (ad 25 0)), (1, .int p1)]) hx hb dJ5_charAt_5068e_9 rfl hl (by decide) rfl (fun ls hl => ?_)
  refine lv_aload_n hx hb dJ5_charAt_5068e_10 rfl (lv_at hl 2 rfl) ?_
  refine g_get (ci := 1) (v := .int (F 25 0 3)) (C := RJ4) (T := TJ4) (N := 4) hx hb hts (fun _ h => (List.mem_cons_of_mem _ (List.mem_append_right _ h))) hown hK hH 25 0 (by decide) Nat.zero_lt_one rfl rfl 3 (by decide) (hts (.fieldLink RJ5 79 "java/lang/AbstractStringBuilder" "count" "I") (List.mem_of_getElem? (i := 3) rfl)) (fun _ h => h) rfl dJ5_charAt_5068e_11 ?_
  refine lv_aload_n hx hb dJ5_charAt_5068e_14 rfl (lv_at hl 0 rfl) ?_
  refine g_alen (v := 16) hx hb hK hH 26 0 (by decide) Nat.zero_lt_one 0 rfl rfl (by decide) dJ5_charAt_5068e_15 ?_
  refine lv_iload_n hx hb dJ5_charAt_5068e_16 rfl (lv_at hl 1 rfl) ?_
  refine lv_ishr hx hb dJ5_charAt_5068e_17 ?_
  refine va_mmin hx hb (hml.trans hl.1.symm) hown (hts (.methodLink RJ5 138 Lib.Math.min.name) (List.mem_of_getElem? (i := 4) rfl)) (hts (.static Lib.Math.min.name) (List.mem_of_getElem? (i := 5) rfl)) (hts (.initialized "java/lang/Math") (List.mem_of_getElem? (i := 6) rfl)) (hts (.code Lib.Math.min.name Lib.Math.min.code 2 (some .int)) (List.mem_of_getElem? (i := 7) rfl)) (Nat.le_of_ble_eq_true rfl) (Nat.le_of_ble_eq_true rfl) (Nat.le_of_ble_eq_true rfl) (Nat.le_of_ble_eq_true rfl) dJ5_charAt_5068e_18 ?_
  refine lv_topi (fun y1 ey1 => ?_)
  have q := q y1 ey1
  refine lv_istore (lv' := [(4, .int y1), (3, .ref (ad 26 0)), (2, .int (F 25 0 1)), (0, .ref (ad 25 0)), (1, .int p1)]) hx hb dJ5_charAt_5068e_21 hl (by decide) rfl (fun ls hl => ?_)
  refine lv_iload_n hx hb dJ5_charAt_5068e_23 rfl (lv_at hl 4 rfl) ?_
  refine lv_iload hx hb dJ5_charAt_5068e_24 (lv_at hl 0 rfl) ?_
  refine va_callv (va_runS (As := [.int p1, .int y1]) (rest := []) ⟨hx, hb, hml, hown, hts⟩ (c_J0_checkIndex_df160 l G ad F p1 y1 _) (va_cwS 2 hts gJ5_charAt_5068e_J0_checkIndex_df160 rfl rfl rfl (by decide +kernel) ⟨Nat.le_of_ble_eq_true rfl, Nat.le_of_ble_eq_true rfl⟩) ⟨fun a U g mk h => ⟨h.1, gD_blind h.2.1, h.2.2⟩, fun U hU hW => ⟨rfl, gD_at hK hG hB hH hS hU hW, q⟩⟩ rfl rfl hl.1 rfl (lv_room (Nat.le_of_ble_eq_true rfl)) dJ5_charAt_5068e_26 ⟨Nat.le_of_ble_eq_true rfl, Nat.le_of_ble_eq_true rfl⟩) hS (fun _ _ h => h) (fun _ h => h) (fun F3 t H locs ht hvm q hB1 hz hk hS => ?_)
  have hH : gH G ad F3 H := gH_to ht hB1
  refine lv_iload_n hx hb dJ5_charAt_5068e_29 rfl (lv_at hl 2 rfl) ?_
  refine lv_if_ne (tgt := 42) hx hb dJ5_charAt_5068e_30 (by decide) (fun c4 => ?_) (fun c4 => ?_)
  · have q := (if_neg c4).mp q
    refine lv_aload_n hx hb dJ5_charAt_5068e_42 rfl (lv_at hl 1 rfl) ?_
    refine lv_iload_n hx hb dJ5_charAt_5068e_43 rfl (lv_at hl 4 rfl) ?_
    exact q.elim
  · have q := (if_pos c4).mp q
    refine lv_aload_n hx hb dJ5_charAt_5068e_33 rfl (lv_at hl 1 rfl) ?_
    refine lv_iload_n hx hb dJ5_charAt_5068e_34 rfl (lv_at hl 4 rfl) ?_
    obtain ⟨h5, q⟩ := q
    refine g_bald hx hb hK hH 26 0 (by decide) Nat.zero_lt_one 16 rfl h5 dJ5_charAt_5068e_35 ?_
    refine lv_sipush (v := 255) hx hb dJ5_charAt_5068e_36 (by decide) ?_
    refine lv_iand hx hb dJ5_charAt_5068e_39 ?_
    refine lv_i2c (v := (((F3 26 0 p1.toNatClampNeg) &&& 255).toUInt32 % 65536).toInt32) hx hb dJ5_charAt_5068e_40 rfl ?_
    obtain ⟨h6, q⟩ := q
    exact (W.zret (v := ((((F3 26 0 p1.toNatClampNeg) &&& 255).toUInt32 % 65536).toInt32)) hx hb hr h6 (fun t ht hW => ⟨⟨((((F3 26 0 p1.toNatClampNeg) &&& 255).toUInt32 % 65536).toInt32), F3, rfl, q, gH_at ht hH⟩, hS.F ht⟩) hS.2.2 dJ5_charAt_5068e_41)
abbrev rm_J4_charAt_5068e : Room := { frames := 3, cells := 0, slots := 0, locals := 67 }
abbrev q_J4_charAt_5068e (G : GP) (ad : Nat → Nat → Nat) (K : Int32 → GF → Prop) (below : List Frame) (args : Array Value) (s : State) : State → Prop := MQ below (gQi G ad K) args s 0 0 (gA G)
set_option maxHeartbeats 4000000 in
set_option maxRecDepth 100000 in
theorem c_J4_charAt_5068e (l : Launch) (G : GP) (ad : Nat → Nat → Nat) (F : GF) (p1 : Int32) (K : Int32 → GF → Prop) : Met l yJ4_charAt_5068e wsJ4_charAt_5068e rm_J4_charAt_5068e (va_Pc [.ref (ad 25 0), .int p1] (fun U => gD G ad F U ∧ P_J4_charAt_5068e F p1 K)) (gQi G ad K) 0 0 (gA G) := by
  refine Met.ofW (cc := cJ4_charAt_5068e) (maxL := 2) (ret := (some .char)) (by decide) rfl ?_
  intro p e s m args below meth c s₁ Bd hml hv
  obtain ⟨rfl, ⟨hK, hG, hB, hH⟩, q⟩ := hv
  have hx := Bd.exec
  have hb := Bd.bytes
  have hr := Bd.returns
  have hts := atoms_spec (ws := wsJ4_charAt_5068e) Bd.pre
  have hown : s.vm.findClass RJ4 = some m.cls := findClass_of_methodNamed Bd.named
  have hlocks := Bd.notSynchronized
  have hS : va_S (gA G) s.heap s.heap [] := va_S.rf
  have hl := lv_entry [.ref (ad 25 0), .int p1] (n := 2) (Nat.le_of_ble_eq_true rfl)
  rw [lg_entry_eq]
  generalize (lg_sl [.ref (ad 25 0), .int p1] ++ List.replicate (2 - (lg_sl [.ref (ad 25 0), .int p1]).length) Slot.unset).toArray = ls at hl ⊢
  have hl : lv_has ls 2 [(0, .ref (ad 25 0)), (1, .int p1)] := hl
  unfold P_J4_charAt_5068e at q
  refine lv_aload_n hx hb dJ4_charAt_5068e_0 rfl (lv_at hl 0 rfl) ?_
  refine lv_iload_n hx hb dJ4_charAt_5068e_1 rfl (lv_at hl 1 rfl) ?_
  refine va_calli (va_runSU (hK.1 1 (RJ4, TJ4, 4) rfl).2 (As := [.int p1]) (rest := []) ⟨hx, hb, hml, hown, hts⟩ (c_J5_charAt_5068e l G ad F p1 _) (va_cwSU 1 hts gJ4_charAt_5068e_J5_charAt_5068e_s329 rfl rfl rfl (by decide +kernel) ⟨Nat.le_of_ble_eq_true rfl, Nat.le_of_ble_eq_true rfl⟩) ⟨fun a U g mk h => ⟨h.1, gD_blind h.2.1, h.2.2⟩, g_recv (C := RJ4) (T := TJ4) (N := 4) hK hH 25 0 (by decide) Nat.zero_lt_one rfl rfl, fun U hU hW => ⟨rfl, gD_at hK hG hB hH hS hU hW, q⟩⟩ rfl rfl hl.1 rfl (lv_room (Nat.le_of_ble_eq_true rfl)) dJ4_charAt_5068e_2 ⟨Nat.le_of_ble_eq_true rfl, Nat.le_of_ble_eq_true rfl⟩) hS (fun _ _ h => h) (fun _ h => h) (fun r1 F2 t H locs ht hvm q hB1 hz hk hS => ?_)
  have hH : gH G ad F2 H := gH_to ht hB1
  obtain ⟨h3, q⟩ := q
  exact (W.zret (v := r1) hx hb hr h3 (fun t ht hW => ⟨⟨r1, F2, rfl, q, gH_at ht hH⟩, hS.F ht⟩) hS.2.2 dJ4_charAt_5068e_5)
