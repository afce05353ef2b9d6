def gL (U : State) : Prop := va_Nc "java/lang/IllegalArgumentException" "java/lang/IndexOutOfBoundsException" U ∧ va_Nc "java/lang/IllegalStateException" "java/lang/IndexOutOfBoundsException" U ∧ va_Nc "java/lang/IllegalStateException" "java/lang/IllegalArgumentException" U
theorem gL.moved {u U : State} (hvm : u.vm.Alike U.vm) (h : gL u) : gL U := ⟨va_Nc.moved hvm h.1, va_Nc.moved hvm h.2.1, va_Nc.moved hvm h.2.2⟩
theorem gXs_self : ∀ q ∈ gXs, Cond.castable q.2 q.2 ∈ (vx_atS RX10 q.1 q.2 gUp).filter (fun w => !goodWord w) := by decide +kernel
theorem gcast {G : GP} {U : State} (h : gS G U) {q : Nat × String} (hq : q ∈ gXs) : va_Nw (.castable q.2 q.2) U := h.2.2.2.1 q hq _ (gXs_self q hq)
theorem g_ofWH {l : Launch} {y : MethodName} {ws ws' : List Cond} {rm : Room} {Pc : Array Value → State → Prop} {Qc : Array Value → State → Outcome → State → Prop} {mc ms : Nat} {free : Addr → Prop} {cc : ByteArray} {maxL : Nat} {ret : Option FieldType} {hh : List (Nat × Nat × Nat × Nat)}
    (hy : plainName y.cls = true) (hw : ws = Cond.codeWith y cc maxL ret hh :: ws')
    (body : ∀ p e s m args below meth c s₁, BodyLoose p l y (headSpec ws rm) cc maxL ret e s m args below meth c s₁ → c.maxLocals = maxL → Pc args s →
      W p l e (headSpec ws rm).room s m args below meth c s.heap [] 0 0 (MQ below Qc args s mc ms free) (entryFrame m args maxL)) : Met l y ws rm Pc Qc mc ms free := by
  refine MetFree.of_bodyS (code := cc) (maxLocals := maxL) (ret := ret) hy ?_ ?_
  · intro args s m h hn
    obtain ⟨m9, meth, c, hn9, h1, h2, h3, h4, -, h5, h6, -⟩ := Cond.codeWith_spec (atoms_spec (ws := ws) h _ (by rw [hw]; exact List.mem_cons_self))
    cases hn.symm.trans hn9
    exact ⟨meth, c, h1, h2, h3, h4, h5, h6⟩
  · intro p e s m args below meth c s₁ B hml hP _
    have hh0 : s₁.heap = s.heap := by rw [B.state]; rfl
    obtain ⟨t, a1, o, b1, b2, b3⟩ := body p e s m args below meth c s₁ B hml hP s₁ hh0 (Stand.of_body B)
    exact ⟨t, o, a1, b1, b2, ⟨b3.1, b3.2⟩⟩
abbrev rm_L_does : Room := { frames := 9, cells := 6, slots := 36, locals := 156 }
abbrev q_L_does (G : GP) (ad : Nat → Nat → Nat) (K : Int32 → GF → Prop) (below : List Frame) (args : Array Value) (s : State) : State → Prop := MQ below (gQa G ad K) args s 6 36 (gA G)
set_option maxHeartbeats 4000000 in
set_option maxRecDepth 100000 in
theorem c_L_does (l : Launch) (hfl : l.stackTraces = false) (G : GP) (ad : Nat → Nat → Nat) (F : GF) (p1 : Int32) (p2 : Int32) (p3 : Int32) (K : Int32 → GF → Prop) : Met l yL_does wsL_does rm_L_does (va_Pc [.ref (ad 0 0), .int p1, .int p2, .int p3] (fun U => (gD G ad F U ∧ gL U) ∧ P_M_does F p1 p2 p3 K)) (gQa G ad K) 6 36 (gA G) := by
  refine g_ofWH (hh := [(0, 89, 90, 32), (0, 89, 95, 34), (0, 89, 100, 36)]) (cc := cL_does) (maxL := 5) (ret := (some .int)) (by decide) rfl ?_
  intro p e s m args below meth c s₁ Bd hml hv
  obtain ⟨rfl, ⟨⟨hK, hG, hB, hH⟩, hL⟩, q⟩ := hv
  have hx := Bd.exec
  have hb := Bd.bytes
  have hr := Bd.returns
  have hts := atoms_spec (ws := wsL_does) Bd.pre
  have hown : s.vm.findClass RL = some m.cls := findClass_of_methodNamed Bd.named
  have hlocks := Bd.notSynchronized
  have htab := vx_table (x := yL_does) Bd (hts _ List.mem_cons_self)
  have hS : va_S (gA G) s.heap s.heap [] := va_S.rf
  have hl := lv_entry [.ref (ad 0 0), .int p1, .int p2, .int p3] (n := 5) (Nat.le_of_ble_eq_true rfl)
  rw [lg_entry_eq]
  generalize (lg_sl [.ref (ad 0 0), .int p1, .int p2, .int p3] ++ List.replicate (5 - (lg_sl [.ref (ad 0 0), .int p1, .int p2, .int p3]).length) Slot.unset).toArray = ls at hl ⊢
  have hl : lv_has ls 5 [(0, .ref (ad 0 0)), (1, .int p1), (2, .int p2), (3, .int p3)] := hl
  unfold P_M_does at q
  refine lv_iload_n hx hb dL_does_0 rfl (lv_at hl 1 rfl) ?_
  refine lv_if_ne (tgt := 13) hx hb dL_does_1 (by decide) (fun c1 => ?_) (fun c1 => ?_)
  · have q := (if_neg c1).mp q
    refine lv_iload_n hx hb dL_does_13 rfl (lv_at hl 1 rfl) ?_
    refine lv_iconst (v := 1) hx hb dL_does_14 (by decide) ?_
    refine lv_icmp_ne (tgt := 27) hx hb dL_does_15 (by decide) (fun c2 => ?_) (fun c2 => ?_)
    · have q := (if_neg c2).mp q
      refine lv_iload_n hx hb dL_does_27 rfl (lv_at hl 1 rfl) ?_
      refine lv_iconst (v := 2) hx hb dL_does_28 (by decide) ?_
      refine lv_icmp_ne (tgt := 41) hx hb dL_does_29 (by decide) (fun c3 => ?_) (fun c3 => ?_)
      · have q := (if_neg c3).mp q
        refine lv_iload_n hx hb dL_does_41 rfl (lv_at hl 1 rfl) ?_
        refine lv_iconst (v := 3) hx hb dL_does_42 (by decide) ?_
        refine lv_icmp_ne (tgt := 55) hx hb dL_does_43 (by decide) (fun c4 => ?_) (fun c4 => ?_)
        · have q := (if_neg c4).mp q
          refine lv_iload_n hx hb dL_does_55 rfl (lv_at hl 1 rfl) ?_
          refine lv_iconst (v := 4) hx hb dL_does_56 (by decide) ?_
          refine lv_icmp_ne (tgt := 69) hx hb dL_does_57 (by decide) (fun c5 => ?_) (fun c5 => ?_)
          · have q := (if_neg c5).mp q
            refine lv_iload_n hx hb dL_does_69 rfl (lv_at hl 1 rfl) ?_
            refine lv_iconst (v := 5) hx hb dL_does_70 (by decide) ?_
            refine lv_icmp_ne (tgt := 83) hx hb dL_does_71 (by decide) (fun c6 => ?_) (fun c6 => ?_)
            · have q := (if_neg c6).mp q
              refine lv_aload_n hx hb dL_does_83 rfl (lv_at hl 0 rfl) ?_
              refine lv_iload_n hx hb dL_does_84 rfl (lv_at hl 2 rfl) ?_
              refine lv_iload_n hx hb dL_does_85 rfl (lv_at hl 3 rfl) ?_
              refine vx_calli (vx_runV (As := [.int p2, .int p3]) (rest := []) ⟨hx, hb, hml, hown, hts⟩ (c_X10_setSlip l hfl G ad F p2 p3 _ _) (cwV 2 hts gL_does_X10_setSlip rfl rfl rfl (by decide +kernel) ⟨Nat.le_of_ble_eq_true rfl, Nat.le_of_ble_eq_true rfl⟩) ⟨fun a U g mk h => ⟨h.1, gD_blind h.2.1, h.2.2⟩, g_recv (C := RX10) (T := TX10) (N := 8) hK hH 0 0 (by decide) Nat.zero_lt_one rfl rfl, fun U hU hW => ⟨rfl, gD_at hK hG hB hH hS hU hW, q⟩⟩ rfl rfl hl.1 rfl (lv_room (Nat.le_of_ble_eq_true rfl)) dL_does_86 ⟨Nat.le_of_ble_eq_true rfl, Nat.le_of_ble_eq_true rfl⟩) hS (fun _ _ h => h) (fun _ h => h) (fun _ _ h => h) (fun E9 ce q9 F9 t H locs ht hvm _ hq hz hk hS hc9 hv9 hcl9 => ?_) (fun r7 F8 t H locs ht hvm q hB1 hz hk hS => ?_)
              · have hH : gH G ad F9 H := gH_to ht hq.2
                rcases hq.1 with ⟨rfl, q⟩ | ⟨rfl, q⟩ | ⟨rfl, q⟩
                · refine vx_catch hown [] ⟨0, 89, 90, 32⟩ [⟨0, 89, 95, 34⟩, ⟨0, 89, 100, 36⟩] (htab.trans rfl) (fun _ h => absurd h List.not_mem_nil) rfl (by decide) (hts (.classLink RL 32 "java/lang/IndexOutOfBoundsException") (List.mem_of_getElem? (i := 1) rfl)) (va_Nw.use rfl (gcast hG (List.mem_of_getElem? (i := 0) rfl))) hc9 hv9 hcl9 ?_
                  refine lv_astore (lv' := [(4, .ref q9), (0, .ref (ad 0 0)), (1, .int p1), (2, .int p2), (3, .int p3)]) hx hb dL_does_90 hl (by decide) rfl (fun ls hl => ?_)
                  refine lv_bipush (v := (-8)) hx hb dL_does_92 (by decide) ?_
                  refine W.widen (k := 6) (n := 36) (Nat.le_of_ble_eq_true rfl) (Nat.le_of_ble_eq_true rfl) ?_
                  exact (W.iret (v := (-8)) hx hb hr (fun t ht hW => ⟨⟨(-8), (F9, ad), rfl, ⟨q, fun f i hf => rfl⟩, gH_at ht hH⟩, hS.F ht⟩) hS.2.2 dL_does_94)
                · refine vx_catch hown [⟨0, 89, 90, 32⟩] ⟨0, 89, 95, 34⟩ [⟨0, 89, 100, 36⟩] (htab.trans rfl) (List.forall_mem_cons.mpr ⟨Or.inr ⟨by decide, "java/lang/IndexOutOfBoundsException", hts (.classLink RL 32 "java/lang/IndexOutOfBoundsException") (List.mem_of_getElem? (i := 1) rfl), hL.1⟩, (fun _ h => absurd h List.not_mem_nil)⟩) rfl (by decide) (hts (.classLink RL 34 "java/lang/IllegalArgumentException") (List.mem_of_getElem? (i := 2) rfl)) (va_Nw.use rfl (gcast hG (List.mem_of_getElem? (i := 1) rfl))) hc9 hv9 hcl9 ?_
                  refine lv_astore (lv' := [(4, .ref q9), (0, .ref (ad 0 0)), (1, .int p1), (2, .int p2), (3, .int p3)]) hx hb dL_does_95 hl (by decide) rfl (fun ls hl => ?_)
                  refine lv_bipush (v := (-8)) hx hb dL_does_97 (by decide) ?_
                  refine W.widen (k := 6) (n := 36) (Nat.le_of_ble_eq_true rfl) (Nat.le_of_ble_eq_true rfl) ?_
                  exact (W.iret (v := (-8)) hx hb hr (fun t ht hW => ⟨⟨(-8), (F9, ad), rfl, ⟨q, fun f i hf => rfl⟩, gH_at ht hH⟩, hS.F ht⟩) hS.2.2 dL_does_99)
                · refine vx_catch hown [⟨0, 89, 90, 32⟩, ⟨0, 89, 95, 34⟩] ⟨0, 89, 100, 36⟩ [] (htab.trans rfl) (List.forall_mem_cons.mpr ⟨Or.inr ⟨by decide, "java/lang/IndexOutOfBoundsException", hts (.classLink RL 32 "java/lang/IndexOutOfBoundsException") (List.mem_of_getElem? (i := 1) rfl), hL.2.1⟩, (List.forall_mem_cons.mpr ⟨Or.inr ⟨by decide, "java/lang/IllegalArgumentException", hts (.classLink RL 34 "java/lang/IllegalArgumentException") (List.mem_of_getElem? (i := 2) rfl), hL.2.2⟩, (fun _ h => absurd h List.not_mem_nil)⟩)⟩) rfl (by decide) (hts (.classLink RL 36 "java/lang/IllegalStateException") (List.mem_of_getElem? (i := 3) rfl)) (va_Nw.use rfl (gcast hG (List.mem_of_getElem? (i := 2) rfl))) hc9 hv9 hcl9 ?_
                  refine lv_astore (lv' := [(4, .ref q9), (0, .ref (ad 0 0)), (1, .int p1), (2, .int p2), (3, .int p3)]) hx hb dL_does_100 hl (by decide) rfl (fun ls hl => ?_)
                  refine lv_bipush (v := (-8)) hx hb dL_does_102 (by decide) ?_
                  refine W.widen (k := 6) (n := 36) (Nat.le_of_ble_eq_true rfl) (Nat.le_of_ble_eq_true rfl) ?_
                  exact (W.iret (v := (-8)) hx hb hr (fun t ht hW => ⟨⟨(-8), (F9, ad), rfl, ⟨q, fun f i hf => rfl⟩, gH_at ht hH⟩, hS.F ht⟩) hS.2.2 dL_does_104)
              have hH : gH G ad F8 H := gH_to ht hB1
              refine W.widen (k := 6) (n := 36) (Nat.le_of_ble_eq_true rfl) (Nat.le_of_ble_eq_true rfl) ?_
              exact (W.iret (v := r7) hx hb hr (fun t ht hW => ⟨⟨r7, (F8, ad), rfl, ⟨q, fun f i hf => rfl⟩, gH_at ht hH⟩, hS.F ht⟩) hS.2.2 dL_does_89)
            · have q := (if_pos c6).mp q
              refine lv_aload_n hx hb dL_does_74 rfl (lv_at hl 0 rfl) ?_
              refine lv_iload_n hx hb dL_does_75 rfl (lv_at hl 2 rfl) ?_
              refine lv_iload_n hx hb dL_does_76 rfl (lv_at hl 3 rfl) ?_
              refine vx_calli (vx_runV (As := [.int p2, .int p3]) (rest := []) ⟨hx, hb, hml, hown, hts⟩ (c_X10_early l hfl G ad F p2 p3 _ _) (cwV 2 hts gL_does_X10_early rfl rfl rfl (by decide +kernel) ⟨Nat.le_of_ble_eq_true rfl, Nat.le_of_ble_eq_true rfl⟩) ⟨fun a U g mk h => ⟨h.1, gD_blind h.2.1, h.2.2⟩, g_recv (C := RX10) (T := TX10) (N := 8) hK hH 0 0 (by decide) Nat.zero_lt_one rfl rfl, fun U hU hW => ⟨rfl, gD_at hK hG hB hH hS hU hW, q⟩⟩ rfl rfl hl.1 rfl (lv_room (Nat.le_of_ble_eq_true rfl)) dL_does_77 ⟨Nat.le_of_ble_eq_true rfl, Nat.le_of_ble_eq_true rfl⟩) hS (fun _ _ h => h) (fun _ h => h) (fun _ _ h => h) (fun E9 ce q9 F9 t H locs ht hvm _ hq hz hk hS hc9 hv9 hcl9 => ?_) (fun r9 F10 t H locs ht hvm q hB1 hz hk hS => ?_)
              · have hH : gH G ad F9 H := gH_to ht hq.2
                rcases hq.1 with ⟨rfl, q⟩ | ⟨rfl, q⟩ | ⟨rfl, q⟩
                · refine vx_catch hown [] ⟨0, 89, 90, 32⟩ [⟨0, 89, 95, 34⟩, ⟨0, 89, 100, 36⟩] (htab.trans rfl) (fun _ h => absurd h List.not_mem_nil) rfl (by decide) (hts (.classLink RL 32 "java/lang/IndexOutOfBoundsException") (List.mem_of_getElem? (i := 1) rfl)) (va_Nw.use rfl (gcast hG (List.mem_of_getElem? (i := 0) rfl))) hc9 hv9 hcl9 ?_
                  refine lv_astore (lv' := [(4, .ref q9), (0, .ref (ad 0 0)), (1, .int p1), (2, .int p2), (3, .int p3)]) hx hb dL_does_90 hl (by decide) rfl (fun ls hl => ?_)
                  refine lv_bipush (v := (-8)) hx hb dL_does_92 (by decide) ?_
                  exact (W.iret (v := (-8)) hx hb hr (fun t ht hW => ⟨⟨(-8), (F9, ad), rfl, ⟨q, fun f i hf => rfl⟩, gH_at ht hH⟩, hS.F ht⟩) hS.2.2 dL_does_94)
                · refine vx_catch hown [⟨0, 89, 90, 32⟩] ⟨0, 89, 95, 34⟩ [⟨0, 89, 100, 36⟩] (htab.trans rfl) (List.forall_mem_cons.mpr ⟨Or.inr ⟨by decide, "java/lang/IndexOutOfBoundsException", hts (.classLink RL 32 "java/lang/IndexOutOfBoundsException") (List.mem_of_getElem? (i := 1) rfl), hL.1⟩, (fun _ h => absurd h List.not_mem_nil)⟩) rfl (by decide) (hts (.classLink RL 34 "java/lang/IllegalArgumentException") (List.mem_of_getElem? (i := 2) rfl)) (va_Nw.use rfl (gcast hG (List.mem_of_getElem? (i := 1) rfl))) hc9 hv9 hcl9 ?_
                  refine lv_astore (lv' := [(4, .ref q9), (0, .ref (ad 0 0)), (1, .int p1), (2, .int p2), (3, .int p3)]) hx hb dL_does_95 hl (by decide) rfl (fun ls hl => ?_)
                  refine lv_bipush (v := (-8)) hx hb dL_does_97 (by decide) ?_
                  exact (W.iret (v := (-8)) hx hb hr (fun t ht hW => ⟨⟨(-8), (F9, ad), rfl, ⟨q, fun f i hf => rfl⟩, gH_at ht hH⟩, hS.F ht⟩) hS.2.2 dL_does_99)
                · refine vx_catch hown [⟨0, 89, 90, 32⟩, ⟨0, 89, 95, 34⟩] ⟨0, 89, 100, 36⟩ [] (htab.trans rfl) (List.forall_mem_cons.mpr ⟨Or.inr ⟨by decide, "java/lang/IndexOutOfBoundsException", hts (.classLink RL 32 "java/lang/IndexOutOfBoundsException") (List.mem_of_getElem? (i := 1) rfl), hL.2.1⟩, (List.forall_mem_cons.mpr ⟨Or.inr ⟨by decide, "java/lang/IllegalArgumentException", hts (.classLink RL 34 "java/lang/IllegalArgumentException") (List.mem_of_getElem? (i := 2) rfl), hL.2.2⟩, (fun _ h => absurd h List.not_mem_nil)⟩)⟩) rfl (by decide) (hts (.classLink RL 36 "java/lang/IllegalStateException") (List.mem_of_getElem? (i := 3) rfl)) (va_Nw.use rfl (gcast hG (List.mem_of_getElem? (i := 2) rfl))) hc9 hv9 hcl9 ?_
                  refine lv_astore (lv' := [(4, .ref q9), (0, .ref (ad 0 0)), (1, .int p1), (2, .int p2), (3, .int p3)]) hx hb dL_does_100 hl (by decide) rfl (fun ls hl => ?_)
                  refine lv_bipush (v := (-8)) hx hb dL_does_102 (by decide) ?_
                  exact (W.iret (v := (-8)) hx hb hr (fun t ht hW => ⟨⟨(-8), (F9, ad), rfl, ⟨q, fun f i hf => rfl⟩, gH_at ht hH⟩, hS.F ht⟩) hS.2.2 dL_does_104)
              have hH : gH G ad F10 H := gH_to ht hB1
              refine lv_goto (tgt := 89) hx hb dL_does_80 (by decide) ?_
              exact (W.iret (v := r9) hx hb hr (fun t ht hW => ⟨⟨r9, (F10, ad), rfl, ⟨q, fun f i hf => rfl⟩, gH_at ht hH⟩, hS.F ht⟩) hS.2.2 dL_does_89)
          · have q := (if_pos c5).mp q
            refine lv_aload_n hx hb dL_does_60 rfl (lv_at hl 0 rfl) ?_
            refine lv_iload_n hx hb dL_does_61 rfl (lv_at hl 2 rfl) ?_
            refine lv_iload_n hx hb dL_does_62 rfl (lv_at hl 3 rfl) ?_
            refine vx_calli (vx_runV (As := [.int p2, .int p3]) (rest := []) ⟨hx, hb, hml, hown, hts⟩ (c_X10_seed l hfl G ad F p2 p3 _ _) (cwV 2 hts gL_does_X10_seed rfl rfl rfl (by decide +kernel) ⟨Nat.le_of_ble_eq_true rfl, Nat.le_of_ble_eq_true rfl⟩) ⟨fun a U g mk h => ⟨h.1, gD_blind h.2.1, h.2.2⟩, g_recv (C := RX10) (T := TX10) (N := 8) hK hH 0 0 (by decide) Nat.zero_lt_one rfl rfl, fun U hU hW => ⟨rfl, gD_at hK hG hB hH hS hU hW, q⟩⟩ rfl rfl hl.1 rfl (lv_room (Nat.le_of_ble_eq_true rfl)) dL_does_63 ⟨Nat.le_of_ble_eq_true rfl, Nat.le_of_ble_eq_true rfl⟩) hS (fun _ _ h => h) (fun _ h => h) (fun _ _ h => h) (fun E9 ce q9 F9 t H locs ht hvm _ hq hz hk hS hc9 hv9 hcl9 => ?_) (fun r11 F12 t H locs ht hvm q hB1 hz hk hS => ?_)
            · have hH : gH G ad F9 H := gH_to ht hq.2
              rcases hq.1 with ⟨rfl, q⟩ | ⟨rfl, q⟩ | ⟨rfl, q⟩
              · refine vx_catch hown [] ⟨0, 89, 90, 32⟩ [⟨0, 89, 95, 34⟩, ⟨0, 89, 100, 36⟩] (htab.trans rfl) (fun _ h => absurd h List.not_mem_nil) rfl (by decide) (hts (.classLink RL 32 "java/lang/IndexOutOfBoundsException") (List.mem_of_getElem? (i := 1) rfl)) (va_Nw.use rfl (gcast hG (List.mem_of_getElem? (i := 0) rfl))) hc9 hv9 hcl9 ?_
                refine lv_astore (lv' := [(4, .ref q9), (0, .ref (ad 0 0)), (1, .int p1), (2, .int p2), (3, .int p3)]) hx hb dL_does_90 hl (by decide) rfl (fun ls hl => ?_)
                refine lv_bipush (v := (-8)) hx hb dL_does_92 (by decide) ?_
                refine W.widen (k := 6) (n := 36) (Nat.le_of_ble_eq_true rfl) (Nat.le_of_ble_eq_true rfl) ?_
                exact (W.iret (v := (-8)) hx hb hr (fun t ht hW => ⟨⟨(-8), (F9, ad), rfl, ⟨q, fun f i hf => rfl⟩, gH_at ht hH⟩, hS.F ht⟩) hS.2.2 dL_does_94)
              · refine vx_catch hown [⟨0, 89, 90, 32⟩] ⟨0, 89, 95, 34⟩ [⟨0, 89, 100, 36⟩] (htab.trans rfl) (List.forall_mem_cons.mpr ⟨Or.inr ⟨by decide, "java/lang/IndexOutOfBoundsException", hts (.classLink RL 32 "java/lang/IndexOutOfBoundsException") (List.mem_of_getElem? (i := 1) rfl), hL.1⟩, (fun _ h => absurd h List.not_mem_nil)⟩) rfl (by decide) (hts (.classLink RL 34 "java/lang/IllegalArgumentException") (List.mem_of_getElem? (i := 2) rfl)) (va_Nw.use rfl (gcast hG (List.mem_of_getElem? (i := 1) rfl))) hc9 hv9 hcl9 ?_
                refine lv_astore (lv' := [(4, .ref q9), (0, .ref (ad 0 0)), (1, .int p1), (2, .int p2), (3, .int p3)]) hx hb dL_does_95 hl (by decide) rfl (fun ls hl => ?_)
                refine lv_bipush (v := (-8)) hx hb dL_does_97 (by decide) ?_
                refine W.widen (k := 6) (n := 36) (Nat.le_of_ble_eq_true rfl) (Nat.le_of_ble_eq_true rfl) ?_
                exact (W.iret (v := (-8)) hx hb hr (fun t ht hW => ⟨⟨(-8), (F9, ad), rfl, ⟨q, fun f i hf => rfl⟩, gH_at ht hH⟩, hS.F ht⟩) hS.2.2 dL_does_99)
              · refine vx_catch hown [⟨0, 89, 90, 32⟩, ⟨0, 89, 95, 34⟩] ⟨0, 89, 100, 36⟩ [] (htab.trans rfl) (List.forall_mem_cons.mpr ⟨Or.inr ⟨by decide, "java/lang/IndexOutOfBoundsException", hts (.classLink RL 32 "java/lang/IndexOutOfBoundsException") (List.mem_of_getElem? (i := 1) rfl), hL.2.1⟩, (List.forall_mem_cons.mpr ⟨Or.inr ⟨by decide, "java/lang/IllegalArgumentException", hts (.classLink RL 34 "java/lang/IllegalArgumentException") (List.mem_of_getElem? (i := 2) rfl), hL.2.2⟩, (fun _ h => absurd h List.not_mem_nil)⟩)⟩) rfl (by decide) (hts (.classLink RL 36 "java/lang/IllegalStateException") (List.mem_of_getElem? (i := 3) rfl)) (va_Nw.use rfl (gcast hG (List.mem_of_getElem? (i := 2) rfl))) hc9 hv9 hcl9 ?_
                refine lv_astore (lv' := [(4, .ref q9), (0, .ref (ad 0 0)), (1, .int p1), (2, .int p2), (3, .int p3)]) hx hb dL_does_100 hl (by decide) rfl (fun ls hl => ?_)
                refine lv_bipush (v := (-8)) hx hb dL_does_102 (by decide) ?_
                refine W.widen (k := 6) (n := 36) (Nat.le_of_ble_eq_true rfl) (Nat.le_of_ble_eq_true rfl) ?_
                exact (W.iret (v := (-8)) hx hb hr (fun t ht hW => ⟨⟨(-8), (F9, ad), rfl, ⟨q, fun f i hf => rfl⟩, gH_at ht hH⟩, hS.F ht⟩) hS.2.2 dL_does_104)
            have hH : gH G ad F12 H := gH_to ht hB1
            refine lv_goto (tgt := 89) hx hb dL_does_66 (by decide) ?_
            refine W.widen (k := 6) (n := 36) (Nat.le_of_ble_eq_true rfl) (Nat.le_of_ble_eq_true rfl) ?_
            exact (W.iret (v := r11) hx hb hr (fun t ht hW => ⟨⟨r11, (F12, ad), rfl, ⟨q, fun f i hf => rfl⟩, gH_at ht hH⟩, hS.F ht⟩) hS.2.2 dL_does_89)
        · have q := (if_pos c4).mp q
          refine lv_aload_n hx hb dL_does_46 rfl (lv_at hl 0 rfl) ?_
          refine lv_iload_n hx hb dL_does_47 rfl (lv_at hl 2 rfl) ?_
          refine lv_iload_n hx hb dL_does_48 rfl (lv_at hl 3 rfl) ?_
          refine vx_calli (vx_runV (As := [.int p2, .int p3]) (rest := []) ⟨hx, hb, hml, hown, hts⟩ (c_X10_move l hfl G ad F p2 p3 _ _) (cwV 2 hts gL_does_X10_move rfl rfl rfl (by decide +kernel) ⟨Nat.le_of_ble_eq_true rfl, Nat.le_of_ble_eq_true rfl⟩) ⟨fun a U g mk h => ⟨h.1, gD_blind h.2.1, h.2.2⟩, g_recv (C := RX10) (T := TX10) (N := 8) hK hH 0 0 (by decide) Nat.zero_lt_one rfl rfl, fun U hU hW => ⟨rfl, gD_at hK hG hB hH hS hU hW, q⟩⟩ rfl rfl hl.1 rfl (lv_room (Nat.le_of_ble_eq_true rfl)) dL_does_49 ⟨Nat.le_of_ble_eq_true rfl, Nat.le_of_ble_eq_true rfl⟩) hS (fun _ _ h => h) (fun _ h => h) (fun _ _ h => h) (fun E9 ce q9 F9 t H locs ht hvm _ hq hz hk hS hc9 hv9 hcl9 => ?_) (fun r13 F14u t H locs ht hvm q hB1 hz hk hS => ?_)
          · have hH : gH G ad F9 H := gH_to ht hq.2
            rcases hq.1 with ⟨rfl, q⟩ | ⟨rfl, q⟩ | ⟨rfl, q⟩
            · refine vx_catch hown [] ⟨0, 89, 90, 32⟩ [⟨0, 89, 95, 34⟩, ⟨0, 89, 100, 36⟩] (htab.trans rfl) (fun _ h => absurd h List.not_mem_nil) rfl (by decide) (hts (.classLink RL 32 "java/lang/IndexOutOfBoundsException") (List.mem_of_getElem? (i := 1) rfl)) (va_Nw.use rfl (gcast hG (List.mem_of_getElem? (i := 0) rfl))) hc9 hv9 hcl9 ?_
              refine lv_astore (lv' := [(4, .ref q9), (0, .ref (ad 0 0)), (1, .int p1), (2, .int p2), (3, .int p3)]) hx hb dL_does_90 hl (by decide) rfl (fun ls hl => ?_)
              refine lv_bipush (v := (-8)) hx hb dL_does_92 (by decide) ?_
              refine W.widen (k := 6) (n := 36) (Nat.le_of_ble_eq_true rfl) (Nat.le_of_ble_eq_true rfl) ?_
              exact (W.iret (v := (-8)) hx hb hr (fun t ht hW => ⟨⟨(-8), (F9, ad), rfl, ⟨q, fun f i hf => rfl⟩, gH_at ht hH⟩, hS.F ht⟩) hS.2.2 dL_does_94)
            · refine vx_catch hown [⟨0, 89, 90, 32⟩] ⟨0, 89, 95, 34⟩ [⟨0, 89, 100, 36⟩] (htab.trans rfl) (List.forall_mem_cons.mpr ⟨Or.inr ⟨by decide, "java/lang/IndexOutOfBoundsException", hts (.classLink RL 32 "java/lang/IndexOutOfBoundsException") (List.mem_of_getElem? (i := 1) rfl), hL.1⟩, (fun _ h => absurd h List.not_mem_nil)⟩) rfl (by decide) (hts (.classLink RL 34 "java/lang/IllegalArgumentException") (List.mem_of_getElem? (i := 2) rfl)) (va_Nw.use rfl (gcast hG (List.mem_of_getElem? (i := 1) rfl))) hc9 hv9 hcl9 ?_
              refine lv_astore (lv' := [(4, .ref q9), (0, .ref (ad 0 0)), (1, .int p1), (2, .int p2), (3, .int p3)]) hx hb dL_does_95 hl (by decide) rfl (fun ls hl => ?_)
              refine lv_bipush (v := (-8)) hx hb dL_does_97 (by decide) ?_
              refine W.widen (k := 6) (n := 36) (Nat.le_of_ble_eq_true rfl) (Nat.le_of_ble_eq_true rfl) ?_
              exact (W.iret (v := (-8)) hx hb hr (fun t ht hW => ⟨⟨(-8), (F9, ad), rfl, ⟨q, fun f i hf => rfl⟩, gH_at ht hH⟩, hS.F ht⟩) hS.2.2 dL_does_99)
            · refine vx_catch hown [⟨0, 89, 90, 32⟩, ⟨0, 89, 95, 34⟩] ⟨0, 89, 100, 36⟩ [] (htab.trans rfl) (List.forall_mem_cons.mpr ⟨Or.inr ⟨by decide, "java/lang/IndexOutOfBoundsException", hts (.classLink RL 32 "java/lang/IndexOutOfBoundsException") (List.mem_of_getElem? (i := 1) rfl), hL.2.1⟩, (List.forall_mem_cons.mpr ⟨Or.inr ⟨by decide, "java/lang/IllegalArgumentException", hts (.classLink RL 34 "java/lang/IllegalArgumentException") (List.mem_of_getElem? (i := 2) rfl), hL.2.2⟩, (fun _ h => absurd h List.not_mem_nil)⟩)⟩) rfl (by decide) (hts (.classLink RL 36 "java/lang/IllegalStateException") (List.mem_of_getElem? (i := 3) rfl)) (va_Nw.use rfl (gcast hG (List.mem_of_getElem? (i := 2) rfl))) hc9 hv9 hcl9 ?_
              refine lv_astore (lv' := [(4, .ref q9), (0, .ref (ad 0 0)), (1, .int p1), (2, .int p2), (3, .int p3)]) hx hb dL_does_100 hl (by decide) rfl (fun ls hl => ?_)
              refine lv_bipush (v := (-8)) hx hb dL_does_102 (by decide) ?_
              refine W.widen (k := 6) (n := 36) (Nat.le_of_ble_eq_true rfl) (Nat.le_of_ble_eq_true rfl) ?_
              exact (W.iret (v := (-8)) hx hb hr (fun t ht hW => ⟨⟨(-8), (F9, ad), rfl, ⟨q, fun f i hf => rfl⟩, gH_at ht hH⟩, hS.F ht⟩) hS.2.2 dL_does_104)
          obtain ⟨F14, ad1⟩ := F14u
          obtain ⟨q, hα⟩ := q
          have hα : ∀ f i : Nat, f ≠ 39 → ad1 f i = ad f i := hα
          have hH : gH G ad1 F14 H := gH_to ht hB1
          refine W.eq (g2 := F0 m 52 ls [.int r13]) (rfl) ?_
          refine lv_goto (tgt := 89) hx hb dL_does_52 (by decide) ?_
          refine W.widen (k := 6) (n := 36) (Nat.le_of_ble_eq_true rfl) (Nat.le_of_ble_eq_true rfl) ?_
          exact (W.iret (v := r13) hx hb hr (fun t ht hW => ⟨⟨r13, (F14, ad1), rfl, ⟨q, fun f i hf => hα f i hf⟩, gH_at ht hH⟩, hS.F ht⟩) hS.2.2 dL_does_89)
      · have q := (if_pos c3).mp q
        refine lv_aload_n hx hb dL_does_32 rfl (lv_at hl 0 rfl) ?_
        refine lv_iload_n hx hb dL_does_33 rfl (lv_at hl 2 rfl) ?_
        refine lv_iload_n hx hb dL_does_34 rfl (lv_at hl 3 rfl) ?_
        refine vx_calli (vx_runV (As := [.int p2, .int p3]) (rest := []) ⟨hx, hb, hml, hown, hts⟩ (c_X10_person l hfl G ad F p2 p3 _ _) (cwV 2 hts gL_does_X10_person rfl rfl rfl (by decide +kernel) ⟨Nat.le_of_ble_eq_true rfl, Nat.le_of_ble_eq_true rfl⟩) ⟨fun a U g mk h => ⟨h.1, gD_blind h.2.1, h.2.2⟩, g_recv (C := RX10) (T := TX10) (N := 8) hK hH 0 0 (by decide) Nat.zero_lt_one rfl rfl, fun U hU hW => ⟨rfl, gD_at hK hG hB hH hS hU hW, q⟩⟩ rfl rfl hl.1 rfl (lv_room (Nat.le_of_ble_eq_true rfl)) dL_does_35 ⟨Nat.le_of_ble_eq_true rfl, Nat.le_of_ble_eq_true rfl⟩) hS (fun _ _ h => h) (fun _ h => h) (fun _ _ h => h) (fun E9 ce q9 F9 t H locs ht hvm _ hq hz hk hS hc9 hv9 hcl9 => ?_) (fun r15 F16u t H locs ht hvm q hB1 hz hk hS => ?_)
        · have hH : gH G ad F9 H := gH_to ht hq.2
          rcases hq.1 with ⟨rfl, q⟩ | ⟨rfl, q⟩ | ⟨rfl, q⟩
          · refine vx_catch hown [] ⟨0, 89, 90, 32⟩ [⟨0, 89, 95, 34⟩, ⟨0, 89, 100, 36⟩] (htab.trans rfl) (fun _ h => absurd h List.not_mem_nil) rfl (by decide) (hts (.classLink RL 32 "java/lang/IndexOutOfBoundsException") (List.mem_of_getElem? (i := 1) rfl)) (va_Nw.use rfl (gcast hG (List.mem_of_getElem? (i := 0) rfl))) hc9 hv9 hcl9 ?_
            refine lv_astore (lv' := [(4, .ref q9), (0, .ref (ad 0 0)), (1, .int p1), (2, .int p2), (3, .int p3)]) hx hb dL_does_90 hl (by decide) rfl (fun ls hl => ?_)
            refine lv_bipush (v := (-8)) hx hb dL_does_92 (by decide) ?_
            refine W.widen (k := 6) (n := 36) (Nat.le_of_ble_eq_true rfl) (Nat.le_of_ble_eq_true rfl) ?_
            exact (W.iret (v := (-8)) hx hb hr (fun t ht hW => ⟨⟨(-8), (F9, ad), rfl, ⟨q, fun f i hf => rfl⟩, gH_at ht hH⟩, hS.F ht⟩) hS.2.2 dL_does_94)
          · refine vx_catch hown [⟨0, 89, 90, 32⟩] ⟨0, 89, 95, 34⟩ [⟨0, 89, 100, 36⟩] (htab.trans rfl) (List.forall_mem_cons.mpr ⟨Or.inr ⟨by decide, "java/lang/IndexOutOfBoundsException", hts (.classLink RL 32 "java/lang/IndexOutOfBoundsException") (List.mem_of_getElem? (i := 1) rfl), hL.1⟩, (fun _ h => absurd h List.not_mem_nil)⟩) rfl (by decide) (hts (.classLink RL 34 "java/lang/IllegalArgumentException") (List.mem_of_getElem? (i := 2) rfl)) (va_Nw.use rfl (gcast hG (List.mem_of_getElem? (i := 1) rfl))) hc9 hv9 hcl9 ?_
            refine lv_astore (lv' := [(4, .ref q9), (0, .ref (ad 0 0)), (1, .int p1), (2, .int p2), (3, .int p3)]) hx hb dL_does_95 hl (by decide) rfl (fun ls hl => ?_)
            refine lv_bipush (v := (-8)) hx hb dL_does_97 (by decide) ?_
            refine W.widen (k := 6) (n := 36) (Nat.le_of_ble_eq_true rfl) (Nat.le_of_ble_eq_true rfl) ?_
            exact (W.iret (v := (-8)) hx hb hr (fun t ht hW => ⟨⟨(-8), (F9, ad), rfl, ⟨q, fun f i hf => rfl⟩, gH_at ht hH⟩, hS.F ht⟩) hS.2.2 dL_does_99)
          · refine vx_catch hown [⟨0, 89, 90, 32⟩, ⟨0, 89, 95, 34⟩] ⟨0, 89, 100, 36⟩ [] (htab.trans rfl) (List.forall_mem_cons.mpr ⟨Or.inr ⟨by decide, "java/lang/IndexOutOfBoundsException", hts (.classLink RL 32 "java/lang/IndexOutOfBoundsException") (List.mem_of_getElem? (i := 1) rfl), hL.2.1⟩, (List.forall_mem_cons.mpr ⟨Or.inr ⟨by decide, "java/lang/IllegalArgumentException", hts (.classLink RL 34 "java/lang/IllegalArgumentException") (List.mem_of_getElem? (i := 2) rfl), hL.2.2⟩, (fun _ h => absurd h List.not_mem_nil)⟩)⟩) rfl (by decide) (hts (.classLink RL 36 "java/lang/IllegalStateException") (List.mem_of_getElem? (i := 3) rfl)) (va_Nw.use rfl (gcast hG (List.mem_of_getElem? (i := 2) rfl))) hc9 hv9 hcl9 ?_
            refine lv_astore (lv' := [(4, .ref q9), (0, .ref (ad 0 0)), (1, .int p1), (2, .int p2), (3, .int p3)]) hx hb dL_does_100 hl (by decide) rfl (fun ls hl => ?_)
            refine lv_bipush (v := (-8)) hx hb dL_does_102 (by decide) ?_
            refine W.widen (k := 6) (n := 36) (Nat.le_of_ble_eq_true rfl) (Nat.le_of_ble_eq_true rfl) ?_
            exact (W.iret (v := (-8)) hx hb hr (fun t ht hW => ⟨⟨(-8), (F9, ad), rfl, ⟨q, fun f i hf => rfl⟩, gH_at ht hH⟩, hS.F ht⟩) hS.2.2 dL_does_104)
        obtain ⟨F16, ad1⟩ := F16u
        obtain ⟨q, hα⟩ := q
        have hα : ∀ f i : Nat, f ≠ 39 → ad1 f i = ad f i := hα
        have hH : gH G ad1 F16 H := gH_to ht hB1
        refine W.eq (g2 := F0 m 38 ls [.int r15]) (rfl) ?_
        refine lv_goto (tgt := 89) hx hb dL_does_38 (by decide) ?_
        refine W.widen (k := 6) (n := 36) (Nat.le_of_ble_eq_true rfl) (Nat.le_of_ble_eq_true rfl) ?_
        exact (W.iret (v := r15) hx hb hr (fun t ht hW => ⟨⟨r15, (F16, ad1), rfl, ⟨q, fun f i hf => hα f i hf⟩, gH_at ht hH⟩, hS.F ht⟩) hS.2.2 dL_does_89)
    · have q := (if_pos c2).mp q
      refine lv_aload_n hx hb dL_does_18 rfl (lv_at hl 0 rfl) ?_
      refine lv_iload_n hx hb dL_does_19 rfl (lv_at hl 2 rfl) ?_
      refine lv_iload_n hx hb dL_does_20 rfl (lv_at hl 3 rfl) ?_
      refine vx_calli (vx_runV (As := [.int p2, .int p3]) (rest := []) ⟨hx, hb, hml, hown, hts⟩ (c_X10_setSeats l hfl G ad F p2 p3 _ _) (cwV 2 hts gL_does_X10_setSeats rfl rfl rfl (by decide +kernel) ⟨Nat.le_of_ble_eq_true rfl, Nat.le_of_ble_eq_true rfl⟩) ⟨fun a U g mk h => ⟨h.1, gD_blind h.2.1, h.2.2⟩, g_recv (C := RX10) (T := TX10) (N := 8) hK hH 0 0 (by decide) Nat.zero_lt_one rfl rfl, fun U hU hW => ⟨rfl, gD_at hK hG hB hH hS hU hW, q⟩⟩ rfl rfl hl.1 rfl (lv_room (Nat.le_of_ble_eq_true rfl)) dL_does_21 ⟨Nat.le_of_ble_eq_true rfl, Nat.le_of_ble_eq_true rfl⟩) hS (fun _ _ h => h) (fun _ h => h) (fun _ _ h => h) (fun E9 ce q9 F9 t H locs ht hvm _ hq hz hk hS hc9 hv9 hcl9 => ?_) (fun r17 F18 t H locs ht hvm q hB1 hz hk hS => ?_)
      · have hH : gH G ad F9 H := gH_to ht hq.2
        rcases hq.1 with ⟨rfl, q⟩ | ⟨rfl, q⟩ | ⟨rfl, q⟩
        · refine vx_catch hown [] ⟨0, 89, 90, 32⟩ [⟨0, 89, 95, 34⟩, ⟨0, 89, 100, 36⟩] (htab.trans rfl) (fun _ h => absurd h List.not_mem_nil) rfl (by decide) (hts (.classLink RL 32 "java/lang/IndexOutOfBoundsException") (List.mem_of_getElem? (i := 1) rfl)) (va_Nw.use rfl (gcast hG (List.mem_of_getElem? (i := 0) rfl))) hc9 hv9 hcl9 ?_
          refine lv_astore (lv' := [(4, .ref q9), (0, .ref (ad 0 0)), (1, .int p1), (2, .int p2), (3, .int p3)]) hx hb dL_does_90 hl (by decide) rfl (fun ls hl => ?_)
          refine lv_bipush (v := (-8)) hx hb dL_does_92 (by decide) ?_
          refine W.widen (k := 6) (n := 36) (Nat.le_of_ble_eq_true rfl) (Nat.le_of_ble_eq_true rfl) ?_
          exact (W.iret (v := (-8)) hx hb hr (fun t ht hW => ⟨⟨(-8), (F9, ad), rfl, ⟨q, fun f i hf => rfl⟩, gH_at ht hH⟩, hS.F ht⟩) hS.2.2 dL_does_94)
        · refine vx_catch hown [⟨0, 89, 90, 32⟩] ⟨0, 89, 95, 34⟩ [⟨0, 89, 100, 36⟩] (htab.trans rfl) (List.forall_mem_cons.mpr ⟨Or.inr ⟨by decide, "java/lang/IndexOutOfBoundsException", hts (.classLink RL 32 "java/lang/IndexOutOfBoundsException") (List.mem_of_getElem? (i := 1) rfl), hL.1⟩, (fun _ h => absurd h List.not_mem_nil)⟩) rfl (by decide) (hts (.classLink RL 34 "java/lang/IllegalArgumentException") (List.mem_of_getElem? (i := 2) rfl)) (va_Nw.use rfl (gcast hG (List.mem_of_getElem? (i := 1) rfl))) hc9 hv9 hcl9 ?_
          refine lv_astore (lv' := [(4, .ref q9), (0, .ref (ad 0 0)), (1, .int p1), (2, .int p2), (3, .int p3)]) hx hb dL_does_95 hl (by decide) rfl (fun ls hl => ?_)
          refine lv_bipush (v := (-8)) hx hb dL_does_97 (by decide) ?_
          refine W.widen (k := 6) (n := 36) (Nat.le_of_ble_eq_true rfl) (Nat.le_of_ble_eq_true rfl) ?_
          exact (W.iret (v := (-8)) hx hb hr (fun t ht hW => ⟨⟨(-8), (F9, ad), rfl, ⟨q, fun f i hf => rfl⟩, gH_at ht hH⟩, hS.F ht⟩) hS.2.2 dL_does_99)
        · refine vx_catch hown [⟨0, 89, 90, 32⟩, ⟨0, 89, 95, 34⟩] ⟨0, 89, 100, 36⟩ [] (htab.trans rfl) (List.forall_mem_cons.mpr ⟨Or.inr ⟨by decide, "java/lang/IndexOutOfBoundsException", hts (.classLink RL 32 "java/lang/IndexOutOfBoundsException") (List.mem_of_getElem? (i := 1) rfl), hL.2.1⟩, (List.forall_mem_cons.mpr ⟨Or.inr ⟨by decide, "java/lang/IllegalArgumentException", hts (.classLink RL 34 "java/lang/IllegalArgumentException") (List.mem_of_getElem? (i := 2) rfl), hL.2.2⟩, (fun _ h => absurd h List.not_mem_nil)⟩)⟩) rfl (by decide) (hts (.classLink RL 36 "java/lang/IllegalStateException") (List.mem_of_getElem? (i := 3) rfl)) (va_Nw.use rfl (gcast hG (List.mem_of_getElem? (i := 2) rfl))) hc9 hv9 hcl9 ?_
          refine lv_astore (lv' := [(4, .ref q9), (0, .ref (ad 0 0)), (1, .int p1), (2, .int p2), (3, .int p3)]) hx hb dL_does_100 hl (by decide) rfl (fun ls hl => ?_)
          refine lv_bipush (v := (-8)) hx hb dL_does_102 (by decide) ?_
          refine W.widen (k := 6) (n := 36) (Nat.le_of_ble_eq_true rfl) (Nat.le_of_ble_eq_true rfl) ?_
          exact (W.iret (v := (-8)) hx hb hr (fun t ht hW => ⟨⟨(-8), (F9, ad), rfl, ⟨q, fun f i hf => rfl⟩, gH_at ht hH⟩, hS.F ht⟩) hS.2.2 dL_does_104)
      have hH : gH G ad F18 H := gH_to ht hB1
      refine lv_goto (tgt := 89) hx hb dL_does_24 (by decide) ?_
      refine W.widen (k := 6) (n := 36) (Nat.le_of_ble_eq_true rfl) (Nat.le_of_ble_eq_true rfl) ?_
      exact (W.iret (v := r17) hx hb hr (fun t ht hW => ⟨⟨r17, (F18, ad), rfl, ⟨q, fun f i hf => rfl⟩, gH_at ht hH⟩, hS.F ht⟩) hS.2.2 dL_does_89)
  · have q := (if_pos c1).mp q
    refine lv_aload_n hx hb dL_does_4 rfl (lv_at hl 0 rfl) ?_
    refine lv_iload_n hx hb dL_does_5 rfl (lv_at hl 2 rfl) ?_
    refine lv_iload_n hx hb dL_does_6 rfl (lv_at hl 3 rfl) ?_
    refine vx_calli (vx_runV (As := [.int p2, .int p3]) (rest := []) ⟨hx, hb, hml, hown, hts⟩ (c_X10_station l hfl G ad F p2 p3 _ _) (cwV 2 hts gL_does_X10_station rfl rfl rfl (by decide +kernel) ⟨Nat.le_of_ble_eq_true rfl, Nat.le_of_ble_eq_true rfl⟩) ⟨fun a U g mk h => ⟨h.1, gD_blind h.2.1, h.2.2⟩, g_recv (C := RX10) (T := TX10) (N := 8) hK hH 0 0 (by decide) Nat.zero_lt_one rfl rfl, fun U hU hW => ⟨rfl, gD_at hK hG hB hH hS hU hW, q⟩⟩ rfl rfl hl.1 rfl (lv_room (Nat.le_of_ble_eq_true rfl)) dL_does_7 ⟨Nat.le_of_ble_eq_true rfl, Nat.le_of_ble_eq_true rfl⟩) hS (fun _ _ h => h) (fun _ h => h) (fun _ _ h => h) (fun E9 ce q9 F9 t H locs ht hvm _ hq hz hk hS hc9 hv9 hcl9 => ?_) (fun r19 F20 t H locs ht hvm q hB1 hz hk hS => ?_)
    · have hH : gH G ad F9 H := gH_to ht hq.2
      rcases hq.1 with ⟨rfl, q⟩ | ⟨rfl, q⟩ | ⟨rfl, q⟩
      · refine vx_catch hown [] ⟨0, 89, 90, 32⟩ [⟨0, 89, 95, 34⟩, ⟨0, 89, 100, 36⟩] (htab.trans rfl) (fun _ h => absurd h List.not_mem_nil) rfl (by decide) (hts (.classLink RL 32 "java/lang/IndexOutOfBoundsException") (List.mem_of_getElem? (i := 1) rfl)) (va_Nw.use rfl (gcast hG (List.mem_of_getElem? (i := 0) rfl))) hc9 hv9 hcl9 ?_
        refine lv_astore (lv' := [(4, .ref q9), (0, .ref (ad 0 0)), (1, .int p1), (2, .int p2), (3, .int p3)]) hx hb dL_does_90 hl (by decide) rfl (fun ls hl => ?_)
        refine lv_bipush (v := (-8)) hx hb dL_does_92 (by decide) ?_
        refine W.widen (k := 6) (n := 36) (Nat.le_of_ble_eq_true rfl) (Nat.le_of_ble_eq_true rfl) ?_
        exact (W.iret (v := (-8)) hx hb hr (fun t ht hW => ⟨⟨(-8), (F9, ad), rfl, ⟨q, fun f i hf => rfl⟩, gH_at ht hH⟩, hS.F ht⟩) hS.2.2 dL_does_94)
      · refine vx_catch hown [⟨0, 89, 90, 32⟩] ⟨0, 89, 95, 34⟩ [⟨0, 89, 100, 36⟩] (htab.trans rfl) (List.forall_mem_cons.mpr ⟨Or.inr ⟨by decide, "java/lang/IndexOutOfBoundsException", hts (.classLink RL 32 "java/lang/IndexOutOfBoundsException") (List.mem_of_getElem? (i := 1) rfl), hL.1⟩, (fun _ h => absurd h List.not_mem_nil)⟩) rfl (by decide) (hts (.classLink RL 34 "java/lang/IllegalArgumentException") (List.mem_of_getElem? (i := 2) rfl)) (va_Nw.use rfl (gcast hG (List.mem_of_getElem? (i := 1) rfl))) hc9 hv9 hcl9 ?_
        refine lv_astore (lv' := [(4, .ref q9), (0, .ref (ad 0 0)), (1, .int p1), (2, .int p2), (3, .int p3)]) hx hb dL_does_95 hl (by decide) rfl (fun ls hl => ?_)
        refine lv_bipush (v := (-8)) hx hb dL_does_97 (by decide) ?_
        refine W.widen (k := 6) (n := 36) (Nat.le_of_ble_eq_true rfl) (Nat.le_of_ble_eq_true rfl) ?_
        exact (W.iret (v := (-8)) hx hb hr (fun t ht hW => ⟨⟨(-8), (F9, ad), rfl, ⟨q, fun f i hf => rfl⟩, gH_at ht hH⟩, hS.F ht⟩) hS.2.2 dL_does_99)
      · refine vx_catch hown [⟨0, 89, 90, 32⟩, ⟨0, 89, 95, 34⟩] ⟨0, 89, 100, 36⟩ [] (htab.trans rfl) (List.forall_mem_cons.mpr ⟨Or.inr ⟨by decide, "java/lang/IndexOutOfBoundsException", hts (.classLink RL 32 "java/lang/IndexOutOfBoundsException") (List.mem_of_getElem? (i := 1) rfl), hL.2.1⟩, (List.forall_mem_cons.mpr ⟨Or.inr ⟨by decide, "java/lang/IllegalArgumentException", hts (.classLink RL 34 "java/lang/IllegalArgumentException") (List.mem_of_getElem? (i := 2) rfl), hL.2.2⟩, (fun _ h => absurd h List.not_mem_nil)⟩)⟩) rfl (by decide) (hts (.classLink RL 36 "java/lang/IllegalStateException") (List.mem_of_getElem? (i := 3) rfl)) (va_Nw.use rfl (gcast hG (List.mem_of_getElem? (i := 2) rfl))) hc9 hv9 hcl9 ?_
        refine lv_astore (lv' := [(4, .ref q9), (0, .ref (ad 0 0)), (1, .int p1), (2, .int p2), (3, .int p3)]) hx hb dL_does_100 hl (by decide) rfl (fun ls hl => ?_)
        refine lv_bipush (v := (-8)) hx hb dL_does_102 (by decide) ?_
        refine W.widen (k := 6) (n := 36) (Nat.le_of_ble_eq_true rfl) (Nat.le_of_ble_eq_true rfl) ?_
        exact (W.iret (v := (-8)) hx hb hr (fun t ht hW => ⟨⟨(-8), (F9, ad), rfl, ⟨q, fun f i hf => rfl⟩, gH_at ht hH⟩, hS.F ht⟩) hS.2.2 dL_does_104)
    have hH : gH G ad F20 H := gH_to ht hB1
    refine lv_goto (tgt := 89) hx hb dL_does_10 (by decide) ?_
    refine W.widen (k := 6) (n := 36) (Nat.le_of_ble_eq_true rfl) (Nat.le_of_ble_eq_true rfl) ?_
    exact (W.iret (v := r19) hx hb hr (fun t ht hW => ⟨⟨r19, (F20, ad), rfl, ⟨q, fun f i hf => rfl⟩, gH_at ht hH⟩, hS.F ht⟩) hS.2.2 dL_does_89)
abbrev rm_L_act : Room := { frames := 9, cells := 3, slots := 18, locals := 154 }
abbrev q_L_act (G : GP) (ad : Nat → Nat → Nat) (K : Int32 → GF → Prop) (below : List Frame) (args : Array Value) (s : State) : State → Prop := MQ below (gQi G ad K) args s 3 18 (gA G)
set_option maxHeartbeats 4000000 in
set_option maxRecDepth 100000 in
theorem c_L_act (l : Launch) (hfl : l.stackTraces = false) (G : GP) (ad : Nat → Nat → Nat) (F : GF) (p1 : Int32) (p2 : Int32) (K : Int32 → GF → Prop) : Met l yL_act wsL_act rm_L_act (va_Pc [.ref (ad 0 0), .int p1, .int p2] (fun U => (gD G ad F U ∧ gL U) ∧ P_M_act F p1 p2 K)) (gQi G ad K) 3 18 (gA G) := by
  refine g_ofWH (hh := [(0, 51, 52, 32), (0, 51, 56, 34), (0, 51, 60, 36)]) (cc := cL_act) (maxL := 4) (ret := (some .int)) (by decide) rfl ?_
  intro p e s m args below meth c s₁ Bd hml hv
  obtain ⟨rfl, ⟨⟨hK, hG, hB, hH⟩, hL⟩, q⟩ := hv
  have hx := Bd.exec
  have hb := Bd.bytes
  have hr := Bd.returns
  have hts := atoms_spec (ws := wsL_act) Bd.pre
  have hown : s.vm.findClass RL = some m.cls := findClass_of_methodNamed Bd.named
  have hlocks := Bd.notSynchronized
  have htab := vx_table (x := yL_act) Bd (hts _ List.mem_cons_self)
  have hS : va_S (gA G) s.heap s.heap [] := va_S.rf
  have hl := lv_entry [.ref (ad 0 0), .int p1, .int p2] (n := 4) (Nat.le_of_ble_eq_true rfl)
  rw [lg_entry_eq]
  generalize (lg_sl [.ref (ad 0 0), .int p1, .int p2] ++ List.replicate (4 - (lg_sl [.ref (ad 0 0), .int p1, .int p2]).length) Slot.unset).toArray = ls at hl ⊢
  have hl : lv_has ls 4 [(0, .ref (ad 0 0)), (1, .int p1), (2, .int p2)] := hl
  unfold P_M_act at q
  refine lv_iload_n hx hb dL_act_0 rfl (lv_at hl 1 rfl) ?_
  refine lv_if_ne (tgt := 20) hx hb dL_act_1 (by decide) (fun c1 => ?_) (fun c1 => ?_)
  · have q := (if_neg c1).mp q
    refine lv_iload_n hx hb dL_act_20 rfl (lv_at hl 1 rfl) ?_
    refine lv_iconst (v := 1) hx hb dL_act_21 (by decide) ?_
    refine lv_icmp_ne (tgt := 33) hx hb dL_act_22 (by decide) (fun c2 => ?_) (fun c2 => ?_)
    · have q := (if_neg c2).mp q
      refine lv_iload_n hx hb dL_act_33 rfl (lv_at hl 1 rfl) ?_
      refine lv_iconst (v := 2) hx hb dL_act_34 (by decide) ?_
      refine lv_icmp_ne (tgt := 46) hx hb dL_act_35 (by decide) (fun c3 => ?_) (fun c3 => ?_)
      · have q := (if_neg c3).mp q
        refine lv_aload_n hx hb dL_act_46 rfl (lv_at hl 0 rfl) ?_
        refine lv_iload_n hx hb dL_act_47 rfl (lv_at hl 2 rfl) ?_
        refine vx_calli (vx_runV (As := [.int p2]) (rest := []) ⟨hx, hb, hml, hown, hts⟩ (c_X10_recount l hfl G ad F p2 _ _) (cwV 1 hts gL_act_X10_recount rfl rfl rfl (by decide +kernel) ⟨Nat.le_of_ble_eq_true rfl, Nat.le_of_ble_eq_true rfl⟩) ⟨fun a U g mk h => ⟨h.1, gD_blind h.2.1, h.2.2⟩, g_recv (C := RX10) (T := TX10) (N := 8) hK hH 0 0 (by decide) Nat.zero_lt_one rfl rfl, fun U hU hW => ⟨rfl, gD_at hK hG hB hH hS hU hW, q⟩⟩ rfl rfl hl.1 rfl (lv_room (Nat.le_of_ble_eq_true rfl)) dL_act_48 ⟨Nat.le_of_ble_eq_true rfl, Nat.le_of_ble_eq_true rfl⟩) hS (fun _ _ h => h) (fun _ h => h) (fun _ _ h => h) (fun E9 ce q9 F9 t H locs ht hvm _ hq hz hk hS hc9 hv9 hcl9 => ?_) (fun r4 F5 t H locs ht hvm q hB1 hz hk hS => ?_)
        · have hH : gH G ad F9 H := gH_to ht hq.2
          rcases hq.1 with ⟨rfl, q⟩ | ⟨rfl, q⟩ | ⟨rfl, q⟩
          · refine vx_catch hown [] ⟨0, 51, 52, 32⟩ [⟨0, 51, 56, 34⟩, ⟨0, 51, 60, 36⟩] (htab.trans rfl) (fun _ h => absurd h List.not_mem_nil) rfl (by decide) (hts (.classLink RL 32 "java/lang/IndexOutOfBoundsException") (List.mem_of_getElem? (i := 1) rfl)) (va_Nw.use rfl (gcast hG (List.mem_of_getElem? (i := 0) rfl))) hc9 hv9 hcl9 ?_
            refine lv_astore_n (lv' := [(3, .ref q9), (0, .ref (ad 0 0)), (1, .int p1), (2, .int p2)]) hx hb dL_act_52 rfl hl (by decide) rfl (fun ls hl => ?_)
            refine lv_bipush (v := (-8)) hx hb dL_act_53 (by decide) ?_
            refine W.widen (k := 3) (n := 18) (Nat.le_of_ble_eq_true rfl) (Nat.le_of_ble_eq_true rfl) ?_
            exact (W.iret (v := (-8)) hx hb hr (fun t ht hW => ⟨⟨(-8), F9, rfl, q, gH_at ht hH⟩, hS.F ht⟩) hS.2.2 dL_act_55)
          · refine vx_catch hown [⟨0, 51, 52, 32⟩] ⟨0, 51, 56, 34⟩ [⟨0, 51, 60, 36⟩] (htab.trans rfl) (List.forall_mem_cons.mpr ⟨Or.inr ⟨by decide, "java/lang/IndexOutOfBoundsException", hts (.classLink RL 32 "java/lang/IndexOutOfBoundsException") (List.mem_of_getElem? (i := 1) rfl), hL.1⟩, (fun _ h => absurd h List.not_mem_nil)⟩) rfl (by decide) (hts (.classLink RL 34 "java/lang/IllegalArgumentException") (List.mem_of_getElem? (i := 2) rfl)) (va_Nw.use rfl (gcast hG (List.mem_of_getElem? (i := 1) rfl))) hc9 hv9 hcl9 ?_
            refine lv_astore_n (lv' := [(3, .ref q9), (0, .ref (ad 0 0)), (1, .int p1), (2, .int p2)]) hx hb dL_act_56 rfl hl (by decide) rfl (fun ls hl => ?_)
            refine lv_bipush (v := (-8)) hx hb dL_act_57 (by decide) ?_
            refine W.widen (k := 3) (n := 18) (Nat.le_of_ble_eq_true rfl) (Nat.le_of_ble_eq_true rfl) ?_
            exact (W.iret (v := (-8)) hx hb hr (fun t ht hW => ⟨⟨(-8), F9, rfl, q, gH_at ht hH⟩, hS.F ht⟩) hS.2.2 dL_act_59)
          · refine vx_catch hown [⟨0, 51, 52, 32⟩, ⟨0, 51, 56, 34⟩] ⟨0, 51, 60, 36⟩ [] (htab.trans rfl) (List.forall_mem_cons.mpr ⟨Or.inr ⟨by decide, "java/lang/IndexOutOfBoundsException", hts (.classLink RL 32 "java/lang/IndexOutOfBoundsException") (List.mem_of_getElem? (i := 1) rfl), hL.2.1⟩, (List.forall_mem_cons.mpr ⟨Or.inr ⟨by decide, "java/lang/IllegalArgumentException", hts (.classLink RL 34 "java/lang/IllegalArgumentException") (List.mem_of_getElem? (i := 2) rfl), hL.2.2⟩, (fun _ h => absurd h List.not_mem_nil)⟩)⟩) rfl (by decide) (hts (.classLink RL 36 "java/lang/IllegalStateException") (List.mem_of_getElem? (i := 3) rfl)) (va_Nw.use rfl (gcast hG (List.mem_of_getElem? (i := 2) rfl))) hc9 hv9 hcl9 ?_
            refine lv_astore_n (lv' := [(3, .ref q9), (0, .ref (ad 0 0)), (1, .int p1), (2, .int p2)]) hx hb dL_act_60 rfl hl (by decide) rfl (fun ls hl => ?_)
            refine lv_bipush (v := (-8)) hx hb dL_act_61 (by decide) ?_
            refine W.widen (k := 3) (n := 18) (Nat.le_of_ble_eq_true rfl) (Nat.le_of_ble_eq_true rfl) ?_
            exact (W.iret (v := (-8)) hx hb hr (fun t ht hW => ⟨⟨(-8), F9, rfl, q, gH_at ht hH⟩, hS.F ht⟩) hS.2.2 dL_act_63)
        have hH : gH G ad F5 H := gH_to ht hB1
        refine W.widen (k := 3) (n := 18) (Nat.le_of_ble_eq_true rfl) (Nat.le_of_ble_eq_true rfl) ?_
        exact (W.iret (v := r4) hx hb hr (fun t ht hW => ⟨⟨r4, F5, rfl, q, gH_at ht hH⟩, hS.F ht⟩) hS.2.2 dL_act_51)
      · have q := (if_pos c3).mp q
        refine lv_aload_n hx hb dL_act_38 rfl (lv_at hl 0 rfl) ?_
        refine lv_iload_n hx hb dL_act_39 rfl (lv_at hl 2 rfl) ?_
        refine vx_calli (vx_runV (As := [.int p2]) (rest := []) ⟨hx, hb, hml, hown, hts⟩ (c_X10_open l hfl G ad F p2 _ _) (cwV 1 hts gL_act_X10_open rfl rfl rfl (by decide +kernel) ⟨Nat.le_of_ble_eq_true rfl, Nat.le_of_ble_eq_true rfl⟩) ⟨fun a U g mk h => ⟨h.1, gD_blind h.2.1, h.2.2⟩, g_recv (C := RX10) (T := TX10) (N := 8) hK hH 0 0 (by decide) Nat.zero_lt_one rfl rfl, fun U hU hW => ⟨rfl, gD_at hK hG hB hH hS hU hW, q⟩⟩ rfl rfl hl.1 rfl (lv_room (Nat.le_of_ble_eq_true rfl)) dL_act_40 ⟨Nat.le_of_ble_eq_true rfl, Nat.le_of_ble_eq_true rfl⟩) hS (fun _ _ h => h) (fun _ h => h) (fun _ _ h => h) (fun E9 ce q9 F9 t H locs ht hvm _ hq hz hk hS hc9 hv9 hcl9 => ?_) (fun r6 F7 t H locs ht hvm q hB1 hz hk hS => ?_)
        · have hH : gH G ad F9 H := gH_to ht hq.2
          rcases hq.1 with ⟨rfl, q⟩ | ⟨rfl, q⟩ | ⟨rfl, q⟩
          · refine vx_catch hown [] ⟨0, 51, 52, 32⟩ [⟨0, 51, 56, 34⟩, ⟨0, 51, 60, 36⟩] (htab.trans rfl) (fun _ h => absurd h List.not_mem_nil) rfl (by decide) (hts (.classLink RL 32 "java/lang/IndexOutOfBoundsException") (List.mem_of_getElem? (i := 1) rfl)) (va_Nw.use rfl (gcast hG (List.mem_of_getElem? (i := 0) rfl))) hc9 hv9 hcl9 ?_
            refine lv_astore_n (lv' := [(3, .ref q9), (0, .ref (ad 0 0)), (1, .int p1), (2, .int p2)]) hx hb dL_act_52 rfl hl (by decide) rfl (fun ls hl => ?_)
            refine lv_bipush (v := (-8)) hx hb dL_act_53 (by decide) ?_
            exact (W.iret (v := (-8)) hx hb hr (fun t ht hW => ⟨⟨(-8), F9, rfl, q, gH_at ht hH⟩, hS.F ht⟩) hS.2.2 dL_act_55)
          · refine vx_catch hown [⟨0, 51, 52, 32⟩] ⟨0, 51, 56, 34⟩ [⟨0, 51, 60, 36⟩] (htab.trans rfl) (List.forall_mem_cons.mpr ⟨Or.inr ⟨by decide, "java/lang/IndexOutOfBoundsException", hts (.classLink RL 32 "java/lang/IndexOutOfBoundsException") (List.mem_of_getElem? (i := 1) rfl), hL.1⟩, (fun _ h => absurd h List.not_mem_nil)⟩) rfl (by decide) (hts (.classLink RL 34 "java/lang/IllegalArgumentException") (List.mem_of_getElem? (i := 2) rfl)) (va_Nw.use rfl (gcast hG (List.mem_of_getElem? (i := 1) rfl))) hc9 hv9 hcl9 ?_
            refine lv_astore_n (lv' := [(3, .ref q9), (0, .ref (ad 0 0)), (1, .int p1), (2, .int p2)]) hx hb dL_act_56 rfl hl (by decide) rfl (fun ls hl => ?_)
            refine lv_bipush (v := (-8)) hx hb dL_act_57 (by decide) ?_
            exact (W.iret (v := (-8)) hx hb hr (fun t ht hW => ⟨⟨(-8), F9, rfl, q, gH_at ht hH⟩, hS.F ht⟩) hS.2.2 dL_act_59)
          · refine vx_catch hown [⟨0, 51, 52, 32⟩, ⟨0, 51, 56, 34⟩] ⟨0, 51, 60, 36⟩ [] (htab.trans rfl) (List.forall_mem_cons.mpr ⟨Or.inr ⟨by decide, "java/lang/IndexOutOfBoundsException", hts (.classLink RL 32 "java/lang/IndexOutOfBoundsException") (List.mem_of_getElem? (i := 1) rfl), hL.2.1⟩, (List.forall_mem_cons.mpr ⟨Or.inr ⟨by decide, "java/lang/IllegalArgumentException", hts (.classLink RL 34 "java/lang/IllegalArgumentException") (List.mem_of_getElem? (i := 2) rfl), hL.2.2⟩, (fun _ h => absurd h List.not_mem_nil)⟩)⟩) rfl (by decide) (hts (.classLink RL 36 "java/lang/IllegalStateException") (List.mem_of_getElem? (i := 3) rfl)) (va_Nw.use rfl (gcast hG (List.mem_of_getElem? (i := 2) rfl))) hc9 hv9 hcl9 ?_
            refine lv_astore_n (lv' := [(3, .ref q9), (0, .ref (ad 0 0)), (1, .int p1), (2, .int p2)]) hx hb dL_act_60 rfl hl (by decide) rfl (fun ls hl => ?_)
            refine lv_bipush (v := (-8)) hx hb dL_act_61 (by decide) ?_
            exact (W.iret (v := (-8)) hx hb hr (fun t ht hW => ⟨⟨(-8), F9, rfl, q, gH_at ht hH⟩, hS.F ht⟩) hS.2.2 dL_act_63)
        have hH : gH G ad F7 H := gH_to ht hB1
        refine lv_goto (tgt := 51) hx hb dL_act_43 (by decide) ?_
        exact (W.iret (v := r6) hx hb hr (fun t ht hW => ⟨⟨r6, F7, rfl, q, gH_at ht hH⟩, hS.F ht⟩) hS.2.2 dL_act_51)
    · have q := (if_pos c2).mp q
      refine lv_aload_n hx hb dL_act_25 rfl (lv_at hl 0 rfl) ?_
      refine lv_iload_n hx hb dL_act_26 rfl (lv_at hl 2 rfl) ?_
      refine vx_calli (vx_runV (As := [.int p2]) (rest := []) ⟨hx, hb, hml, hown, hts⟩ (c_X10_advance l hfl G ad F p2 _ _) (cwV 1 hts gL_act_X10_advance rfl rfl rfl (by decide +kernel) ⟨Nat.le_of_ble_eq_true rfl, Nat.le_of_ble_eq_true rfl⟩) ⟨fun a U g mk h => ⟨h.1, gD_blind h.2.1, h.2.2⟩, g_recv (C := RX10) (T := TX10) (N := 8) hK hH 0 0 (by decide) Nat.zero_lt_one rfl rfl, fun U hU hW => ⟨rfl, gD_at hK hG hB hH hS hU hW, q⟩⟩ rfl rfl hl.1 rfl (lv_room (Nat.le_of_ble_eq_true rfl)) dL_act_27 ⟨Nat.le_of_ble_eq_true rfl, Nat.le_of_ble_eq_true rfl⟩) hS (fun _ _ h => h) (fun _ h => h) (fun _ _ h => h) (fun E9 ce q9 F9 t H locs ht hvm _ hq hz hk hS hc9 hv9 hcl9 => ?_) (fun r8 F9 t H locs ht hvm q hB1 hz hk hS => ?_)
      · have hH : gH G ad F9 H := gH_to ht hq.2
        rcases hq.1 with ⟨rfl, q⟩ | ⟨rfl, q⟩ | ⟨rfl, q⟩
        · refine vx_catch hown [] ⟨0, 51, 52, 32⟩ [⟨0, 51, 56, 34⟩, ⟨0, 51, 60, 36⟩] (htab.trans rfl) (fun _ h => absurd h List.not_mem_nil) rfl (by decide) (hts (.classLink RL 32 "java/lang/IndexOutOfBoundsException") (List.mem_of_getElem? (i := 1) rfl)) (va_Nw.use rfl (gcast hG (List.mem_of_getElem? (i := 0) rfl))) hc9 hv9 hcl9 ?_
          refine lv_astore_n (lv' := [(3, .ref q9), (0, .ref (ad 0 0)), (1, .int p1), (2, .int p2)]) hx hb dL_act_52 rfl hl (by decide) rfl (fun ls hl => ?_)
          refine lv_bipush (v := (-8)) hx hb dL_act_53 (by decide) ?_
          refine W.widen (k := 3) (n := 18) (Nat.le_of_ble_eq_true rfl) (Nat.le_of_ble_eq_true rfl) ?_
          exact (W.iret (v := (-8)) hx hb hr (fun t ht hW => ⟨⟨(-8), F9, rfl, q, gH_at ht hH⟩, hS.F ht⟩) hS.2.2 dL_act_55)
        · refine vx_catch hown [⟨0, 51, 52, 32⟩] ⟨0, 51, 56, 34⟩ [⟨0, 51, 60, 36⟩] (htab.trans rfl) (List.forall_mem_cons.mpr ⟨Or.inr ⟨by decide, "java/lang/IndexOutOfBoundsException", hts (.classLink RL 32 "java/lang/IndexOutOfBoundsException") (List.mem_of_getElem? (i := 1) rfl), hL.1⟩, (fun _ h => absurd h List.not_mem_nil)⟩) rfl (by decide) (hts (.classLink RL 34 "java/lang/IllegalArgumentException") (List.mem_of_getElem? (i := 2) rfl)) (va_Nw.use rfl (gcast hG (List.mem_of_getElem? (i := 1) rfl))) hc9 hv9 hcl9 ?_
          refine lv_astore_n (lv' := [(3, .ref q9), (0, .ref (ad 0 0)), (1, .int p1), (2, .int p2)]) hx hb dL_act_56 rfl hl (by decide) rfl (fun ls hl => ?_)
          refine lv_bipush (v := (-8)) hx hb dL_act_57 (by decide) ?_
          refine W.widen (k := 3) (n := 18) (Nat.le_of_ble_eq_true rfl) (Nat.le_of_ble_eq_true rfl) ?_
          exact (W.iret (v := (-8)) hx hb hr (fun t ht hW => ⟨⟨(-8), F9, rfl, q, gH_at ht hH⟩, hS.F ht⟩) hS.2.2 dL_act_59)
        · refine vx_catch hown [⟨0, 51, 52, 32⟩, ⟨0, 51, 56, 34⟩] ⟨0, 51, 60, 36⟩ [] (htab.trans rfl) (List.forall_mem_cons.mpr ⟨Or.inr ⟨by decide, "java/lang/IndexOutOfBoundsException", hts (.classLink RL 32 "java/lang/IndexOutOfBoundsException") (List.mem_of_getElem? (i := 1) rfl), hL.2.1⟩, (List.forall_mem_cons.mpr ⟨Or.inr ⟨by decide, "java/lang/IllegalArgumentException", hts (.classLink RL 34 "java/lang/IllegalArgumentException") (List.mem_of_getElem? (i := 2) rfl), hL.2.2⟩, (fun _ h => absurd h List.not_mem_nil)⟩)⟩) rfl (by decide) (hts (.classLink RL 36 "java/lang/IllegalStateException") (List.mem_of_getElem? (i := 3) rfl)) (va_Nw.use rfl (gcast hG (List.mem_of_getElem? (i := 2) rfl))) hc9 hv9 hcl9 ?_
          refine lv_astore_n (lv' := [(3, .ref q9), (0, .ref (ad 0 0)), (1, .int p1), (2, .int p2)]) hx hb dL_act_60 rfl hl (by decide) rfl (fun ls hl => ?_)
          refine lv_bipush (v := (-8)) hx hb dL_act_61 (by decide) ?_
          refine W.widen (k := 3) (n := 18) (Nat.le_of_ble_eq_true rfl) (Nat.le_of_ble_eq_true rfl) ?_
          exact (W.iret (v := (-8)) hx hb hr (fun t ht hW => ⟨⟨(-8), F9, rfl, q, gH_at ht hH⟩, hS.F ht⟩) hS.2.2 dL_act_63)
      have hH : gH G ad F9 H := gH_to ht hB1
      refine lv_goto (tgt := 51) hx hb dL_act_30 (by decide) ?_
      refine W.widen (k := 3) (n := 18) (Nat.le_of_ble_eq_true rfl) (Nat.le_of_ble_eq_true rfl) ?_
      exact (W.iret (v := r8) hx hb hr (fun t ht hW => ⟨⟨r8, F9, rfl, q, gH_at ht hH⟩, hS.F ht⟩) hS.2.2 dL_act_51)
  · have q := (if_pos c1).mp q
    refine lv_aload_n hx hb dL_act_4 rfl (lv_at hl 0 rfl) ?_
    refine lv_iload_n hx hb dL_act_5 rfl (lv_at hl 2 rfl) ?_
    refine vx_calli (vx_runV (As := [.int p2]) (rest := []) ⟨hx, hb, hml, hown, hts⟩ (c_X10_die l hfl G ad F p2 _ _) (cwV 1 hts gL_act_X10_die rfl rfl rfl (by decide +kernel) ⟨Nat.le_of_ble_eq_true rfl, Nat.le_of_ble_eq_true rfl⟩) ⟨fun a U g mk h => ⟨h.1, gD_blind h.2.1, h.2.2⟩, g_recv (C := RX10) (T := TX10) (N := 8) hK hH 0 0 (by decide) Nat.zero_lt_one rfl rfl, fun U hU hW => ⟨rfl, gD_at hK hG hB hH hS hU hW, q⟩⟩ rfl rfl hl.1 rfl (lv_room (Nat.le_of_ble_eq_true rfl)) dL_act_6 ⟨Nat.le_of_ble_eq_true rfl, Nat.le_of_ble_eq_true rfl⟩) hS (fun _ _ h => h) (fun _ h => h) (fun _ _ h => h) (fun E9 ce q9 F9 t H locs ht hvm _ hq hz hk hS hc9 hv9 hcl9 => ?_) (fun r10 F11 t H locs ht hvm q hB1 hz hk hS => ?_)
    · have hH : gH G ad F9 H := gH_to ht hq.2
      rcases hq.1 with ⟨rfl, q⟩ | ⟨rfl, q⟩ | ⟨rfl, q⟩
      · refine vx_catch hown [] ⟨0, 51, 52, 32⟩ [⟨0, 51, 56, 34⟩, ⟨0, 51, 60, 36⟩] (htab.trans rfl) (fun _ h => absurd h List.not_mem_nil) rfl (by decide) (hts (.classLink RL 32 "java/lang/IndexOutOfBoundsException") (List.mem_of_getElem? (i := 1) rfl)) (va_Nw.use rfl (gcast hG (List.mem_of_getElem? (i := 0) rfl))) hc9 hv9 hcl9 ?_
        refine lv_astore_n (lv' := [(3, .ref q9), (0, .ref (ad 0 0)), (1, .int p1), (2, .int p2)]) hx hb dL_act_52 rfl hl (by decide) rfl (fun ls hl => ?_)
        refine lv_bipush (v := (-8)) hx hb dL_act_53 (by decide) ?_
        refine W.widen (k := 3) (n := 18) (Nat.le_of_ble_eq_true rfl) (Nat.le_of_ble_eq_true rfl) ?_
        exact (W.iret (v := (-8)) hx hb hr (fun t ht hW => ⟨⟨(-8), F9, rfl, q, gH_at ht hH⟩, hS.F ht⟩) hS.2.2 dL_act_55)
      · refine vx_catch hown [⟨0, 51, 52, 32⟩] ⟨0, 51, 56, 34⟩ [⟨0, 51, 60, 36⟩] (htab.trans rfl) (List.forall_mem_cons.mpr ⟨Or.inr ⟨by decide, "java/lang/IndexOutOfBoundsException", hts (.classLink RL 32 "java/lang/IndexOutOfBoundsException") (List.mem_of_getElem? (i := 1) rfl), hL.1⟩, (fun _ h => absurd h List.not_mem_nil)⟩) rfl (by decide) (hts (.classLink RL 34 "java/lang/IllegalArgumentException") (List.mem_of_getElem? (i := 2) rfl)) (va_Nw.use rfl (gcast hG (List.mem_of_getElem? (i := 1) rfl))) hc9 hv9 hcl9 ?_
        refine lv_astore_n (lv' := [(3, .ref q9), (0, .ref (ad 0 0)), (1, .int p1), (2, .int p2)]) hx hb dL_act_56 rfl hl (by decide) rfl (fun ls hl => ?_)
        refine lv_bipush (v := (-8)) hx hb dL_act_57 (by decide) ?_
        refine W.widen (k := 3) (n := 18) (Nat.le_of_ble_eq_true rfl) (Nat.le_of_ble_eq_true rfl) ?_
        exact (W.iret (v := (-8)) hx hb hr (fun t ht hW => ⟨⟨(-8), F9, rfl, q, gH_at ht hH⟩, hS.F ht⟩) hS.2.2 dL_act_59)
      · refine vx_catch hown [⟨0, 51, 52, 32⟩, ⟨0, 51, 56, 34⟩] ⟨0, 51, 60, 36⟩ [] (htab.trans rfl) (List.forall_mem_cons.mpr ⟨Or.inr ⟨by decide, "java/lang/IndexOutOfBoundsException", hts (.classLink RL 32 "java/lang/IndexOutOfBoundsException") (List.mem_of_getElem? (i := 1) rfl), hL.2.1⟩, (List.forall_mem_cons.mpr ⟨Or.inr ⟨by decide, "java/lang/IllegalArgumentException", hts (.classLink RL 34 "java/lang/IllegalArgumentException") (List.mem_of_getElem? (i := 2) rfl), hL.2.2⟩, (fun _ h => absurd h List.not_mem_nil)⟩)⟩) rfl (by decide) (hts (.classLink RL 36 "java/lang/IllegalStateException") (List.mem_of_getElem? (i := 3) rfl)) (va_Nw.use rfl (gcast hG (List.mem_of_getElem? (i := 2) rfl))) hc9 hv9 hcl9 ?_
        refine lv_astore_n (lv' := [(3, .ref q9), (0, .ref (ad 0 0)), (1, .int p1), (2, .int p2)]) hx hb dL_act_60 rfl hl (by decide) rfl (fun ls hl => ?_)
        refine lv_bipush (v := (-8)) hx hb dL_act_61 (by decide) ?_
        refine W.widen (k := 3) (n := 18) (Nat.le_of_ble_eq_true rfl) (Nat.le_of_ble_eq_true rfl) ?_
        exact (W.iret (v := (-8)) hx hb hr (fun t ht hW => ⟨⟨(-8), F9, rfl, q, gH_at ht hH⟩, hS.F ht⟩) hS.2.2 dL_act_63)
    have hH : gH G ad F11 H := gH_to ht hB1
    refine lv_if_eq (tgt := 16) hx hb dL_act_9 (by decide) (fun c12 => ?_) (fun c12 => ?_)
    · have q := (if_pos c12).mp q
      refine lv_iconst (v := 0) hx hb dL_act_16 (by decide) ?_
      refine lv_goto (tgt := 51) hx hb dL_act_17 (by decide) ?_
      refine W.widen (k := 3) (n := 18) (Nat.le_of_ble_eq_true rfl) (Nat.le_of_ble_eq_true rfl) ?_
      exact (W.iret (v := 0) hx hb hr (fun t ht hW => ⟨⟨0, F11, rfl, q, gH_at ht hH⟩, hS.F ht⟩) hS.2.2 dL_act_51)
    · have q := (if_neg c12).mp q
      refine lv_iconst (v := 1) hx hb dL_act_12 (by decide) ?_
      refine lv_goto (tgt := 51) hx hb dL_act_13 (by decide) ?_
      refine W.widen (k := 3) (n := 18) (Nat.le_of_ble_eq_true rfl) (Nat.le_of_ble_eq_true rfl) ?_
      exact (W.iret (v := 1) hx hb hr (fun t ht hW => ⟨⟨1, F11, rfl, q, gH_at ht hH⟩, hS.F ht⟩) hS.2.2 dL_act_51)
abbrev rm_L_bar : Room := { frames := 8, cells := 3, slots := 18, locals := 134 }
abbrev q_L_bar (G : GP) (ad : Nat → Nat → Nat) (K : Int32 → GF → Prop) (below : List Frame) (args : Array Value) (s : State) : State → Prop := MQ below (gQi G ad K) args s 3 18 (gA G)
set_option maxHeartbeats 4000000 in
set_option maxRecDepth 100000 in
theorem c_L_bar (l : Launch) (hfl : l.stackTraces = false) (G : GP) (ad : Nat → Nat → Nat) (F : GF) (p1 : Int32) (p2 : Int32) (p3 : Int32) (K : Int32 → GF → Prop) : Met l yL_bar wsL_bar rm_L_bar (va_Pc [.ref (ad 0 0), .int p1, .int p2, .int p3] (fun U => (gD G ad F U ∧ gL U) ∧ P_M_bar F p1 p2 p3 K)) (gQi G ad K) 3 18 (gA G) := by
  refine g_ofWH (hh := [(0, 15, 16, 32), (0, 15, 21, 34)]) (cc := cL_bar) (maxL := 5) (ret := (some .int)) (by decide) rfl ?_
  intro p e s m args below meth c s₁ Bd hml hv
  obtain ⟨rfl, ⟨⟨hK, hG, hB, hH⟩, hL⟩, q⟩ := hv
  have hx := Bd.exec
  have hb := Bd.bytes
  have hr := Bd.returns
  have hts := atoms_spec (ws := wsL_bar) Bd.pre
  have hown : s.vm.findClass RL = some m.cls := findClass_of_methodNamed Bd.named
  have hlocks := Bd.notSynchronized
  have htab := vx_table (x := yL_bar) Bd (hts _ List.mem_cons_self)
  have hS : va_S (gA G) s.heap s.heap [] := va_S.rf
  have hl := lv_entry [.ref (ad 0 0), .int p1, .int p2, .int p3] (n := 5) (Nat.le_of_ble_eq_true rfl)
  rw [lg_entry_eq]
  generalize (lg_sl [.ref (ad 0 0), .int p1, .int p2, .int p3] ++ List.replicate (5 - (lg_sl [.ref (ad 0 0), .int p1, .int p2, .int p3]).length) Slot.unset).toArray = ls at hl ⊢
  have hl : lv_has ls 5 [(0, .ref (ad 0 0)), (1, .int p1), (2, .int p2), (3, .int p3)] := hl
  unfold P_M_bar at q
  refine lv_aload_n hx hb dL_bar_0 rfl (lv_at hl 0 rfl) ?_
  refine lv_iload_n hx hb dL_bar_1 rfl (lv_at hl 1 rfl) ?_
  refine lv_iload_n hx hb dL_bar_2 rfl (lv_at hl 2 rfl) ?_
  refine lv_iload_n hx hb dL_bar_3 rfl (lv_at hl 3 rfl) ?_
  refine vx_calli (vx_runV (As := [.int p1, .int p2, .int p3]) (rest := []) ⟨hx, hb, hml, hown, hts⟩ (c_X10_bar l hfl G ad F p1 p2 p3 _ _) (cwV 3 hts gL_bar_X10_bar rfl rfl rfl (by decide +kernel) ⟨Nat.le_of_ble_eq_true rfl, Nat.le_of_ble_eq_true rfl⟩) ⟨fun a U g mk h => ⟨h.1, gD_blind h.2.1, h.2.2⟩, g_recv (C := RX10) (T := TX10) (N := 8) hK hH 0 0 (by decide) Nat.zero_lt_one rfl rfl, fun U hU hW => ⟨rfl, gD_at hK hG hB hH hS hU hW, q⟩⟩ rfl rfl hl.1 rfl (lv_room (Nat.le_of_ble_eq_true rfl)) dL_bar_4 ⟨Nat.le_of_ble_eq_true rfl, Nat.le_of_ble_eq_true rfl⟩) hS (fun _ _ h => h) (fun _ h => h) (fun _ _ h => h) (fun E9 ce q9 F9 t H locs ht hvm _ hq hz hk hS hc9 hv9 hcl9 => ?_) (fun r1 F2 t H locs ht hvm q hB1 hz hk hS => ?_)
  · have hH : gH G ad F9 H := gH_to ht hq.2
    rcases hq.1 with ⟨rfl, q⟩ | ⟨rfl, q⟩
    · refine vx_catch hown [] ⟨0, 15, 16, 32⟩ [⟨0, 15, 21, 34⟩] (htab.trans rfl) (fun _ h => absurd h List.not_mem_nil) rfl (by decide) (hts (.classLink RL 32 "java/lang/IndexOutOfBoundsException") (List.mem_of_getElem? (i := 1) rfl)) (va_Nw.use rfl (gcast hG (List.mem_of_getElem? (i := 0) rfl))) hc9 hv9 hcl9 ?_
      refine lv_astore (lv' := [(4, .ref q9), (0, .ref (ad 0 0)), (1, .int p1), (2, .int p2), (3, .int p3)]) hx hb dL_bar_16 hl (by decide) rfl (fun ls hl => ?_)
      refine lv_bipush (v := (-8)) hx hb dL_bar_18 (by decide) ?_
      exact (W.iret (v := (-8)) hx hb hr (fun t ht hW => ⟨⟨(-8), F9, rfl, q, gH_at ht hH⟩, hS.F ht⟩) hS.2.2 dL_bar_20)
    · refine vx_catch hown [⟨0, 15, 16, 32⟩] ⟨0, 15, 21, 34⟩ [] (htab.trans rfl) (List.forall_mem_cons.mpr ⟨Or.inr ⟨by decide, "java/lang/IndexOutOfBoundsException", hts (.classLink RL 32 "java/lang/IndexOutOfBoundsException") (List.mem_of_getElem? (i := 1) rfl), hL.1⟩, (fun _ h => absurd h List.not_mem_nil)⟩) rfl (by decide) (hts (.classLink RL 34 "java/lang/IllegalArgumentException") (List.mem_of_getElem? (i := 2) rfl)) (va_Nw.use rfl (gcast hG (List.mem_of_getElem? (i := 1) rfl))) hc9 hv9 hcl9 ?_
      refine lv_astore (lv' := [(4, .ref q9), (0, .ref (ad 0 0)), (1, .int p1), (2, .int p2), (3, .int p3)]) hx hb dL_bar_21 hl (by decide) rfl (fun ls hl => ?_)
      refine lv_bipush (v := (-8)) hx hb dL_bar_23 (by decide) ?_
      exact (W.iret (v := (-8)) hx hb hr (fun t ht hW => ⟨⟨(-8), F9, rfl, q, gH_at ht hH⟩, hS.F ht⟩) hS.2.2 dL_bar_25)
  have hH : gH G ad F2 H := gH_to ht hB1
  refine lv_if_eq (tgt := 14) hx hb dL_bar_7 (by decide) (fun c3 => ?_) (fun c3 => ?_)
  · have q := (if_pos c3).mp q
    refine lv_iconst (v := 0) hx hb dL_bar_14 (by decide) ?_
    exact (W.iret (v := 0) hx hb hr (fun t ht hW => ⟨⟨0, F2, rfl, q, gH_at ht hH⟩, hS.F ht⟩) hS.2.2 dL_bar_15)
  · have q := (if_neg c3).mp q
    refine lv_iconst (v := 1) hx hb dL_bar_10 (by decide) ?_
    refine lv_goto (tgt := 15) hx hb dL_bar_11 (by decide) ?_
    exact (W.iret (v := 1) hx hb hr (fun t ht hW => ⟨⟨1, F2, rfl, q, gH_at ht hH⟩, hS.F ht⟩) hS.2.2 dL_bar_15)
abbrev rm_L_call : Room := { frames := 8, cells := 3, slots := 18, locals := 135 }
abbrev q_L_call (G : GP) (ad : Nat → Nat → Nat) (K : Int32 → GF → Prop) (below : List Frame) (args : Array Value) (s : State) : State → Prop := MQ below (gQi G ad K) args s 3 18 (gA G)
set_option maxHeartbeats 4000000 in
set_option maxRecDepth 100000 in
theorem c_L_call (l : Launch) (hfl : l.stackTraces = false) (G : GP) (ad : Nat → Nat → Nat) (F : GF) (p1 : Int32) (p2 : Int32) (p3 : Int32) (K : Int32 → GF → Prop) : Met l yL_call wsL_call rm_L_call (va_Pc [.ref (ad 0 0), .int p1, .int p2, .int p3] (fun U => (gD G ad F U ∧ gL U) ∧ P_M_call F p1 p2 p3 K)) (gQi G ad K) 3 18 (gA G) := by
  refine g_ofWH (hh := [(0, 7, 8, 34), (0, 7, 13, 36)]) (cc := cL_call) (maxL := 5) (ret := (some .int)) (by decide) rfl ?_
  intro p e s m args below meth c s₁ Bd hml hv
  obtain ⟨rfl, ⟨⟨hK, hG, hB, hH⟩, hL⟩, q⟩ := hv
  have hx := Bd.exec
  have hb := Bd.bytes
  have hr := Bd.returns
  have hts := atoms_spec (ws := wsL_call) Bd.pre
  have hown : s.vm.findClass RL = some m.cls := findClass_of_methodNamed Bd.named
  have hlocks := Bd.notSynchronized
  have htab := vx_table (x := yL_call) Bd (hts _ List.mem_cons_self)
  have hS : va_S (gA G) s.heap s.heap [] := va_S.rf
  have hl := lv_entry [.ref (ad 0 0), .int p1, .int p2, .int p3] (n := 5) (Nat.le_of_ble_eq_true rfl)
  rw [lg_entry_eq]
  generalize (lg_sl [.ref (ad 0 0), .int p1, .int p2, .int p3] ++ List.replicate (5 - (lg_sl [.ref (ad 0 0), .int p1, .int p2, .int p3]).length) Slot.unset).toArray = ls at hl ⊢
  have hl : lv_has ls 5 [(0, .ref (ad 0 0)), (1, .int p1), (2, .int p2), (3, .int p3)] := hl
  unfold P_M_call at q
  refine lv_aload_n hx hb dL_call_0 rfl (lv_at hl 0 rfl) ?_
  refine lv_iload_n hx hb dL_call_1 rfl (lv_at hl 1 rfl) ?_
  refine lv_iload_n hx hb dL_call_2 rfl (lv_at hl 2 rfl) ?_
  refine lv_iload_n hx hb dL_call_3 rfl (lv_at hl 3 rfl) ?_
  refine vx_calli (vx_runV (As := [.int p1, .int p2, .int p3]) (rest := []) ⟨hx, hb, hml, hown, hts⟩ (c_X10_call l hfl G ad F p1 p2 p3 _ _) (cwV 3 hts gL_call_X10_call rfl rfl rfl (by decide +kernel) ⟨Nat.le_of_ble_eq_true rfl, Nat.le_of_ble_eq_true rfl⟩) ⟨fun a U g mk h => ⟨h.1, gD_blind h.2.1, h.2.2⟩, g_recv (C := RX10) (T := TX10) (N := 8) hK hH 0 0 (by decide) Nat.zero_lt_one rfl rfl, fun U hU hW => ⟨rfl, gD_at hK hG hB hH hS hU hW, q⟩⟩ rfl rfl hl.1 rfl (lv_room (Nat.le_of_ble_eq_true rfl)) dL_call_4 ⟨Nat.le_of_ble_eq_true rfl, Nat.le_of_ble_eq_true rfl⟩) hS (fun _ _ h => h) (fun _ h => h) (fun _ _ h => h) (fun E9 ce q9 F9 t H locs ht hvm _ hq hz hk hS hc9 hv9 hcl9 => ?_) (fun r1 F2 t H locs ht hvm q hB1 hz hk hS => ?_)
  · have hH : gH G ad F9 H := gH_to ht hq.2
    rcases hq.1 with ⟨rfl, q⟩ | ⟨rfl, q⟩
    · refine vx_catch hown [] ⟨0, 7, 8, 34⟩ [⟨0, 7, 13, 36⟩] (htab.trans rfl) (fun _ h => absurd h List.not_mem_nil) rfl (by decide) (hts (.classLink RL 34 "java/lang/IllegalArgumentException") (List.mem_of_getElem? (i := 1) rfl)) (va_Nw.use rfl (gcast hG (List.mem_of_getElem? (i := 1) rfl))) hc9 hv9 hcl9 ?_
      refine lv_astore (lv' := [(4, .ref q9), (0, .ref (ad 0 0)), (1, .int p1), (2, .int p2), (3, .int p3)]) hx hb dL_call_8 hl (by decide) rfl (fun ls hl => ?_)
      refine lv_bipush (v := (-8)) hx hb dL_call_10 (by decide) ?_
      exact (W.iret (v := (-8)) hx hb hr (fun t ht hW => ⟨⟨(-8), F9, rfl, q, gH_at ht hH⟩, hS.F ht⟩) hS.2.2 dL_call_12)
    · refine vx_catch hown [⟨0, 7, 8, 34⟩] ⟨0, 7, 13, 36⟩ [] (htab.trans rfl) (List.forall_mem_cons.mpr ⟨Or.inr ⟨by decide, "java/lang/IllegalArgumentException", hts (.classLink RL 34 "java/lang/IllegalArgumentException") (List.mem_of_getElem? (i := 1) rfl), hL.2.2⟩, (fun _ h => absurd h List.not_mem_nil)⟩) rfl (by decide) (hts (.classLink RL 36 "java/lang/IllegalStateException") (List.mem_of_getElem? (i := 2) rfl)) (va_Nw.use rfl (gcast hG (List.mem_of_getElem? (i := 2) rfl))) hc9 hv9 hcl9 ?_
      refine lv_astore (lv' := [(4, .ref q9), (0, .ref (ad 0 0)), (1, .int p1), (2, .int p2), (3, .int p3)]) hx hb dL_call_13 hl (by decide) rfl (fun ls hl => ?_)
      refine lv_bipush (v := (-8)) hx hb dL_call_15 (by decide) ?_
      exact (W.iret (v := (-8)) hx hb hr (fun t ht hW => ⟨⟨(-8), F9, rfl, q, gH_at ht hH⟩, hS.F ht⟩) hS.2.2 dL_call_17)
  have hH : gH G ad F2 H := gH_to ht hB1
  exact (W.iret (v := r1) hx hb hr (fun t ht hW => ⟨⟨r1, F2, rfl, q, gH_at ht hH⟩, hS.F ht⟩) hS.2.2 dL_call_7)
abbrev rm_L_vote : Room := { frames := 9, cells := 7, slots := 42, locals := 156 }
abbrev q_L_vote (G : GP) (ad : Nat → Nat → Nat) (K : Int32 → GF → Prop) (below : List Frame) (args : Array Value) (s : State) : State → Prop := MQ below (gQi G ad K) args s 7 42 (gA G)
set_option maxHeartbeats 4000000 in
set_option maxRecDepth 100000 in
theorem c_L_vote (l : Launch) (hfl : l.stackTraces = false) (G : GP) (ad : Nat → Nat → Nat) (F : GF) (p1 : Int32) (p2 : Int32) (p3 : Int32) (K : Int32 → GF → Prop) : Met l yL_vote wsL_vote rm_L_vote (va_Pc [.ref (ad 0 0), .int p1, .int p2, .int p3] (fun U => (gD G ad F U ∧ gL U) ∧ P_M_vote F p1 p2 p3 K)) (gQi G ad K) 7 42 (gA G) := by
  refine g_ofWH (hh := [(0, 7, 8, 32), (0, 7, 13, 34), (0, 7, 18, 36)]) (cc := cL_vote) (maxL := 5) (ret := (some .int)) (by decide) rfl ?_
  intro p e s m args below meth c s₁ Bd hml hv
  obtain ⟨rfl, ⟨⟨hK, hG, hB, hH⟩, hL⟩, q⟩ := hv
  have hx := Bd.exec
  have hb := Bd.bytes
  have hr := Bd.returns
  have hts := atoms_spec (ws := wsL_vote) Bd.pre
  have hown : s.vm.findClass RL = some m.cls := findClass_of_methodNamed Bd.named
  have hlocks := Bd.notSynchronized
  have htab := vx_table (x := yL_vote) Bd (hts _ List.mem_cons_self)
  have hS : va_S (gA G) s.heap s.heap [] := va_S.rf
  have hl := lv_entry [.ref (ad 0 0), .int p1, .int p2, .int p3] (n := 5) (Nat.le_of_ble_eq_true rfl)
  rw [lg_entry_eq]
  generalize (lg_sl [.ref (ad 0 0), .int p1, .int p2, .int p3] ++ List.replicate (5 - (lg_sl [.ref (ad 0 0), .int p1, .int p2, .int p3]).length) Slot.unset).toArray = ls at hl ⊢
  have hl : lv_has ls 5 [(0, .ref (ad 0 0)), (1, .int p1), (2, .int p2), (3, .int p3)] := hl
  unfold P_M_vote at q
  refine lv_aload_n hx hb dL_vote_0 rfl (lv_at hl 0 rfl) ?_
  refine lv_iload_n hx hb dL_vote_1 rfl (lv_at hl 1 rfl) ?_
  refine lv_iload_n hx hb dL_vote_2 rfl (lv_at hl 2 rfl) ?_
  refine lv_iload_n hx hb dL_vote_3 rfl (lv_at hl 3 rfl) ?_
  refine vx_calli (vx_runV (As := [.int p1, .int p2, .int p3]) (rest := []) ⟨hx, hb, hml, hown, hts⟩ (c_X10_vote l hfl G ad F p1 p2 p3 _ _) (cwV 3 hts gL_vote_X10_vote rfl rfl rfl (by decide +kernel) ⟨Nat.le_of_ble_eq_true rfl, Nat.le_of_ble_eq_true rfl⟩) ⟨fun a U g mk h => ⟨h.1, gD_blind h.2.1, h.2.2⟩, g_recv (C := RX10) (T := TX10) (N := 8) hK hH 0 0 (by decide) Nat.zero_lt_one rfl rfl, fun U hU hW => ⟨rfl, gD_at hK hG hB hH hS hU hW, q⟩⟩ rfl rfl hl.1 rfl (lv_room (Nat.le_of_ble_eq_true rfl)) dL_vote_4 ⟨Nat.le_of_ble_eq_true rfl, Nat.le_of_ble_eq_true rfl⟩) hS (fun _ _ h => h) (fun _ h => h) (fun _ _ h => h) (fun E9 ce q9 F9 t H locs ht hvm _ hq hz hk hS hc9 hv9 hcl9 => ?_) (fun r1 F2 t H locs ht hvm q hB1 hz hk hS => ?_)
  · have hH : gH G ad F9 H := gH_to ht hq.2
    rcases hq.1 with ⟨rfl, q⟩ | ⟨rfl, q⟩ | ⟨rfl, q⟩
    · refine vx_catch hown [] ⟨0, 7, 8, 32⟩ [⟨0, 7, 13, 34⟩, ⟨0, 7, 18, 36⟩] (htab.trans rfl) (fun _ h => absurd h List.not_mem_nil) rfl (by decide) (hts (.classLink RL 32 "java/lang/IndexOutOfBoundsException") (List.mem_of_getElem? (i := 1) rfl)) (va_Nw.use rfl (gcast hG (List.mem_of_getElem? (i := 0) rfl))) hc9 hv9 hcl9 ?_
      refine lv_astore (lv' := [(4, .ref q9), (0, .ref (ad 0 0)), (1, .int p1), (2, .int p2), (3, .int p3)]) hx hb dL_vote_8 hl (by decide) rfl (fun ls hl => ?_)
      refine lv_bipush (v := (-8)) hx hb dL_vote_10 (by decide) ?_
      exact (W.iret (v := (-8)) hx hb hr (fun t ht hW => ⟨⟨(-8), F9, rfl, q, gH_at ht hH⟩, hS.F ht⟩) hS.2.2 dL_vote_12)
    · refine vx_catch hown [⟨0, 7, 8, 32⟩] ⟨0, 7, 13, 34⟩ [⟨0, 7, 18, 36⟩] (htab.trans rfl) (List.forall_mem_cons.mpr ⟨Or.inr ⟨by decide, "java/lang/IndexOutOfBoundsException", hts (.classLink RL 32 "java/lang/IndexOutOfBoundsException") (List.mem_of_getElem? (i := 1) rfl), hL.1⟩, (fun _ h => absurd h List.not_mem_nil)⟩) rfl (by decide) (hts (.classLink RL 34 "java/lang/IllegalArgumentException") (List.mem_of_getElem? (i := 2) rfl)) (va_Nw.use rfl (gcast hG (List.mem_of_getElem? (i := 1) rfl))) hc9 hv9 hcl9 ?_
      refine lv_astore (lv' := [(4, .ref q9), (0, .ref (ad 0 0)), (1, .int p1), (2, .int p2), (3, .int p3)]) hx hb dL_vote_13 hl (by decide) rfl (fun ls hl => ?_)
      refine lv_bipush (v := (-8)) hx hb dL_vote_15 (by decide) ?_
      exact (W.iret (v := (-8)) hx hb hr (fun t ht hW => ⟨⟨(-8), F9, rfl, q, gH_at ht hH⟩, hS.F ht⟩) hS.2.2 dL_vote_17)
    · refine vx_catch hown [⟨0, 7, 8, 32⟩, ⟨0, 7, 13, 34⟩] ⟨0, 7, 18, 36⟩ [] (htab.trans rfl) (List.forall_mem_cons.mpr ⟨Or.inr ⟨by decide, "java/lang/IndexOutOfBoundsException", hts (.classLink RL 32 "java/lang/IndexOutOfBoundsException") (List.mem_of_getElem? (i := 1) rfl), hL.2.1⟩, (List.forall_mem_cons.mpr ⟨Or.inr ⟨by decide, "java/lang/IllegalArgumentException", hts (.classLink RL 34 "java/lang/IllegalArgumentException") (List.mem_of_getElem? (i := 2) rfl), hL.2.2⟩, (fun _ h => absurd h List.not_mem_nil)⟩)⟩) rfl (by decide) (hts (.classLink RL 36 "java/lang/IllegalStateException") (List.mem_of_getElem? (i := 3) rfl)) (va_Nw.use rfl (gcast hG (List.mem_of_getElem? (i := 2) rfl))) hc9 hv9 hcl9 ?_
      refine lv_astore (lv' := [(4, .ref q9), (0, .ref (ad 0 0)), (1, .int p1), (2, .int p2), (3, .int p3)]) hx hb dL_vote_18 hl (by decide) rfl (fun ls hl => ?_)
      refine lv_bipush (v := (-8)) hx hb dL_vote_20 (by decide) ?_
      exact (W.iret (v := (-8)) hx hb hr (fun t ht hW => ⟨⟨(-8), F9, rfl, q, gH_at ht hH⟩, hS.F ht⟩) hS.2.2 dL_vote_22)
  have hH : gH G ad F2 H := gH_to ht hB1
  exact (W.iret (v := r1) hx hb hr (fun t ht hW => ⟨⟨r1, F2, rfl, q, gH_at ht hH⟩, hS.F ht⟩) hS.2.2 dL_vote_7)
abbrev rm_L_count : Room := { frames := 8, cells := 4, slots := 24, locals := 134 }
abbrev q_L_count (G : GP) (ad : Nat → Nat → Nat) (K : Int32 → GF → Prop) (below : List Frame) (args : Array Value) (s : State) : State → Prop := MQ below (gQi G ad K) args s 4 24 (gA G)
set_option maxHeartbeats 4000000 in
set_option maxRecDepth 100000 in
theorem c_L_count (l : Launch) (hfl : l.stackTraces = false) (G : GP) (ad : Nat → Nat → Nat) (F : GF) (p1 : Int32) (p2 : Int32) (K : Int32 → GF → Prop) : Met l yL_count wsL_count rm_L_count (va_Pc [.ref (ad 0 0), .int p1, .int p2] (fun U => (gD G ad F U ∧ gL U) ∧ P_M_count F p1 p2 K)) (gQi G ad K) 4 24 (gA G) := by
  refine g_ofWH (hh := [(0, 14, 15, 32), (0, 14, 19, 36)]) (cc := cL_count) (maxL := 4) (ret := (some .int)) (by decide) rfl ?_
  intro p e s m args below meth c s₁ Bd hml hv
  obtain ⟨rfl, ⟨⟨hK, hG, hB, hH⟩, hL⟩, q⟩ := hv
  have hx := Bd.exec
  have hb := Bd.bytes
  have hr := Bd.returns
  have hts := atoms_spec (ws := wsL_count) Bd.pre
  have hown : s.vm.findClass RL = some m.cls := findClass_of_methodNamed Bd.named
  have hlocks := Bd.notSynchronized
  have htab := vx_table (x := yL_count) Bd (hts _ List.mem_cons_self)
  have hS : va_S (gA G) s.heap s.heap [] := va_S.rf
  have hl := lv_entry [.ref (ad 0 0), .int p1, .int p2] (n := 4) (Nat.le_of_ble_eq_true rfl)
  rw [lg_entry_eq]
  generalize (lg_sl [.ref (ad 0 0), .int p1, .int p2] ++ List.replicate (4 - (lg_sl [.ref (ad 0 0), .int p1, .int p2]).length) Slot.unset).toArray = ls at hl ⊢
  have hl : lv_has ls 4 [(0, .ref (ad 0 0)), (1, .int p1), (2, .int p2)] := hl
  unfold P_M_count at q
  refine lv_aload_n hx hb dL_count_0 rfl (lv_at hl 0 rfl) ?_
  refine lv_iload_n hx hb dL_count_1 rfl (lv_at hl 1 rfl) ?_
  refine lv_iload_n hx hb dL_count_2 rfl (lv_at hl 2 rfl) ?_
  refine vx_calli (vx_runV (As := [.int p1, .int p2]) (rest := []) ⟨hx, hb, hml, hown, hts⟩ (c_X10_count l hfl G ad F p1 p2 _ _) (cwV 2 hts gL_count_X10_count rfl rfl rfl (by decide +kernel) ⟨Nat.le_of_ble_eq_true rfl, Nat.le_of_ble_eq_true rfl⟩) ⟨fun a U g mk h => ⟨h.1, gD_blind h.2.1, h.2.2⟩, g_recv (C := RX10) (T := TX10) (N := 8) hK hH 0 0 (by decide) Nat.zero_lt_one rfl rfl, fun U hU hW => ⟨rfl, gD_at hK hG hB hH hS hU hW, q⟩⟩ rfl rfl hl.1 rfl (lv_room (Nat.le_of_ble_eq_true rfl)) dL_count_3 ⟨Nat.le_of_ble_eq_true rfl, Nat.le_of_ble_eq_true rfl⟩) hS (fun _ _ h => h) (fun _ h => h) (fun _ _ h => h) (fun E9 ce q9 F9 t H locs ht hvm _ hq hz hk hS hc9 hv9 hcl9 => ?_) (fun r1 F2 t H locs ht hvm q hB1 hz hk hS => ?_)
  · have hH : gH G ad F9 H := gH_to ht hq.2
    rcases hq.1 with ⟨rfl, q⟩ | ⟨rfl, q⟩
    · refine vx_catch hown [] ⟨0, 14, 15, 32⟩ [⟨0, 14, 19, 36⟩] (htab.trans rfl) (fun _ h => absurd h List.not_mem_nil) rfl (by decide) (hts (.classLink RL 32 "java/lang/IndexOutOfBoundsException") (List.mem_of_getElem? (i := 1) rfl)) (va_Nw.use rfl (gcast hG (List.mem_of_getElem? (i := 0) rfl))) hc9 hv9 hcl9 ?_
      refine lv_astore_n (lv' := [(3, .ref q9), (0, .ref (ad 0 0)), (1, .int p1), (2, .int p2)]) hx hb dL_count_15 rfl hl (by decide) rfl (fun ls hl => ?_)
      refine lv_bipush (v := (-8)) hx hb dL_count_16 (by decide) ?_
      exact (W.iret (v := (-8)) hx hb hr (fun t ht hW => ⟨⟨(-8), F9, rfl, q, gH_at ht hH⟩, hS.F ht⟩) hS.2.2 dL_count_18)
    · refine vx_catch hown [⟨0, 14, 15, 32⟩] ⟨0, 14, 19, 36⟩ [] (htab.trans rfl) (List.forall_mem_cons.mpr ⟨Or.inr ⟨by decide, "java/lang/IndexOutOfBoundsException", hts (.classLink RL 32 "java/lang/IndexOutOfBoundsException") (List.mem_of_getElem? (i := 1) rfl), hL.2.1⟩, (fun _ h => absurd h List.not_mem_nil)⟩) rfl (by decide) (hts (.classLink RL 36 "java/lang/IllegalStateException") (List.mem_of_getElem? (i := 2) rfl)) (va_Nw.use rfl (gcast hG (List.mem_of_getElem? (i := 2) rfl))) hc9 hv9 hcl9 ?_
      refine lv_astore_n (lv' := [(3, .ref q9), (0, .ref (ad 0 0)), (1, .int p1), (2, .int p2)]) hx hb dL_count_19 rfl hl (by decide) rfl (fun ls hl => ?_)
      refine lv_bipush (v := (-8)) hx hb dL_count_20 (by decide) ?_
      exact (W.iret (v := (-8)) hx hb hr (fun t ht hW => ⟨⟨(-8), F9, rfl, q, gH_at ht hH⟩, hS.F ht⟩) hS.2.2 dL_count_22)
  have hH : gH G ad F2 H := gH_to ht hB1
  refine lv_if_eq (tgt := 13) hx hb dL_count_6 (by decide) (fun c3 => ?_) (fun c3 => ?_)
  · have q := (if_pos c3).mp q
    refine lv_iconst (v := 0) hx hb dL_count_13 (by decide) ?_
    exact (W.iret (v := 0) hx hb hr (fun t ht hW => ⟨⟨0, F2, rfl, q, gH_at ht hH⟩, hS.F ht⟩) hS.2.2 dL_count_14)
  · have q := (if_neg c3).mp q
    refine lv_iconst (v := 1) hx hb dL_count_9 (by decide) ?_
    refine lv_goto (tgt := 14) hx hb dL_count_10 (by decide) ?_
    exact (W.iret (v := 1) hx hb hr (fun t ht hW => ⟨⟨1, F2, rfl, q, gH_at ht hH⟩, hS.F ht⟩) hS.2.2 dL_count_14)
abbrev rm_L_of : Room := { frames := 8, cells := 1, slots := 6, locals := 159 }
abbrev q_L_of (G : GP) (ad : Nat → Nat → Nat) (K : Int32 → GF → Prop) (below : List Frame) (args : Array Value) (s : State) : State → Prop := MQ below (gQi G ad K) args s 1 6 (gA G)
set_option maxHeartbeats 4000000 in
set_option maxRecDepth 100000 in
theorem c_L_of (l : Launch) (hfl : l.stackTraces = false) (G : GP) (ad : Nat → Nat → Nat) (F : GF) (p1 : Int32) (p2 : Int32) (K : Int32 → GF → Prop) : Met l yL_of wsL_of rm_L_of (va_Pc [.ref (ad 0 0), .int p1, .int p2] (fun U => (gD G ad F U ∧ gL U) ∧ P_M_of F p1 p2 K)) (gQi G ad K) 1 6 (gA G) := by
  refine g_ofWH (hh := [(0, 168, 169, 32)]) (cc := cL_of) (maxL := 4) (ret := (some .int)) (by decide) rfl ?_
  intro p e s m args below meth c s₁ Bd hml hv
  obtain ⟨rfl, ⟨⟨hK, hG, hB, hH⟩, hL⟩, q⟩ := hv
  have hx := Bd.exec
  have hb := Bd.bytes
  have hr := Bd.returns
  have hts := atoms_spec (ws := wsL_of) Bd.pre
  have hown : s.vm.findClass RL = some m.cls := findClass_of_methodNamed Bd.named
  have hlocks := Bd.notSynchronized
  have htab := vx_table (x := yL_of) Bd (hts _ List.mem_cons_self)
  have hS : va_S (gA G) s.heap s.heap [] := va_S.rf
  have hl := lv_entry [.ref (ad 0 0), .int p1, .int p2] (n := 4) (Nat.le_of_ble_eq_true rfl)
  rw [lg_entry_eq]
  generalize (lg_sl [.ref (ad 0 0), .int p1, .int p2] ++ List.replicate (4 - (lg_sl [.ref (ad 0 0), .int p1, .int p2]).length) Slot.unset).toArray = ls at hl ⊢
  have hl : lv_has ls 4 [(0, .ref (ad 0 0)), (1, .int p1), (2, .int p2)] := hl
  unfold P_M_of at q
  refine lv_iload_n hx hb dL_of_0 rfl (lv_at hl 1 rfl) ?_
  refine lv_if_ne (tgt := 20) hx hb dL_of_1 (by decide) (fun c1 => ?_) (fun c1 => ?_)
  · have q := (if_neg c1).mp q
    refine lv_iload_n hx hb dL_of_20 rfl (lv_at hl 1 rfl) ?_
    refine lv_iconst (v := 1) hx hb dL_of_21 (by decide) ?_
    refine lv_icmp_ne (tgt := 33) hx hb dL_of_22 (by decide) (fun c2 => ?_) (fun c2 => ?_)
    · have q := (if_neg c2).mp q
      refine lv_iload_n hx hb dL_of_33 rfl (lv_at hl 1 rfl) ?_
      refine lv_iconst (v := 2) hx hb dL_of_34 (by decide) ?_
      refine lv_icmp_ne (tgt := 46) hx hb dL_of_35 (by decide) (fun c3 => ?_) (fun c3 => ?_)
      · have q := (if_neg c3).mp q
        refine lv_iload_n hx hb dL_of_46 rfl (lv_at hl 1 rfl) ?_
        refine lv_iconst (v := 3) hx hb dL_of_47 (by decide) ?_
        refine lv_icmp_ne (tgt := 59) hx hb dL_of_48 (by decide) (fun c4 => ?_) (fun c4 => ?_)
        · have q := (if_neg c4).mp q
          refine lv_iload_n hx hb dL_of_59 rfl (lv_at hl 1 rfl) ?_
          refine lv_iconst (v := 4) hx hb dL_of_60 (by decide) ?_
          refine lv_icmp_ne (tgt := 80) hx hb dL_of_61 (by decide) (fun c5 => ?_) (fun c5 => ?_)
          · have q := (if_neg c5).mp q
            refine lv_iload_n hx hb dL_of_80 rfl (lv_at hl 1 rfl) ?_
            refine lv_iconst (v := 5) hx hb dL_of_81 (by decide) ?_
            refine lv_icmp_ne (tgt := 93) hx hb dL_of_82 (by decide) (fun c6 => ?_) (fun c6 => ?_)
            · have q := (if_neg c6).mp q
              refine lv_iload_n hx hb dL_of_93 rfl (lv_at hl 1 rfl) ?_
              refine lv_bipush (v := 6) hx hb dL_of_94 (by decide) ?_
              refine lv_icmp_ne (tgt := 107) hx hb dL_of_96 (by decide) (fun c7 => ?_) (fun c7 => ?_)
              · have q := (if_neg c7).mp q
                refine lv_iload_n hx hb dL_of_107 rfl (lv_at hl 1 rfl) ?_
                refine lv_bipush (v := 7) hx hb dL_of_108 (by decide) ?_
                refine lv_icmp_ne (tgt := 121) hx hb dL_of_110 (by decide) (fun c8 => ?_) (fun c8 => ?_)
                · have q := (if_neg c8).mp q
                  refine lv_iload_n hx hb dL_of_121 rfl (lv_at hl 1 rfl) ?_
                  refine lv_bipush (v := 8) hx hb dL_of_122 (by decide) ?_
                  refine lv_icmp_ne (tgt := 135) hx hb dL_of_124 (by decide) (fun c9 => ?_) (fun c9 => ?_)
                  · have q := (if_neg c9).mp q
                    refine lv_iload_n hx hb dL_of_135 rfl (lv_at hl 1 rfl) ?_
                    refine lv_bipush (v := 9) hx hb dL_of_136 (by decide) ?_
                    refine lv_icmp_ne (tgt := 149) hx hb dL_of_138 (by decide) (fun c10 => ?_) (fun c10 => ?_)
                    · have q := (if_neg c10).mp q
                      refine lv_iload_n hx hb dL_of_149 rfl (lv_at hl 1 rfl) ?_
                      refine lv_bipush (v := 10) hx hb dL_of_150 (by decide) ?_
                      refine lv_icmp_ne (tgt := 163) hx hb dL_of_152 (by decide) (fun c11 => ?_) (fun c11 => ?_)
                      · have q := (if_neg c11).mp q
                        refine lv_aload_n hx hb dL_of_163 rfl (lv_at hl 0 rfl) ?_
                        refine lv_iload_n hx hb dL_of_164 rfl (lv_at hl 2 rfl) ?_
                        refine vx_calli (vx_runV (As := [.int p2]) (rest := []) ⟨hx, hb, hml, hown, hts⟩ (c_X10_seatAt l hfl G ad F p2 _ _) (cwV 1 hts gL_of_X10_seatAt rfl rfl rfl (by decide +kernel) ⟨Nat.le_of_ble_eq_true rfl, Nat.le_of_ble_eq_true rfl⟩) ⟨fun a U g mk h => ⟨h.1, gD_blind h.2.1, h.2.2⟩, g_recv (C := RX10) (T := TX10) (N := 8) hK hH 0 0 (by decide) Nat.zero_lt_one rfl rfl, fun U hU hW => ⟨rfl, gD_at hK hG hB hH hS hU hW, q⟩⟩ rfl rfl hl.1 rfl (lv_room (Nat.le_of_ble_eq_true rfl)) dL_of_165 ⟨Nat.le_of_ble_eq_true rfl, Nat.le_of_ble_eq_true rfl⟩) hS (fun _ _ h => h) (fun _ h => h) (fun _ _ h => h) (fun E9 ce q9 F9 t H locs ht hvm _ hq hz hk hS hc9 hv9 hcl9 => ?_) (fun r12 F13 t H locs ht hvm q hB1 hz hk hS => ?_)
                        · have hH : gH G ad F9 H := gH_to ht hq.2
                          rcases hq.1 with ⟨rfl, q⟩
                          · refine vx_catch hown [] ⟨0, 168, 169, 32⟩ [] (htab.trans rfl) (fun _ h => absurd h List.not_mem_nil) rfl (by decide) (hts (.classLink RL 32 "java/lang/IndexOutOfBoundsException") (List.mem_of_getElem? (i := 1) rfl)) (va_Nw.use rfl (gcast hG (List.mem_of_getElem? (i := 0) rfl))) hc9 hv9 hcl9 ?_
                            refine lv_astore_n (lv' := [(3, .ref q9), (0, .ref (ad 0 0)), (1, .int p1), (2, .int p2)]) hx hb dL_of_169 rfl hl (by decide) rfl (fun ls hl => ?_)
                            refine lv_bipush (v := (-8)) hx hb dL_of_170 (by decide) ?_
                            exact (W.iret (v := (-8)) hx hb hr (fun t ht hW => ⟨⟨(-8), F9, rfl, q, gH_at ht hH⟩, hS.F ht⟩) hS.2.2 dL_of_172)
                        have hH : gH G ad F13 H := gH_to ht hB1
                        exact (W.iret (v := r12) hx hb hr (fun t ht hW => ⟨⟨r12, F13, rfl, q, gH_at ht hH⟩, hS.F ht⟩) hS.2.2 dL_of_168)
                      · have q := (if_pos c11).mp q
                        refine lv_aload_n hx hb dL_of_155 rfl (lv_at hl 0 rfl) ?_
                        refine lv_iload_n hx hb dL_of_156 rfl (lv_at hl 2 rfl) ?_
                        refine vx_calli (vx_runV (As := [.int p2]) (rest := []) ⟨hx, hb, hml, hown, hts⟩ (c_X10_seatsByBallots l hfl G ad F p2 _ _) (cwV 1 hts gL_of_X10_seatsByBallots rfl rfl rfl (by decide +kernel) ⟨Nat.le_of_ble_eq_true rfl, Nat.le_of_ble_eq_true rfl⟩) ⟨fun a U g mk h => ⟨h.1, gD_blind h.2.1, h.2.2⟩, g_recv (C := RX10) (T := TX10) (N := 8) hK hH 0 0 (by decide) Nat.zero_lt_one rfl rfl, fun U hU hW => ⟨rfl, gD_at hK hG hB hH hS hU hW, q⟩⟩ rfl rfl hl.1 rfl (lv_room (Nat.le_of_ble_eq_true rfl)) dL_of_157 ⟨Nat.le_of_ble_eq_true rfl, Nat.le_of_ble_eq_true rfl⟩) hS (fun _ _ h => h) (fun _ h => h) (fun _ _ h => h) (fun E9 ce q9 F9 t H locs ht hvm _ hq hz hk hS hc9 hv9 hcl9 => ?_) (fun r14 F15 t H locs ht hvm q hB1 hz hk hS => ?_)
                        · have hH : gH G ad F9 H := gH_to ht hq.2
                          rcases hq.1 with ⟨rfl, q⟩
                          · refine vx_catch hown [] ⟨0, 168, 169, 32⟩ [] (htab.trans rfl) (fun _ h => absurd h List.not_mem_nil) rfl (by decide) (hts (.classLink RL 32 "java/lang/IndexOutOfBoundsException") (List.mem_of_getElem? (i := 1) rfl)) (va_Nw.use rfl (gcast hG (List.mem_of_getElem? (i := 0) rfl))) hc9 hv9 hcl9 ?_
                            refine lv_astore_n (lv' := [(3, .ref q9), (0, .ref (ad 0 0)), (1, .int p1), (2, .int p2)]) hx hb dL_of_169 rfl hl (by decide) rfl (fun ls hl => ?_)
                            refine lv_bipush (v := (-8)) hx hb dL_of_170 (by decide) ?_
                            exact (W.iret (v := (-8)) hx hb hr (fun t ht hW => ⟨⟨(-8), F9, rfl, q, gH_at ht hH⟩, hS.F ht⟩) hS.2.2 dL_of_172)
                        have hH : gH G ad F15 H := gH_to ht hB1
                        refine lv_goto (tgt := 168) hx hb dL_of_160 (by decide) ?_
                        exact (W.iret (v := r14) hx hb hr (fun t ht hW => ⟨⟨r14, F15, rfl, q, gH_at ht hH⟩, hS.F ht⟩) hS.2.2 dL_of_168)
                    · have q := (if_pos c10).mp q
                      refine lv_aload_n hx hb dL_of_141 rfl (lv_at hl 0 rfl) ?_
                      refine lv_iload_n hx hb dL_of_142 rfl (lv_at hl 2 rfl) ?_
                      refine vx_calli (vx_runV (As := [.int p2]) (rest := []) ⟨hx, hb, hml, hown, hts⟩ (c_X10_seats l hfl G ad F p2 _ _) (cwV 1 hts gL_of_X10_seats rfl rfl rfl (by decide +kernel) ⟨Nat.le_of_ble_eq_true rfl, Nat.le_of_ble_eq_true rfl⟩) ⟨fun a U g mk h => ⟨h.1, gD_blind h.2.1, h.2.2⟩, g_recv (C := RX10) (T := TX10) (N := 8) hK hH 0 0 (by decide) Nat.zero_lt_one rfl rfl, fun U hU hW => ⟨rfl, gD_at hK hG hB hH hS hU hW, q⟩⟩ rfl rfl hl.1 rfl (lv_room (Nat.le_of_ble_eq_true rfl)) dL_of_143 ⟨Nat.le_of_ble_eq_true rfl, Nat.le_of_ble_eq_true rfl⟩) hS (fun _ _ h => h) (fun _ h => h) (fun _ _ h => h) (fun E9 ce q9 F9 t H locs ht hvm _ hq hz hk hS hc9 hv9 hcl9 => ?_) (fun r16 F17 t H locs ht hvm q hB1 hz hk hS => ?_)
                      · have hH : gH G ad F9 H := gH_to ht hq.2
                        rcases hq.1 with ⟨rfl, q⟩
                        · refine vx_catch hown [] ⟨0, 168, 169, 32⟩ [] (htab.trans rfl) (fun _ h => absurd h List.not_mem_nil) rfl (by decide) (hts (.classLink RL 32 "java/lang/IndexOutOfBoundsException") (List.mem_of_getElem? (i := 1) rfl)) (va_Nw.use rfl (gcast hG (List.mem_of_getElem? (i := 0) rfl))) hc9 hv9 hcl9 ?_
                          refine lv_astore_n (lv' := [(3, .ref q9), (0, .ref (ad 0 0)), (1, .int p1), (2, .int p2)]) hx hb dL_of_169 rfl hl (by decide) rfl (fun ls hl => ?_)
                          refine lv_bipush (v := (-8)) hx hb dL_of_170 (by decide) ?_
                          exact (W.iret (v := (-8)) hx hb hr (fun t ht hW => ⟨⟨(-8), F9, rfl, q, gH_at ht hH⟩, hS.F ht⟩) hS.2.2 dL_of_172)
                      have hH : gH G ad F17 H := gH_to ht hB1
                      refine lv_goto (tgt := 168) hx hb dL_of_146 (by decide) ?_
                      exact (W.iret (v := r16) hx hb hr (fun t ht hW => ⟨⟨r16, F17, rfl, q, gH_at ht hH⟩, hS.F ht⟩) hS.2.2 dL_of_168)
                  · have q := (if_pos c9).mp q
                    refine lv_aload_n hx hb dL_of_127 rfl (lv_at hl 0 rfl) ?_
                    refine lv_iload_n hx hb dL_of_128 rfl (lv_at hl 2 rfl) ?_
                    refine vx_calli (vx_runV (As := [.int p2]) (rest := []) ⟨hx, hb, hml, hown, hts⟩ (c_X10_votes l hfl G ad F p2 _ _) (cwV 1 hts gL_of_X10_votes rfl rfl rfl (by decide +kernel) ⟨Nat.le_of_ble_eq_true rfl, Nat.le_of_ble_eq_true rfl⟩) ⟨fun a U g mk h => ⟨h.1, gD_blind h.2.1, h.2.2⟩, g_recv (C := RX10) (T := TX10) (N := 8) hK hH 0 0 (by decide) Nat.zero_lt_one rfl rfl, fun U hU hW => ⟨rfl, gD_at hK hG hB hH hS hU hW, q⟩⟩ rfl rfl hl.1 rfl (lv_room (Nat.le_of_ble_eq_true rfl)) dL_of_129 ⟨Nat.le_of_ble_eq_true rfl, Nat.le_of_ble_eq_true rfl⟩) hS (fun _ _ h => h) (fun _ h => h) (fun _ _ h => h) (fun E9 ce q9 F9 t H locs ht hvm _ hq hz hk hS hc9 hv9 hcl9 => ?_) (fun r18 F19 t H locs ht hvm q hB1 hz hk hS => ?_)
                    · have hH : gH G ad F9 H := gH_to ht hq.2
                      rcases hq.1 with ⟨rfl, q⟩
                      · refine vx_catch hown [] ⟨0, 168, 169, 32⟩ [] (htab.trans rfl) (fun _ h => absurd h List.not_mem_nil) rfl (by decide) (hts (.classLink RL 32 "java/lang/IndexOutOfBoundsException") (List.mem_of_getElem? (i := 1) rfl)) (va_Nw.use rfl (gcast hG (List.mem_of_getElem? (i := 0) rfl))) hc9 hv9 hcl9 ?_
                        refine lv_astore_n (lv' := [(3, .ref q9), (0, .ref (ad 0 0)), (1, .int p1), (2, .int p2)]) hx hb dL_of_169 rfl hl (by decide) rfl (fun ls hl => ?_)
                        refine lv_bipush (v := (-8)) hx hb dL_of_170 (by decide) ?_
                        exact (W.iret (v := (-8)) hx hb hr (fun t ht hW => ⟨⟨(-8), F9, rfl, q, gH_at ht hH⟩, hS.F ht⟩) hS.2.2 dL_of_172)
                    have hH : gH G ad F19 H := gH_to ht hB1
                    refine lv_goto (tgt := 168) hx hb dL_of_132 (by decide) ?_
                    exact (W.iret (v := r18) hx hb hr (fun t ht hW => ⟨⟨r18, F19, rfl, q, gH_at ht hH⟩, hS.F ht⟩) hS.2.2 dL_of_168)
                · have q := (if_pos c8).mp q
                  refine lv_aload_n hx hb dL_of_113 rfl (lv_at hl 0 rfl) ?_
                  refine lv_iload_n hx hb dL_of_114 rfl (lv_at hl 2 rfl) ?_
                  refine vx_calli (vx_runV (As := [.int p2]) (rest := []) ⟨hx, hb, hml, hown, hts⟩ (c_X10_personOf l hfl G ad F p2 _ _) (cwV 1 hts gL_of_X10_personOf rfl rfl rfl (by decide +kernel) ⟨Nat.le_of_ble_eq_true rfl, Nat.le_of_ble_eq_true rfl⟩) ⟨fun a U g mk h => ⟨h.1, gD_blind h.2.1, h.2.2⟩, g_recv (C := RX10) (T := TX10) (N := 8) hK hH 0 0 (by decide) Nat.zero_lt_one rfl rfl, fun U hU hW => ⟨rfl, gD_at hK hG hB hH hS hU hW, q⟩⟩ rfl rfl hl.1 rfl (lv_room (Nat.le_of_ble_eq_true rfl)) dL_of_115 ⟨Nat.le_of_ble_eq_true rfl, Nat.le_of_ble_eq_true rfl⟩) hS (fun _ _ h => h) (fun _ h => h) (fun _ _ h => h) (fun E9 ce q9 F9 t H locs ht hvm _ hq hz hk hS hc9 hv9 hcl9 => ?_) (fun r20 F21 t H locs ht hvm q hB1 hz hk hS => ?_)
                  · have hH : gH G ad F9 H := gH_to ht hq.2
                    rcases hq.1 with ⟨rfl, q⟩
                    · refine vx_catch hown [] ⟨0, 168, 169, 32⟩ [] (htab.trans rfl) (fun _ h => absurd h List.not_mem_nil) rfl (by decide) (hts (.classLink RL 32 "java/lang/IndexOutOfBoundsException") (List.mem_of_getElem? (i := 1) rfl)) (va_Nw.use rfl (gcast hG (List.mem_of_getElem? (i := 0) rfl))) hc9 hv9 hcl9 ?_
                      refine lv_astore_n (lv' := [(3, .ref q9), (0, .ref (ad 0 0)), (1, .int p1), (2, .int p2)]) hx hb dL_of_169 rfl hl (by decide) rfl (fun ls hl => ?_)
                      refine lv_bipush (v := (-8)) hx hb dL_of_170 (by decide) ?_
                      exact (W.iret (v := (-8)) hx hb hr (fun t ht hW => ⟨⟨(-8), F9, rfl, q, gH_at ht hH⟩, hS.F ht⟩) hS.2.2 dL_of_172)
                  have hH : gH G ad F21 H := gH_to ht hB1
                  refine lv_goto (tgt := 168) hx hb dL_of_118 (by decide) ?_
                  exact (W.iret (v := r20) hx hb hr (fun t ht hW => ⟨⟨r20, F21, rfl, q, gH_at ht hH⟩, hS.F ht⟩) hS.2.2 dL_of_168)
              · have q := (if_pos c7).mp q
                refine lv_aload_n hx hb dL_of_99 rfl (lv_at hl 0 rfl) ?_
                refine lv_iload_n hx hb dL_of_100 rfl (lv_at hl 2 rfl) ?_
                refine vx_calli (vx_runV (As := [.int p2]) (rest := []) ⟨hx, hb, hml, hown, hts⟩ (c_X10_stateOf l hfl G ad F p2 _ _) (cwV 1 hts gL_of_X10_stateOf rfl rfl rfl (by decide +kernel) ⟨Nat.le_of_ble_eq_true rfl, Nat.le_of_ble_eq_true rfl⟩) ⟨fun a U g mk h => ⟨h.1, gD_blind h.2.1, h.2.2⟩, g_recv (C := RX10) (T := TX10) (N := 8) hK hH 0 0 (by decide) Nat.zero_lt_one rfl rfl, fun U hU hW => ⟨rfl, gD_at hK hG hB hH hS hU hW, q⟩⟩ rfl rfl hl.1 rfl (lv_room (Nat.le_of_ble_eq_true rfl)) dL_of_101 ⟨Nat.le_of_ble_eq_true rfl, Nat.le_of_ble_eq_true rfl⟩) hS (fun _ _ h => h) (fun _ h => h) (fun _ _ h => h) (fun E9 ce q9 F9 t H locs ht hvm _ hq hz hk hS hc9 hv9 hcl9 => ?_) (fun r22 F23 t H locs ht hvm q hB1 hz hk hS => ?_)
                · have hH : gH G ad F9 H := gH_to ht hq.2
                  rcases hq.1 with ⟨rfl, q⟩
                  · refine vx_catch hown [] ⟨0, 168, 169, 32⟩ [] (htab.trans rfl) (fun _ h => absurd h List.not_mem_nil) rfl (by decide) (hts (.classLink RL 32 "java/lang/IndexOutOfBoundsException") (List.mem_of_getElem? (i := 1) rfl)) (va_Nw.use rfl (gcast hG (List.mem_of_getElem? (i := 0) rfl))) hc9 hv9 hcl9 ?_
                    refine lv_astore_n (lv' := [(3, .ref q9), (0, .ref (ad 0 0)), (1, .int p1), (2, .int p2)]) hx hb dL_of_169 rfl hl (by decide) rfl (fun ls hl => ?_)
                    refine lv_bipush (v := (-8)) hx hb dL_of_170 (by decide) ?_
                    exact (W.iret (v := (-8)) hx hb hr (fun t ht hW => ⟨⟨(-8), F9, rfl, q, gH_at ht hH⟩, hS.F ht⟩) hS.2.2 dL_of_172)
                have hH : gH G ad F23 H := gH_to ht hB1
                refine lv_goto (tgt := 168) hx hb dL_of_104 (by decide) ?_
                exact (W.iret (v := r22) hx hb hr (fun t ht hW => ⟨⟨r22, F23, rfl, q, gH_at ht hH⟩, hS.F ht⟩) hS.2.2 dL_of_168)
            · have q := (if_pos c6).mp q
              refine lv_aload_n hx hb dL_of_85 rfl (lv_at hl 0 rfl) ?_
              refine lv_iload_n hx hb dL_of_86 rfl (lv_at hl 2 rfl) ?_
              refine vx_calli (vx_runV (As := [.int p2]) (rest := []) ⟨hx, hb, hml, hown, hts⟩ (c_X10_misread l hfl G ad F p2 _ _) (cwV 1 hts gL_of_X10_misread rfl rfl rfl (by decide +kernel) ⟨Nat.le_of_ble_eq_true rfl, Nat.le_of_ble_eq_true rfl⟩) ⟨fun a U g mk h => ⟨h.1, gD_blind h.2.1, h.2.2⟩, g_recv (C := RX10) (T := TX10) (N := 8) hK hH 0 0 (by decide) Nat.zero_lt_one rfl rfl, fun U hU hW => ⟨rfl, gD_at hK hG hB hH hS hU hW, q⟩⟩ rfl rfl hl.1 rfl (lv_room (Nat.le_of_ble_eq_true rfl)) dL_of_87 ⟨Nat.le_of_ble_eq_true rfl, Nat.le_of_ble_eq_true rfl⟩) hS (fun _ _ h => h) (fun _ h => h) (fun _ _ h => h) (fun E9 ce q9 F9 t H locs ht hvm _ hq hz hk hS hc9 hv9 hcl9 => ?_) (fun r24 F25 t H locs ht hvm q hB1 hz hk hS => ?_)
              · have hH : gH G ad F9 H := gH_to ht hq.2
                rcases hq.1 with ⟨rfl, q⟩
                · refine vx_catch hown [] ⟨0, 168, 169, 32⟩ [] (htab.trans rfl) (fun _ h => absurd h List.not_mem_nil) rfl (by decide) (hts (.classLink RL 32 "java/lang/IndexOutOfBoundsException") (List.mem_of_getElem? (i := 1) rfl)) (va_Nw.use rfl (gcast hG (List.mem_of_getElem? (i := 0) rfl))) hc9 hv9 hcl9 ?_
                  refine lv_astore_n (lv' := [(3, .ref q9), (0, .ref (ad 0 0)), (1, .int p1), (2, .int p2)]) hx hb dL_of_169 rfl hl (by decide) rfl (fun ls hl => ?_)
                  refine lv_bipush (v := (-8)) hx hb dL_of_170 (by decide) ?_
                  exact (W.iret (v := (-8)) hx hb hr (fun t ht hW => ⟨⟨(-8), F9, rfl, q, gH_at ht hH⟩, hS.F ht⟩) hS.2.2 dL_of_172)
              have hH : gH G ad F25 H := gH_to ht hB1
              refine lv_goto (tgt := 168) hx hb dL_of_90 (by decide) ?_
              exact (W.iret (v := r24) hx hb hr (fun t ht hW => ⟨⟨r24, F25, rfl, q, gH_at ht hH⟩, hS.F ht⟩) hS.2.2 dL_of_168)
          · have q := (if_pos c5).mp q
            refine lv_aload_n hx hb dL_of_64 rfl (lv_at hl 0 rfl) ?_
            refine lv_iload_n hx hb dL_of_65 rfl (lv_at hl 2 rfl) ?_
            refine vx_calli (vx_runV (As := [.int p2]) (rest := []) ⟨hx, hb, hml, hown, hts⟩ (c_X10_isSettled l hfl G ad F p2 _ _) (cwV 1 hts gL_of_X10_isSettled rfl rfl rfl (by decide +kernel) ⟨Nat.le_of_ble_eq_true rfl, Nat.le_of_ble_eq_true rfl⟩) ⟨fun a U g mk h => ⟨h.1, gD_blind h.2.1, h.2.2⟩, g_recv (C := RX10) (T := TX10) (N := 8) hK hH 0 0 (by decide) Nat.zero_lt_one rfl rfl, fun U hU hW => ⟨rfl, gD_at hK hG hB hH hS hU hW, q⟩⟩ rfl rfl hl.1 rfl (lv_room (Nat.le_of_ble_eq_true rfl)) dL_of_66 ⟨Nat.le_of_ble_eq_true rfl, Nat.le_of_ble_eq_true rfl⟩) hS (fun _ _ h => h) (fun _ h => h) (fun _ _ h => h) (fun E9 ce q9 F9 t H locs ht hvm _ hq hz hk hS hc9 hv9 hcl9 => ?_) (fun r26 F27 t H locs ht hvm q hB1 hz hk hS => ?_)
            · have hH : gH G ad F9 H := gH_to ht hq.2
              rcases hq.1 with ⟨rfl, q⟩
              · refine vx_catch hown [] ⟨0, 168, 169, 32⟩ [] (htab.trans rfl) (fun _ h => absurd h List.not_mem_nil) rfl (by decide) (hts (.classLink RL 32 "java/lang/IndexOutOfBoundsException") (List.mem_of_getElem? (i := 1) rfl)) (va_Nw.use rfl (gcast hG (List.mem_of_getElem? (i := 0) rfl))) hc9 hv9 hcl9 ?_
                refine lv_astore_n (lv' := [(3, .ref q9), (0, .ref (ad 0 0)), (1, .int p1), (2, .int p2)]) hx hb dL_of_169 rfl hl (by decide) rfl (fun ls hl => ?_)
                refine lv_bipush (v := (-8)) hx hb dL_of_170 (by decide) ?_
                exact (W.iret (v := (-8)) hx hb hr (fun t ht hW => ⟨⟨(-8), F9, rfl, q, gH_at ht hH⟩, hS.F ht⟩) hS.2.2 dL_of_172)
            have hH : gH G ad F27 H := gH_to ht hB1
            refine lv_if_eq (tgt := 76) hx hb dL_of_69 (by decide) (fun c28 => ?_) (fun c28 => ?_)
            · have q := (if_pos c28).mp q
              refine lv_iconst (v := 0) hx hb dL_of_76 (by decide) ?_
              refine lv_goto (tgt := 168) hx hb dL_of_77 (by decide) ?_
              exact (W.iret (v := 0) hx hb hr (fun t ht hW => ⟨⟨0, F27, rfl, q, gH_at ht hH⟩, hS.F ht⟩) hS.2.2 dL_of_168)
            · have q := (if_neg c28).mp q
              refine lv_iconst (v := 1) hx hb dL_of_72 (by decide) ?_
              refine lv_goto (tgt := 168) hx hb dL_of_73 (by decide) ?_
              exact (W.iret (v := 1) hx hb hr (fun t ht hW => ⟨⟨1, F27, rfl, q, gH_at ht hH⟩, hS.F ht⟩) hS.2.2 dL_of_168)
        · have q := (if_pos c4).mp q
          refine lv_aload_n hx hb dL_of_51 rfl (lv_at hl 0 rfl) ?_
          refine lv_iload_n hx hb dL_of_52 rfl (lv_at hl 2 rfl) ?_
          refine vx_calli (vx_runV (As := [.int p2]) (rest := []) ⟨hx, hb, hml, hown, hts⟩ (c_X10_ballots l hfl G ad F p2 _ _) (cwV 1 hts gL_of_X10_ballots rfl rfl rfl (by decide +kernel) ⟨Nat.le_of_ble_eq_true rfl, Nat.le_of_ble_eq_true rfl⟩) ⟨fun a U g mk h => ⟨h.1, gD_blind h.2.1, h.2.2⟩, g_recv (C := RX10) (T := TX10) (N := 8) hK hH 0 0 (by decide) Nat.zero_lt_one rfl rfl, fun U hU hW => ⟨rfl, gD_at hK hG hB hH hS hU hW, q⟩⟩ rfl rfl hl.1 rfl (lv_room (Nat.le_of_ble_eq_true rfl)) dL_of_53 ⟨Nat.le_of_ble_eq_true rfl, Nat.le_of_ble_eq_true rfl⟩) hS (fun _ _ h => h) (fun _ h => h) (fun _ _ h => h) (fun E9 ce q9 F9 t H locs ht hvm _ hq hz hk hS hc9 hv9 hcl9 => ?_) (fun r29 F30 t H locs ht hvm q hB1 hz hk hS => ?_)
          · have hH : gH G ad F9 H := gH_to ht hq.2
            rcases hq.1 with ⟨rfl, q⟩
            · refine vx_catch hown [] ⟨0, 168, 169, 32⟩ [] (htab.trans rfl) (fun _ h => absurd h List.not_mem_nil) rfl (by decide) (hts (.classLink RL 32 "java/lang/IndexOutOfBoundsException") (List.mem_of_getElem? (i := 1) rfl)) (va_Nw.use rfl (gcast hG (List.mem_of_getElem? (i := 0) rfl))) hc9 hv9 hcl9 ?_
              refine lv_astore_n (lv' := [(3, .ref q9), (0, .ref (ad 0 0)), (1, .int p1), (2, .int p2)]) hx hb dL_of_169 rfl hl (by decide) rfl (fun ls hl => ?_)
              refine lv_bipush (v := (-8)) hx hb dL_of_170 (by decide) ?_
              exact (W.iret (v := (-8)) hx hb hr (fun t ht hW => ⟨⟨(-8), F9, rfl, q, gH_at ht hH⟩, hS.F ht⟩) hS.2.2 dL_of_172)
          have hH : gH G ad F30 H := gH_to ht hB1
          refine lv_goto (tgt := 168) hx hb dL_of_56 (by decide) ?_
          exact (W.iret (v := r29) hx hb hr (fun t ht hW => ⟨⟨r29, F30, rfl, q, gH_at ht hH⟩, hS.F ht⟩) hS.2.2 dL_of_168)
      · have q := (if_pos c3).mp q
        refine lv_aload_n hx hb dL_of_38 rfl (lv_at hl 0 rfl) ?_
        refine lv_iload_n hx hb dL_of_39 rfl (lv_at hl 2 rfl) ?_
        refine vx_calli (vx_runV (As := [.int p2]) (rest := []) ⟨hx, hb, hml, hown, hts⟩ (c_X10_peopleOf l hfl G ad F p2 _ _) (cwV 1 hts gL_of_X10_peopleOf rfl rfl rfl (by decide +kernel) ⟨Nat.le_of_ble_eq_true rfl, Nat.le_of_ble_eq_true rfl⟩) ⟨fun a U g mk h => ⟨h.1, gD_blind h.2.1, h.2.2⟩, g_recv (C := RX10) (T := TX10) (N := 8) hK hH 0 0 (by decide) Nat.zero_lt_one rfl rfl, fun U hU hW => ⟨rfl, gD_at hK hG hB hH hS hU hW, q⟩⟩ rfl rfl hl.1 rfl (lv_room (Nat.le_of_ble_eq_true rfl)) dL_of_40 ⟨Nat.le_of_ble_eq_true rfl, Nat.le_of_ble_eq_true rfl⟩) hS (fun _ _ h => h) (fun _ h => h) (fun _ _ h => h) (fun E9 ce q9 F9 t H locs ht hvm _ hq hz hk hS hc9 hv9 hcl9 => ?_) (fun r31 F32 t H locs ht hvm q hB1 hz hk hS => ?_)
        · have hH : gH G ad F9 H := gH_to ht hq.2
          rcases hq.1 with ⟨rfl, q⟩
          · refine vx_catch hown [] ⟨0, 168, 169, 32⟩ [] (htab.trans rfl) (fun _ h => absurd h List.not_mem_nil) rfl (by decide) (hts (.classLink RL 32 "java/lang/IndexOutOfBoundsException") (List.mem_of_getElem? (i := 1) rfl)) (va_Nw.use rfl (gcast hG (List.mem_of_getElem? (i := 0) rfl))) hc9 hv9 hcl9 ?_
            refine lv_astore_n (lv' := [(3, .ref q9), (0, .ref (ad 0 0)), (1, .int p1), (2, .int p2)]) hx hb dL_of_169 rfl hl (by decide) rfl (fun ls hl => ?_)
            refine lv_bipush (v := (-8)) hx hb dL_of_170 (by decide) ?_
            exact (W.iret (v := (-8)) hx hb hr (fun t ht hW => ⟨⟨(-8), F9, rfl, q, gH_at ht hH⟩, hS.F ht⟩) hS.2.2 dL_of_172)
        have hH : gH G ad F32 H := gH_to ht hB1
        refine lv_goto (tgt := 168) hx hb dL_of_43 (by decide) ?_
        exact (W.iret (v := r31) hx hb hr (fun t ht hW => ⟨⟨r31, F32, rfl, q, gH_at ht hH⟩, hS.F ht⟩) hS.2.2 dL_of_168)
    · have q := (if_pos c2).mp q
      refine lv_aload_n hx hb dL_of_25 rfl (lv_at hl 0 rfl) ?_
      refine lv_iload_n hx hb dL_of_26 rfl (lv_at hl 2 rfl) ?_
      refine vx_calli (vx_runV (As := [.int p2]) (rest := []) ⟨hx, hb, hml, hown, hts⟩ (c_X10_stationOf l hfl G ad F p2 _ _) (cwV 1 hts gL_of_X10_stationOf rfl rfl rfl (by decide +kernel) ⟨Nat.le_of_ble_eq_true rfl, Nat.le_of_ble_eq_true rfl⟩) ⟨fun a U g mk h => ⟨h.1, gD_blind h.2.1, h.2.2⟩, g_recv (C := RX10) (T := TX10) (N := 8) hK hH 0 0 (by decide) Nat.zero_lt_one rfl rfl, fun U hU hW => ⟨rfl, gD_at hK hG hB hH hS hU hW, q⟩⟩ rfl rfl hl.1 rfl (lv_room (Nat.le_of_ble_eq_true rfl)) dL_of_27 ⟨Nat.le_of_ble_eq_true rfl, Nat.le_of_ble_eq_true rfl⟩) hS (fun _ _ h => h) (fun _ h => h) (fun _ _ h => h) (fun E9 ce q9 F9 t H locs ht hvm _ hq hz hk hS hc9 hv9 hcl9 => ?_) (fun r33 F34 t H locs ht hvm q hB1 hz hk hS => ?_)
      · have hH : gH G ad F9 H := gH_to ht hq.2
        rcases hq.1 with ⟨rfl, q⟩
        · refine vx_catch hown [] ⟨0, 168, 169, 32⟩ [] (htab.trans rfl) (fun _ h => absurd h List.not_mem_nil) rfl (by decide) (hts (.classLink RL 32 "java/lang/IndexOutOfBoundsException") (List.mem_of_getElem? (i := 1) rfl)) (va_Nw.use rfl (gcast hG (List.mem_of_getElem? (i := 0) rfl))) hc9 hv9 hcl9 ?_
          refine lv_astore_n (lv' := [(3, .ref q9), (0, .ref (ad 0 0)), (1, .int p1), (2, .int p2)]) hx hb dL_of_169 rfl hl (by decide) rfl (fun ls hl => ?_)
          refine lv_bipush (v := (-8)) hx hb dL_of_170 (by decide) ?_
          exact (W.iret (v := (-8)) hx hb hr (fun t ht hW => ⟨⟨(-8), F9, rfl, q, gH_at ht hH⟩, hS.F ht⟩) hS.2.2 dL_of_172)
      have hH : gH G ad F34 H := gH_to ht hB1
      refine lv_goto (tgt := 168) hx hb dL_of_30 (by decide) ?_
      exact (W.iret (v := r33) hx hb hr (fun t ht hW => ⟨⟨r33, F34, rfl, q, gH_at ht hH⟩, hS.F ht⟩) hS.2.2 dL_of_168)
  · have q := (if_pos c1).mp q
    refine lv_aload_n hx hb dL_of_4 rfl (lv_at hl 0 rfl) ?_
    refine lv_iload_n hx hb dL_of_5 rfl (lv_at hl 2 rfl) ?_
    refine vx_calli (vx_runV (As := [.int p2]) (rest := []) ⟨hx, hb, hml, hown, hts⟩ (c_X10_isOnRoll l hfl G ad F p2 _ _) (cwV 1 hts gL_of_X10_isOnRoll rfl rfl rfl (by decide +kernel) ⟨Nat.le_of_ble_eq_true rfl, Nat.le_of_ble_eq_true rfl⟩) ⟨fun a U g mk h => ⟨h.1, gD_blind h.2.1, h.2.2⟩, g_recv (C := RX10) (T := TX10) (N := 8) hK hH 0 0 (by decide) Nat.zero_lt_one rfl rfl, fun U hU hW => ⟨rfl, gD_at hK hG hB hH hS hU hW, q⟩⟩ rfl rfl hl.1 rfl (lv_room (Nat.le_of_ble_eq_true rfl)) dL_of_6 ⟨Nat.le_of_ble_eq_true rfl, Nat.le_of_ble_eq_true rfl⟩) hS (fun _ _ h => h) (fun _ h => h) (fun _ _ h => h) (fun E9 ce q9 F9 t H locs ht hvm _ hq hz hk hS hc9 hv9 hcl9 => ?_) (fun r35 F36 t H locs ht hvm q hB1 hz hk hS => ?_)
    · have hH : gH G ad F9 H := gH_to ht hq.2
      rcases hq.1 with ⟨rfl, q⟩
      · refine vx_catch hown [] ⟨0, 168, 169, 32⟩ [] (htab.trans rfl) (fun _ h => absurd h List.not_mem_nil) rfl (by decide) (hts (.classLink RL 32 "java/lang/IndexOutOfBoundsException") (List.mem_of_getElem? (i := 1) rfl)) (va_Nw.use rfl (gcast hG (List.mem_of_getElem? (i := 0) rfl))) hc9 hv9 hcl9 ?_
        refine lv_astore_n (lv' := [(3, .ref q9), (0, .ref (ad 0 0)), (1, .int p1), (2, .int p2)]) hx hb dL_of_169 rfl hl (by decide) rfl (fun ls hl => ?_)
        refine lv_bipush (v := (-8)) hx hb dL_of_170 (by decide) ?_
        exact (W.iret (v := (-8)) hx hb hr (fun t ht hW => ⟨⟨(-8), F9, rfl, q, gH_at ht hH⟩, hS.F ht⟩) hS.2.2 dL_of_172)
    have hH : gH G ad F36 H := gH_to ht hB1
    refine lv_if_eq (tgt := 16) hx hb dL_of_9 (by decide) (fun c37 => ?_) (fun c37 => ?_)
    · have q := (if_pos c37).mp q
      refine lv_iconst (v := 0) hx hb dL_of_16 (by decide) ?_
      refine lv_goto (tgt := 168) hx hb dL_of_17 (by decide) ?_
      exact (W.iret (v := 0) hx hb hr (fun t ht hW => ⟨⟨0, F36, rfl, q, gH_at ht hH⟩, hS.F ht⟩) hS.2.2 dL_of_168)
    · have q := (if_neg c37).mp q
      refine lv_iconst (v := 1) hx hb dL_of_12 (by decide) ?_
      refine lv_goto (tgt := 168) hx hb dL_of_13 (by decide) ?_
      exact (W.iret (v := 1) hx hb hr (fun t ht hW => ⟨⟨1, F36, rfl, q, gH_at ht hH⟩, hS.F ht⟩) hS.2.2 dL_of_168)
abbrev rm_L_at : Room := { frames := 9, cells := 2, slots := 12, locals := 155 }
abbrev q_L_at (G : GP) (ad : Nat → Nat → Nat) (K : Int32 → GF → Prop) (below : List Frame) (args : Array Value) (s : State) : State → Prop := MQ below (gQi G ad K) args s 2 12 (gA G)
set_option maxHeartbeats 4000000 in
set_option maxRecDepth 100000 in
theorem c_L_at (l : Launch) (hfl : l.stackTraces = false) (G : GP) (ad : Nat → Nat → Nat) (F : GF) (p1 : Int32) (p2 : Int32) (p3 : Int32) (K : Int32 → GF → Prop) : Met l yL_at wsL_at rm_L_at (va_Pc [.ref (ad 0 0), .int p1, .int p2, .int p3] (fun U => (gD G ad F U ∧ gL U) ∧ P_M_at F p1 p2 p3 K)) (gQi G ad K) 2 12 (gA G) := by
  refine g_ofWH (hh := [(0, 47, 48, 32), (0, 47, 53, 34)]) (cc := cL_at) (maxL := 5) (ret := (some .int)) (by decide) rfl ?_
  intro p e s m args below meth c s₁ Bd hml hv
  obtain ⟨rfl, ⟨⟨hK, hG, hB, hH⟩, hL⟩, q⟩ := hv
  have hx := Bd.exec
  have hb := Bd.bytes
  have hr := Bd.returns
  have hts := atoms_spec (ws := wsL_at) Bd.pre
  have hown : s.vm.findClass RL = some m.cls := findClass_of_methodNamed Bd.named
  have hlocks := Bd.notSynchronized
  have htab := vx_table (x := yL_at) Bd (hts _ List.mem_cons_self)
  have hS : va_S (gA G) s.heap s.heap [] := va_S.rf
  have hl := lv_entry [.ref (ad 0 0), .int p1, .int p2, .int p3] (n := 5) (Nat.le_of_ble_eq_true rfl)
  rw [lg_entry_eq]
  generalize (lg_sl [.ref (ad 0 0), .int p1, .int p2, .int p3] ++ List.replicate (5 - (lg_sl [.ref (ad 0 0), .int p1, .int p2, .int p3]).length) Slot.unset).toArray = ls at hl ⊢
  have hl : lv_has ls 5 [(0, .ref (ad 0 0)), (1, .int p1), (2, .int p2), (3, .int p3)] := hl
  unfold P_M_at at q
  refine lv_iload_n hx hb dL_at_0 rfl (lv_at hl 1 rfl) ?_
  refine lv_if_ne (tgt := 13) hx hb dL_at_1 (by decide) (fun c1 => ?_) (fun c1 => ?_)
  · have q := (if_neg c1).mp q
    refine lv_iload_n hx hb dL_at_13 rfl (lv_at hl 1 rfl) ?_
    refine lv_iconst (v := 1) hx hb dL_at_14 (by decide) ?_
    refine lv_icmp_ne (tgt := 27) hx hb dL_at_15 (by decide) (fun c2 => ?_) (fun c2 => ?_)
    · have q := (if_neg c2).mp q
      refine lv_iload_n hx hb dL_at_27 rfl (lv_at hl 1 rfl) ?_
      refine lv_iconst (v := 2) hx hb dL_at_28 (by decide) ?_
      refine lv_icmp_ne (tgt := 41) hx hb dL_at_29 (by decide) (fun c3 => ?_) (fun c3 => ?_)
      · have q := (if_neg c3).mp q
        refine lv_aload_n hx hb dL_at_41 rfl (lv_at hl 0 rfl) ?_
        refine lv_iload_n hx hb dL_at_42 rfl (lv_at hl 2 rfl) ?_
        refine lv_iload_n hx hb dL_at_43 rfl (lv_at hl 3 rfl) ?_
        refine vx_calli (vx_runV (As := [.int p2, .int p3]) (rest := []) ⟨hx, hb, hml, hown, hts⟩ (c_X10_signAt l hfl G ad F p2 p3 _ _) (cwV 2 hts gL_at_X10_signAt rfl rfl rfl (by decide +kernel) ⟨Nat.le_of_ble_eq_true rfl, Nat.le_of_ble_eq_true rfl⟩) ⟨fun a U g mk h => ⟨h.1, gD_blind h.2.1, h.2.2⟩, g_recv (C := RX10) (T := TX10) (N := 8) hK hH 0 0 (by decide) Nat.zero_lt_one rfl rfl, fun U hU hW => ⟨rfl, gD_at hK hG hB hH hS hU hW, q⟩⟩ rfl rfl hl.1 rfl (lv_room (Nat.le_of_ble_eq_true rfl)) dL_at_44 ⟨Nat.le_of_ble_eq_true rfl, Nat.le_of_ble_eq_true rfl⟩) hS (fun _ _ h => h) (fun _ h => h) (fun _ _ h => h) (fun E9 ce q9 F9 t H locs ht hvm _ hq hz hk hS hc9 hv9 hcl9 => ?_) (fun r4 F5 t H locs ht hvm q hB1 hz hk hS => ?_)
        · have hH : gH G ad F9 H := gH_to ht hq.2
          rcases hq.1 with ⟨rfl, q⟩ | ⟨rfl, q⟩
          · refine vx_catch hown [] ⟨0, 47, 48, 32⟩ [⟨0, 47, 53, 34⟩] (htab.trans rfl) (fun _ h => absurd h List.not_mem_nil) rfl (by decide) (hts (.classLink RL 32 "java/lang/IndexOutOfBoundsException") (List.mem_of_getElem? (i := 1) rfl)) (va_Nw.use rfl (gcast hG (List.mem_of_getElem? (i := 0) rfl))) hc9 hv9 hcl9 ?_
            refine lv_astore (lv' := [(4, .ref q9), (0, .ref (ad 0 0)), (1, .int p1), (2, .int p2), (3, .int p3)]) hx hb dL_at_48 hl (by decide) rfl (fun ls hl => ?_)
            refine lv_bipush (v := (-8)) hx hb dL_at_50 (by decide) ?_
            refine W.widen (k := 2) (n := 12) (Nat.le_of_ble_eq_true rfl) (Nat.le_of_ble_eq_true rfl) ?_
            exact (W.iret (v := (-8)) hx hb hr (fun t ht hW => ⟨⟨(-8), F9, rfl, q, gH_at ht hH⟩, hS.F ht⟩) hS.2.2 dL_at_52)
          · refine vx_catch hown [⟨0, 47, 48, 32⟩] ⟨0, 47, 53, 34⟩ [] (htab.trans rfl) (List.forall_mem_cons.mpr ⟨Or.inr ⟨by decide, "java/lang/IndexOutOfBoundsException", hts (.classLink RL 32 "java/lang/IndexOutOfBoundsException") (List.mem_of_getElem? (i := 1) rfl), hL.1⟩, (fun _ h => absurd h List.not_mem_nil)⟩) rfl (by decide) (hts (.classLink RL 34 "java/lang/IllegalArgumentException") (List.mem_of_getElem? (i := 2) rfl)) (va_Nw.use rfl (gcast hG (List.mem_of_getElem? (i := 1) rfl))) hc9 hv9 hcl9 ?_
            refine lv_astore (lv' := [(4, .ref q9), (0, .ref (ad 0 0)), (1, .int p1), (2, .int p2), (3, .int p3)]) hx hb dL_at_53 hl (by decide) rfl (fun ls hl => ?_)
            refine lv_bipush (v := (-8)) hx hb dL_at_55 (by decide) ?_
            refine W.widen (k := 2) (n := 12) (Nat.le_of_ble_eq_true rfl) (Nat.le_of_ble_eq_true rfl) ?_
            exact (W.iret (v := (-8)) hx hb hr (fun t ht hW => ⟨⟨(-8), F9, rfl, q, gH_at ht hH⟩, hS.F ht⟩) hS.2.2 dL_at_57)
        have hH : gH G ad F5 H := gH_to ht hB1
        refine W.widen (k := 2) (n := 12) (Nat.le_of_ble_eq_true rfl) (Nat.le_of_ble_eq_true rfl) ?_
        exact (W.iret (v := r4) hx hb hr (fun t ht hW => ⟨⟨r4, F5, rfl, q, gH_at ht hH⟩, hS.F ht⟩) hS.2.2 dL_at_47)
      · have q := (if_pos c3).mp q
        refine lv_aload_n hx hb dL_at_32 rfl (lv_at hl 0 rfl) ?_
        refine lv_iload_n hx hb dL_at_33 rfl (lv_at hl 2 rfl) ?_
        refine lv_iload_n hx hb dL_at_34 rfl (lv_at hl 3 rfl) ?_
        refine vx_calli (vx_runV (As := [.int p2, .int p3]) (rest := []) ⟨hx, hb, hml, hown, hts⟩ (c_X10_numberOf l hfl G ad F p2 p3 _ _) (cwV 2 hts gL_at_X10_numberOf rfl rfl rfl (by decide +kernel) ⟨Nat.le_of_ble_eq_true rfl, Nat.le_of_ble_eq_true rfl⟩) ⟨fun a U g mk h => ⟨h.1, gD_blind h.2.1, h.2.2⟩, g_recv (C := RX10) (T := TX10) (N := 8) hK hH 0 0 (by decide) Nat.zero_lt_one rfl rfl, fun U hU hW => ⟨rfl, gD_at hK hG hB hH hS hU hW, q⟩⟩ rfl rfl hl.1 rfl (lv_room (Nat.le_of_ble_eq_true rfl)) dL_at_35 ⟨Nat.le_of_ble_eq_true rfl, Nat.le_of_ble_eq_true rfl⟩) hS (fun _ _ h => h) (fun _ h => h) (fun _ _ h => h) (fun E9 ce q9 F9 t H locs ht hvm _ hq hz hk hS hc9 hv9 hcl9 => ?_) (fun r6 F7 t H locs ht hvm q hB1 hz hk hS => ?_)
        · have hH : gH G ad F9 H := gH_to ht hq.2
          rcases hq.1 with ⟨rfl, q⟩ | ⟨rfl, q⟩
          · refine vx_catch hown [] ⟨0, 47, 48, 32⟩ [⟨0, 47, 53, 34⟩] (htab.trans rfl) (fun _ h => absurd h List.not_mem_nil) rfl (by decide) (hts (.classLink RL 32 "java/lang/IndexOutOfBoundsException") (List.mem_of_getElem? (i := 1) rfl)) (va_Nw.use rfl (gcast hG (List.mem_of_getElem? (i := 0) rfl))) hc9 hv9 hcl9 ?_
            refine lv_astore (lv' := [(4, .ref q9), (0, .ref (ad 0 0)), (1, .int p1), (2, .int p2), (3, .int p3)]) hx hb dL_at_48 hl (by decide) rfl (fun ls hl => ?_)
            refine lv_bipush (v := (-8)) hx hb dL_at_50 (by decide) ?_
            exact (W.iret (v := (-8)) hx hb hr (fun t ht hW => ⟨⟨(-8), F9, rfl, q, gH_at ht hH⟩, hS.F ht⟩) hS.2.2 dL_at_52)
          · refine vx_catch hown [⟨0, 47, 48, 32⟩] ⟨0, 47, 53, 34⟩ [] (htab.trans rfl) (List.forall_mem_cons.mpr ⟨Or.inr ⟨by decide, "java/lang/IndexOutOfBoundsException", hts (.classLink RL 32 "java/lang/IndexOutOfBoundsException") (List.mem_of_getElem? (i := 1) rfl), hL.1⟩, (fun _ h => absurd h List.not_mem_nil)⟩) rfl (by decide) (hts (.classLink RL 34 "java/lang/IllegalArgumentException") (List.mem_of_getElem? (i := 2) rfl)) (va_Nw.use rfl (gcast hG (List.mem_of_getElem? (i := 1) rfl))) hc9 hv9 hcl9 ?_
            refine lv_astore (lv' := [(4, .ref q9), (0, .ref (ad 0 0)), (1, .int p1), (2, .int p2), (3, .int p3)]) hx hb dL_at_53 hl (by decide) rfl (fun ls hl => ?_)
            refine lv_bipush (v := (-8)) hx hb dL_at_55 (by decide) ?_
            exact (W.iret (v := (-8)) hx hb hr (fun t ht hW => ⟨⟨(-8), F9, rfl, q, gH_at ht hH⟩, hS.F ht⟩) hS.2.2 dL_at_57)
        have hH : gH G ad F7 H := gH_to ht hB1
        refine lv_goto (tgt := 47) hx hb dL_at_38 (by decide) ?_
        exact (W.iret (v := r6) hx hb hr (fun t ht hW => ⟨⟨r6, F7, rfl, q, gH_at ht hH⟩, hS.F ht⟩) hS.2.2 dL_at_47)
    · have q := (if_pos c2).mp q
      refine lv_aload_n hx hb dL_at_18 rfl (lv_at hl 0 rfl) ?_
      refine lv_iload_n hx hb dL_at_19 rfl (lv_at hl 2 rfl) ?_
      refine lv_iload_n hx hb dL_at_20 rfl (lv_at hl 3 rfl) ?_
      refine vx_calli (vx_runV (As := [.int p2, .int p3]) (rest := []) ⟨hx, hb, hml, hown, hts⟩ (c_X10_dwells l hfl G ad F p2 p3 _ _) (cwV 2 hts gL_at_X10_dwells rfl rfl rfl (by decide +kernel) ⟨Nat.le_of_ble_eq_true rfl, Nat.le_of_ble_eq_true rfl⟩) ⟨fun a U g mk h => ⟨h.1, gD_blind h.2.1, h.2.2⟩, g_recv (C := RX10) (T := TX10) (N := 8) hK hH 0 0 (by decide) Nat.zero_lt_one rfl rfl, fun U hU hW => ⟨rfl, gD_at hK hG hB hH hS hU hW, q⟩⟩ rfl rfl hl.1 rfl (lv_room (Nat.le_of_ble_eq_true rfl)) dL_at_21 ⟨Nat.le_of_ble_eq_true rfl, Nat.le_of_ble_eq_true rfl⟩) hS (fun _ _ h => h) (fun _ h => h) (fun _ _ h => h) (fun E9 ce q9 F9 t H locs ht hvm _ hq hz hk hS hc9 hv9 hcl9 => ?_) (fun r8 F9 t H locs ht hvm q hB1 hz hk hS => ?_)
      · have hH : gH G ad F9 H := gH_to ht hq.2
        rcases hq.1 with ⟨rfl, q⟩ | ⟨rfl, q⟩
        · refine vx_catch hown [] ⟨0, 47, 48, 32⟩ [⟨0, 47, 53, 34⟩] (htab.trans rfl) (fun _ h => absurd h List.not_mem_nil) rfl (by decide) (hts (.classLink RL 32 "java/lang/IndexOutOfBoundsException") (List.mem_of_getElem? (i := 1) rfl)) (va_Nw.use rfl (gcast hG (List.mem_of_getElem? (i := 0) rfl))) hc9 hv9 hcl9 ?_
          refine lv_astore (lv' := [(4, .ref q9), (0, .ref (ad 0 0)), (1, .int p1), (2, .int p2), (3, .int p3)]) hx hb dL_at_48 hl (by decide) rfl (fun ls hl => ?_)
          refine lv_bipush (v := (-8)) hx hb dL_at_50 (by decide) ?_
          exact (W.iret (v := (-8)) hx hb hr (fun t ht hW => ⟨⟨(-8), F9, rfl, q, gH_at ht hH⟩, hS.F ht⟩) hS.2.2 dL_at_52)
        · refine vx_catch hown [⟨0, 47, 48, 32⟩] ⟨0, 47, 53, 34⟩ [] (htab.trans rfl) (List.forall_mem_cons.mpr ⟨Or.inr ⟨by decide, "java/lang/IndexOutOfBoundsException", hts (.classLink RL 32 "java/lang/IndexOutOfBoundsException") (List.mem_of_getElem? (i := 1) rfl), hL.1⟩, (fun _ h => absurd h List.not_mem_nil)⟩) rfl (by decide) (hts (.classLink RL 34 "java/lang/IllegalArgumentException") (List.mem_of_getElem? (i := 2) rfl)) (va_Nw.use rfl (gcast hG (List.mem_of_getElem? (i := 1) rfl))) hc9 hv9 hcl9 ?_
          refine lv_astore (lv' := [(4, .ref q9), (0, .ref (ad 0 0)), (1, .int p1), (2, .int p2), (3, .int p3)]) hx hb dL_at_53 hl (by decide) rfl (fun ls hl => ?_)
          refine lv_bipush (v := (-8)) hx hb dL_at_55 (by decide) ?_
          exact (W.iret (v := (-8)) hx hb hr (fun t ht hW => ⟨⟨(-8), F9, rfl, q, gH_at ht hH⟩, hS.F ht⟩) hS.2.2 dL_at_57)
      have hH : gH G ad F9 H := gH_to ht hB1
      refine lv_goto (tgt := 47) hx hb dL_at_24 (by decide) ?_
      exact (W.iret (v := r8) hx hb hr (fun t ht hW => ⟨⟨r8, F9, rfl, q, gH_at ht hH⟩, hS.F ht⟩) hS.2.2 dL_at_47)
  · have q := (if_pos c1).mp q
    refine lv_aload_n hx hb dL_at_4 rfl (lv_at hl 0 rfl) ?_
    refine lv_iload_n hx hb dL_at_5 rfl (lv_at hl 2 rfl) ?_
    refine lv_iload_n hx hb dL_at_6 rfl (lv_at hl 3 rfl) ?_
    refine vx_calli (vx_runV (As := [.int p2, .int p3]) (rest := []) ⟨hx, hb, hml, hown, hts⟩ (c_X10_way l hfl G ad F p2 p3 _ _) (cwV 2 hts gL_at_X10_way rfl rfl rfl (by decide +kernel) ⟨Nat.le_of_ble_eq_true rfl, Nat.le_of_ble_eq_true rfl⟩) ⟨fun a U g mk h => ⟨h.1, gD_blind h.2.1, h.2.2⟩, g_recv (C := RX10) (T := TX10) (N := 8) hK hH 0 0 (by decide) Nat.zero_lt_one rfl rfl, fun U hU hW => ⟨rfl, gD_at hK hG hB hH hS hU hW, q⟩⟩ rfl rfl hl.1 rfl (lv_room (Nat.le_of_ble_eq_true rfl)) dL_at_7 ⟨Nat.le_of_ble_eq_true rfl, Nat.le_of_ble_eq_true rfl⟩) hS (fun _ _ h => h) (fun _ h => h) (fun _ _ h => h) (fun E9 ce q9 F9 t H locs ht hvm _ hq hz hk hS hc9 hv9 hcl9 => ?_) (fun r10 F11 t H locs ht hvm q hB1 hz hk hS => ?_)
    · have hH : gH G ad F9 H := gH_to ht hq.2
      rcases hq.1 with ⟨rfl, q⟩ | ⟨rfl, q⟩
      · refine vx_catch hown [] ⟨0, 47, 48, 32⟩ [⟨0, 47, 53, 34⟩] (htab.trans rfl) (fun _ h => absurd h List.not_mem_nil) rfl (by decide) (hts (.classLink RL 32 "java/lang/IndexOutOfBoundsException") (List.mem_of_getElem? (i := 1) rfl)) (va_Nw.use rfl (gcast hG (List.mem_of_getElem? (i := 0) rfl))) hc9 hv9 hcl9 ?_
        refine lv_astore (lv' := [(4, .ref q9), (0, .ref (ad 0 0)), (1, .int p1), (2, .int p2), (3, .int p3)]) hx hb dL_at_48 hl (by decide) rfl (fun ls hl => ?_)
        refine lv_bipush (v := (-8)) hx hb dL_at_50 (by decide) ?_
        exact (W.iret (v := (-8)) hx hb hr (fun t ht hW => ⟨⟨(-8), F9, rfl, q, gH_at ht hH⟩, hS.F ht⟩) hS.2.2 dL_at_52)
      · refine vx_catch hown [⟨0, 47, 48, 32⟩] ⟨0, 47, 53, 34⟩ [] (htab.trans rfl) (List.forall_mem_cons.mpr ⟨Or.inr ⟨by decide, "java/lang/IndexOutOfBoundsException", hts (.classLink RL 32 "java/lang/IndexOutOfBoundsException") (List.mem_of_getElem? (i := 1) rfl), hL.1⟩, (fun _ h => absurd h List.not_mem_nil)⟩) rfl (by decide) (hts (.classLink RL 34 "java/lang/IllegalArgumentException") (List.mem_of_getElem? (i := 2) rfl)) (va_Nw.use rfl (gcast hG (List.mem_of_getElem? (i := 1) rfl))) hc9 hv9 hcl9 ?_
        refine lv_astore (lv' := [(4, .ref q9), (0, .ref (ad 0 0)), (1, .int p1), (2, .int p2), (3, .int p3)]) hx hb dL_at_53 hl (by decide) rfl (fun ls hl => ?_)
        refine lv_bipush (v := (-8)) hx hb dL_at_55 (by decide) ?_
        exact (W.iret (v := (-8)) hx hb hr (fun t ht hW => ⟨⟨(-8), F9, rfl, q, gH_at ht hH⟩, hS.F ht⟩) hS.2.2 dL_at_57)
    have hH : gH G ad F11 H := gH_to ht hB1
    refine lv_goto (tgt := 47) hx hb dL_at_10 (by decide) ?_
    exact (W.iret (v := r10) hx hb hr (fun t ht hW => ⟨⟨r10, F11, rfl, q, gH_at ht hH⟩, hS.F ht⟩) hS.2.2 dL_at_47)
