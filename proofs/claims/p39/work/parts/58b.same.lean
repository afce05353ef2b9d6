abbrev rm_L_same : Room := { frames := 10, cells := 40, slots := 240, locals := 182 }
abbrev q_L_same (G : GPz) (a0 b0 ca : Nat) (K : Int32 → S3 → Prop) (below : List Frame) (args : Array Value) (s : State) : State → Prop := MQ below (tQi G a0 b0 ca K) args s 40 240 (gA (zg G))
set_option maxHeartbeats 8000000 in
set_option maxRecDepth 100000 in
theorem c_L_same (l : Launch) (hfl : l.stackTraces = false) (G : GPz) (a0 b0 ca : Nat) (F : S3) (p3 : Int32) (K : Int32 → S3 → Prop) : Met l yL_same wsL_same rm_L_same (va_Pc [.ref a0, .ref b0, .ref ca, .int p3] (fun U => tD G a0 b0 ca F U ∧ P_M_same F p3 K)) (tQi G a0 b0 ca K) 40 240 (gA (zg G)) := by
  refine Met.ofW (cc := cL_same) (maxL := 9) (ret := (some .boolean)) (by decide) rfl ?_
  intro p e s m args below meth c s₁ Bd hml hv
  obtain ⟨rfl, ⟨⟨hK, hG, hL⟩, hB, hH⟩, q⟩ := hv
  have hx := Bd.exec
  have hb := Bd.bytes
  have hr := Bd.returns
  have hts := atoms_spec (ws := wsL_same) Bd.pre
  have hown : s.vm.findClass RL = some m.cls := findClass_of_methodNamed Bd.named
  have hlocks := Bd.notSynchronized
  have hS : va_S (gA (zg G)) s.heap s.heap [] := va_S.rf
  have hl := lv_entry [.ref a0, .ref b0, .ref ca, .int p3] (n := 9) (Nat.le_of_ble_eq_true rfl)
  rw [lg_entry_eq]
  generalize (lg_sl [.ref a0, .ref b0, .ref ca, .int p3] ++ List.replicate (9 - (lg_sl [.ref a0, .ref b0, .ref ca, .int p3]).length) Slot.unset).toArray = ls at hl ⊢
  have hl : lv_has ls 9 [(0, .ref a0), (1, .ref b0), (2, .ref ca), (3, .int p3)] := hl
  show W p l e rm_L_same s m ([.ref a0, .ref b0, .ref ca, .int p3] : List Value).toArray below meth c s.heap [] 0 0 (q_L_same G a0 b0 ca K below ([.ref a0, .ref b0, .ref ca, .int p3] : List Value).toArray s) _
  have t_242 : ∀ (F : S3) (x3 : Int32) (x4 : Int32) (x5 : Int32) (x6 : Int32) (H : Heap) (locs : List Loc) (ls : Array Slot), tH G a0 b0 ca F H → va_S (gA (zg G)) s.heap H locs → lv_has ls 9 [(0, .ref a0), (1, .ref b0), (3, .int x3), (4, .int x4), (5, .int x5), (6, .int x6)] → (P_M_same_242 K) F x3 x4 x5 x6 → W p l e rm_L_same s m ([.ref a0, .ref b0, .ref ca, .int p3] : List Value).toArray below meth c H locs 28 168 (q_L_same G a0 b0 ca K below ([.ref a0, .ref b0, .ref ca, .int p3] : List Value).toArray s) (F0 m 242 ls []) := by
    intro F x3 x4 x5 x6 H locs ls hH hS hl q
    unfold P_M_same_242 at q
    refine lv_iload_n hx hb dL_same_242 rfl (lv_at hl 2 rfl) ?_
    refine lv_bipush (v := 7) hx hb dL_same_243 (by decide) ?_
    refine lv_idiv hx hb dL_same_245 (by decide) ?_
    refine lv_aload_n hx hb dL_same_246 rfl (lv_at hl 0 rfl) ?_
    have hH0 := hH
    obtain ⟨ada, adb, ea, eb, hT⟩ := hH
    refine va_calli (va_runV (As := []) (rest := [.int (x3 / 7)]) ⟨hx, hb, hml, hown, hts⟩ (cm_X10_today l (tG G adb F.2.1 ca) ada F.1 a0 ea _) (cwV 0 hts gL_same_X10_today rfl rfl rfl (by decide +kernel) ⟨Nat.le_of_ble_eq_true rfl, Nat.le_of_ble_eq_true rfl⟩) ⟨fun a U g mk h => ⟨h.1, gD_blind h.2.1, h.2.2⟩, t_recvA (C := RX10) (T := TX10) (N := 8) hK hH0 (fun _ => ⟨_, rfl⟩) rfl, fun U hU hW => ⟨rfl, tD_A hK hG hB hT hS hU hW, q⟩⟩ rfl rfl hl.1 rfl (lv_room (Nat.le_of_ble_eq_true rfl)) dL_same_247 ⟨Nat.le_of_ble_eq_true rfl, Nat.le_of_ble_eq_true rfl⟩) hS (fun _ _ h => h.1) (fun _ h => h.1) (fun r17 Z18 t H locs ht hvm q hB1 hz hk hS => ?_)
    have hB1 : gH (tG G adb F.2.1 ca) ada Z18 H := gH_to ht hB1
    have hT := tO_A hT hk hB1
    obtain ⟨F19, eF19, q⟩ := q
    have hH : tH G a0 b0 ca F19 H := tH_eq ⟨ada, adb, ea, eb, hT⟩ eF19
    refine lv_iconst (v := 1) hx hb dL_same_250 (by decide) ?_
    refine lv_iadd hx hb dL_same_251 ?_
    obtain ⟨h20, q⟩ := q
    refine lv_irem hx hb dL_same_252 h20 ?_
    refine lv_topi (fun y21 ey21 => ?_)
    have q := q y21 ey21
    refine lv_istore (lv' := [(7, .int y21), (0, .ref a0), (1, .ref b0), (3, .int x3), (4, .int x4), (5, .int x5), (6, .int x6)]) hx hb dL_same_253 hl (by decide) rfl (fun ls hl => ?_)
    refine lv_iload hx hb dL_same_255 (lv_at hl 4 rfl) ?_
    refine lv_if_eq (tgt := 348) hx hb dL_same_257 (by decide) (fun c22 => ?_) (fun c22 => ?_)
    · have q := (if_pos c22).mp q
      refine lv_iconst (v := 0) hx hb dL_same_348 (by decide) ?_
      refine W.widen (k := 40) (n := 240) (Nat.le_of_ble_eq_true rfl) (Nat.le_of_ble_eq_true rfl) ?_
      exact (W.zret (v := 0) hx hb hr rfl (fun t ht hW => ⟨⟨0, F19, rfl, q, tH_at ht hH⟩, hS.F ht⟩) hS.2.2 dL_same_349)
    · have q := (if_neg c22).mp q
      refine lv_aload_n hx hb dL_same_260 rfl (lv_at hl 2 rfl) ?_
      refine lv_iconst (v := 1) hx hb dL_same_261 (by decide) ?_
      refine lv_iload hx hb dL_same_262 (lv_at hl 5 rfl) ?_
      refine lv_iload hx hb dL_same_264 (lv_at hl 0 rfl) ?_
      have hH0 := hH
      obtain ⟨ada, adb, ea, eb, hT⟩ := hH
      refine va_calli (vx_runSW (As := [.ref b0, .int 1, .int x5, .int y21]) (rest := []) ⟨hx, hb, hml, hown, hts⟩ (cm_L_at l hfl (tG G ada F19.1 ca) adb F19.2.1 1 x5 y21 b0 eb _) (vx_cwSW 4 hts gL_same_L_at rfl rfl rfl (by decide +kernel) ⟨Nat.le_of_ble_eq_true rfl, Nat.le_of_ble_eq_true rfl⟩) ⟨fun a U g mk h => ⟨h.1, ⟨gD_blind h.2.1.1, gL.moved (u := U) (U := U.calling g mk a) (Vm.Alike.refl U.vm) h.2.1.2⟩, h.2.2⟩, fun U hU hW => ⟨rfl, ⟨tD_B hK hG hB hT hS hU hW, gL.moved hW.alike hL⟩, q⟩⟩ rfl rfl hl.1 rfl (lv_room (Nat.le_of_ble_eq_true rfl)) dL_same_266 ⟨Nat.le_of_ble_eq_true rfl, Nat.le_of_ble_eq_true rfl⟩) hS (fun _ _ h => h.1) (fun _ h => h.1) (fun r23 Z24 t H locs ht hvm q hB1 hz hk hS => ?_)
      have hB1 : gH (tG G ada F19.1 ca) adb Z24 H := gH_to ht hB1
      have hT := tO_B hT hk hB1
      obtain ⟨F25, eF25, q⟩ := q
      have hH : tH G a0 b0 ca F25 H := tH_eq ⟨ada, adb, ea, eb, hT⟩ eF25
      refine lv_aload_n hx hb dL_same_269 rfl (lv_at hl 1 rfl) ?_
      refine lv_iconst (v := 1) hx hb dL_same_270 (by decide) ?_
      refine lv_iload hx hb dL_same_271 (lv_at hl 5 rfl) ?_
      refine lv_iload hx hb dL_same_273 (lv_at hl 0 rfl) ?_
      have hH0 := hH
      obtain ⟨ada, adb, ea, eb, hT⟩ := hH
      refine va_calli (vx_runSW (As := [.ref a0, .int 1, .int x5, .int y21]) (rest := [.int r23]) ⟨hx, hb, hml, hown, hts⟩ (cm_L_at l hfl (tG G adb F25.2.1 ca) ada F25.1 1 x5 y21 a0 ea _) (vx_cwSW 4 hts gL_same_L_at rfl rfl rfl (by decide +kernel) ⟨Nat.le_of_ble_eq_true rfl, Nat.le_of_ble_eq_true rfl⟩) ⟨fun a U g mk h => ⟨h.1, ⟨gD_blind h.2.1.1, gL.moved (u := U) (U := U.calling g mk a) (Vm.Alike.refl U.vm) h.2.1.2⟩, h.2.2⟩, fun U hU hW => ⟨rfl, ⟨tD_A hK hG hB hT hS hU hW, gL.moved hW.alike hL⟩, q⟩⟩ rfl rfl hl.1 rfl (lv_room (Nat.le_of_ble_eq_true rfl)) dL_same_275 ⟨Nat.le_of_ble_eq_true rfl, Nat.le_of_ble_eq_true rfl⟩) hS (fun _ _ h => h.1) (fun _ h => h.1) (fun r26 Z27 t H locs ht hvm q hB1 hz hk hS => ?_)
      have hB1 : gH (tG G adb F25.2.1 ca) ada Z27 H := gH_to ht hB1
      have hT := tO_A hT hk hB1
      obtain ⟨F28, eF28, q⟩ := q
      have hH : tH G a0 b0 ca F28 H := tH_eq ⟨ada, adb, ea, eb, hT⟩ eF28
      refine va_calli (va_runS (As := [.int r26]) (rest := [.int r23]) ⟨hx, hb, hml, hown, hts⟩ (c_L_over l r26) (va_cwS 1 hts gL_same_L_over rfl rfl rfl (by decide +kernel) ⟨Nat.le_of_ble_eq_true rfl, Nat.le_of_ble_eq_true rfl⟩) ⟨fun a U g mk h => ⟨h.1, trivial⟩, fun U hU hW => ⟨rfl, trivial⟩⟩ rfl rfl hl.1 rfl (lv_room (Nat.le_of_ble_eq_true rfl)) dL_same_278 ⟨Nat.le_of_ble_eq_true rfl, Nat.le_of_ble_eq_true rfl⟩) hS (fun _ _ h => h.elim) (fun _ h => h.elim) (fun r29 z30 t H locs ht hvm z30q hB1 hz hk hS => ?_)
      have hH := tH_grow hH (fun q hq => hk q hq (fun h => h))
      rw [z30q]
      refine lv_icmp_ne (tgt := 348) hx hb dL_same_281 (by decide) (fun c31 => ?_) (fun c31 => ?_)
      · have q := (if_neg c31).mp q
        refine lv_iconst (v := 0) hx hb dL_same_348 (by decide) ?_
        refine W.widen (k := 40) (n := 240) (Nat.le_of_ble_eq_true rfl) (Nat.le_of_ble_eq_true rfl) ?_
        exact (W.zret (v := 0) hx hb hr rfl (fun t ht hW => ⟨⟨0, F28, rfl, q, tH_at ht hH⟩, hS.F ht⟩) hS.2.2 dL_same_349)
      · have q := (if_pos c31).mp q
        refine lv_aload_n hx hb dL_same_284 rfl (lv_at hl 1 rfl) ?_
        refine lv_iconst (v := 2) hx hb dL_same_285 (by decide) ?_
        refine lv_iload hx hb dL_same_286 (lv_at hl 6 rfl) ?_
        refine lv_iload_n hx hb dL_same_288 rfl (lv_at hl 3 rfl) ?_
        refine lv_bipush (v := 6) hx hb dL_same_289 (by decide) ?_
        refine lv_irem hx hb dL_same_291 (by decide) ?_
        have hH0 := hH
        obtain ⟨ada, adb, ea, eb, hT⟩ := hH
        refine va_calli (vx_runSW (As := [.ref a0, .int 2, .int x6, .int (x3 - x3 / 6 * 6)]) (rest := []) ⟨hx, hb, hml, hown, hts⟩ (cm_L_at l hfl (tG G adb F28.2.1 ca) ada F28.1 2 x6 (x3 - x3 / 6 * 6) a0 ea _) (vx_cwSW 4 hts gL_same_L_at rfl rfl rfl (by decide +kernel) ⟨Nat.le_of_ble_eq_true rfl, Nat.le_of_ble_eq_true rfl⟩) ⟨fun a U g mk h => ⟨h.1, ⟨gD_blind h.2.1.1, gL.moved (u := U) (U := U.calling g mk a) (Vm.Alike.refl U.vm) h.2.1.2⟩, h.2.2⟩, fun U hU hW => ⟨rfl, ⟨tD_A hK hG hB hT hS hU hW, gL.moved hW.alike hL⟩, q⟩⟩ rfl rfl hl.1 rfl (lv_room (Nat.le_of_ble_eq_true rfl)) dL_same_292 ⟨Nat.le_of_ble_eq_true rfl, Nat.le_of_ble_eq_true rfl⟩) hS (fun _ _ h => h.1) (fun _ h => h.1) (fun r32 Z33 t H locs ht hvm q hB1 hz hk hS => ?_)
        have hB1 : gH (tG G adb F28.2.1 ca) ada Z33 H := gH_to ht hB1
        have hT := tO_A hT hk hB1
        obtain ⟨F34, eF34, q⟩ := q
        have hH : tH G a0 b0 ca F34 H := tH_eq ⟨ada, adb, ea, eb, hT⟩ eF34
        refine lv_aload_n hx hb dL_same_295 rfl (lv_at hl 2 rfl) ?_
        refine lv_iconst (v := 2) hx hb dL_same_296 (by decide) ?_
        refine lv_iload hx hb dL_same_297 (lv_at hl 6 rfl) ?_
        refine lv_iload_n hx hb dL_same_299 rfl (lv_at hl 3 rfl) ?_
        refine lv_bipush (v := 6) hx hb dL_same_300 (by decide) ?_
        refine lv_irem hx hb dL_same_302 (by decide) ?_
        have hH0 := hH
        obtain ⟨ada, adb, ea, eb, hT⟩ := hH
        refine va_calli (vx_runSW (As := [.ref b0, .int 2, .int x6, .int (x3 - x3 / 6 * 6)]) (rest := [.int r32]) ⟨hx, hb, hml, hown, hts⟩ (cm_L_at l hfl (tG G ada F34.1 ca) adb F34.2.1 2 x6 (x3 - x3 / 6 * 6) b0 eb _) (vx_cwSW 4 hts gL_same_L_at rfl rfl rfl (by decide +kernel) ⟨Nat.le_of_ble_eq_true rfl, Nat.le_of_ble_eq_true rfl⟩) ⟨fun a U g mk h => ⟨h.1, ⟨gD_blind h.2.1.1, gL.moved (u := U) (U := U.calling g mk a) (Vm.Alike.refl U.vm) h.2.1.2⟩, h.2.2⟩, fun U hU hW => ⟨rfl, ⟨tD_B hK hG hB hT hS hU hW, gL.moved hW.alike hL⟩, q⟩⟩ rfl rfl hl.1 rfl (lv_room (Nat.le_of_ble_eq_true rfl)) dL_same_303 ⟨Nat.le_of_ble_eq_true rfl, Nat.le_of_ble_eq_true rfl⟩) hS (fun _ _ h => h.1) (fun _ h => h.1) (fun r35 Z36 t H locs ht hvm q hB1 hz hk hS => ?_)
        have hB1 : gH (tG G ada F34.1 ca) adb Z36 H := gH_to ht hB1
        have hT := tO_B hT hk hB1
        obtain ⟨F37, eF37, q⟩ := q
        have hH : tH G a0 b0 ca F37 H := tH_eq ⟨ada, adb, ea, eb, hT⟩ eF37
        refine lv_icmp_ne (tgt := 348) hx hb dL_same_306 (by decide) (fun c38 => ?_) (fun c38 => ?_)
        · have q := (if_neg c38).mp q
          refine lv_iconst (v := 0) hx hb dL_same_348 (by decide) ?_
          refine W.widen (k := 40) (n := 240) (Nat.le_of_ble_eq_true rfl) (Nat.le_of_ble_eq_true rfl) ?_
          exact (W.zret (v := 0) hx hb hr rfl (fun t ht hW => ⟨⟨0, F37, rfl, q, tH_at ht hH⟩, hS.F ht⟩) hS.2.2 dL_same_349)
        · have q := (if_pos c38).mp q
          refine lv_aload_n hx hb dL_same_309 rfl (lv_at hl 1 rfl) ?_
          refine lv_iconst (v := 3) hx hb dL_same_310 (by decide) ?_
          refine lv_iload_n hx hb dL_same_311 rfl (lv_at hl 3 rfl) ?_
          refine lv_bipush (v := 11) hx hb dL_same_312 (by decide) ?_
          refine lv_idiv hx hb dL_same_314 (by decide) ?_
          refine lv_bipush (v := 30) hx hb dL_same_315 (by decide) ?_
          refine lv_irem hx hb dL_same_317 (by decide) ?_
          refine lv_iload_n hx hb dL_same_318 rfl (lv_at hl 3 rfl) ?_
          refine lv_bipush (v := 6) hx hb dL_same_319 (by decide) ?_
          refine lv_irem hx hb dL_same_321 (by decide) ?_
          have hH0 := hH
          obtain ⟨ada, adb, ea, eb, hT⟩ := hH
          refine va_calli (vx_runSW (As := [.ref a0, .int 3, .int ((x3 / 11) - (x3 / 11) / 30 * 30), .int (x3 - x3 / 6 * 6)]) (rest := []) ⟨hx, hb, hml, hown, hts⟩ (cm_L_at l hfl (tG G adb F37.2.1 ca) ada F37.1 3 ((x3 / 11) - (x3 / 11) / 30 * 30) (x3 - x3 / 6 * 6) a0 ea _) (vx_cwSW 4 hts gL_same_L_at rfl rfl rfl (by decide +kernel) ⟨Nat.le_of_ble_eq_true rfl, Nat.le_of_ble_eq_true rfl⟩) ⟨fun a U g mk h => ⟨h.1, ⟨gD_blind h.2.1.1, gL.moved (u := U) (U := U.calling g mk a) (Vm.Alike.refl U.vm) h.2.1.2⟩, h.2.2⟩, fun U hU hW => ⟨rfl, ⟨tD_A hK hG hB hT hS hU hW, gL.moved hW.alike hL⟩, q⟩⟩ rfl rfl hl.1 rfl (lv_room (Nat.le_of_ble_eq_true rfl)) dL_same_322 ⟨Nat.le_of_ble_eq_true rfl, Nat.le_of_ble_eq_true rfl⟩) hS (fun _ _ h => h.1) (fun _ h => h.1) (fun r39 Z40 t H locs ht hvm q hB1 hz hk hS => ?_)
          have hB1 : gH (tG G adb F37.2.1 ca) ada Z40 H := gH_to ht hB1
          have hT := tO_A hT hk hB1
          obtain ⟨F41, eF41, q⟩ := q
          have hH : tH G a0 b0 ca F41 H := tH_eq ⟨ada, adb, ea, eb, hT⟩ eF41
          refine lv_aload_n hx hb dL_same_325 rfl (lv_at hl 2 rfl) ?_
          refine lv_iconst (v := 3) hx hb dL_same_326 (by decide) ?_
          refine lv_iload_n hx hb dL_same_327 rfl (lv_at hl 3 rfl) ?_
          refine lv_bipush (v := 11) hx hb dL_same_328 (by decide) ?_
          refine lv_idiv hx hb dL_same_330 (by decide) ?_
          refine lv_bipush (v := 30) hx hb dL_same_331 (by decide) ?_
          refine lv_irem hx hb dL_same_333 (by decide) ?_
          refine lv_iload_n hx hb dL_same_334 rfl (lv_at hl 3 rfl) ?_
          refine lv_bipush (v := 6) hx hb dL_same_335 (by decide) ?_
          refine lv_irem hx hb dL_same_337 (by decide) ?_
          have hH0 := hH
          obtain ⟨ada, adb, ea, eb, hT⟩ := hH
          refine va_calli (vx_runSW (As := [.ref b0, .int 3, .int ((x3 / 11) - (x3 / 11) / 30 * 30), .int (x3 - x3 / 6 * 6)]) (rest := [.int r39]) ⟨hx, hb, hml, hown, hts⟩ (cm_L_at l hfl (tG G ada F41.1 ca) adb F41.2.1 3 ((x3 / 11) - (x3 / 11) / 30 * 30) (x3 - x3 / 6 * 6) b0 eb _) (vx_cwSW 4 hts gL_same_L_at rfl rfl rfl (by decide +kernel) ⟨Nat.le_of_ble_eq_true rfl, Nat.le_of_ble_eq_true rfl⟩) ⟨fun a U g mk h => ⟨h.1, ⟨gD_blind h.2.1.1, gL.moved (u := U) (U := U.calling g mk a) (Vm.Alike.refl U.vm) h.2.1.2⟩, h.2.2⟩, fun U hU hW => ⟨rfl, ⟨tD_B hK hG hB hT hS hU hW, gL.moved hW.alike hL⟩, q⟩⟩ rfl rfl hl.1 rfl (lv_room (Nat.le_of_ble_eq_true rfl)) dL_same_338 ⟨Nat.le_of_ble_eq_true rfl, Nat.le_of_ble_eq_true rfl⟩) hS (fun _ _ h => h.1) (fun _ h => h.1) (fun r42 Z43 t H locs ht hvm q hB1 hz hk hS => ?_)
          have hB1 : gH (tG G ada F41.1 ca) adb Z43 H := gH_to ht hB1
          have hT := tO_B hT hk hB1
          obtain ⟨F44, eF44, q⟩ := q
          have hH : tH G a0 b0 ca F44 H := tH_eq ⟨ada, adb, ea, eb, hT⟩ eF44
          refine lv_icmp_ne (tgt := 348) hx hb dL_same_341 (by decide) (fun c45 => ?_) (fun c45 => ?_)
          · have q := (if_neg c45).mp q
            refine lv_iconst (v := 0) hx hb dL_same_348 (by decide) ?_
            exact (W.zret (v := 0) hx hb hr rfl (fun t ht hW => ⟨⟨0, F44, rfl, q, tH_at ht hH⟩, hS.F ht⟩) hS.2.2 dL_same_349)
          · have q := (if_pos c45).mp q
            refine lv_iconst (v := 1) hx hb dL_same_344 (by decide) ?_
            refine lv_goto (tgt := 349) hx hb dL_same_345 (by decide) ?_
            exact (W.zret (v := 1) hx hb hr rfl (fun t ht hW => ⟨⟨1, F44, rfl, q, tH_at ht hH⟩, hS.F ht⟩) hS.2.2 dL_same_349)
  have t_135 : ∀ (F : S3) (x3 : Int32) (x4 : Int32) (x5 : Int32) (s0 : Int32) (H : Heap) (locs : List Loc) (ls : Array Slot), tH G a0 b0 ca F H → va_S (gA (zg G)) s.heap H locs → lv_has ls 9 [(0, .ref a0), (1, .ref b0), (3, .int x3), (4, .int x4), (5, .int x5)] → (P_M_same_135 K) F x3 x4 x5 s0 → W p l e rm_L_same s m ([.ref a0, .ref b0, .ref ca, .int p3] : List Value).toArray below meth c H locs 4 24 (q_L_same G a0 b0 ca K below ([.ref a0, .ref b0, .ref ca, .int p3] : List Value).toArray s) (F0 m 135 ls [.int s0]) := by
    intro F x3 x4 x5 s0 H locs ls hH hS hl q
    unfold P_M_same_135 at q
    refine lv_istore (lv' := [(6, .int s0), (0, .ref a0), (1, .ref b0), (3, .int x3), (4, .int x4), (5, .int x5)]) hx hb dL_same_135 hl (by decide) rfl (fun ls hl => ?_)
    refine lv_iconst (v := 0) hx hb dL_same_137 (by decide) ?_
    refine lv_istore (lv' := [(7, .int 0), (6, .int s0), (0, .ref a0), (1, .ref b0), (3, .int x3), (4, .int x4), (5, .int x5)]) hx hb dL_same_138 hl (by decide) rfl (fun ls hl => ?_)
    refine lv_iload hx hb dL_same_140 (lv_at hl 0 rfl) ?_
    refine lv_bipush (v := 12) hx hb dL_same_142 (by decide) ?_
    refine lv_icmp_ge (tgt := 242) hx hb dL_same_144 (by decide) (fun z => absurd z (show ¬ ((12 : Int32) ≤ (0 : Int32)) from by decide)) (fun _ => ?_)
    refine lv_iload hx hb dL_same_147 (lv_at hl 5 rfl) ?_
    refine lv_if_eq (tgt := 242) hx hb dL_same_149 (by decide) (fun c16 => ?_) (fun c16 => ?_)
    · have q := (if_pos c16).mp q
      refine W.widen (k := 28) (n := 168) (Nat.le_of_ble_eq_true rfl) (Nat.le_of_ble_eq_true rfl) ?_
      exact t_242 F x3 x4 x5 s0 _ _ _ hH hS (lv_sub hl [2, 3, 4, 5, 6, 1] rfl) q
    · have q := (if_neg c16).mp q
      refine lv_iload hx hb dL_same_152 (lv_at hl 0 rfl) ?_
      refine lv_iconst (v := 2) hx hb dL_same_154 (by decide) ?_
      refine lv_icmp_ge (tgt := 163) hx hb dL_same_155 (by decide) (fun z => absurd z (show ¬ ((2 : Int32) ≤ (0 : Int32)) from by decide)) (fun _ => ?_)
      refine lv_iload hx hb dL_same_158 (lv_at hl 6 rfl) ?_
      refine lv_goto (tgt := 208) hx hb dL_same_160 (by decide) ?_
      refine lv_istore (lv' := [(8, .int x5), (7, .int 0), (6, .int s0), (0, .ref a0), (1, .ref b0), (3, .int x3), (4, .int x4), (5, .int x5)]) hx hb dL_same_208 hl (by decide) rfl (fun ls hl => ?_)
      refine lv_aload_n hx hb dL_same_210 rfl (lv_at hl 3 rfl) ?_
      refine lv_iload hx hb dL_same_211 (lv_at hl 1 rfl) ?_
      refine lv_iload hx hb dL_same_213 (lv_at hl 0 rfl) ?_
      have hH0 := hH
      obtain ⟨ada, adb, ea, eb, hT⟩ := hH
      refine va_calli (vx_runSW (As := [.ref a0, .int 0, .int x5]) (rest := []) ⟨hx, hb, hml, hown, hts⟩ (cm_L_of l hfl (tG G adb F.2.1 ca) ada F.1 0 x5 a0 ea _) (vx_cwSW 3 hts gL_same_L_of rfl rfl rfl (by decide +kernel) ⟨Nat.le_of_ble_eq_true rfl, Nat.le_of_ble_eq_true rfl⟩) ⟨fun a U g mk h => ⟨h.1, ⟨gD_blind h.2.1.1, gL.moved (u := U) (U := U.calling g mk a) (Vm.Alike.refl U.vm) h.2.1.2⟩, h.2.2⟩, fun U hU hW => ⟨rfl, ⟨tD_A hK hG hB hT hS hU hW, gL.moved hW.alike hL⟩, q⟩⟩ rfl rfl hl.1 rfl (lv_room (Nat.le_of_ble_eq_true rfl)) dL_same_215 ⟨Nat.le_of_ble_eq_true rfl, Nat.le_of_ble_eq_true rfl⟩) hS (fun _ _ h => h.1) (fun _ h => h.1) (fun r46 Z47 t H locs ht hvm q hB1 hz hk hS => ?_)
      have hB1 : gH (tG G adb F.2.1 ca) ada Z47 H := gH_to ht hB1
      have hT := tO_A hT hk hB1
      obtain ⟨F48, eF48, q⟩ := q
      have hH : tH G a0 b0 ca F48 H := tH_eq ⟨ada, adb, ea, eb, hT⟩ eF48
      refine lv_aload_n hx hb dL_same_218 rfl (lv_at hl 4 rfl) ?_
      refine lv_iload hx hb dL_same_219 (lv_at hl 1 rfl) ?_
      refine lv_iload hx hb dL_same_221 (lv_at hl 0 rfl) ?_
      have hH0 := hH
      obtain ⟨ada, adb, ea, eb, hT⟩ := hH
      refine va_calli (vx_runSW (As := [.ref b0, .int 0, .int x5]) (rest := [.int r46]) ⟨hx, hb, hml, hown, hts⟩ (cm_L_of l hfl (tG G ada F48.1 ca) adb F48.2.1 0 x5 b0 eb _) (vx_cwSW 3 hts gL_same_L_of rfl rfl rfl (by decide +kernel) ⟨Nat.le_of_ble_eq_true rfl, Nat.le_of_ble_eq_true rfl⟩) ⟨fun a U g mk h => ⟨h.1, ⟨gD_blind h.2.1.1, gL.moved (u := U) (U := U.calling g mk a) (Vm.Alike.refl U.vm) h.2.1.2⟩, h.2.2⟩, fun U hU hW => ⟨rfl, ⟨tD_B hK hG hB hT hS hU hW, gL.moved hW.alike hL⟩, q⟩⟩ rfl rfl hl.1 rfl (lv_room (Nat.le_of_ble_eq_true rfl)) dL_same_223 ⟨Nat.le_of_ble_eq_true rfl, Nat.le_of_ble_eq_true rfl⟩) hS (fun _ _ h => h.1) (fun _ h => h.1) (fun r49 Z50 t H locs ht hvm q hB1 hz hk hS => ?_)
      have hB1 : gH (tG G ada F48.1 ca) adb Z50 H := gH_to ht hB1
      have hT := tO_B hT hk hB1
      obtain ⟨F51, eF51, q⟩ := q
      have hH : tH G a0 b0 ca F51 H := tH_eq ⟨ada, adb, ea, eb, hT⟩ eF51
      refine lv_icmp_ne (tgt := 233) hx hb dL_same_226 (by decide) (fun c52 => ?_) (fun c52 => ?_)
      · have q := (if_neg c52).mp q
        refine lv_iconst (v := 0) hx hb dL_same_233 (by decide) ?_
        refine lv_istore (lv' := [(4, .int 0), (8, .int x5), (7, .int 0), (6, .int s0), (0, .ref a0), (1, .ref b0), (3, .int x3), (5, .int x5)]) hx hb dL_same_234 hl (by decide) rfl (fun ls hl => ?_)
        refine lv_iinc (v := 1) (lv' := [(7, .int 1), (4, .int 0), (8, .int x5), (6, .int s0), (0, .ref a0), (1, .ref b0), (3, .int x3), (5, .int x5)]) hx hb dL_same_236 hl (k := 2) rfl (by decide) (by decide) rfl (fun ls hl => ?_)
        refine lv_goto (tgt := 140) hx hb dL_same_239 (by decide) ?_
        refine lv_iload hx hb dL_same_140 (lv_at hl 0 rfl) ?_
        refine lv_bipush (v := 12) hx hb dL_same_142 (by decide) ?_
        refine lv_icmp_ge (tgt := 242) hx hb dL_same_144 (by decide) (fun z => absurd z (show ¬ ((12 : Int32) ≤ (1 : Int32)) from by decide)) (fun _ => ?_)
        refine lv_iload hx hb dL_same_147 (lv_at hl 1 rfl) ?_
        refine lv_if_eq (tgt := 242) hx hb dL_same_149 (by decide) (fun _ => ?_) (fun z => absurd (show (0 : Int32) = (0 : Int32) from by decide) z)
        refine W.widen (k := 28) (n := 168) (Nat.le_of_ble_eq_true rfl) (Nat.le_of_ble_eq_true rfl) ?_
        exact t_242 F51 x3 0 x5 s0 _ _ _ hH hS (lv_sub hl [4, 5, 6, 1, 7, 3] rfl) q
      · have q := (if_pos c52).mp q
        refine lv_iconst (v := 1) hx hb dL_same_229 (by decide) ?_
        refine lv_goto (tgt := 234) hx hb dL_same_230 (by decide) ?_
        refine lv_istore (lv' := [(4, .int 1), (8, .int x5), (7, .int 0), (6, .int s0), (0, .ref a0), (1, .ref b0), (3, .int x3), (5, .int x5)]) hx hb dL_same_234 hl (by decide) rfl (fun ls hl => ?_)
        refine lv_iinc (v := 1) (lv' := [(7, .int 1), (4, .int 1), (8, .int x5), (6, .int s0), (0, .ref a0), (1, .ref b0), (3, .int x3), (5, .int x5)]) hx hb dL_same_236 hl (k := 2) rfl (by decide) (by decide) rfl (fun ls hl => ?_)
        refine lv_goto (tgt := 140) hx hb dL_same_239 (by decide) ?_
        refine lv_iload hx hb dL_same_140 (lv_at hl 0 rfl) ?_
        refine lv_bipush (v := 12) hx hb dL_same_142 (by decide) ?_
        refine lv_icmp_ge (tgt := 242) hx hb dL_same_144 (by decide) (fun z => absurd z (show ¬ ((12 : Int32) ≤ (1 : Int32)) from by decide)) (fun _ => ?_)
        refine lv_iload hx hb dL_same_147 (lv_at hl 1 rfl) ?_
        refine lv_if_eq (tgt := 242) hx hb dL_same_149 (by decide) (fun z => absurd z (show ¬ ((1 : Int32) = (0 : Int32)) from by decide)) (fun _ => ?_)
        refine lv_iload hx hb dL_same_152 (lv_at hl 0 rfl) ?_
        refine lv_iconst (v := 2) hx hb dL_same_154 (by decide) ?_
        refine lv_icmp_ge (tgt := 163) hx hb dL_same_155 (by decide) (fun z => absurd z (show ¬ ((2 : Int32) ≤ (1 : Int32)) from by decide)) (fun _ => ?_)
        refine lv_iload hx hb dL_same_158 (lv_at hl 7 rfl) ?_
        refine lv_goto (tgt := 208) hx hb dL_same_160 (by decide) ?_
        refine lv_istore (lv' := [(8, .int x5), (7, .int 1), (4, .int 1), (6, .int s0), (0, .ref a0), (1, .ref b0), (3, .int x3), (5, .int x5)]) hx hb dL_same_208 hl (by decide) rfl (fun ls hl => ?_)
        refine lv_aload_n hx hb dL_same_210 rfl (lv_at hl 4 rfl) ?_
        refine lv_iload hx hb dL_same_211 (lv_at hl 1 rfl) ?_
        refine lv_iload hx hb dL_same_213 (lv_at hl 0 rfl) ?_
        have hH0 := hH
        obtain ⟨ada, adb, ea, eb, hT⟩ := hH
        refine va_calli (vx_runSW (As := [.ref a0, .int 1, .int x5]) (rest := []) ⟨hx, hb, hml, hown, hts⟩ (cm_L_of l hfl (tG G adb F51.2.1 ca) ada F51.1 1 x5 a0 ea _) (vx_cwSW 3 hts gL_same_L_of rfl rfl rfl (by decide +kernel) ⟨Nat.le_of_ble_eq_true rfl, Nat.le_of_ble_eq_true rfl⟩) ⟨fun a U g mk h => ⟨h.1, ⟨gD_blind h.2.1.1, gL.moved (u := U) (U := U.calling g mk a) (Vm.Alike.refl U.vm) h.2.1.2⟩, h.2.2⟩, fun U hU hW => ⟨rfl, ⟨tD_A hK hG hB hT hS hU hW, gL.moved hW.alike hL⟩, q⟩⟩ rfl rfl hl.1 rfl (lv_room (Nat.le_of_ble_eq_true rfl)) dL_same_215 ⟨Nat.le_of_ble_eq_true rfl, Nat.le_of_ble_eq_true rfl⟩) hS (fun _ _ h => h.1) (fun _ h => h.1) (fun r53 Z54 t H locs ht hvm q hB1 hz hk hS => ?_)
        have hB1 : gH (tG G adb F51.2.1 ca) ada Z54 H := gH_to ht hB1
        have hT := tO_A hT hk hB1
        obtain ⟨F55, eF55, q⟩ := q
        have hH : tH G a0 b0 ca F55 H := tH_eq ⟨ada, adb, ea, eb, hT⟩ eF55
        refine lv_aload_n hx hb dL_same_218 rfl (lv_at hl 5 rfl) ?_
        refine lv_iload hx hb dL_same_219 (lv_at hl 1 rfl) ?_
        refine lv_iload hx hb dL_same_221 (lv_at hl 0 rfl) ?_
        have hH0 := hH
        obtain ⟨ada, adb, ea, eb, hT⟩ := hH
        refine va_calli (vx_runSW (As := [.ref b0, .int 1, .int x5]) (rest := [.int r53]) ⟨hx, hb, hml, hown, hts⟩ (cm_L_of l hfl (tG G ada F55.1 ca) adb F55.2.1 1 x5 b0 eb _) (vx_cwSW 3 hts gL_same_L_of rfl rfl rfl (by decide +kernel) ⟨Nat.le_of_ble_eq_true rfl, Nat.le_of_ble_eq_true rfl⟩) ⟨fun a U g mk h => ⟨h.1, ⟨gD_blind h.2.1.1, gL.moved (u := U) (U := U.calling g mk a) (Vm.Alike.refl U.vm) h.2.1.2⟩, h.2.2⟩, fun U hU hW => ⟨rfl, ⟨tD_B hK hG hB hT hS hU hW, gL.moved hW.alike hL⟩, q⟩⟩ rfl rfl hl.1 rfl (lv_room (Nat.le_of_ble_eq_true rfl)) dL_same_223 ⟨Nat.le_of_ble_eq_true rfl, Nat.le_of_ble_eq_true rfl⟩) hS (fun _ _ h => h.1) (fun _ h => h.1) (fun r56 Z57 t H locs ht hvm q hB1 hz hk hS => ?_)
        have hB1 : gH (tG G ada F55.1 ca) adb Z57 H := gH_to ht hB1
        have hT := tO_B hT hk hB1
        obtain ⟨F58, eF58, q⟩ := q
        have hH : tH G a0 b0 ca F58 H := tH_eq ⟨ada, adb, ea, eb, hT⟩ eF58
        refine lv_icmp_ne (tgt := 233) hx hb dL_same_226 (by decide) (fun c59 => ?_) (fun c59 => ?_)
        · have q := (if_neg c59).mp q
          refine lv_iconst (v := 0) hx hb dL_same_233 (by decide) ?_
          refine lv_istore (lv' := [(4, .int 0), (8, .int x5), (7, .int 1), (6, .int s0), (0, .ref a0), (1, .ref b0), (3, .int x3), (5, .int x5)]) hx hb dL_same_234 hl (by decide) rfl (fun ls hl => ?_)
          refine lv_iinc (v := 2) (lv' := [(7, .int 2), (4, .int 0), (8, .int x5), (6, .int s0), (0, .ref a0), (1, .ref b0), (3, .int x3), (5, .int x5)]) hx hb dL_same_236 hl (k := 2) rfl (by decide) (by decide) rfl (fun ls hl => ?_)
          refine lv_goto (tgt := 140) hx hb dL_same_239 (by decide) ?_
          refine lv_iload hx hb dL_same_140 (lv_at hl 0 rfl) ?_
          refine lv_bipush (v := 12) hx hb dL_same_142 (by decide) ?_
          refine lv_icmp_ge (tgt := 242) hx hb dL_same_144 (by decide) (fun z => absurd z (show ¬ ((12 : Int32) ≤ (2 : Int32)) from by decide)) (fun _ => ?_)
          refine lv_iload hx hb dL_same_147 (lv_at hl 1 rfl) ?_
          refine lv_if_eq (tgt := 242) hx hb dL_same_149 (by decide) (fun _ => ?_) (fun z => absurd (show (0 : Int32) = (0 : Int32) from by decide) z)
          refine W.widen (k := 28) (n := 168) (Nat.le_of_ble_eq_true rfl) (Nat.le_of_ble_eq_true rfl) ?_
          exact t_242 F58 x3 0 x5 s0 _ _ _ hH hS (lv_sub hl [4, 5, 6, 1, 7, 3] rfl) q
        · have q := (if_pos c59).mp q
          refine lv_iconst (v := 1) hx hb dL_same_229 (by decide) ?_
          refine lv_goto (tgt := 234) hx hb dL_same_230 (by decide) ?_
          refine lv_istore (lv' := [(4, .int 1), (8, .int x5), (7, .int 1), (6, .int s0), (0, .ref a0), (1, .ref b0), (3, .int x3), (5, .int x5)]) hx hb dL_same_234 hl (by decide) rfl (fun ls hl => ?_)
          refine lv_iinc (v := 2) (lv' := [(7, .int 2), (4, .int 1), (8, .int x5), (6, .int s0), (0, .ref a0), (1, .ref b0), (3, .int x3), (5, .int x5)]) hx hb dL_same_236 hl (k := 2) rfl (by decide) (by decide) rfl (fun ls hl => ?_)
          refine lv_goto (tgt := 140) hx hb dL_same_239 (by decide) ?_
          refine lv_iload hx hb dL_same_140 (lv_at hl 0 rfl) ?_
          refine lv_bipush (v := 12) hx hb dL_same_142 (by decide) ?_
          refine lv_icmp_ge (tgt := 242) hx hb dL_same_144 (by decide) (fun z => absurd z (show ¬ ((12 : Int32) ≤ (2 : Int32)) from by decide)) (fun _ => ?_)
          refine lv_iload hx hb dL_same_147 (lv_at hl 1 rfl) ?_
          refine lv_if_eq (tgt := 242) hx hb dL_same_149 (by decide) (fun z => absurd z (show ¬ ((1 : Int32) = (0 : Int32)) from by decide)) (fun _ => ?_)
          refine lv_iload hx hb dL_same_152 (lv_at hl 0 rfl) ?_
          refine lv_iconst (v := 2) hx hb dL_same_154 (by decide) ?_
          refine lv_icmp_ge (tgt := 163) hx hb dL_same_155 (by decide) (fun _ => ?_) (fun z => absurd (show (2 : Int32) ≤ (2 : Int32) from by decide) z)
          refine lv_iload hx hb dL_same_163 (lv_at hl 0 rfl) ?_
          refine lv_bipush (v := 6) hx hb dL_same_165 (by decide) ?_
          refine lv_icmp_ge (tgt := 175) hx hb dL_same_167 (by decide) (fun z => absurd z (show ¬ ((6 : Int32) ≤ (2 : Int32)) from by decide)) (fun _ => ?_)
          refine lv_iload hx hb dL_same_170 (lv_at hl 3 rfl) ?_
          refine lv_goto (tgt := 208) hx hb dL_same_172 (by decide) ?_
          refine lv_istore (lv' := [(8, .int s0), (7, .int 2), (4, .int 1), (6, .int s0), (0, .ref a0), (1, .ref b0), (3, .int x3), (5, .int x5)]) hx hb dL_same_208 hl (by decide) rfl (fun ls hl => ?_)
          refine lv_aload_n hx hb dL_same_210 rfl (lv_at hl 4 rfl) ?_
          refine lv_iload hx hb dL_same_211 (lv_at hl 1 rfl) ?_
          refine lv_iload hx hb dL_same_213 (lv_at hl 0 rfl) ?_
          have hH0 := hH
          obtain ⟨ada, adb, ea, eb, hT⟩ := hH
          refine va_calli (vx_runSW (As := [.ref a0, .int 2, .int s0]) (rest := []) ⟨hx, hb, hml, hown, hts⟩ (cm_L_of l hfl (tG G adb F58.2.1 ca) ada F58.1 2 s0 a0 ea _) (vx_cwSW 3 hts gL_same_L_of rfl rfl rfl (by decide +kernel) ⟨Nat.le_of_ble_eq_true rfl, Nat.le_of_ble_eq_true rfl⟩) ⟨fun a U g mk h => ⟨h.1, ⟨gD_blind h.2.1.1, gL.moved (u := U) (U := U.calling g mk a) (Vm.Alike.refl U.vm) h.2.1.2⟩, h.2.2⟩, fun U hU hW => ⟨rfl, ⟨tD_A hK hG hB hT hS hU hW, gL.moved hW.alike hL⟩, q⟩⟩ rfl rfl hl.1 rfl (lv_room (Nat.le_of_ble_eq_true rfl)) dL_same_215 ⟨Nat.le_of_ble_eq_true rfl, Nat.le_of_ble_eq_true rfl⟩) hS (fun _ _ h => h.1) (fun _ h => h.1) (fun r60 Z61 t H locs ht hvm q hB1 hz hk hS => ?_)
          have hB1 : gH (tG G adb F58.2.1 ca) ada Z61 H := gH_to ht hB1
          have hT := tO_A hT hk hB1
          obtain ⟨F62, eF62, q⟩ := q
          have hH : tH G a0 b0 ca F62 H := tH_eq ⟨ada, adb, ea, eb, hT⟩ eF62
          refine lv_aload_n hx hb dL_same_218 rfl (lv_at hl 5 rfl) ?_
          refine lv_iload hx hb dL_same_219 (lv_at hl 1 rfl) ?_
          refine lv_iload hx hb dL_same_221 (lv_at hl 0 rfl) ?_
          have hH0 := hH
          obtain ⟨ada, adb, ea, eb, hT⟩ := hH
          refine va_calli (vx_runSW (As := [.ref b0, .int 2, .int s0]) (rest := [.int r60]) ⟨hx, hb, hml, hown, hts⟩ (cm_L_of l hfl (tG G ada F62.1 ca) adb F62.2.1 2 s0 b0 eb _) (vx_cwSW 3 hts gL_same_L_of rfl rfl rfl (by decide +kernel) ⟨Nat.le_of_ble_eq_true rfl, Nat.le_of_ble_eq_true rfl⟩) ⟨fun a U g mk h => ⟨h.1, ⟨gD_blind h.2.1.1, gL.moved (u := U) (U := U.calling g mk a) (Vm.Alike.refl U.vm) h.2.1.2⟩, h.2.2⟩, fun U hU hW => ⟨rfl, ⟨tD_B hK hG hB hT hS hU hW, gL.moved hW.alike hL⟩, q⟩⟩ rfl rfl hl.1 rfl (lv_room (Nat.le_of_ble_eq_true rfl)) dL_same_223 ⟨Nat.le_of_ble_eq_true rfl, Nat.le_of_ble_eq_true rfl⟩) hS (fun _ _ h => h.1) (fun _ h => h.1) (fun r63 Z64 t H locs ht hvm q hB1 hz hk hS => ?_)
          have hB1 : gH (tG G ada F62.1 ca) adb Z64 H := gH_to ht hB1
          have hT := tO_B hT hk hB1
          obtain ⟨F65, eF65, q⟩ := q
          have hH : tH G a0 b0 ca F65 H := tH_eq ⟨ada, adb, ea, eb, hT⟩ eF65
          refine lv_icmp_ne (tgt := 233) hx hb dL_same_226 (by decide) (fun c66 => ?_) (fun c66 => ?_)
          · have q := (if_neg c66).mp q
            refine lv_iconst (v := 0) hx hb dL_same_233 (by decide) ?_
            refine lv_istore (lv' := [(4, .int 0), (8, .int s0), (7, .int 2), (6, .int s0), (0, .ref a0), (1, .ref b0), (3, .int x3), (5, .int x5)]) hx hb dL_same_234 hl (by decide) rfl (fun ls hl => ?_)
            refine lv_iinc (v := 3) (lv' := [(7, .int 3), (4, .int 0), (8, .int s0), (6, .int s0), (0, .ref a0), (1, .ref b0), (3, .int x3), (5, .int x5)]) hx hb dL_same_236 hl (k := 2) rfl (by decide) (by decide) rfl (fun ls hl => ?_)
            refine lv_goto (tgt := 140) hx hb dL_same_239 (by decide) ?_
            refine lv_iload hx hb dL_same_140 (lv_at hl 0 rfl) ?_
            refine lv_bipush (v := 12) hx hb dL_same_142 (by decide) ?_
            refine lv_icmp_ge (tgt := 242) hx hb dL_same_144 (by decide) (fun z => absurd z (show ¬ ((12 : Int32) ≤ (3 : Int32)) from by decide)) (fun _ => ?_)
            refine lv_iload hx hb dL_same_147 (lv_at hl 1 rfl) ?_
            refine lv_if_eq (tgt := 242) hx hb dL_same_149 (by decide) (fun _ => ?_) (fun z => absurd (show (0 : Int32) = (0 : Int32) from by decide) z)
            refine W.widen (k := 28) (n := 168) (Nat.le_of_ble_eq_true rfl) (Nat.le_of_ble_eq_true rfl) ?_
            exact t_242 F65 x3 0 x5 s0 _ _ _ hH hS (lv_sub hl [4, 5, 6, 1, 7, 3] rfl) q
          · have q := (if_pos c66).mp q
            refine lv_iconst (v := 1) hx hb dL_same_229 (by decide) ?_
            refine lv_goto (tgt := 234) hx hb dL_same_230 (by decide) ?_
            refine lv_istore (lv' := [(4, .int 1), (8, .int s0), (7, .int 2), (6, .int s0), (0, .ref a0), (1, .ref b0), (3, .int x3), (5, .int x5)]) hx hb dL_same_234 hl (by decide) rfl (fun ls hl => ?_)
            refine lv_iinc (v := 3) (lv' := [(7, .int 3), (4, .int 1), (8, .int s0), (6, .int s0), (0, .ref a0), (1, .ref b0), (3, .int x3), (5, .int x5)]) hx hb dL_same_236 hl (k := 2) rfl (by decide) (by decide) rfl (fun ls hl => ?_)
            refine lv_goto (tgt := 140) hx hb dL_same_239 (by decide) ?_
            refine lv_iload hx hb dL_same_140 (lv_at hl 0 rfl) ?_
            refine lv_bipush (v := 12) hx hb dL_same_142 (by decide) ?_
            refine lv_icmp_ge (tgt := 242) hx hb dL_same_144 (by decide) (fun z => absurd z (show ¬ ((12 : Int32) ≤ (3 : Int32)) from by decide)) (fun _ => ?_)
            refine lv_iload hx hb dL_same_147 (lv_at hl 1 rfl) ?_
            refine lv_if_eq (tgt := 242) hx hb dL_same_149 (by decide) (fun z => absurd z (show ¬ ((1 : Int32) = (0 : Int32)) from by decide)) (fun _ => ?_)
            refine lv_iload hx hb dL_same_152 (lv_at hl 0 rfl) ?_
            refine lv_iconst (v := 2) hx hb dL_same_154 (by decide) ?_
            refine lv_icmp_ge (tgt := 163) hx hb dL_same_155 (by decide) (fun _ => ?_) (fun z => absurd (show (2 : Int32) ≤ (3 : Int32) from by decide) z)
            refine lv_iload hx hb dL_same_163 (lv_at hl 0 rfl) ?_
            refine lv_bipush (v := 6) hx hb dL_same_165 (by decide) ?_
            refine lv_icmp_ge (tgt := 175) hx hb dL_same_167 (by decide) (fun z => absurd z (show ¬ ((6 : Int32) ≤ (3 : Int32)) from by decide)) (fun _ => ?_)
            refine lv_iload hx hb dL_same_170 (lv_at hl 3 rfl) ?_
            refine lv_goto (tgt := 208) hx hb dL_same_172 (by decide) ?_
            refine lv_istore (lv' := [(8, .int s0), (7, .int 3), (4, .int 1), (6, .int s0), (0, .ref a0), (1, .ref b0), (3, .int x3), (5, .int x5)]) hx hb dL_same_208 hl (by decide) rfl (fun ls hl => ?_)
            refine lv_aload_n hx hb dL_same_210 rfl (lv_at hl 4 rfl) ?_
            refine lv_iload hx hb dL_same_211 (lv_at hl 1 rfl) ?_
            refine lv_iload hx hb dL_same_213 (lv_at hl 0 rfl) ?_
            have hH0 := hH
            obtain ⟨ada, adb, ea, eb, hT⟩ := hH
            refine va_calli (vx_runSW (As := [.ref a0, .int 3, .int s0]) (rest := []) ⟨hx, hb, hml, hown, hts⟩ (cm_L_of l hfl (tG G adb F65.2.1 ca) ada F65.1 3 s0 a0 ea _) (vx_cwSW 3 hts gL_same_L_of rfl rfl rfl (by decide +kernel) ⟨Nat.le_of_ble_eq_true rfl, Nat.le_of_ble_eq_true rfl⟩) ⟨fun a U g mk h => ⟨h.1, ⟨gD_blind h.2.1.1, gL.moved (u := U) (U := U.calling g mk a) (Vm.Alike.refl U.vm) h.2.1.2⟩, h.2.2⟩, fun U hU hW => ⟨rfl, ⟨tD_A hK hG hB hT hS hU hW, gL.moved hW.alike hL⟩, q⟩⟩ rfl rfl hl.1 rfl (lv_room (Nat.le_of_ble_eq_true rfl)) dL_same_215 ⟨Nat.le_of_ble_eq_true rfl, Nat.le_of_ble_eq_true rfl⟩) hS (fun _ _ h => h.1) (fun _ h => h.1) (fun r67 Z68 t H locs ht hvm q hB1 hz hk hS => ?_)
            have hB1 : gH (tG G adb F65.2.1 ca) ada Z68 H := gH_to ht hB1
            have hT := tO_A hT hk hB1
            obtain ⟨F69, eF69, q⟩ := q
            have hH : tH G a0 b0 ca F69 H := tH_eq ⟨ada, adb, ea, eb, hT⟩ eF69
            refine lv_aload_n hx hb dL_same_218 rfl (lv_at hl 5 rfl) ?_
            refine lv_iload hx hb dL_same_219 (lv_at hl 1 rfl) ?_
            refine lv_iload hx hb dL_same_221 (lv_at hl 0 rfl) ?_
            have hH0 := hH
            obtain ⟨ada, adb, ea, eb, hT⟩ := hH
            refine va_calli (vx_runSW (As := [.ref b0, .int 3, .int s0]) (rest := [.int r67]) ⟨hx, hb, hml, hown, hts⟩ (cm_L_of l hfl (tG G ada F69.1 ca) adb F69.2.1 3 s0 b0 eb _) (vx_cwSW 3 hts gL_same_L_of rfl rfl rfl (by decide +kernel) ⟨Nat.le_of_ble_eq_true rfl, Nat.le_of_ble_eq_true rfl⟩) ⟨fun a U g mk h => ⟨h.1, ⟨gD_blind h.2.1.1, gL.moved (u := U) (U := U.calling g mk a) (Vm.Alike.refl U.vm) h.2.1.2⟩, h.2.2⟩, fun U hU hW => ⟨rfl, ⟨tD_B hK hG hB hT hS hU hW, gL.moved hW.alike hL⟩, q⟩⟩ rfl rfl hl.1 rfl (lv_room (Nat.le_of_ble_eq_true rfl)) dL_same_223 ⟨Nat.le_of_ble_eq_true rfl, Nat.le_of_ble_eq_true rfl⟩) hS (fun _ _ h => h.1) (fun _ h => h.1) (fun r70 Z71 t H locs ht hvm q hB1 hz hk hS => ?_)
            have hB1 : gH (tG G ada F69.1 ca) adb Z71 H := gH_to ht hB1
            have hT := tO_B hT hk hB1
            obtain ⟨F72, eF72, q⟩ := q
            have hH : tH G a0 b0 ca F72 H := tH_eq ⟨ada, adb, ea, eb, hT⟩ eF72
            refine lv_icmp_ne (tgt := 233) hx hb dL_same_226 (by decide) (fun c73 => ?_) (fun c73 => ?_)
            · have q := (if_neg c73).mp q
              refine lv_iconst (v := 0) hx hb dL_same_233 (by decide) ?_
              refine lv_istore (lv' := [(4, .int 0), (8, .int s0), (7, .int 3), (6, .int s0), (0, .ref a0), (1, .ref b0), (3, .int x3), (5, .int x5)]) hx hb dL_same_234 hl (by decide) rfl (fun ls hl => ?_)
              refine lv_iinc (v := 4) (lv' := [(7, .int 4), (4, .int 0), (8, .int s0), (6, .int s0), (0, .ref a0), (1, .ref b0), (3, .int x3), (5, .int x5)]) hx hb dL_same_236 hl (k := 2) rfl (by decide) (by decide) rfl (fun ls hl => ?_)
              refine lv_goto (tgt := 140) hx hb dL_same_239 (by decide) ?_
              refine lv_iload hx hb dL_same_140 (lv_at hl 0 rfl) ?_
              refine lv_bipush (v := 12) hx hb dL_same_142 (by decide) ?_
              refine lv_icmp_ge (tgt := 242) hx hb dL_same_144 (by decide) (fun z => absurd z (show ¬ ((12 : Int32) ≤ (4 : Int32)) from by decide)) (fun _ => ?_)
              refine lv_iload hx hb dL_same_147 (lv_at hl 1 rfl) ?_
              refine lv_if_eq (tgt := 242) hx hb dL_same_149 (by decide) (fun _ => ?_) (fun z => absurd (show (0 : Int32) = (0 : Int32) from by decide) z)
              refine W.widen (k := 28) (n := 168) (Nat.le_of_ble_eq_true rfl) (Nat.le_of_ble_eq_true rfl) ?_
              exact t_242 F72 x3 0 x5 s0 _ _ _ hH hS (lv_sub hl [4, 5, 6, 1, 7, 3] rfl) q
            · have q := (if_pos c73).mp q
              refine lv_iconst (v := 1) hx hb dL_same_229 (by decide) ?_
              refine lv_goto (tgt := 234) hx hb dL_same_230 (by decide) ?_
              refine lv_istore (lv' := [(4, .int 1), (8, .int s0), (7, .int 3), (6, .int s0), (0, .ref a0), (1, .ref b0), (3, .int x3), (5, .int x5)]) hx hb dL_same_234 hl (by decide) rfl (fun ls hl => ?_)
              refine lv_iinc (v := 4) (lv' := [(7, .int 4), (4, .int 1), (8, .int s0), (6, .int s0), (0, .ref a0), (1, .ref b0), (3, .int x3), (5, .int x5)]) hx hb dL_same_236 hl (k := 2) rfl (by decide) (by decide) rfl (fun ls hl => ?_)
              refine lv_goto (tgt := 140) hx hb dL_same_239 (by decide) ?_
              refine lv_iload hx hb dL_same_140 (lv_at hl 0 rfl) ?_
              refine lv_bipush (v := 12) hx hb dL_same_142 (by decide) ?_
              refine lv_icmp_ge (tgt := 242) hx hb dL_same_144 (by decide) (fun z => absurd z (show ¬ ((12 : Int32) ≤ (4 : Int32)) from by decide)) (fun _ => ?_)
              refine lv_iload hx hb dL_same_147 (lv_at hl 1 rfl) ?_
              refine lv_if_eq (tgt := 242) hx hb dL_same_149 (by decide) (fun z => absurd z (show ¬ ((1 : Int32) = (0 : Int32)) from by decide)) (fun _ => ?_)
              refine lv_iload hx hb dL_same_152 (lv_at hl 0 rfl) ?_
              refine lv_iconst (v := 2) hx hb dL_same_154 (by decide) ?_
              refine lv_icmp_ge (tgt := 163) hx hb dL_same_155 (by decide) (fun _ => ?_) (fun z => absurd (show (2 : Int32) ≤ (4 : Int32) from by decide) z)
              refine lv_iload hx hb dL_same_163 (lv_at hl 0 rfl) ?_
              refine lv_bipush (v := 6) hx hb dL_same_165 (by decide) ?_
              refine lv_icmp_ge (tgt := 175) hx hb dL_same_167 (by decide) (fun z => absurd z (show ¬ ((6 : Int32) ≤ (4 : Int32)) from by decide)) (fun _ => ?_)
              refine lv_iload hx hb dL_same_170 (lv_at hl 3 rfl) ?_
              refine lv_goto (tgt := 208) hx hb dL_same_172 (by decide) ?_
              refine lv_istore (lv' := [(8, .int s0), (7, .int 4), (4, .int 1), (6, .int s0), (0, .ref a0), (1, .ref b0), (3, .int x3), (5, .int x5)]) hx hb dL_same_208 hl (by decide) rfl (fun ls hl => ?_)
              refine lv_aload_n hx hb dL_same_210 rfl (lv_at hl 4 rfl) ?_
              refine lv_iload hx hb dL_same_211 (lv_at hl 1 rfl) ?_
              refine lv_iload hx hb dL_same_213 (lv_at hl 0 rfl) ?_
              have hH0 := hH
              obtain ⟨ada, adb, ea, eb, hT⟩ := hH
              refine va_calli (vx_runSW (As := [.ref a0, .int 4, .int s0]) (rest := []) ⟨hx, hb, hml, hown, hts⟩ (cm_L_of l hfl (tG G adb F72.2.1 ca) ada F72.1 4 s0 a0 ea _) (vx_cwSW 3 hts gL_same_L_of rfl rfl rfl (by decide +kernel) ⟨Nat.le_of_ble_eq_true rfl, Nat.le_of_ble_eq_true rfl⟩) ⟨fun a U g mk h => ⟨h.1, ⟨gD_blind h.2.1.1, gL.moved (u := U) (U := U.calling g mk a) (Vm.Alike.refl U.vm) h.2.1.2⟩, h.2.2⟩, fun U hU hW => ⟨rfl, ⟨tD_A hK hG hB hT hS hU hW, gL.moved hW.alike hL⟩, q⟩⟩ rfl rfl hl.1 rfl (lv_room (Nat.le_of_ble_eq_true rfl)) dL_same_215 ⟨Nat.le_of_ble_eq_true rfl, Nat.le_of_ble_eq_true rfl⟩) hS (fun _ _ h => h.1) (fun _ h => h.1) (fun r74 Z75 t H locs ht hvm q hB1 hz hk hS => ?_)
              have hB1 : gH (tG G adb F72.2.1 ca) ada Z75 H := gH_to ht hB1
              have hT := tO_A hT hk hB1
              obtain ⟨F76, eF76, q⟩ := q
              have hH : tH G a0 b0 ca F76 H := tH_eq ⟨ada, adb, ea, eb, hT⟩ eF76
              refine lv_aload_n hx hb dL_same_218 rfl (lv_at hl 5 rfl) ?_
              refine lv_iload hx hb dL_same_219 (lv_at hl 1 rfl) ?_
              refine lv_iload hx hb dL_same_221 (lv_at hl 0 rfl) ?_
              have hH0 := hH
              obtain ⟨ada, adb, ea, eb, hT⟩ := hH
              refine va_calli (vx_runSW (As := [.ref b0, .int 4, .int s0]) (rest := [.int r74]) ⟨hx, hb, hml, hown, hts⟩ (cm_L_of l hfl (tG G ada F76.1 ca) adb F76.2.1 4 s0 b0 eb _) (vx_cwSW 3 hts gL_same_L_of rfl rfl rfl (by decide +kernel) ⟨Nat.le_of_ble_eq_true rfl, Nat.le_of_ble_eq_true rfl⟩) ⟨fun a U g mk h => ⟨h.1, ⟨gD_blind h.2.1.1, gL.moved (u := U) (U := U.calling g mk a) (Vm.Alike.refl U.vm) h.2.1.2⟩, h.2.2⟩, fun U hU hW => ⟨rfl, ⟨tD_B hK hG hB hT hS hU hW, gL.moved hW.alike hL⟩, q⟩⟩ rfl rfl hl.1 rfl (lv_room (Nat.le_of_ble_eq_true rfl)) dL_same_223 ⟨Nat.le_of_ble_eq_true rfl, Nat.le_of_ble_eq_true rfl⟩) hS (fun _ _ h => h.1) (fun _ h => h.1) (fun r77 Z78 t H locs ht hvm q hB1 hz hk hS => ?_)
              have hB1 : gH (tG G ada F76.1 ca) adb Z78 H := gH_to ht hB1
              have hT := tO_B hT hk hB1
              obtain ⟨F79, eF79, q⟩ := q
              have hH : tH G a0 b0 ca F79 H := tH_eq ⟨ada, adb, ea, eb, hT⟩ eF79
              refine lv_icmp_ne (tgt := 233) hx hb dL_same_226 (by decide) (fun c80 => ?_) (fun c80 => ?_)
              · have q := (if_neg c80).mp q
                refine lv_iconst (v := 0) hx hb dL_same_233 (by decide) ?_
                refine lv_istore (lv' := [(4, .int 0), (8, .int s0), (7, .int 4), (6, .int s0), (0, .ref a0), (1, .ref b0), (3, .int x3), (5, .int x5)]) hx hb dL_same_234 hl (by decide) rfl (fun ls hl => ?_)
                refine lv_iinc (v := 5) (lv' := [(7, .int 5), (4, .int 0), (8, .int s0), (6, .int s0), (0, .ref a0), (1, .ref b0), (3, .int x3), (5, .int x5)]) hx hb dL_same_236 hl (k := 2) rfl (by decide) (by decide) rfl (fun ls hl => ?_)
                refine lv_goto (tgt := 140) hx hb dL_same_239 (by decide) ?_
                refine lv_iload hx hb dL_same_140 (lv_at hl 0 rfl) ?_
                refine lv_bipush (v := 12) hx hb dL_same_142 (by decide) ?_
                refine lv_icmp_ge (tgt := 242) hx hb dL_same_144 (by decide) (fun z => absurd z (show ¬ ((12 : Int32) ≤ (5 : Int32)) from by decide)) (fun _ => ?_)
                refine lv_iload hx hb dL_same_147 (lv_at hl 1 rfl) ?_
                refine lv_if_eq (tgt := 242) hx hb dL_same_149 (by decide) (fun _ => ?_) (fun z => absurd (show (0 : Int32) = (0 : Int32) from by decide) z)
                refine W.widen (k := 28) (n := 168) (Nat.le_of_ble_eq_true rfl) (Nat.le_of_ble_eq_true rfl) ?_
                exact t_242 F79 x3 0 x5 s0 _ _ _ hH hS (lv_sub hl [4, 5, 6, 1, 7, 3] rfl) q
              · have q := (if_pos c80).mp q
                refine lv_iconst (v := 1) hx hb dL_same_229 (by decide) ?_
                refine lv_goto (tgt := 234) hx hb dL_same_230 (by decide) ?_
                refine lv_istore (lv' := [(4, .int 1), (8, .int s0), (7, .int 4), (6, .int s0), (0, .ref a0), (1, .ref b0), (3, .int x3), (5, .int x5)]) hx hb dL_same_234 hl (by decide) rfl (fun ls hl => ?_)
                refine lv_iinc (v := 5) (lv' := [(7, .int 5), (4, .int 1), (8, .int s0), (6, .int s0), (0, .ref a0), (1, .ref b0), (3, .int x3), (5, .int x5)]) hx hb dL_same_236 hl (k := 2) rfl (by decide) (by decide) rfl (fun ls hl => ?_)
                refine lv_goto (tgt := 140) hx hb dL_same_239 (by decide) ?_
                refine lv_iload hx hb dL_same_140 (lv_at hl 0 rfl) ?_
                refine lv_bipush (v := 12) hx hb dL_same_142 (by decide) ?_
                refine lv_icmp_ge (tgt := 242) hx hb dL_same_144 (by decide) (fun z => absurd z (show ¬ ((12 : Int32) ≤ (5 : Int32)) from by decide)) (fun _ => ?_)
                refine lv_iload hx hb dL_same_147 (lv_at hl 1 rfl) ?_
                refine lv_if_eq (tgt := 242) hx hb dL_same_149 (by decide) (fun z => absurd z (show ¬ ((1 : Int32) = (0 : Int32)) from by decide)) (fun _ => ?_)
                refine lv_iload hx hb dL_same_152 (lv_at hl 0 rfl) ?_
                refine lv_iconst (v := 2) hx hb dL_same_154 (by decide) ?_
                refine lv_icmp_ge (tgt := 163) hx hb dL_same_155 (by decide) (fun _ => ?_) (fun z => absurd (show (2 : Int32) ≤ (5 : Int32) from by decide) z)
                refine lv_iload hx hb dL_same_163 (lv_at hl 0 rfl) ?_
                refine lv_bipush (v := 6) hx hb dL_same_165 (by decide) ?_
                refine lv_icmp_ge (tgt := 175) hx hb dL_same_167 (by decide) (fun z => absurd z (show ¬ ((6 : Int32) ≤ (5 : Int32)) from by decide)) (fun _ => ?_)
                refine lv_iload hx hb dL_same_170 (lv_at hl 3 rfl) ?_
                refine lv_goto (tgt := 208) hx hb dL_same_172 (by decide) ?_
                refine lv_istore (lv' := [(8, .int s0), (7, .int 5), (4, .int 1), (6, .int s0), (0, .ref a0), (1, .ref b0), (3, .int x3), (5, .int x5)]) hx hb dL_same_208 hl (by decide) rfl (fun ls hl => ?_)
                refine lv_aload_n hx hb dL_same_210 rfl (lv_at hl 4 rfl) ?_
                refine lv_iload hx hb dL_same_211 (lv_at hl 1 rfl) ?_
                refine lv_iload hx hb dL_same_213 (lv_at hl 0 rfl) ?_
                have hH0 := hH
                obtain ⟨ada, adb, ea, eb, hT⟩ := hH
                refine va_calli (vx_runSW (As := [.ref a0, .int 5, .int s0]) (rest := []) ⟨hx, hb, hml, hown, hts⟩ (cm_L_of l hfl (tG G adb F79.2.1 ca) ada F79.1 5 s0 a0 ea _) (vx_cwSW 3 hts gL_same_L_of rfl rfl rfl (by decide +kernel) ⟨Nat.le_of_ble_eq_true rfl, Nat.le_of_ble_eq_true rfl⟩) ⟨fun a U g mk h => ⟨h.1, ⟨gD_blind h.2.1.1, gL.moved (u := U) (U := U.calling g mk a) (Vm.Alike.refl U.vm) h.2.1.2⟩, h.2.2⟩, fun U hU hW => ⟨rfl, ⟨tD_A hK hG hB hT hS hU hW, gL.moved hW.alike hL⟩, q⟩⟩ rfl rfl hl.1 rfl (lv_room (Nat.le_of_ble_eq_true rfl)) dL_same_215 ⟨Nat.le_of_ble_eq_true rfl, Nat.le_of_ble_eq_true rfl⟩) hS (fun _ _ h => h.1) (fun _ h => h.1) (fun r81 Z82 t H locs ht hvm q hB1 hz hk hS => ?_)
                have hB1 : gH (tG G adb F79.2.1 ca) ada Z82 H := gH_to ht hB1
                have hT := tO_A hT hk hB1
                obtain ⟨F83, eF83, q⟩ := q
                have hH : tH G a0 b0 ca F83 H := tH_eq ⟨ada, adb, ea, eb, hT⟩ eF83
                refine lv_aload_n hx hb dL_same_218 rfl (lv_at hl 5 rfl) ?_
                refine lv_iload hx hb dL_same_219 (lv_at hl 1 rfl) ?_
                refine lv_iload hx hb dL_same_221 (lv_at hl 0 rfl) ?_
                have hH0 := hH
                obtain ⟨ada, adb, ea, eb, hT⟩ := hH
                refine va_calli (vx_runSW (As := [.ref b0, .int 5, .int s0]) (rest := [.int r81]) ⟨hx, hb, hml, hown, hts⟩ (cm_L_of l hfl (tG G ada F83.1 ca) adb F83.2.1 5 s0 b0 eb _) (vx_cwSW 3 hts gL_same_L_of rfl rfl rfl (by decide +kernel) ⟨Nat.le_of_ble_eq_true rfl, Nat.le_of_ble_eq_true rfl⟩) ⟨fun a U g mk h => ⟨h.1, ⟨gD_blind h.2.1.1, gL.moved (u := U) (U := U.calling g mk a) (Vm.Alike.refl U.vm) h.2.1.2⟩, h.2.2⟩, fun U hU hW => ⟨rfl, ⟨tD_B hK hG hB hT hS hU hW, gL.moved hW.alike hL⟩, q⟩⟩ rfl rfl hl.1 rfl (lv_room (Nat.le_of_ble_eq_true rfl)) dL_same_223 ⟨Nat.le_of_ble_eq_true rfl, Nat.le_of_ble_eq_true rfl⟩) hS (fun _ _ h => h.1) (fun _ h => h.1) (fun r84 Z85 t H locs ht hvm q hB1 hz hk hS => ?_)
                have hB1 : gH (tG G ada F83.1 ca) adb Z85 H := gH_to ht hB1
                have hT := tO_B hT hk hB1
                obtain ⟨F86, eF86, q⟩ := q
                have hH : tH G a0 b0 ca F86 H := tH_eq ⟨ada, adb, ea, eb, hT⟩ eF86
                refine lv_icmp_ne (tgt := 233) hx hb dL_same_226 (by decide) (fun c87 => ?_) (fun c87 => ?_)
                · have q := (if_neg c87).mp q
                  refine lv_iconst (v := 0) hx hb dL_same_233 (by decide) ?_
                  refine lv_istore (lv' := [(4, .int 0), (8, .int s0), (7, .int 5), (6, .int s0), (0, .ref a0), (1, .ref b0), (3, .int x3), (5, .int x5)]) hx hb dL_same_234 hl (by decide) rfl (fun ls hl => ?_)
                  refine lv_iinc (v := 6) (lv' := [(7, .int 6), (4, .int 0), (8, .int s0), (6, .int s0), (0, .ref a0), (1, .ref b0), (3, .int x3), (5, .int x5)]) hx hb dL_same_236 hl (k := 2) rfl (by decide) (by decide) rfl (fun ls hl => ?_)
                  refine lv_goto (tgt := 140) hx hb dL_same_239 (by decide) ?_
                  refine lv_iload hx hb dL_same_140 (lv_at hl 0 rfl) ?_
                  refine lv_bipush (v := 12) hx hb dL_same_142 (by decide) ?_
                  refine lv_icmp_ge (tgt := 242) hx hb dL_same_144 (by decide) (fun z => absurd z (show ¬ ((12 : Int32) ≤ (6 : Int32)) from by decide)) (fun _ => ?_)
                  refine lv_iload hx hb dL_same_147 (lv_at hl 1 rfl) ?_
                  refine lv_if_eq (tgt := 242) hx hb dL_same_149 (by decide) (fun _ => ?_) (fun z => absurd (show (0 : Int32) = (0 : Int32) from by decide) z)
                  refine W.widen (k := 28) (n := 168) (Nat.le_of_ble_eq_true rfl) (Nat.le_of_ble_eq_true rfl) ?_
                  exact t_242 F86 x3 0 x5 s0 _ _ _ hH hS (lv_sub hl [4, 5, 6, 1, 7, 3] rfl) q
                · have q := (if_pos c87).mp q
                  refine lv_iconst (v := 1) hx hb dL_same_229 (by decide) ?_
                  refine lv_goto (tgt := 234) hx hb dL_same_230 (by decide) ?_
                  refine lv_istore (lv' := [(4, .int 1), (8, .int s0), (7, .int 5), (6, .int s0), (0, .ref a0), (1, .ref b0), (3, .int x3), (5, .int x5)]) hx hb dL_same_234 hl (by decide) rfl (fun ls hl => ?_)
                  refine lv_iinc (v := 6) (lv' := [(7, .int 6), (4, .int 1), (8, .int s0), (6, .int s0), (0, .ref a0), (1, .ref b0), (3, .int x3), (5, .int x5)]) hx hb dL_same_236 hl (k := 2) rfl (by decide) (by decide) rfl (fun ls hl => ?_)
                  refine lv_goto (tgt := 140) hx hb dL_same_239 (by decide) ?_
                  refine lv_iload hx hb dL_same_140 (lv_at hl 0 rfl) ?_
                  refine lv_bipush (v := 12) hx hb dL_same_142 (by decide) ?_
                  refine lv_icmp_ge (tgt := 242) hx hb dL_same_144 (by decide) (fun z => absurd z (show ¬ ((12 : Int32) ≤ (6 : Int32)) from by decide)) (fun _ => ?_)
                  refine lv_iload hx hb dL_same_147 (lv_at hl 1 rfl) ?_
                  refine lv_if_eq (tgt := 242) hx hb dL_same_149 (by decide) (fun z => absurd z (show ¬ ((1 : Int32) = (0 : Int32)) from by decide)) (fun _ => ?_)
                  refine lv_iload hx hb dL_same_152 (lv_at hl 0 rfl) ?_
                  refine lv_iconst (v := 2) hx hb dL_same_154 (by decide) ?_
                  refine lv_icmp_ge (tgt := 163) hx hb dL_same_155 (by decide) (fun _ => ?_) (fun z => absurd (show (2 : Int32) ≤ (6 : Int32) from by decide) z)
                  refine lv_iload hx hb dL_same_163 (lv_at hl 0 rfl) ?_
                  refine lv_bipush (v := 6) hx hb dL_same_165 (by decide) ?_
                  refine lv_icmp_ge (tgt := 175) hx hb dL_same_167 (by decide) (fun _ => ?_) (fun z => absurd (show (6 : Int32) ≤ (6 : Int32) from by decide) z)
                  refine lv_iload hx hb dL_same_175 (lv_at hl 0 rfl) ?_
                  refine lv_bipush (v := 8) hx hb dL_same_177 (by decide) ?_
                  refine lv_icmp_ge (tgt := 191) hx hb dL_same_179 (by decide) (fun z => absurd z (show ¬ ((8 : Int32) ≤ (6 : Int32)) from by decide)) (fun _ => ?_)
                  refine lv_iload_n hx hb dL_same_182 rfl (lv_at hl 6 rfl) ?_
                  refine lv_iconst (v := 5) hx hb dL_same_183 (by decide) ?_
                  refine lv_idiv hx hb dL_same_184 (by decide) ?_
                  refine lv_bipush (v := 8) hx hb dL_same_185 (by decide) ?_
                  refine lv_irem hx hb dL_same_187 (by decide) ?_
                  refine lv_goto (tgt := 208) hx hb dL_same_188 (by decide) ?_
                  refine lv_topi (fun y88 ey88 => ?_)
                  have q := q y88 ey88
                  refine lv_istore (lv' := [(8, .int y88), (7, .int 6), (4, .int 1), (6, .int s0), (0, .ref a0), (1, .ref b0), (3, .int x3), (5, .int x5)]) hx hb dL_same_208 hl (by decide) rfl (fun ls hl => ?_)
                  refine lv_aload_n hx hb dL_same_210 rfl (lv_at hl 4 rfl) ?_
                  refine lv_iload hx hb dL_same_211 (lv_at hl 1 rfl) ?_
                  refine lv_iload hx hb dL_same_213 (lv_at hl 0 rfl) ?_
                  have hH0 := hH
                  obtain ⟨ada, adb, ea, eb, hT⟩ := hH
                  refine va_calli (vx_runSW (As := [.ref a0, .int 6, .int y88]) (rest := []) ⟨hx, hb, hml, hown, hts⟩ (cm_L_of l hfl (tG G adb F86.2.1 ca) ada F86.1 6 y88 a0 ea _) (vx_cwSW 3 hts gL_same_L_of rfl rfl rfl (by decide +kernel) ⟨Nat.le_of_ble_eq_true rfl, Nat.le_of_ble_eq_true rfl⟩) ⟨fun a U g mk h => ⟨h.1, ⟨gD_blind h.2.1.1, gL.moved (u := U) (U := U.calling g mk a) (Vm.Alike.refl U.vm) h.2.1.2⟩, h.2.2⟩, fun U hU hW => ⟨rfl, ⟨tD_A hK hG hB hT hS hU hW, gL.moved hW.alike hL⟩, q⟩⟩ rfl rfl hl.1 rfl (lv_room (Nat.le_of_ble_eq_true rfl)) dL_same_215 ⟨Nat.le_of_ble_eq_true rfl, Nat.le_of_ble_eq_true rfl⟩) hS (fun _ _ h => h.1) (fun _ h => h.1) (fun r89 Z90 t H locs ht hvm q hB1 hz hk hS => ?_)
                  have hB1 : gH (tG G adb F86.2.1 ca) ada Z90 H := gH_to ht hB1
                  have hT := tO_A hT hk hB1
                  obtain ⟨F91, eF91, q⟩ := q
                  have hH : tH G a0 b0 ca F91 H := tH_eq ⟨ada, adb, ea, eb, hT⟩ eF91
                  refine lv_aload_n hx hb dL_same_218 rfl (lv_at hl 5 rfl) ?_
                  refine lv_iload hx hb dL_same_219 (lv_at hl 1 rfl) ?_
                  refine lv_iload hx hb dL_same_221 (lv_at hl 0 rfl) ?_
                  have hH0 := hH
                  obtain ⟨ada, adb, ea, eb, hT⟩ := hH
                  refine va_calli (vx_runSW (As := [.ref b0, .int 6, .int y88]) (rest := [.int r89]) ⟨hx, hb, hml, hown, hts⟩ (cm_L_of l hfl (tG G ada F91.1 ca) adb F91.2.1 6 y88 b0 eb _) (vx_cwSW 3 hts gL_same_L_of rfl rfl rfl (by decide +kernel) ⟨Nat.le_of_ble_eq_true rfl, Nat.le_of_ble_eq_true rfl⟩) ⟨fun a U g mk h => ⟨h.1, ⟨gD_blind h.2.1.1, gL.moved (u := U) (U := U.calling g mk a) (Vm.Alike.refl U.vm) h.2.1.2⟩, h.2.2⟩, fun U hU hW => ⟨rfl, ⟨tD_B hK hG hB hT hS hU hW, gL.moved hW.alike hL⟩, q⟩⟩ rfl rfl hl.1 rfl (lv_room (Nat.le_of_ble_eq_true rfl)) dL_same_223 ⟨Nat.le_of_ble_eq_true rfl, Nat.le_of_ble_eq_true rfl⟩) hS (fun _ _ h => h.1) (fun _ h => h.1) (fun r92 Z93 t H locs ht hvm q hB1 hz hk hS => ?_)
                  have hB1 : gH (tG G ada F91.1 ca) adb Z93 H := gH_to ht hB1
                  have hT := tO_B hT hk hB1
                  obtain ⟨F94, eF94, q⟩ := q
                  have hH : tH G a0 b0 ca F94 H := tH_eq ⟨ada, adb, ea, eb, hT⟩ eF94
                  refine lv_icmp_ne (tgt := 233) hx hb dL_same_226 (by decide) (fun c95 => ?_) (fun c95 => ?_)
                  · have q := (if_neg c95).mp q
                    refine lv_iconst (v := 0) hx hb dL_same_233 (by decide) ?_
                    refine lv_istore (lv' := [(4, .int 0), (8, .int y88), (7, .int 6), (6, .int s0), (0, .ref a0), (1, .ref b0), (3, .int x3), (5, .int x5)]) hx hb dL_same_234 hl (by decide) rfl (fun ls hl => ?_)
                    refine lv_iinc (v := 7) (lv' := [(7, .int 7), (4, .int 0), (8, .int y88), (6, .int s0), (0, .ref a0), (1, .ref b0), (3, .int x3), (5, .int x5)]) hx hb dL_same_236 hl (k := 2) rfl (by decide) (by decide) rfl (fun ls hl => ?_)
                    refine lv_goto (tgt := 140) hx hb dL_same_239 (by decide) ?_
                    refine lv_iload hx hb dL_same_140 (lv_at hl 0 rfl) ?_
                    refine lv_bipush (v := 12) hx hb dL_same_142 (by decide) ?_
                    refine lv_icmp_ge (tgt := 242) hx hb dL_same_144 (by decide) (fun z => absurd z (show ¬ ((12 : Int32) ≤ (7 : Int32)) from by decide)) (fun _ => ?_)
                    refine lv_iload hx hb dL_same_147 (lv_at hl 1 rfl) ?_
                    refine lv_if_eq (tgt := 242) hx hb dL_same_149 (by decide) (fun _ => ?_) (fun z => absurd (show (0 : Int32) = (0 : Int32) from by decide) z)
                    refine W.widen (k := 28) (n := 168) (Nat.le_of_ble_eq_true rfl) (Nat.le_of_ble_eq_true rfl) ?_
                    exact t_242 F94 x3 0 x5 s0 _ _ _ hH hS (lv_sub hl [4, 5, 6, 1, 7, 3] rfl) q
                  · have q := (if_pos c95).mp q
                    refine lv_iconst (v := 1) hx hb dL_same_229 (by decide) ?_
                    refine lv_goto (tgt := 234) hx hb dL_same_230 (by decide) ?_
                    refine lv_istore (lv' := [(4, .int 1), (8, .int y88), (7, .int 6), (6, .int s0), (0, .ref a0), (1, .ref b0), (3, .int x3), (5, .int x5)]) hx hb dL_same_234 hl (by decide) rfl (fun ls hl => ?_)
                    refine lv_iinc (v := 7) (lv' := [(7, .int 7), (4, .int 1), (8, .int y88), (6, .int s0), (0, .ref a0), (1, .ref b0), (3, .int x3), (5, .int x5)]) hx hb dL_same_236 hl (k := 2) rfl (by decide) (by decide) rfl (fun ls hl => ?_)
                    refine lv_goto (tgt := 140) hx hb dL_same_239 (by decide) ?_
                    refine lv_iload hx hb dL_same_140 (lv_at hl 0 rfl) ?_
                    refine lv_bipush (v := 12) hx hb dL_same_142 (by decide) ?_
                    refine lv_icmp_ge (tgt := 242) hx hb dL_same_144 (by decide) (fun z => absurd z (show ¬ ((12 : Int32) ≤ (7 : Int32)) from by decide)) (fun _ => ?_)
                    refine lv_iload hx hb dL_same_147 (lv_at hl 1 rfl) ?_
                    refine lv_if_eq (tgt := 242) hx hb dL_same_149 (by decide) (fun z => absurd z (show ¬ ((1 : Int32) = (0 : Int32)) from by decide)) (fun _ => ?_)
                    refine lv_iload hx hb dL_same_152 (lv_at hl 0 rfl) ?_
                    refine lv_iconst (v := 2) hx hb dL_same_154 (by decide) ?_
                    refine lv_icmp_ge (tgt := 163) hx hb dL_same_155 (by decide) (fun _ => ?_) (fun z => absurd (show (2 : Int32) ≤ (7 : Int32) from by decide) z)
                    refine lv_iload hx hb dL_same_163 (lv_at hl 0 rfl) ?_
                    refine lv_bipush (v := 6) hx hb dL_same_165 (by decide) ?_
                    refine lv_icmp_ge (tgt := 175) hx hb dL_same_167 (by decide) (fun _ => ?_) (fun z => absurd (show (6 : Int32) ≤ (7 : Int32) from by decide) z)
                    refine lv_iload hx hb dL_same_175 (lv_at hl 0 rfl) ?_
                    refine lv_bipush (v := 8) hx hb dL_same_177 (by decide) ?_
                    refine lv_icmp_ge (tgt := 191) hx hb dL_same_179 (by decide) (fun z => absurd z (show ¬ ((8 : Int32) ≤ (7 : Int32)) from by decide)) (fun _ => ?_)
                    refine lv_iload_n hx hb dL_same_182 rfl (lv_at hl 6 rfl) ?_
                    refine lv_iconst (v := 5) hx hb dL_same_183 (by decide) ?_
                    refine lv_idiv hx hb dL_same_184 (by decide) ?_
                    refine lv_bipush (v := 8) hx hb dL_same_185 (by decide) ?_
                    refine lv_irem hx hb dL_same_187 (by decide) ?_
                    refine lv_goto (tgt := 208) hx hb dL_same_188 (by decide) ?_
                    refine lv_topi (fun y96 ey96 => ?_)
                    have q := q y96 ey96
                    refine lv_istore (lv' := [(8, .int y96), (7, .int 7), (4, .int 1), (6, .int s0), (0, .ref a0), (1, .ref b0), (3, .int x3), (5, .int x5)]) hx hb dL_same_208 hl (by decide) rfl (fun ls hl => ?_)
                    refine lv_aload_n hx hb dL_same_210 rfl (lv_at hl 4 rfl) ?_
                    refine lv_iload hx hb dL_same_211 (lv_at hl 1 rfl) ?_
                    refine lv_iload hx hb dL_same_213 (lv_at hl 0 rfl) ?_
                    have hH0 := hH
                    obtain ⟨ada, adb, ea, eb, hT⟩ := hH
                    refine va_calli (vx_runSW (As := [.ref a0, .int 7, .int y96]) (rest := []) ⟨hx, hb, hml, hown, hts⟩ (cm_L_of l hfl (tG G adb F94.2.1 ca) ada F94.1 7 y96 a0 ea _) (vx_cwSW 3 hts gL_same_L_of rfl rfl rfl (by decide +kernel) ⟨Nat.le_of_ble_eq_true rfl, Nat.le_of_ble_eq_true rfl⟩) ⟨fun a U g mk h => ⟨h.1, ⟨gD_blind h.2.1.1, gL.moved (u := U) (U := U.calling g mk a) (Vm.Alike.refl U.vm) h.2.1.2⟩, h.2.2⟩, fun U hU hW => ⟨rfl, ⟨tD_A hK hG hB hT hS hU hW, gL.moved hW.alike hL⟩, q⟩⟩ rfl rfl hl.1 rfl (lv_room (Nat.le_of_ble_eq_true rfl)) dL_same_215 ⟨Nat.le_of_ble_eq_true rfl, Nat.le_of_ble_eq_true rfl⟩) hS (fun _ _ h => h.1) (fun _ h => h.1) (fun r97 Z98 t H locs ht hvm q hB1 hz hk hS => ?_)
                    have hB1 : gH (tG G adb F94.2.1 ca) ada Z98 H := gH_to ht hB1
                    have hT := tO_A hT hk hB1
                    obtain ⟨F99, eF99, q⟩ := q
                    have hH : tH G a0 b0 ca F99 H := tH_eq ⟨ada, adb, ea, eb, hT⟩ eF99
                    refine lv_aload_n hx hb dL_same_218 rfl (lv_at hl 5 rfl) ?_
                    refine lv_iload hx hb dL_same_219 (lv_at hl 1 rfl) ?_
                    refine lv_iload hx hb dL_same_221 (lv_at hl 0 rfl) ?_
                    have hH0 := hH
                    obtain ⟨ada, adb, ea, eb, hT⟩ := hH
                    refine va_calli (vx_runSW (As := [.ref b0, .int 7, .int y96]) (rest := [.int r97]) ⟨hx, hb, hml, hown, hts⟩ (cm_L_of l hfl (tG G ada F99.1 ca) adb F99.2.1 7 y96 b0 eb _) (vx_cwSW 3 hts gL_same_L_of rfl rfl rfl (by decide +kernel) ⟨Nat.le_of_ble_eq_true rfl, Nat.le_of_ble_eq_true rfl⟩) ⟨fun a U g mk h => ⟨h.1, ⟨gD_blind h.2.1.1, gL.moved (u := U) (U := U.calling g mk a) (Vm.Alike.refl U.vm) h.2.1.2⟩, h.2.2⟩, fun U hU hW => ⟨rfl, ⟨tD_B hK hG hB hT hS hU hW, gL.moved hW.alike hL⟩, q⟩⟩ rfl rfl hl.1 rfl (lv_room (Nat.le_of_ble_eq_true rfl)) dL_same_223 ⟨Nat.le_of_ble_eq_true rfl, Nat.le_of_ble_eq_true rfl⟩) hS (fun _ _ h => h.1) (fun _ h => h.1) (fun r100 Z101 t H locs ht hvm q hB1 hz hk hS => ?_)
                    have hB1 : gH (tG G ada F99.1 ca) adb Z101 H := gH_to ht hB1
                    have hT := tO_B hT hk hB1
                    obtain ⟨F102, eF102, q⟩ := q
                    have hH : tH G a0 b0 ca F102 H := tH_eq ⟨ada, adb, ea, eb, hT⟩ eF102
                    refine lv_icmp_ne (tgt := 233) hx hb dL_same_226 (by decide) (fun c103 => ?_) (fun c103 => ?_)
                    · have q := (if_neg c103).mp q
                      refine lv_iconst (v := 0) hx hb dL_same_233 (by decide) ?_
                      refine lv_istore (lv' := [(4, .int 0), (8, .int y96), (7, .int 7), (6, .int s0), (0, .ref a0), (1, .ref b0), (3, .int x3), (5, .int x5)]) hx hb dL_same_234 hl (by decide) rfl (fun ls hl => ?_)
                      refine lv_iinc (v := 8) (lv' := [(7, .int 8), (4, .int 0), (8, .int y96), (6, .int s0), (0, .ref a0), (1, .ref b0), (3, .int x3), (5, .int x5)]) hx hb dL_same_236 hl (k := 2) rfl (by decide) (by decide) rfl (fun ls hl => ?_)
                      refine lv_goto (tgt := 140) hx hb dL_same_239 (by decide) ?_
                      refine lv_iload hx hb dL_same_140 (lv_at hl 0 rfl) ?_
                      refine lv_bipush (v := 12) hx hb dL_same_142 (by decide) ?_
                      refine lv_icmp_ge (tgt := 242) hx hb dL_same_144 (by decide) (fun z => absurd z (show ¬ ((12 : Int32) ≤ (8 : Int32)) from by decide)) (fun _ => ?_)
                      refine lv_iload hx hb dL_same_147 (lv_at hl 1 rfl) ?_
                      refine lv_if_eq (tgt := 242) hx hb dL_same_149 (by decide) (fun _ => ?_) (fun z => absurd (show (0 : Int32) = (0 : Int32) from by decide) z)
                      refine W.widen (k := 28) (n := 168) (Nat.le_of_ble_eq_true rfl) (Nat.le_of_ble_eq_true rfl) ?_
                      exact t_242 F102 x3 0 x5 s0 _ _ _ hH hS (lv_sub hl [4, 5, 6, 1, 7, 3] rfl) q
                    · have q := (if_pos c103).mp q
                      refine lv_iconst (v := 1) hx hb dL_same_229 (by decide) ?_
                      refine lv_goto (tgt := 234) hx hb dL_same_230 (by decide) ?_
                      refine lv_istore (lv' := [(4, .int 1), (8, .int y96), (7, .int 7), (6, .int s0), (0, .ref a0), (1, .ref b0), (3, .int x3), (5, .int x5)]) hx hb dL_same_234 hl (by decide) rfl (fun ls hl => ?_)
                      refine lv_iinc (v := 8) (lv' := [(7, .int 8), (4, .int 1), (8, .int y96), (6, .int s0), (0, .ref a0), (1, .ref b0), (3, .int x3), (5, .int x5)]) hx hb dL_same_236 hl (k := 2) rfl (by decide) (by decide) rfl (fun ls hl => ?_)
                      refine lv_goto (tgt := 140) hx hb dL_same_239 (by decide) ?_
                      refine lv_iload hx hb dL_same_140 (lv_at hl 0 rfl) ?_
                      refine lv_bipush (v := 12) hx hb dL_same_142 (by decide) ?_
                      refine lv_icmp_ge (tgt := 242) hx hb dL_same_144 (by decide) (fun z => absurd z (show ¬ ((12 : Int32) ≤ (8 : Int32)) from by decide)) (fun _ => ?_)
                      refine lv_iload hx hb dL_same_147 (lv_at hl 1 rfl) ?_
                      refine lv_if_eq (tgt := 242) hx hb dL_same_149 (by decide) (fun z => absurd z (show ¬ ((1 : Int32) = (0 : Int32)) from by decide)) (fun _ => ?_)
                      refine lv_iload hx hb dL_same_152 (lv_at hl 0 rfl) ?_
                      refine lv_iconst (v := 2) hx hb dL_same_154 (by decide) ?_
                      refine lv_icmp_ge (tgt := 163) hx hb dL_same_155 (by decide) (fun _ => ?_) (fun z => absurd (show (2 : Int32) ≤ (8 : Int32) from by decide) z)
                      refine lv_iload hx hb dL_same_163 (lv_at hl 0 rfl) ?_
                      refine lv_bipush (v := 6) hx hb dL_same_165 (by decide) ?_
                      refine lv_icmp_ge (tgt := 175) hx hb dL_same_167 (by decide) (fun _ => ?_) (fun z => absurd (show (6 : Int32) ≤ (8 : Int32) from by decide) z)
                      refine lv_iload hx hb dL_same_175 (lv_at hl 0 rfl) ?_
                      refine lv_bipush (v := 8) hx hb dL_same_177 (by decide) ?_
                      refine lv_icmp_ge (tgt := 191) hx hb dL_same_179 (by decide) (fun _ => ?_) (fun z => absurd (show (8 : Int32) ≤ (8 : Int32) from by decide) z)
                      refine lv_iload hx hb dL_same_191 (lv_at hl 0 rfl) ?_
                      refine lv_bipush (v := 11) hx hb dL_same_193 (by decide) ?_
                      refine lv_icmp_ge (tgt := 204) hx hb dL_same_195 (by decide) (fun z => absurd z (show ¬ ((11 : Int32) ≤ (8 : Int32)) from by decide)) (fun _ => ?_)
                      refine lv_iload_n hx hb dL_same_198 rfl (lv_at hl 6 rfl) ?_
                      refine lv_iconst (v := 5) hx hb dL_same_199 (by decide) ?_
                      refine lv_irem hx hb dL_same_200 (by decide) ?_
                      refine lv_goto (tgt := 208) hx hb dL_same_201 (by decide) ?_
                      refine lv_istore (lv' := [(8, .int (x3 - x3 / 5 * 5)), (7, .int 8), (4, .int 1), (6, .int s0), (0, .ref a0), (1, .ref b0), (3, .int x3), (5, .int x5)]) hx hb dL_same_208 hl (by decide) rfl (fun ls hl => ?_)
                      refine lv_aload_n hx hb dL_same_210 rfl (lv_at hl 4 rfl) ?_
                      refine lv_iload hx hb dL_same_211 (lv_at hl 1 rfl) ?_
                      refine lv_iload hx hb dL_same_213 (lv_at hl 0 rfl) ?_
                      have hH0 := hH
                      obtain ⟨ada, adb, ea, eb, hT⟩ := hH
                      refine va_calli (vx_runSW (As := [.ref a0, .int 8, .int (x3 - x3 / 5 * 5)]) (rest := []) ⟨hx, hb, hml, hown, hts⟩ (cm_L_of l hfl (tG G adb F102.2.1 ca) ada F102.1 8 (x3 - x3 / 5 * 5) a0 ea _) (vx_cwSW 3 hts gL_same_L_of rfl rfl rfl (by decide +kernel) ⟨Nat.le_of_ble_eq_true rfl, Nat.le_of_ble_eq_true rfl⟩) ⟨fun a U g mk h => ⟨h.1, ⟨gD_blind h.2.1.1, gL.moved (u := U) (U := U.calling g mk a) (Vm.Alike.refl U.vm) h.2.1.2⟩, h.2.2⟩, fun U hU hW => ⟨rfl, ⟨tD_A hK hG hB hT hS hU hW, gL.moved hW.alike hL⟩, q⟩⟩ rfl rfl hl.1 rfl (lv_room (Nat.le_of_ble_eq_true rfl)) dL_same_215 ⟨Nat.le_of_ble_eq_true rfl, Nat.le_of_ble_eq_true rfl⟩) hS (fun _ _ h => h.1) (fun _ h => h.1) (fun r104 Z105 t H locs ht hvm q hB1 hz hk hS => ?_)
                      have hB1 : gH (tG G adb F102.2.1 ca) ada Z105 H := gH_to ht hB1
                      have hT := tO_A hT hk hB1
                      obtain ⟨F106, eF106, q⟩ := q
                      have hH : tH G a0 b0 ca F106 H := tH_eq ⟨ada, adb, ea, eb, hT⟩ eF106
                      refine lv_aload_n hx hb dL_same_218 rfl (lv_at hl 5 rfl) ?_
                      refine lv_iload hx hb dL_same_219 (lv_at hl 1 rfl) ?_
                      refine lv_iload hx hb dL_same_221 (lv_at hl 0 rfl) ?_
                      have hH0 := hH
                      obtain ⟨ada, adb, ea, eb, hT⟩ := hH
                      refine va_calli (vx_runSW (As := [.ref b0, .int 8, .int (x3 - x3 / 5 * 5)]) (rest := [.int r104]) ⟨hx, hb, hml, hown, hts⟩ (cm_L_of l hfl (tG G ada F106.1 ca) adb F106.2.1 8 (x3 - x3 / 5 * 5) b0 eb _) (vx_cwSW 3 hts gL_same_L_of rfl rfl rfl (by decide +kernel) ⟨Nat.le_of_ble_eq_true rfl, Nat.le_of_ble_eq_true rfl⟩) ⟨fun a U g mk h => ⟨h.1, ⟨gD_blind h.2.1.1, gL.moved (u := U) (U := U.calling g mk a) (Vm.Alike.refl U.vm) h.2.1.2⟩, h.2.2⟩, fun U hU hW => ⟨rfl, ⟨tD_B hK hG hB hT hS hU hW, gL.moved hW.alike hL⟩, q⟩⟩ rfl rfl hl.1 rfl (lv_room (Nat.le_of_ble_eq_true rfl)) dL_same_223 ⟨Nat.le_of_ble_eq_true rfl, Nat.le_of_ble_eq_true rfl⟩) hS (fun _ _ h => h.1) (fun _ h => h.1) (fun r107 Z108 t H locs ht hvm q hB1 hz hk hS => ?_)
                      have hB1 : gH (tG G ada F106.1 ca) adb Z108 H := gH_to ht hB1
                      have hT := tO_B hT hk hB1
                      obtain ⟨F109, eF109, q⟩ := q
                      have hH : tH G a0 b0 ca F109 H := tH_eq ⟨ada, adb, ea, eb, hT⟩ eF109
                      refine lv_icmp_ne (tgt := 233) hx hb dL_same_226 (by decide) (fun c110 => ?_) (fun c110 => ?_)
                      · have q := (if_neg c110).mp q
                        refine lv_iconst (v := 0) hx hb dL_same_233 (by decide) ?_
                        refine lv_istore (lv' := [(4, .int 0), (8, .int (x3 - x3 / 5 * 5)), (7, .int 8), (6, .int s0), (0, .ref a0), (1, .ref b0), (3, .int x3), (5, .int x5)]) hx hb dL_same_234 hl (by decide) rfl (fun ls hl => ?_)
                        refine lv_iinc (v := 9) (lv' := [(7, .int 9), (4, .int 0), (8, .int (x3 - x3 / 5 * 5)), (6, .int s0), (0, .ref a0), (1, .ref b0), (3, .int x3), (5, .int x5)]) hx hb dL_same_236 hl (k := 2) rfl (by decide) (by decide) rfl (fun ls hl => ?_)
                        refine lv_goto (tgt := 140) hx hb dL_same_239 (by decide) ?_
                        refine lv_iload hx hb dL_same_140 (lv_at hl 0 rfl) ?_
                        refine lv_bipush (v := 12) hx hb dL_same_142 (by decide) ?_
                        refine lv_icmp_ge (tgt := 242) hx hb dL_same_144 (by decide) (fun z => absurd z (show ¬ ((12 : Int32) ≤ (9 : Int32)) from by decide)) (fun _ => ?_)
                        refine lv_iload hx hb dL_same_147 (lv_at hl 1 rfl) ?_
                        refine lv_if_eq (tgt := 242) hx hb dL_same_149 (by decide) (fun _ => ?_) (fun z => absurd (show (0 : Int32) = (0 : Int32) from by decide) z)
                        refine W.widen (k := 28) (n := 168) (Nat.le_of_ble_eq_true rfl) (Nat.le_of_ble_eq_true rfl) ?_
                        exact t_242 F109 x3 0 x5 s0 _ _ _ hH hS (lv_sub hl [4, 5, 6, 1, 7, 3] rfl) q
                      · have q := (if_pos c110).mp q
                        refine lv_iconst (v := 1) hx hb dL_same_229 (by decide) ?_
                        refine lv_goto (tgt := 234) hx hb dL_same_230 (by decide) ?_
                        refine lv_istore (lv' := [(4, .int 1), (8, .int (x3 - x3 / 5 * 5)), (7, .int 8), (6, .int s0), (0, .ref a0), (1, .ref b0), (3, .int x3), (5, .int x5)]) hx hb dL_same_234 hl (by decide) rfl (fun ls hl => ?_)
                        refine lv_iinc (v := 9) (lv' := [(7, .int 9), (4, .int 1), (8, .int (x3 - x3 / 5 * 5)), (6, .int s0), (0, .ref a0), (1, .ref b0), (3, .int x3), (5, .int x5)]) hx hb dL_same_236 hl (k := 2) rfl (by decide) (by decide) rfl (fun ls hl => ?_)
                        refine lv_goto (tgt := 140) hx hb dL_same_239 (by decide) ?_
                        refine lv_iload hx hb dL_same_140 (lv_at hl 0 rfl) ?_
                        refine lv_bipush (v := 12) hx hb dL_same_142 (by decide) ?_
                        refine lv_icmp_ge (tgt := 242) hx hb dL_same_144 (by decide) (fun z => absurd z (show ¬ ((12 : Int32) ≤ (9 : Int32)) from by decide)) (fun _ => ?_)
                        refine lv_iload hx hb dL_same_147 (lv_at hl 1 rfl) ?_
                        refine lv_if_eq (tgt := 242) hx hb dL_same_149 (by decide) (fun z => absurd z (show ¬ ((1 : Int32) = (0 : Int32)) from by decide)) (fun _ => ?_)
                        refine lv_iload hx hb dL_same_152 (lv_at hl 0 rfl) ?_
                        refine lv_iconst (v := 2) hx hb dL_same_154 (by decide) ?_
                        refine lv_icmp_ge (tgt := 163) hx hb dL_same_155 (by decide) (fun _ => ?_) (fun z => absurd (show (2 : Int32) ≤ (9 : Int32) from by decide) z)
                        refine lv_iload hx hb dL_same_163 (lv_at hl 0 rfl) ?_
                        refine lv_bipush (v := 6) hx hb dL_same_165 (by decide) ?_
                        refine lv_icmp_ge (tgt := 175) hx hb dL_same_167 (by decide) (fun _ => ?_) (fun z => absurd (show (6 : Int32) ≤ (9 : Int32) from by decide) z)
                        refine lv_iload hx hb dL_same_175 (lv_at hl 0 rfl) ?_
                        refine lv_bipush (v := 8) hx hb dL_same_177 (by decide) ?_
                        refine lv_icmp_ge (tgt := 191) hx hb dL_same_179 (by decide) (fun _ => ?_) (fun z => absurd (show (8 : Int32) ≤ (9 : Int32) from by decide) z)
                        refine lv_iload hx hb dL_same_191 (lv_at hl 0 rfl) ?_
                        refine lv_bipush (v := 11) hx hb dL_same_193 (by decide) ?_
                        refine lv_icmp_ge (tgt := 204) hx hb dL_same_195 (by decide) (fun z => absurd z (show ¬ ((11 : Int32) ≤ (9 : Int32)) from by decide)) (fun _ => ?_)
                        refine lv_iload_n hx hb dL_same_198 rfl (lv_at hl 6 rfl) ?_
                        refine lv_iconst (v := 5) hx hb dL_same_199 (by decide) ?_
                        refine lv_irem hx hb dL_same_200 (by decide) ?_
                        refine lv_goto (tgt := 208) hx hb dL_same_201 (by decide) ?_
                        refine lv_istore (lv' := [(8, .int (x3 - x3 / 5 * 5)), (7, .int 9), (4, .int 1), (6, .int s0), (0, .ref a0), (1, .ref b0), (3, .int x3), (5, .int x5)]) hx hb dL_same_208 hl (by decide) rfl (fun ls hl => ?_)
                        refine lv_aload_n hx hb dL_same_210 rfl (lv_at hl 4 rfl) ?_
                        refine lv_iload hx hb dL_same_211 (lv_at hl 1 rfl) ?_
                        refine lv_iload hx hb dL_same_213 (lv_at hl 0 rfl) ?_
                        have hH0 := hH
                        obtain ⟨ada, adb, ea, eb, hT⟩ := hH
                        refine va_calli (vx_runSW (As := [.ref a0, .int 9, .int (x3 - x3 / 5 * 5)]) (rest := []) ⟨hx, hb, hml, hown, hts⟩ (cm_L_of l hfl (tG G adb F109.2.1 ca) ada F109.1 9 (x3 - x3 / 5 * 5) a0 ea _) (vx_cwSW 3 hts gL_same_L_of rfl rfl rfl (by decide +kernel) ⟨Nat.le_of_ble_eq_true rfl, Nat.le_of_ble_eq_true rfl⟩) ⟨fun a U g mk h => ⟨h.1, ⟨gD_blind h.2.1.1, gL.moved (u := U) (U := U.calling g mk a) (Vm.Alike.refl U.vm) h.2.1.2⟩, h.2.2⟩, fun U hU hW => ⟨rfl, ⟨tD_A hK hG hB hT hS hU hW, gL.moved hW.alike hL⟩, q⟩⟩ rfl rfl hl.1 rfl (lv_room (Nat.le_of_ble_eq_true rfl)) dL_same_215 ⟨Nat.le_of_ble_eq_true rfl, Nat.le_of_ble_eq_true rfl⟩) hS (fun _ _ h => h.1) (fun _ h => h.1) (fun r111 Z112 t H locs ht hvm q hB1 hz hk hS => ?_)
                        have hB1 : gH (tG G adb F109.2.1 ca) ada Z112 H := gH_to ht hB1
                        have hT := tO_A hT hk hB1
                        obtain ⟨F113, eF113, q⟩ := q
                        have hH : tH G a0 b0 ca F113 H := tH_eq ⟨ada, adb, ea, eb, hT⟩ eF113
                        refine lv_aload_n hx hb dL_same_218 rfl (lv_at hl 5 rfl) ?_
                        refine lv_iload hx hb dL_same_219 (lv_at hl 1 rfl) ?_
                        refine lv_iload hx hb dL_same_221 (lv_at hl 0 rfl) ?_
                        have hH0 := hH
                        obtain ⟨ada, adb, ea, eb, hT⟩ := hH
                        refine va_calli (vx_runSW (As := [.ref b0, .int 9, .int (x3 - x3 / 5 * 5)]) (rest := [.int r111]) ⟨hx, hb, hml, hown, hts⟩ (cm_L_of l hfl (tG G ada F113.1 ca) adb F113.2.1 9 (x3 - x3 / 5 * 5) b0 eb _) (vx_cwSW 3 hts gL_same_L_of rfl rfl rfl (by decide +kernel) ⟨Nat.le_of_ble_eq_true rfl, Nat.le_of_ble_eq_true rfl⟩) ⟨fun a U g mk h => ⟨h.1, ⟨gD_blind h.2.1.1, gL.moved (u := U) (U := U.calling g mk a) (Vm.Alike.refl U.vm) h.2.1.2⟩, h.2.2⟩, fun U hU hW => ⟨rfl, ⟨tD_B hK hG hB hT hS hU hW, gL.moved hW.alike hL⟩, q⟩⟩ rfl rfl hl.1 rfl (lv_room (Nat.le_of_ble_eq_true rfl)) dL_same_223 ⟨Nat.le_of_ble_eq_true rfl, Nat.le_of_ble_eq_true rfl⟩) hS (fun _ _ h => h.1) (fun _ h => h.1) (fun r114 Z115 t H locs ht hvm q hB1 hz hk hS => ?_)
                        have hB1 : gH (tG G ada F113.1 ca) adb Z115 H := gH_to ht hB1
                        have hT := tO_B hT hk hB1
                        obtain ⟨F116, eF116, q⟩ := q
                        have hH : tH G a0 b0 ca F116 H := tH_eq ⟨ada, adb, ea, eb, hT⟩ eF116
                        refine lv_icmp_ne (tgt := 233) hx hb dL_same_226 (by decide) (fun c117 => ?_) (fun c117 => ?_)
                        · have q := (if_neg c117).mp q
                          refine lv_iconst (v := 0) hx hb dL_same_233 (by decide) ?_
                          refine lv_istore (lv' := [(4, .int 0), (8, .int (x3 - x3 / 5 * 5)), (7, .int 9), (6, .int s0), (0, .ref a0), (1, .ref b0), (3, .int x3), (5, .int x5)]) hx hb dL_same_234 hl (by decide) rfl (fun ls hl => ?_)
                          refine lv_iinc (v := 10) (lv' := [(7, .int 10), (4, .int 0), (8, .int (x3 - x3 / 5 * 5)), (6, .int s0), (0, .ref a0), (1, .ref b0), (3, .int x3), (5, .int x5)]) hx hb dL_same_236 hl (k := 2) rfl (by decide) (by decide) rfl (fun ls hl => ?_)
                          refine lv_goto (tgt := 140) hx hb dL_same_239 (by decide) ?_
                          refine lv_iload hx hb dL_same_140 (lv_at hl 0 rfl) ?_
                          refine lv_bipush (v := 12) hx hb dL_same_142 (by decide) ?_
                          refine lv_icmp_ge (tgt := 242) hx hb dL_same_144 (by decide) (fun z => absurd z (show ¬ ((12 : Int32) ≤ (10 : Int32)) from by decide)) (fun _ => ?_)
                          refine lv_iload hx hb dL_same_147 (lv_at hl 1 rfl) ?_
                          refine lv_if_eq (tgt := 242) hx hb dL_same_149 (by decide) (fun _ => ?_) (fun z => absurd (show (0 : Int32) = (0 : Int32) from by decide) z)
                          refine W.widen (k := 28) (n := 168) (Nat.le_of_ble_eq_true rfl) (Nat.le_of_ble_eq_true rfl) ?_
                          exact t_242 F116 x3 0 x5 s0 _ _ _ hH hS (lv_sub hl [4, 5, 6, 1, 7, 3] rfl) q
                        · have q := (if_pos c117).mp q
                          refine lv_iconst (v := 1) hx hb dL_same_229 (by decide) ?_
                          refine lv_goto (tgt := 234) hx hb dL_same_230 (by decide) ?_
                          refine lv_istore (lv' := [(4, .int 1), (8, .int (x3 - x3 / 5 * 5)), (7, .int 9), (6, .int s0), (0, .ref a0), (1, .ref b0), (3, .int x3), (5, .int x5)]) hx hb dL_same_234 hl (by decide) rfl (fun ls hl => ?_)
                          refine lv_iinc (v := 10) (lv' := [(7, .int 10), (4, .int 1), (8, .int (x3 - x3 / 5 * 5)), (6, .int s0), (0, .ref a0), (1, .ref b0), (3, .int x3), (5, .int x5)]) hx hb dL_same_236 hl (k := 2) rfl (by decide) (by decide) rfl (fun ls hl => ?_)
                          refine lv_goto (tgt := 140) hx hb dL_same_239 (by decide) ?_
                          refine lv_iload hx hb dL_same_140 (lv_at hl 0 rfl) ?_
                          refine lv_bipush (v := 12) hx hb dL_same_142 (by decide) ?_
                          refine lv_icmp_ge (tgt := 242) hx hb dL_same_144 (by decide) (fun z => absurd z (show ¬ ((12 : Int32) ≤ (10 : Int32)) from by decide)) (fun _ => ?_)
                          refine lv_iload hx hb dL_same_147 (lv_at hl 1 rfl) ?_
                          refine lv_if_eq (tgt := 242) hx hb dL_same_149 (by decide) (fun z => absurd z (show ¬ ((1 : Int32) = (0 : Int32)) from by decide)) (fun _ => ?_)
                          refine lv_iload hx hb dL_same_152 (lv_at hl 0 rfl) ?_
                          refine lv_iconst (v := 2) hx hb dL_same_154 (by decide) ?_
                          refine lv_icmp_ge (tgt := 163) hx hb dL_same_155 (by decide) (fun _ => ?_) (fun z => absurd (show (2 : Int32) ≤ (10 : Int32) from by decide) z)
                          refine lv_iload hx hb dL_same_163 (lv_at hl 0 rfl) ?_
                          refine lv_bipush (v := 6) hx hb dL_same_165 (by decide) ?_
                          refine lv_icmp_ge (tgt := 175) hx hb dL_same_167 (by decide) (fun _ => ?_) (fun z => absurd (show (6 : Int32) ≤ (10 : Int32) from by decide) z)
                          refine lv_iload hx hb dL_same_175 (lv_at hl 0 rfl) ?_
                          refine lv_bipush (v := 8) hx hb dL_same_177 (by decide) ?_
                          refine lv_icmp_ge (tgt := 191) hx hb dL_same_179 (by decide) (fun _ => ?_) (fun z => absurd (show (8 : Int32) ≤ (10 : Int32) from by decide) z)
                          refine lv_iload hx hb dL_same_191 (lv_at hl 0 rfl) ?_
                          refine lv_bipush (v := 11) hx hb dL_same_193 (by decide) ?_
                          refine lv_icmp_ge (tgt := 204) hx hb dL_same_195 (by decide) (fun z => absurd z (show ¬ ((11 : Int32) ≤ (10 : Int32)) from by decide)) (fun _ => ?_)
                          refine lv_iload_n hx hb dL_same_198 rfl (lv_at hl 6 rfl) ?_
                          refine lv_iconst (v := 5) hx hb dL_same_199 (by decide) ?_
                          refine lv_irem hx hb dL_same_200 (by decide) ?_
                          refine lv_goto (tgt := 208) hx hb dL_same_201 (by decide) ?_
                          refine lv_istore (lv' := [(8, .int (x3 - x3 / 5 * 5)), (7, .int 10), (4, .int 1), (6, .int s0), (0, .ref a0), (1, .ref b0), (3, .int x3), (5, .int x5)]) hx hb dL_same_208 hl (by decide) rfl (fun ls hl => ?_)
                          refine lv_aload_n hx hb dL_same_210 rfl (lv_at hl 4 rfl) ?_
                          refine lv_iload hx hb dL_same_211 (lv_at hl 1 rfl) ?_
                          refine lv_iload hx hb dL_same_213 (lv_at hl 0 rfl) ?_
                          have hH0 := hH
                          obtain ⟨ada, adb, ea, eb, hT⟩ := hH
                          refine va_calli (vx_runSW (As := [.ref a0, .int 10, .int (x3 - x3 / 5 * 5)]) (rest := []) ⟨hx, hb, hml, hown, hts⟩ (cm_L_of l hfl (tG G adb F116.2.1 ca) ada F116.1 10 (x3 - x3 / 5 * 5) a0 ea _) (vx_cwSW 3 hts gL_same_L_of rfl rfl rfl (by decide +kernel) ⟨Nat.le_of_ble_eq_true rfl, Nat.le_of_ble_eq_true rfl⟩) ⟨fun a U g mk h => ⟨h.1, ⟨gD_blind h.2.1.1, gL.moved (u := U) (U := U.calling g mk a) (Vm.Alike.refl U.vm) h.2.1.2⟩, h.2.2⟩, fun U hU hW => ⟨rfl, ⟨tD_A hK hG hB hT hS hU hW, gL.moved hW.alike hL⟩, q⟩⟩ rfl rfl hl.1 rfl (lv_room (Nat.le_of_ble_eq_true rfl)) dL_same_215 ⟨Nat.le_of_ble_eq_true rfl, Nat.le_of_ble_eq_true rfl⟩) hS (fun _ _ h => h.1) (fun _ h => h.1) (fun r118 Z119 t H locs ht hvm q hB1 hz hk hS => ?_)
                          have hB1 : gH (tG G adb F116.2.1 ca) ada Z119 H := gH_to ht hB1
                          have hT := tO_A hT hk hB1
                          obtain ⟨F120, eF120, q⟩ := q
                          have hH : tH G a0 b0 ca F120 H := tH_eq ⟨ada, adb, ea, eb, hT⟩ eF120
                          refine lv_aload_n hx hb dL_same_218 rfl (lv_at hl 5 rfl) ?_
                          refine lv_iload hx hb dL_same_219 (lv_at hl 1 rfl) ?_
                          refine lv_iload hx hb dL_same_221 (lv_at hl 0 rfl) ?_
                          have hH0 := hH
                          obtain ⟨ada, adb, ea, eb, hT⟩ := hH
                          refine va_calli (vx_runSW (As := [.ref b0, .int 10, .int (x3 - x3 / 5 * 5)]) (rest := [.int r118]) ⟨hx, hb, hml, hown, hts⟩ (cm_L_of l hfl (tG G ada F120.1 ca) adb F120.2.1 10 (x3 - x3 / 5 * 5) b0 eb _) (vx_cwSW 3 hts gL_same_L_of rfl rfl rfl (by decide +kernel) ⟨Nat.le_of_ble_eq_true rfl, Nat.le_of_ble_eq_true rfl⟩) ⟨fun a U g mk h => ⟨h.1, ⟨gD_blind h.2.1.1, gL.moved (u := U) (U := U.calling g mk a) (Vm.Alike.refl U.vm) h.2.1.2⟩, h.2.2⟩, fun U hU hW => ⟨rfl, ⟨tD_B hK hG hB hT hS hU hW, gL.moved hW.alike hL⟩, q⟩⟩ rfl rfl hl.1 rfl (lv_room (Nat.le_of_ble_eq_true rfl)) dL_same_223 ⟨Nat.le_of_ble_eq_true rfl, Nat.le_of_ble_eq_true rfl⟩) hS (fun _ _ h => h.1) (fun _ h => h.1) (fun r121 Z122 t H locs ht hvm q hB1 hz hk hS => ?_)
                          have hB1 : gH (tG G ada F120.1 ca) adb Z122 H := gH_to ht hB1
                          have hT := tO_B hT hk hB1
                          obtain ⟨F123, eF123, q⟩ := q
                          have hH : tH G a0 b0 ca F123 H := tH_eq ⟨ada, adb, ea, eb, hT⟩ eF123
                          refine lv_icmp_ne (tgt := 233) hx hb dL_same_226 (by decide) (fun c124 => ?_) (fun c124 => ?_)
                          · have q := (if_neg c124).mp q
                            refine lv_iconst (v := 0) hx hb dL_same_233 (by decide) ?_
                            refine lv_istore (lv' := [(4, .int 0), (8, .int (x3 - x3 / 5 * 5)), (7, .int 10), (6, .int s0), (0, .ref a0), (1, .ref b0), (3, .int x3), (5, .int x5)]) hx hb dL_same_234 hl (by decide) rfl (fun ls hl => ?_)
                            refine lv_iinc (v := 11) (lv' := [(7, .int 11), (4, .int 0), (8, .int (x3 - x3 / 5 * 5)), (6, .int s0), (0, .ref a0), (1, .ref b0), (3, .int x3), (5, .int x5)]) hx hb dL_same_236 hl (k := 2) rfl (by decide) (by decide) rfl (fun ls hl => ?_)
                            refine lv_goto (tgt := 140) hx hb dL_same_239 (by decide) ?_
                            refine lv_iload hx hb dL_same_140 (lv_at hl 0 rfl) ?_
                            refine lv_bipush (v := 12) hx hb dL_same_142 (by decide) ?_
                            refine lv_icmp_ge (tgt := 242) hx hb dL_same_144 (by decide) (fun z => absurd z (show ¬ ((12 : Int32) ≤ (11 : Int32)) from by decide)) (fun _ => ?_)
                            refine lv_iload hx hb dL_same_147 (lv_at hl 1 rfl) ?_
                            refine lv_if_eq (tgt := 242) hx hb dL_same_149 (by decide) (fun _ => ?_) (fun z => absurd (show (0 : Int32) = (0 : Int32) from by decide) z)
                            refine W.widen (k := 28) (n := 168) (Nat.le_of_ble_eq_true rfl) (Nat.le_of_ble_eq_true rfl) ?_
                            exact t_242 F123 x3 0 x5 s0 _ _ _ hH hS (lv_sub hl [4, 5, 6, 1, 7, 3] rfl) q
                          · have q := (if_pos c124).mp q
                            refine lv_iconst (v := 1) hx hb dL_same_229 (by decide) ?_
                            refine lv_goto (tgt := 234) hx hb dL_same_230 (by decide) ?_
                            refine lv_istore (lv' := [(4, .int 1), (8, .int (x3 - x3 / 5 * 5)), (7, .int 10), (6, .int s0), (0, .ref a0), (1, .ref b0), (3, .int x3), (5, .int x5)]) hx hb dL_same_234 hl (by decide) rfl (fun ls hl => ?_)
                            refine lv_iinc (v := 11) (lv' := [(7, .int 11), (4, .int 1), (8, .int (x3 - x3 / 5 * 5)), (6, .int s0), (0, .ref a0), (1, .ref b0), (3, .int x3), (5, .int x5)]) hx hb dL_same_236 hl (k := 2) rfl (by decide) (by decide) rfl (fun ls hl => ?_)
                            refine lv_goto (tgt := 140) hx hb dL_same_239 (by decide) ?_
                            refine lv_iload hx hb dL_same_140 (lv_at hl 0 rfl) ?_
                            refine lv_bipush (v := 12) hx hb dL_same_142 (by decide) ?_
                            refine lv_icmp_ge (tgt := 242) hx hb dL_same_144 (by decide) (fun z => absurd z (show ¬ ((12 : Int32) ≤ (11 : Int32)) from by decide)) (fun _ => ?_)
                            refine lv_iload hx hb dL_same_147 (lv_at hl 1 rfl) ?_
                            refine lv_if_eq (tgt := 242) hx hb dL_same_149 (by decide) (fun z => absurd z (show ¬ ((1 : Int32) = (0 : Int32)) from by decide)) (fun _ => ?_)
                            refine lv_iload hx hb dL_same_152 (lv_at hl 0 rfl) ?_
                            refine lv_iconst (v := 2) hx hb dL_same_154 (by decide) ?_
                            refine lv_icmp_ge (tgt := 163) hx hb dL_same_155 (by decide) (fun _ => ?_) (fun z => absurd (show (2 : Int32) ≤ (11 : Int32) from by decide) z)
                            refine lv_iload hx hb dL_same_163 (lv_at hl 0 rfl) ?_
                            refine lv_bipush (v := 6) hx hb dL_same_165 (by decide) ?_
                            refine lv_icmp_ge (tgt := 175) hx hb dL_same_167 (by decide) (fun _ => ?_) (fun z => absurd (show (6 : Int32) ≤ (11 : Int32) from by decide) z)
                            refine lv_iload hx hb dL_same_175 (lv_at hl 0 rfl) ?_
                            refine lv_bipush (v := 8) hx hb dL_same_177 (by decide) ?_
                            refine lv_icmp_ge (tgt := 191) hx hb dL_same_179 (by decide) (fun _ => ?_) (fun z => absurd (show (8 : Int32) ≤ (11 : Int32) from by decide) z)
                            refine lv_iload hx hb dL_same_191 (lv_at hl 0 rfl) ?_
                            refine lv_bipush (v := 11) hx hb dL_same_193 (by decide) ?_
                            refine lv_icmp_ge (tgt := 204) hx hb dL_same_195 (by decide) (fun _ => ?_) (fun z => absurd (show (11 : Int32) ≤ (11 : Int32) from by decide) z)
                            refine lv_iload_n hx hb dL_same_204 rfl (lv_at hl 6 rfl) ?_
                            refine lv_bipush (v := 6) hx hb dL_same_205 (by decide) ?_
                            refine lv_irem hx hb dL_same_207 (by decide) ?_
                            refine lv_istore (lv' := [(8, .int (x3 - x3 / 6 * 6)), (7, .int 11), (4, .int 1), (6, .int s0), (0, .ref a0), (1, .ref b0), (3, .int x3), (5, .int x5)]) hx hb dL_same_208 hl (by decide) rfl (fun ls hl => ?_)
                            refine lv_aload_n hx hb dL_same_210 rfl (lv_at hl 4 rfl) ?_
                            refine lv_iload hx hb dL_same_211 (lv_at hl 1 rfl) ?_
                            refine lv_iload hx hb dL_same_213 (lv_at hl 0 rfl) ?_
                            have hH0 := hH
                            obtain ⟨ada, adb, ea, eb, hT⟩ := hH
                            refine va_calli (vx_runSW (As := [.ref a0, .int 11, .int (x3 - x3 / 6 * 6)]) (rest := []) ⟨hx, hb, hml, hown, hts⟩ (cm_L_of l hfl (tG G adb F123.2.1 ca) ada F123.1 11 (x3 - x3 / 6 * 6) a0 ea _) (vx_cwSW 3 hts gL_same_L_of rfl rfl rfl (by decide +kernel) ⟨Nat.le_of_ble_eq_true rfl, Nat.le_of_ble_eq_true rfl⟩) ⟨fun a U g mk h => ⟨h.1, ⟨gD_blind h.2.1.1, gL.moved (u := U) (U := U.calling g mk a) (Vm.Alike.refl U.vm) h.2.1.2⟩, h.2.2⟩, fun U hU hW => ⟨rfl, ⟨tD_A hK hG hB hT hS hU hW, gL.moved hW.alike hL⟩, q⟩⟩ rfl rfl hl.1 rfl (lv_room (Nat.le_of_ble_eq_true rfl)) dL_same_215 ⟨Nat.le_of_ble_eq_true rfl, Nat.le_of_ble_eq_true rfl⟩) hS (fun _ _ h => h.1) (fun _ h => h.1) (fun r125 Z126 t H locs ht hvm q hB1 hz hk hS => ?_)
                            have hB1 : gH (tG G adb F123.2.1 ca) ada Z126 H := gH_to ht hB1
                            have hT := tO_A hT hk hB1
                            obtain ⟨F127, eF127, q⟩ := q
                            have hH : tH G a0 b0 ca F127 H := tH_eq ⟨ada, adb, ea, eb, hT⟩ eF127
                            refine lv_aload_n hx hb dL_same_218 rfl (lv_at hl 5 rfl) ?_
                            refine lv_iload hx hb dL_same_219 (lv_at hl 1 rfl) ?_
                            refine lv_iload hx hb dL_same_221 (lv_at hl 0 rfl) ?_
                            have hH0 := hH
                            obtain ⟨ada, adb, ea, eb, hT⟩ := hH
                            refine va_calli (vx_runSW (As := [.ref b0, .int 11, .int (x3 - x3 / 6 * 6)]) (rest := [.int r125]) ⟨hx, hb, hml, hown, hts⟩ (cm_L_of l hfl (tG G ada F127.1 ca) adb F127.2.1 11 (x3 - x3 / 6 * 6) b0 eb _) (vx_cwSW 3 hts gL_same_L_of rfl rfl rfl (by decide +kernel) ⟨Nat.le_of_ble_eq_true rfl, Nat.le_of_ble_eq_true rfl⟩) ⟨fun a U g mk h => ⟨h.1, ⟨gD_blind h.2.1.1, gL.moved (u := U) (U := U.calling g mk a) (Vm.Alike.refl U.vm) h.2.1.2⟩, h.2.2⟩, fun U hU hW => ⟨rfl, ⟨tD_B hK hG hB hT hS hU hW, gL.moved hW.alike hL⟩, q⟩⟩ rfl rfl hl.1 rfl (lv_room (Nat.le_of_ble_eq_true rfl)) dL_same_223 ⟨Nat.le_of_ble_eq_true rfl, Nat.le_of_ble_eq_true rfl⟩) hS (fun _ _ h => h.1) (fun _ h => h.1) (fun r128 Z129 t H locs ht hvm q hB1 hz hk hS => ?_)
                            have hB1 : gH (tG G ada F127.1 ca) adb Z129 H := gH_to ht hB1
                            have hT := tO_B hT hk hB1
                            obtain ⟨F130, eF130, q⟩ := q
                            have hH : tH G a0 b0 ca F130 H := tH_eq ⟨ada, adb, ea, eb, hT⟩ eF130
                            refine lv_icmp_ne (tgt := 233) hx hb dL_same_226 (by decide) (fun c131 => ?_) (fun c131 => ?_)
                            · have q := (if_neg c131).mp q
                              refine lv_iconst (v := 0) hx hb dL_same_233 (by decide) ?_
                              refine lv_istore (lv' := [(4, .int 0), (8, .int (x3 - x3 / 6 * 6)), (7, .int 11), (6, .int s0), (0, .ref a0), (1, .ref b0), (3, .int x3), (5, .int x5)]) hx hb dL_same_234 hl (by decide) rfl (fun ls hl => ?_)
                              refine lv_iinc (v := 12) (lv' := [(7, .int 12), (4, .int 0), (8, .int (x3 - x3 / 6 * 6)), (6, .int s0), (0, .ref a0), (1, .ref b0), (3, .int x3), (5, .int x5)]) hx hb dL_same_236 hl (k := 2) rfl (by decide) (by decide) rfl (fun ls hl => ?_)
                              refine lv_goto (tgt := 140) hx hb dL_same_239 (by decide) ?_
                              refine lv_iload hx hb dL_same_140 (lv_at hl 0 rfl) ?_
                              refine lv_bipush (v := 12) hx hb dL_same_142 (by decide) ?_
                              refine lv_icmp_ge (tgt := 242) hx hb dL_same_144 (by decide) (fun _ => ?_) (fun z => absurd (show (12 : Int32) ≤ (12 : Int32) from by decide) z)
                              exact t_242 F130 x3 0 x5 s0 _ _ _ hH hS (lv_sub hl [4, 5, 6, 1, 7, 3] rfl) q
                            · have q := (if_pos c131).mp q
                              refine lv_iconst (v := 1) hx hb dL_same_229 (by decide) ?_
                              refine lv_goto (tgt := 234) hx hb dL_same_230 (by decide) ?_
                              refine lv_istore (lv' := [(4, .int 1), (8, .int (x3 - x3 / 6 * 6)), (7, .int 11), (6, .int s0), (0, .ref a0), (1, .ref b0), (3, .int x3), (5, .int x5)]) hx hb dL_same_234 hl (by decide) rfl (fun ls hl => ?_)
                              refine lv_iinc (v := 12) (lv' := [(7, .int 12), (4, .int 1), (8, .int (x3 - x3 / 6 * 6)), (6, .int s0), (0, .ref a0), (1, .ref b0), (3, .int x3), (5, .int x5)]) hx hb dL_same_236 hl (k := 2) rfl (by decide) (by decide) rfl (fun ls hl => ?_)
                              refine lv_goto (tgt := 140) hx hb dL_same_239 (by decide) ?_
                              refine lv_iload hx hb dL_same_140 (lv_at hl 0 rfl) ?_
                              refine lv_bipush (v := 12) hx hb dL_same_142 (by decide) ?_
                              refine lv_icmp_ge (tgt := 242) hx hb dL_same_144 (by decide) (fun _ => ?_) (fun z => absurd (show (12 : Int32) ≤ (12 : Int32) from by decide) z)
                              exact t_242 F130 x3 1 x5 s0 _ _ _ hH hS (lv_sub hl [4, 5, 6, 1, 7, 3] rfl) q
  have t_118 : ∀ (F : S3) (x3 : Int32) (x4 : Int32) (s0 : Int32) (H : Heap) (locs : List Loc) (ls : Array Slot), tH G a0 b0 ca F H → va_S (gA (zg G)) s.heap H locs → lv_has ls 9 [(0, .ref a0), (1, .ref b0), (2, .ref ca), (3, .int x3), (4, .int x4)] → (P_M_same_118 K) F x3 x4 s0 → W p l e rm_L_same s m ([.ref a0, .ref b0, .ref ca, .int p3] : List Value).toArray below meth c H locs 4 24 (q_L_same G a0 b0 ca K below ([.ref a0, .ref b0, .ref ca, .int p3] : List Value).toArray s) (F0 m 118 ls [.int s0]) := by
    intro F x3 x4 s0 H locs ls hH hS hl q
    unfold P_M_same_118 at q
    refine lv_istore (lv' := [(5, .int s0), (0, .ref a0), (1, .ref b0), (2, .ref ca), (3, .int x3), (4, .int x4)]) hx hb dL_same_118 hl (by decide) rfl (fun ls hl => ?_)
    refine lv_aload_n hx hb dL_same_120 rfl (lv_at hl 3 rfl) ?_
    refine lv_iconst (v := 1) hx hb dL_same_121 (by decide) ?_
    obtain ⟨h12, q⟩ := q
    refine t_cld hx hb hK hH h12 dL_same_122 ?_
    refine lv_if_ne (tgt := 130) hx hb dL_same_123 (by decide) (fun c13 => ?_) (fun c13 => ?_)
    · have q := (if_neg c13).mp q
      refine lv_iload_n hx hb dL_same_130 rfl (lv_at hl 4 rfl) ?_
      refine lv_aload_n hx hb dL_same_131 rfl (lv_at hl 3 rfl) ?_
      refine lv_iconst (v := 1) hx hb dL_same_132 (by decide) ?_
      obtain ⟨h14, q⟩ := q
      refine t_cld hx hb hK hH h14 dL_same_133 ?_
      obtain ⟨h15, q⟩ := q
      refine lv_irem hx hb dL_same_134 h15 ?_
      exact t_135 F x3 x4 s0 (x3 - x3 / (F.2.2 (1 : Int32).toNatClampNeg) * (F.2.2 (1 : Int32).toNatClampNeg)) _ _ _ hH hS (lv_sub hl [1, 2, 4, 5, 0] rfl) q
    · have q := (if_pos c13).mp q
      refine lv_iconst (v := 0) hx hb dL_same_126 (by decide) ?_
      refine lv_goto (tgt := 135) hx hb dL_same_127 (by decide) ?_
      exact t_135 F x3 x4 s0 0 _ _ _ hH hS (lv_sub hl [1, 2, 4, 5, 0] rfl) q
  have t_101 : ∀ (F : S3) (x3 : Int32) (s0 : Int32) (H : Heap) (locs : List Loc) (ls : Array Slot), tH G a0 b0 ca F H → va_S (gA (zg G)) s.heap H locs → lv_has ls 9 [(0, .ref a0), (1, .ref b0), (2, .ref ca), (3, .int x3)] → (P_M_same_101 K) F x3 s0 → W p l e rm_L_same s m ([.ref a0, .ref b0, .ref ca, .int p3] : List Value).toArray below meth c H locs 4 24 (q_L_same G a0 b0 ca K below ([.ref a0, .ref b0, .ref ca, .int p3] : List Value).toArray s) (F0 m 101 ls [.int s0]) := by
    intro F x3 s0 H locs ls hH hS hl q
    unfold P_M_same_101 at q
    refine lv_istore (lv' := [(4, .int s0), (0, .ref a0), (1, .ref b0), (2, .ref ca), (3, .int x3)]) hx hb dL_same_101 hl (by decide) rfl (fun ls hl => ?_)
    refine lv_aload_n hx hb dL_same_103 rfl (lv_at hl 3 rfl) ?_
    refine lv_iconst (v := 0) hx hb dL_same_104 (by decide) ?_
    obtain ⟨h8, q⟩ := q
    refine t_cld hx hb hK hH h8 dL_same_105 ?_
    refine lv_if_ne (tgt := 113) hx hb dL_same_106 (by decide) (fun c9 => ?_) (fun c9 => ?_)
    · have q := (if_neg c9).mp q
      refine lv_iload_n hx hb dL_same_113 rfl (lv_at hl 4 rfl) ?_
      refine lv_aload_n hx hb dL_same_114 rfl (lv_at hl 3 rfl) ?_
      refine lv_iconst (v := 0) hx hb dL_same_115 (by decide) ?_
      obtain ⟨h10, q⟩ := q
      refine t_cld hx hb hK hH h10 dL_same_116 ?_
      obtain ⟨h11, q⟩ := q
      refine lv_irem hx hb dL_same_117 h11 ?_
      exact t_118 F x3 s0 (x3 - x3 / (F.2.2 (0 : Int32).toNatClampNeg) * (F.2.2 (0 : Int32).toNatClampNeg)) _ _ _ hH hS (lv_sub hl [1, 2, 3, 4, 0] rfl) q
    · have q := (if_pos c9).mp q
      refine lv_iconst (v := 0) hx hb dL_same_109 (by decide) ?_
      refine lv_goto (tgt := 118) hx hb dL_same_110 (by decide) ?_
      exact t_118 F x3 s0 0 _ _ _ hH hS (lv_sub hl [1, 2, 3, 4, 0] rfl) q
  have t_100 : ∀ (F : S3) (x3 : Int32) (H : Heap) (locs : List Loc) (ls : Array Slot), tH G a0 b0 ca F H → va_S (gA (zg G)) s.heap H locs → lv_has ls 9 [(0, .ref a0), (1, .ref b0), (2, .ref ca), (3, .int x3)] → (P_M_same_100 K) F x3 → W p l e rm_L_same s m ([.ref a0, .ref b0, .ref ca, .int p3] : List Value).toArray below meth c H locs 4 24 (q_L_same G a0 b0 ca K below ([.ref a0, .ref b0, .ref ca, .int p3] : List Value).toArray s) (F0 m 100 ls []) := by
    intro F x3 H locs ls hH hS hl q
    unfold P_M_same_100 at q
    refine lv_iconst (v := 0) hx hb dL_same_100 (by decide) ?_
    exact t_101 F x3 0 _ _ _ hH hS (lv_sub hl [0, 1, 2, 3] rfl) q
  unfold P_M_same at q
  refine lv_aload_n hx hb dL_same_0 rfl (lv_at hl 0 rfl) ?_
  have hH0 := hH
  obtain ⟨ada, adb, ea, eb, hT⟩ := hH
  refine va_calli (va_runV (As := []) (rest := []) ⟨hx, hb, hml, hown, hts⟩ (cm_X10_today l (tG G adb F.2.1 ca) ada F.1 a0 ea _) (cwV 0 hts gL_same_X10_today rfl rfl rfl (by decide +kernel) ⟨Nat.le_of_ble_eq_true rfl, Nat.le_of_ble_eq_true rfl⟩) ⟨fun a U g mk h => ⟨h.1, gD_blind h.2.1, h.2.2⟩, t_recvA (C := RX10) (T := TX10) (N := 8) hK hH0 (fun _ => ⟨_, rfl⟩) rfl, fun U hU hW => ⟨rfl, tD_A hK hG hB hT hS hU hW, q⟩⟩ rfl rfl hl.1 rfl (lv_room (Nat.le_of_ble_eq_true rfl)) dL_same_1 ⟨Nat.le_of_ble_eq_true rfl, Nat.le_of_ble_eq_true rfl⟩) hS (fun _ _ h => h.1) (fun _ h => h.1) (fun r1 Z2 t H locs ht hvm q hB1 hz hk hS => ?_)
  have hB1 : gH (tG G adb F.2.1 ca) ada Z2 H := gH_to ht hB1
  have hT := tO_A hT hk hB1
  obtain ⟨F3, eF3, q⟩ := q
  have hH : tH G a0 b0 ca F3 H := tH_eq ⟨ada, adb, ea, eb, hT⟩ eF3
  refine lv_aload_n hx hb dL_same_4 rfl (lv_at hl 1 rfl) ?_
  have hH0 := hH
  obtain ⟨ada, adb, ea, eb, hT⟩ := hH
  refine va_calli (va_runV (As := []) (rest := [.int r1]) ⟨hx, hb, hml, hown, hts⟩ (cm_X10_today l (tG G ada F3.1 ca) adb F3.2.1 b0 eb _) (cwV 0 hts gL_same_X10_today rfl rfl rfl (by decide +kernel) ⟨Nat.le_of_ble_eq_true rfl, Nat.le_of_ble_eq_true rfl⟩) ⟨fun a U g mk h => ⟨h.1, gD_blind h.2.1, h.2.2⟩, t_recvB (C := RX10) (T := TX10) (N := 8) hK hH0 (fun _ => ⟨_, rfl⟩) rfl, fun U hU hW => ⟨rfl, tD_B hK hG hB hT hS hU hW, q⟩⟩ rfl rfl hl.1 rfl (lv_room (Nat.le_of_ble_eq_true rfl)) dL_same_5 ⟨Nat.le_of_ble_eq_true rfl, Nat.le_of_ble_eq_true rfl⟩) hS (fun _ _ h => h.1) (fun _ h => h.1) (fun r4 Z5 t H locs ht hvm q hB1 hz hk hS => ?_)
  have hB1 : gH (tG G ada F3.1 ca) adb Z5 H := gH_to ht hB1
  have hT := tO_B hT hk hB1
  obtain ⟨F6, eF6, q⟩ := q
  have hH : tH G a0 b0 ca F6 H := tH_eq ⟨ada, adb, ea, eb, hT⟩ eF6
  refine lv_icmp_ne (tgt := 100) hx hb dL_same_8 (by decide) (fun c7 => ?_) (fun c7 => ?_)
  · have q := (if_neg c7).mp q
    refine W.widen (k := 4) (n := 24) (Nat.le_of_ble_eq_true rfl) (Nat.le_of_ble_eq_true rfl) ?_
    exact t_100 F6 p3 _ _ _ hH hS (lv_sub hl [0, 1, 2, 3] rfl) q
  · have q := (if_pos c7).mp q
    refine lv_aload_n hx hb dL_same_11 rfl (lv_at hl 0 rfl) ?_
    have hH0 := hH
    obtain ⟨ada, adb, ea, eb, hT⟩ := hH
    refine va_calli (va_runV (As := []) (rest := []) ⟨hx, hb, hml, hown, hts⟩ (cm_X10_stage l (tG G adb F6.2.1 ca) ada F6.1 a0 ea _) (cwV 0 hts gL_same_X10_stage rfl rfl rfl (by decide +kernel) ⟨Nat.le_of_ble_eq_true rfl, Nat.le_of_ble_eq_true rfl⟩) ⟨fun a U g mk h => ⟨h.1, gD_blind h.2.1, h.2.2⟩, t_recvA (C := RX10) (T := TX10) (N := 8) hK hH0 (fun _ => ⟨_, rfl⟩) rfl, fun U hU hW => ⟨rfl, tD_A hK hG hB hT hS hU hW, q⟩⟩ rfl rfl hl.1 rfl (lv_room (Nat.le_of_ble_eq_true rfl)) dL_same_12 ⟨Nat.le_of_ble_eq_true rfl, Nat.le_of_ble_eq_true rfl⟩) hS (fun _ _ h => h.1) (fun _ h => h.1) (fun r132 Z133 t H locs ht hvm q hB1 hz hk hS => ?_)
    have hB1 : gH (tG G adb F6.2.1 ca) ada Z133 H := gH_to ht hB1
    have hT := tO_A hT hk hB1
    obtain ⟨F134, eF134, q⟩ := q
    have hH : tH G a0 b0 ca F134 H := tH_eq ⟨ada, adb, ea, eb, hT⟩ eF134
    refine lv_aload_n hx hb dL_same_15 rfl (lv_at hl 1 rfl) ?_
    have hH0 := hH
    obtain ⟨ada, adb, ea, eb, hT⟩ := hH
    refine va_calli (va_runV (As := []) (rest := [.int r132]) ⟨hx, hb, hml, hown, hts⟩ (cm_X10_stage l (tG G ada F134.1 ca) adb F134.2.1 b0 eb _) (cwV 0 hts gL_same_X10_stage rfl rfl rfl (by decide +kernel) ⟨Nat.le_of_ble_eq_true rfl, Nat.le_of_ble_eq_true rfl⟩) ⟨fun a U g mk h => ⟨h.1, gD_blind h.2.1, h.2.2⟩, t_recvB (C := RX10) (T := TX10) (N := 8) hK hH0 (fun _ => ⟨_, rfl⟩) rfl, fun U hU hW => ⟨rfl, tD_B hK hG hB hT hS hU hW, q⟩⟩ rfl rfl hl.1 rfl (lv_room (Nat.le_of_ble_eq_true rfl)) dL_same_16 ⟨Nat.le_of_ble_eq_true rfl, Nat.le_of_ble_eq_true rfl⟩) hS (fun _ _ h => h.1) (fun _ h => h.1) (fun r135 Z136 t H locs ht hvm q hB1 hz hk hS => ?_)
    have hB1 : gH (tG G ada F134.1 ca) adb Z136 H := gH_to ht hB1
    have hT := tO_B hT hk hB1
    obtain ⟨F137, eF137, q⟩ := q
    have hH : tH G a0 b0 ca F137 H := tH_eq ⟨ada, adb, ea, eb, hT⟩ eF137
    refine lv_icmp_ne (tgt := 100) hx hb dL_same_19 (by decide) (fun c138 => ?_) (fun c138 => ?_)
    · have q := (if_neg c138).mp q
      refine W.widen (k := 4) (n := 24) (Nat.le_of_ble_eq_true rfl) (Nat.le_of_ble_eq_true rfl) ?_
      exact t_100 F137 p3 _ _ _ hH hS (lv_sub hl [0, 1, 2, 3] rfl) q
    · have q := (if_pos c138).mp q
      refine lv_aload_n hx hb dL_same_22 rfl (lv_at hl 0 rfl) ?_
      have hH0 := hH
      obtain ⟨ada, adb, ea, eb, hT⟩ := hH
      refine va_calli (va_runV (As := []) (rest := []) ⟨hx, hb, hml, hown, hts⟩ (cm_X10_envelopes l (tG G adb F137.2.1 ca) ada F137.1 a0 ea _) (cwV 0 hts gL_same_X10_envelopes rfl rfl rfl (by decide +kernel) ⟨Nat.le_of_ble_eq_true rfl, Nat.le_of_ble_eq_true rfl⟩) ⟨fun a U g mk h => ⟨h.1, gD_blind h.2.1, h.2.2⟩, t_recvA (C := RX10) (T := TX10) (N := 8) hK hH0 (fun _ => ⟨_, rfl⟩) rfl, fun U hU hW => ⟨rfl, tD_A hK hG hB hT hS hU hW, q⟩⟩ rfl rfl hl.1 rfl (lv_room (Nat.le_of_ble_eq_true rfl)) dL_same_23 ⟨Nat.le_of_ble_eq_true rfl, Nat.le_of_ble_eq_true rfl⟩) hS (fun _ _ h => h.1) (fun _ h => h.1) (fun r139 Z140 t H locs ht hvm q hB1 hz hk hS => ?_)
      have hB1 : gH (tG G adb F137.2.1 ca) ada Z140 H := gH_to ht hB1
      have hT := tO_A hT hk hB1
      obtain ⟨F141, eF141, q⟩ := q
      have hH : tH G a0 b0 ca F141 H := tH_eq ⟨ada, adb, ea, eb, hT⟩ eF141
      refine lv_aload_n hx hb dL_same_26 rfl (lv_at hl 1 rfl) ?_
      have hH0 := hH
      obtain ⟨ada, adb, ea, eb, hT⟩ := hH
      refine va_calli (va_runV (As := []) (rest := [.int r139]) ⟨hx, hb, hml, hown, hts⟩ (cm_X10_envelopes l (tG G ada F141.1 ca) adb F141.2.1 b0 eb _) (cwV 0 hts gL_same_X10_envelopes rfl rfl rfl (by decide +kernel) ⟨Nat.le_of_ble_eq_true rfl, Nat.le_of_ble_eq_true rfl⟩) ⟨fun a U g mk h => ⟨h.1, gD_blind h.2.1, h.2.2⟩, t_recvB (C := RX10) (T := TX10) (N := 8) hK hH0 (fun _ => ⟨_, rfl⟩) rfl, fun U hU hW => ⟨rfl, tD_B hK hG hB hT hS hU hW, q⟩⟩ rfl rfl hl.1 rfl (lv_room (Nat.le_of_ble_eq_true rfl)) dL_same_27 ⟨Nat.le_of_ble_eq_true rfl, Nat.le_of_ble_eq_true rfl⟩) hS (fun _ _ h => h.1) (fun _ h => h.1) (fun r142 Z143 t H locs ht hvm q hB1 hz hk hS => ?_)
      have hB1 : gH (tG G ada F141.1 ca) adb Z143 H := gH_to ht hB1
      have hT := tO_B hT hk hB1
      obtain ⟨F144, eF144, q⟩ := q
      have hH : tH G a0 b0 ca F144 H := tH_eq ⟨ada, adb, ea, eb, hT⟩ eF144
      refine lv_icmp_ne (tgt := 100) hx hb dL_same_30 (by decide) (fun c145 => ?_) (fun c145 => ?_)
      · have q := (if_neg c145).mp q
        refine W.widen (k := 4) (n := 24) (Nat.le_of_ble_eq_true rfl) (Nat.le_of_ble_eq_true rfl) ?_
        exact t_100 F144 p3 _ _ _ hH hS (lv_sub hl [0, 1, 2, 3] rfl) q
      · have q := (if_pos c145).mp q
        refine lv_aload_n hx hb dL_same_33 rfl (lv_at hl 0 rfl) ?_
        have hH0 := hH
        obtain ⟨ada, adb, ea, eb, hT⟩ := hH
        refine va_calli (va_runV (As := []) (rest := []) ⟨hx, hb, hml, hown, hts⟩ (cm_X10_notes l (tG G adb F144.2.1 ca) ada F144.1 a0 ea _) (cwV 0 hts gL_same_X10_notes rfl rfl rfl (by decide +kernel) ⟨Nat.le_of_ble_eq_true rfl, Nat.le_of_ble_eq_true rfl⟩) ⟨fun a U g mk h => ⟨h.1, gD_blind h.2.1, h.2.2⟩, t_recvA (C := RX10) (T := TX10) (N := 8) hK hH0 (fun _ => ⟨_, rfl⟩) rfl, fun U hU hW => ⟨rfl, tD_A hK hG hB hT hS hU hW, q⟩⟩ rfl rfl hl.1 rfl (lv_room (Nat.le_of_ble_eq_true rfl)) dL_same_34 ⟨Nat.le_of_ble_eq_true rfl, Nat.le_of_ble_eq_true rfl⟩) hS (fun _ _ h => h.1) (fun _ h => h.1) (fun r146 Z147 t H locs ht hvm q hB1 hz hk hS => ?_)
        have hB1 : gH (tG G adb F144.2.1 ca) ada Z147 H := gH_to ht hB1
        have hT := tO_A hT hk hB1
        obtain ⟨F148, eF148, q⟩ := q
        have hH : tH G a0 b0 ca F148 H := tH_eq ⟨ada, adb, ea, eb, hT⟩ eF148
        refine lv_aload_n hx hb dL_same_37 rfl (lv_at hl 1 rfl) ?_
        have hH0 := hH
        obtain ⟨ada, adb, ea, eb, hT⟩ := hH
        refine va_calli (va_runV (As := []) (rest := [.int r146]) ⟨hx, hb, hml, hown, hts⟩ (cm_X10_notes l (tG G ada F148.1 ca) adb F148.2.1 b0 eb _) (cwV 0 hts gL_same_X10_notes rfl rfl rfl (by decide +kernel) ⟨Nat.le_of_ble_eq_true rfl, Nat.le_of_ble_eq_true rfl⟩) ⟨fun a U g mk h => ⟨h.1, gD_blind h.2.1, h.2.2⟩, t_recvB (C := RX10) (T := TX10) (N := 8) hK hH0 (fun _ => ⟨_, rfl⟩) rfl, fun U hU hW => ⟨rfl, tD_B hK hG hB hT hS hU hW, q⟩⟩ rfl rfl hl.1 rfl (lv_room (Nat.le_of_ble_eq_true rfl)) dL_same_38 ⟨Nat.le_of_ble_eq_true rfl, Nat.le_of_ble_eq_true rfl⟩) hS (fun _ _ h => h.1) (fun _ h => h.1) (fun r149 Z150 t H locs ht hvm q hB1 hz hk hS => ?_)
        have hB1 : gH (tG G ada F148.1 ca) adb Z150 H := gH_to ht hB1
        have hT := tO_B hT hk hB1
        obtain ⟨F151, eF151, q⟩ := q
        have hH : tH G a0 b0 ca F151 H := tH_eq ⟨ada, adb, ea, eb, hT⟩ eF151
        refine lv_icmp_ne (tgt := 100) hx hb dL_same_41 (by decide) (fun c152 => ?_) (fun c152 => ?_)
        · have q := (if_neg c152).mp q
          refine W.widen (k := 4) (n := 24) (Nat.le_of_ble_eq_true rfl) (Nat.le_of_ble_eq_true rfl) ?_
          exact t_100 F151 p3 _ _ _ hH hS (lv_sub hl [0, 1, 2, 3] rfl) q
        · have q := (if_pos c152).mp q
          refine lv_aload_n hx hb dL_same_44 rfl (lv_at hl 0 rfl) ?_
          have hH0 := hH
          obtain ⟨ada, adb, ea, eb, hT⟩ := hH
          refine va_calli (va_runV (As := []) (rest := []) ⟨hx, hb, hml, hown, hts⟩ (cm_X10_lots l (tG G adb F151.2.1 ca) ada F151.1 a0 ea _) (cwV 0 hts gL_same_X10_lots rfl rfl rfl (by decide +kernel) ⟨Nat.le_of_ble_eq_true rfl, Nat.le_of_ble_eq_true rfl⟩) ⟨fun a U g mk h => ⟨h.1, gD_blind h.2.1, h.2.2⟩, t_recvA (C := RX10) (T := TX10) (N := 8) hK hH0 (fun _ => ⟨_, rfl⟩) rfl, fun U hU hW => ⟨rfl, tD_A hK hG hB hT hS hU hW, q⟩⟩ rfl rfl hl.1 rfl (lv_room (Nat.le_of_ble_eq_true rfl)) dL_same_45 ⟨Nat.le_of_ble_eq_true rfl, Nat.le_of_ble_eq_true rfl⟩) hS (fun _ _ h => h.1) (fun _ h => h.1) (fun r153 Z154 t H locs ht hvm q hB1 hz hk hS => ?_)
          have hB1 : gH (tG G adb F151.2.1 ca) ada Z154 H := gH_to ht hB1
          have hT := tO_A hT hk hB1
          obtain ⟨F155, eF155, q⟩ := q
          have hH : tH G a0 b0 ca F155 H := tH_eq ⟨ada, adb, ea, eb, hT⟩ eF155
          refine lv_aload_n hx hb dL_same_48 rfl (lv_at hl 1 rfl) ?_
          have hH0 := hH
          obtain ⟨ada, adb, ea, eb, hT⟩ := hH
          refine va_calli (va_runV (As := []) (rest := [.int r153]) ⟨hx, hb, hml, hown, hts⟩ (cm_X10_lots l (tG G ada F155.1 ca) adb F155.2.1 b0 eb _) (cwV 0 hts gL_same_X10_lots rfl rfl rfl (by decide +kernel) ⟨Nat.le_of_ble_eq_true rfl, Nat.le_of_ble_eq_true rfl⟩) ⟨fun a U g mk h => ⟨h.1, gD_blind h.2.1, h.2.2⟩, t_recvB (C := RX10) (T := TX10) (N := 8) hK hH0 (fun _ => ⟨_, rfl⟩) rfl, fun U hU hW => ⟨rfl, tD_B hK hG hB hT hS hU hW, q⟩⟩ rfl rfl hl.1 rfl (lv_room (Nat.le_of_ble_eq_true rfl)) dL_same_49 ⟨Nat.le_of_ble_eq_true rfl, Nat.le_of_ble_eq_true rfl⟩) hS (fun _ _ h => h.1) (fun _ h => h.1) (fun r156 Z157 t H locs ht hvm q hB1 hz hk hS => ?_)
          have hB1 : gH (tG G ada F155.1 ca) adb Z157 H := gH_to ht hB1
          have hT := tO_B hT hk hB1
          obtain ⟨F158, eF158, q⟩ := q
          have hH : tH G a0 b0 ca F158 H := tH_eq ⟨ada, adb, ea, eb, hT⟩ eF158
          refine lv_icmp_ne (tgt := 100) hx hb dL_same_52 (by decide) (fun c159 => ?_) (fun c159 => ?_)
          · have q := (if_neg c159).mp q
            refine W.widen (k := 4) (n := 24) (Nat.le_of_ble_eq_true rfl) (Nat.le_of_ble_eq_true rfl) ?_
            exact t_100 F158 p3 _ _ _ hH hS (lv_sub hl [0, 1, 2, 3] rfl) q
          · have q := (if_pos c159).mp q
            refine lv_aload_n hx hb dL_same_55 rfl (lv_at hl 0 rfl) ?_
            refine lv_iconst (v := 0) hx hb dL_same_56 (by decide) ?_
            refine lv_iload_n hx hb dL_same_57 rfl (lv_at hl 3 rfl) ?_
            refine lv_bipush (v := 36) hx hb dL_same_58 (by decide) ?_
            refine lv_irem hx hb dL_same_60 (by decide) ?_
            refine lv_iload_n hx hb dL_same_61 rfl (lv_at hl 3 rfl) ?_
            refine lv_bipush (v := 36) hx hb dL_same_62 (by decide) ?_
            refine lv_idiv hx hb dL_same_64 (by decide) ?_
            refine lv_bipush (v := 36) hx hb dL_same_65 (by decide) ?_
            refine lv_irem hx hb dL_same_67 (by decide) ?_
            have hH0 := hH
            obtain ⟨ada, adb, ea, eb, hT⟩ := hH
            refine va_calli (vx_runSW (As := [.ref a0, .int 0, .int (p3 - p3 / 36 * 36), .int ((p3 / 36) - (p3 / 36) / 36 * 36)]) (rest := []) ⟨hx, hb, hml, hown, hts⟩ (cm_L_at l hfl (tG G adb F158.2.1 ca) ada F158.1 0 (p3 - p3 / 36 * 36) ((p3 / 36) - (p3 / 36) / 36 * 36) a0 ea _) (vx_cwSW 4 hts gL_same_L_at rfl rfl rfl (by decide +kernel) ⟨Nat.le_of_ble_eq_true rfl, Nat.le_of_ble_eq_true rfl⟩) ⟨fun a U g mk h => ⟨h.1, ⟨gD_blind h.2.1.1, gL.moved (u := U) (U := U.calling g mk a) (Vm.Alike.refl U.vm) h.2.1.2⟩, h.2.2⟩, fun U hU hW => ⟨rfl, ⟨tD_A hK hG hB hT hS hU hW, gL.moved hW.alike hL⟩, q⟩⟩ rfl rfl hl.1 rfl (lv_room (Nat.le_of_ble_eq_true rfl)) dL_same_68 ⟨Nat.le_of_ble_eq_true rfl, Nat.le_of_ble_eq_true rfl⟩) hS (fun _ _ h => h.1) (fun _ h => h.1) (fun r160 Z161 t H locs ht hvm q hB1 hz hk hS => ?_)
            have hB1 : gH (tG G adb F158.2.1 ca) ada Z161 H := gH_to ht hB1
            have hT := tO_A hT hk hB1
            obtain ⟨F162, eF162, q⟩ := q
            have hH : tH G a0 b0 ca F162 H := tH_eq ⟨ada, adb, ea, eb, hT⟩ eF162
            refine lv_aload_n hx hb dL_same_71 rfl (lv_at hl 1 rfl) ?_
            refine lv_iconst (v := 0) hx hb dL_same_72 (by decide) ?_
            refine lv_iload_n hx hb dL_same_73 rfl (lv_at hl 3 rfl) ?_
            refine lv_bipush (v := 36) hx hb dL_same_74 (by decide) ?_
            refine lv_irem hx hb dL_same_76 (by decide) ?_
            refine va_calli (va_runS (As := [.int (p3 - p3 / 36 * 36)]) (rest := [.int 0, .ref b0, .int r160]) ⟨hx, hb, hml, hown, hts⟩ (c_L_over l (p3 - p3 / 36 * 36)) (va_cwS 1 hts gL_same_L_over rfl rfl rfl (by decide +kernel) ⟨Nat.le_of_ble_eq_true rfl, Nat.le_of_ble_eq_true rfl⟩) ⟨fun a U g mk h => ⟨h.1, trivial⟩, fun U hU hW => ⟨rfl, trivial⟩⟩ rfl rfl hl.1 rfl (lv_room (Nat.le_of_ble_eq_true rfl)) dL_same_77 ⟨Nat.le_of_ble_eq_true rfl, Nat.le_of_ble_eq_true rfl⟩) hS (fun _ _ h => h.elim) (fun _ h => h.elim) (fun r163 z164 t H locs ht hvm z164q hB1 hz hk hS => ?_)
            have hH := tH_grow hH (fun q hq => hk q hq (fun h => h))
            rw [z164q]
            refine lv_iload_n hx hb dL_same_80 rfl (lv_at hl 3 rfl) ?_
            refine lv_bipush (v := 36) hx hb dL_same_81 (by decide) ?_
            refine lv_idiv hx hb dL_same_83 (by decide) ?_
            refine lv_bipush (v := 36) hx hb dL_same_84 (by decide) ?_
            refine lv_irem hx hb dL_same_86 (by decide) ?_
            refine va_calli (va_runS (As := [.int ((p3 / 36) - (p3 / 36) / 36 * 36)]) (rest := [.int (ovr (p3 - p3 / 36 * 36)), .int 0, .ref b0, .int r160]) ⟨hx, hb, hml, hown, hts⟩ (c_L_over l ((p3 / 36) - (p3 / 36) / 36 * 36)) (va_cwS 1 hts gL_same_L_over rfl rfl rfl (by decide +kernel) ⟨Nat.le_of_ble_eq_true rfl, Nat.le_of_ble_eq_true rfl⟩) ⟨fun a U g mk h => ⟨h.1, trivial⟩, fun U hU hW => ⟨rfl, trivial⟩⟩ rfl rfl hl.1 rfl (lv_room (Nat.le_of_ble_eq_true rfl)) dL_same_87 ⟨Nat.le_of_ble_eq_true rfl, Nat.le_of_ble_eq_true rfl⟩) hS (fun _ _ h => h.elim) (fun _ h => h.elim) (fun r165 z166 t H locs ht hvm z166q hB1 hz hk hS => ?_)
            have hH := tH_grow hH (fun q hq => hk q hq (fun h => h))
            rw [z166q]
            have hH0 := hH
            obtain ⟨ada, adb, ea, eb, hT⟩ := hH
            refine va_calli (vx_runSW (As := [.ref b0, .int 0, .int (ovr (p3 - p3 / 36 * 36)), .int (ovr ((p3 / 36) - (p3 / 36) / 36 * 36))]) (rest := [.int r160]) ⟨hx, hb, hml, hown, hts⟩ (cm_L_at l hfl (tG G ada F162.1 ca) adb F162.2.1 0 (ovr (p3 - p3 / 36 * 36)) (ovr ((p3 / 36) - (p3 / 36) / 36 * 36)) b0 eb _) (vx_cwSW 4 hts gL_same_L_at rfl rfl rfl (by decide +kernel) ⟨Nat.le_of_ble_eq_true rfl, Nat.le_of_ble_eq_true rfl⟩) ⟨fun a U g mk h => ⟨h.1, ⟨gD_blind h.2.1.1, gL.moved (u := U) (U := U.calling g mk a) (Vm.Alike.refl U.vm) h.2.1.2⟩, h.2.2⟩, fun U hU hW => ⟨rfl, ⟨tD_B hK hG hB hT hS hU hW, gL.moved hW.alike hL⟩, q⟩⟩ rfl rfl hl.1 rfl (lv_room (Nat.le_of_ble_eq_true rfl)) dL_same_90 ⟨Nat.le_of_ble_eq_true rfl, Nat.le_of_ble_eq_true rfl⟩) hS (fun _ _ h => h.1) (fun _ h => h.1) (fun r167 Z168 t H locs ht hvm q hB1 hz hk hS => ?_)
            have hB1 : gH (tG G ada F162.1 ca) adb Z168 H := gH_to ht hB1
            have hT := tO_B hT hk hB1
            obtain ⟨F169, eF169, q⟩ := q
            have hH : tH G a0 b0 ca F169 H := tH_eq ⟨ada, adb, ea, eb, hT⟩ eF169
            refine lv_icmp_ne (tgt := 100) hx hb dL_same_93 (by decide) (fun c170 => ?_) (fun c170 => ?_)
            · have q := (if_neg c170).mp q
              exact t_100 F169 p3 _ _ _ hH hS (lv_sub hl [0, 1, 2, 3] rfl) q
            · have q := (if_pos c170).mp q
              refine lv_iconst (v := 1) hx hb dL_same_96 (by decide) ?_
              refine lv_goto (tgt := 101) hx hb dL_same_97 (by decide) ?_
              exact t_101 F169 p3 1 _ _ _ hH hS (lv_sub hl [0, 1, 2, 3] rfl) q
