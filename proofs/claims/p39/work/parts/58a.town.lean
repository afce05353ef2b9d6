abbrev rm_L_town : Room := { frames := 10, cells := 12, slots := 72, locals := 180 }
abbrev q_L_town (G : GPz) (a0 b0 ca : Nat) (K : Int32 → S3 → Prop) (below : List Frame) (args : Array Value) (s : State) : State → Prop := MQ below (tQi G a0 b0 ca K) args s 12 72 (gA (zg G))
set_option maxHeartbeats 8000000 in
set_option maxRecDepth 100000 in
theorem c_L_town (l : Launch) (hfl : l.stackTraces = false) (G : GPz) (a0 b0 ca : Nat) (F : S3) (p3 : Int32) (p4 : Int32) (K : Int32 → S3 → Prop) : Met l yL_town wsL_town rm_L_town (va_Pc [.ref a0, .ref b0, .ref ca, .int p3, .int p4] (fun U => tD G a0 b0 ca F U ∧ P_M_town F p3 p4 K)) (tQi G a0 b0 ca K) 12 72 (gA (zg G)) := by
  refine Met.ofW (cc := cL_town) (maxL := 9) (ret := (some .boolean)) (by decide) rfl ?_
  intro p e s m args below meth c s₁ Bd hml hv
  obtain ⟨rfl, ⟨⟨hK, hG, hL⟩, hB, hH⟩, q⟩ := hv
  have hx := Bd.exec
  have hb := Bd.bytes
  have hr := Bd.returns
  have hts := atoms_spec (ws := wsL_town) Bd.pre
  have hown : s.vm.findClass RL = some m.cls := findClass_of_methodNamed Bd.named
  have hlocks := Bd.notSynchronized
  have hS : va_S (gA (zg G)) s.heap s.heap [] := va_S.rf
  have hl := lv_entry [.ref a0, .ref b0, .ref ca, .int p3, .int p4] (n := 9) (Nat.le_of_ble_eq_true rfl)
  rw [lg_entry_eq]
  generalize (lg_sl [.ref a0, .ref b0, .ref ca, .int p3, .int p4] ++ List.replicate (9 - (lg_sl [.ref a0, .ref b0, .ref ca, .int p3, .int p4]).length) Slot.unset).toArray = ls at hl ⊢
  have hl : lv_has ls 9 [(0, .ref a0), (1, .ref b0), (2, .ref ca), (3, .int p3), (4, .int p4)] := hl
  show W p l e rm_L_town s m ([.ref a0, .ref b0, .ref ca, .int p3, .int p4] : List Value).toArray below meth c s.heap [] 0 0 (q_L_town G a0 b0 ca K below ([.ref a0, .ref b0, .ref ca, .int p3, .int p4] : List Value).toArray s) _
  have t_269 : ∀ (F : S3) (x5 : Int32) (x7 : Int32) (x8 : Int32) (s1 : Int32) (s2 : Int32) (s3 : Int32) (H : Heap) (locs : List Loc) (ls : Array Slot), tH G a0 b0 ca F H → va_S (gA (zg G)) s.heap H locs → lv_has ls 9 [(1, .ref b0), (5, .int x5), (7, .int x7), (8, .int x8)] → (P_M_town_269 K) F x5 x7 x8 s1 s2 s3 → W p l e rm_L_town s m ([.ref a0, .ref b0, .ref ca, .int p3, .int p4] : List Value).toArray below meth c H locs 6 36 (q_L_town G a0 b0 ca K below ([.ref a0, .ref b0, .ref ca, .int p3, .int p4] : List Value).toArray s) (F0 m 269 ls [.int s3, .int s2, .int s1, .ref ca]) := by
    intro F x5 x7 x8 s1 s2 s3 H locs ls hH hS hl q
    unfold P_M_town_269 at q
    refine lv_iadd hx hb dL_town_269 ?_
    obtain ⟨h34, q⟩ := q
    refine t_cst hx hb hK hH hS h34 dL_town_270 (fun H locs hH hS => ?_)
    obtain ⟨F35, eF35⟩ : ∃ z : S3, z = (F.1, F.2.1, upd F.2.2 s1.toNatClampNeg (s2 + s3)) := ⟨_, rfl⟩
    have q := q F35 eF35
    rw [← eF35] at hH
    refine lv_aload_n hx hb dL_town_271 rfl (lv_at hl 0 rfl) ?_
    refine lv_iconst (v := 2) hx hb dL_town_272 (by decide) ?_
    refine lv_iload hx hb dL_town_273 (lv_at hl 1 rfl) ?_
    refine va_calli (va_runS (As := [.int x5]) (rest := [.int 2, .ref b0]) ⟨hx, hb, hml, hown, hts⟩ (c_L_over l x5) (va_cwS 1 hts gL_town_L_over rfl rfl rfl (by decide +kernel) ⟨Nat.le_of_ble_eq_true rfl, Nat.le_of_ble_eq_true rfl⟩) ⟨fun a U g mk h => ⟨h.1, trivial⟩, fun U hU hW => ⟨rfl, trivial⟩⟩ rfl rfl hl.1 rfl (lv_room (Nat.le_of_ble_eq_true rfl)) dL_town_275 ⟨Nat.le_of_ble_eq_true rfl, Nat.le_of_ble_eq_true rfl⟩) hS (fun _ _ h => h.elim) (fun _ h => h.elim) (fun r36 z37 t H locs ht hvm z37q hB1 hz hk hS => ?_)
    have hH := tH_grow hH (fun q hq => hk q hq (fun h => h))
    rw [z37q]
    refine lv_iload hx hb dL_town_278 (lv_at hl 2 rfl) ?_
    have hH0 := hH
    obtain ⟨ada, adb, ea, eb, hT⟩ := hH
    refine va_calli (vx_runSW (As := [.ref b0, .int 2, .int (ovr x5), .int x7]) (rest := []) ⟨hx, hb, hml, hown, hts⟩ (cm_L_does l hfl (tG G ada F35.1 ca) adb F35.2.1 2 (ovr x5) x7 b0 eb _) (vx_cwSW 4 hts gL_town_L_does rfl rfl rfl (by decide +kernel) ⟨Nat.le_of_ble_eq_true rfl, Nat.le_of_ble_eq_true rfl⟩) ⟨fun a U g mk h => ⟨h.1, ⟨gD_blind h.2.1.1, gL.moved (u := U) (U := U.calling g mk a) (Vm.Alike.refl U.vm) h.2.1.2⟩, h.2.2⟩, fun U hU hW => ⟨rfl, ⟨tD_B hK hG hB hT hS hU hW, gL.moved hW.alike hL⟩, q⟩⟩ rfl rfl hl.1 rfl (lv_room (Nat.le_of_ble_eq_true rfl)) dL_town_280 ⟨Nat.le_of_ble_eq_true rfl, Nat.le_of_ble_eq_true rfl⟩) hS (fun _ _ h => h.1) (fun _ h => h.1) (fun r38 Z39u t H locs ht hvm q hB1 hz hk hS => ?_)
    obtain ⟨Z39, ad1⟩ := Z39u
    obtain ⟨q, hα⟩ := q
    have hB1 : gH (tG G ada F35.1 ca) ad1 Z39 H := gH_to ht hB1
    have hT := tO_B hT hk hB1
    obtain ⟨F40, eF40, q⟩ := q
    have hH : tH G a0 b0 ca F40 H := tH_eq ⟨ada, ad1, ea, ((hα 0 0 (by decide)).trans eb), hT⟩ eF40
    refine lv_iload hx hb dL_town_283 (lv_at hl 3 rfl) ?_
    refine lv_icmp_ne (tgt := 292) hx hb dL_town_285 (by decide) (fun c41 => ?_) (fun c41 => ?_)
    · have q := (if_neg c41).mp q
      refine lv_iconst (v := 0) hx hb dL_town_292 (by decide) ?_
      exact (W.zret (v := 0) hx hb hr rfl (fun t ht hW => ⟨⟨0, F40, rfl, q, tH_at ht hH⟩, hS.F ht⟩) hS.2.2 dL_town_293)
    · have q := (if_pos c41).mp q
      refine lv_iconst (v := 1) hx hb dL_town_288 (by decide) ?_
      refine lv_goto (tgt := 293) hx hb dL_town_289 (by decide) ?_
      exact (W.zret (v := 1) hx hb hr rfl (fun t ht hW => ⟨⟨1, F40, rfl, q, tH_at ht hH⟩, hS.F ht⟩) hS.2.2 dL_town_293)
  have t_242 : ∀ (F : S3) (x5 : Int32) (s0 : Int32) (H : Heap) (locs : List Loc) (ls : Array Slot), tH G a0 b0 ca F H → va_S (gA (zg G)) s.heap H locs → lv_has ls 9 [(0, .ref a0), (1, .ref b0), (2, .ref ca), (5, .int x5)] → (P_M_town_242 K) F x5 s0 → W p l e rm_L_town s m ([.ref a0, .ref b0, .ref ca, .int p3, .int p4] : List Value).toArray below meth c H locs 0 0 (q_L_town G a0 b0 ca K below ([.ref a0, .ref b0, .ref ca, .int p3, .int p4] : List Value).toArray s) (F0 m 242 ls [.int s0]) := by
    intro F x5 s0 H locs ls hH hS hl q
    unfold P_M_town_242 at q
    refine lv_istore (lv' := [(7, .int s0), (0, .ref a0), (1, .ref b0), (2, .ref ca), (5, .int x5)]) hx hb dL_town_242 hl (by decide) rfl (fun ls hl => ?_)
    refine lv_aload_n hx hb dL_town_244 rfl (lv_at hl 1 rfl) ?_
    refine lv_iconst (v := 2) hx hb dL_town_245 (by decide) ?_
    refine lv_iload hx hb dL_town_246 (lv_at hl 4 rfl) ?_
    refine lv_iload hx hb dL_town_248 (lv_at hl 0 rfl) ?_
    have hH0 := hH
    obtain ⟨ada, adb, ea, eb, hT⟩ := hH
    refine va_calli (vx_runSW (As := [.ref a0, .int 2, .int x5, .int s0]) (rest := []) ⟨hx, hb, hml, hown, hts⟩ (cm_L_does l hfl (tG G adb F.2.1 ca) ada F.1 2 x5 s0 a0 ea _) (vx_cwSW 4 hts gL_town_L_does rfl rfl rfl (by decide +kernel) ⟨Nat.le_of_ble_eq_true rfl, Nat.le_of_ble_eq_true rfl⟩) ⟨fun a U g mk h => ⟨h.1, ⟨gD_blind h.2.1.1, gL.moved (u := U) (U := U.calling g mk a) (Vm.Alike.refl U.vm) h.2.1.2⟩, h.2.2⟩, fun U hU hW => ⟨rfl, ⟨tD_A hK hG hB hT hS hU hW, gL.moved hW.alike hL⟩, q⟩⟩ rfl rfl hl.1 rfl (lv_room (Nat.le_of_ble_eq_true rfl)) dL_town_250 ⟨Nat.le_of_ble_eq_true rfl, Nat.le_of_ble_eq_true rfl⟩) hS (fun _ _ h => h.1) (fun _ h => h.1) (fun r29 Z30u t H locs ht hvm q hB1 hz hk hS => ?_)
    obtain ⟨Z30, ad1⟩ := Z30u
    obtain ⟨q, hα⟩ := q
    have hB1 : gH (tG G adb F.2.1 ca) ad1 Z30 H := gH_to ht hB1
    have hT := tO_A hT hk hB1
    obtain ⟨F31, eF31, q⟩ := q
    have hH : tH G a0 b0 ca F31 H := tH_eq ⟨ad1, adb, ((hα 0 0 (by decide)).trans ea), eb, hT⟩ eF31
    refine lv_istore (lv' := [(8, .int r29), (7, .int s0), (0, .ref a0), (1, .ref b0), (2, .ref ca), (5, .int x5)]) hx hb dL_town_253 hl (by decide) rfl (fun ls hl => ?_)
    refine lv_aload_n hx hb dL_town_255 rfl (lv_at hl 4 rfl) ?_
    refine lv_iconst (v := 0) hx hb dL_town_256 (by decide) ?_
    refine lv_dup2_11 hx hb dL_town_257 rfl rfl ?_
    obtain ⟨h32, q⟩ := q
    refine t_cld hx hb hK hH h32 dL_town_258 ?_
    refine lv_iload hx hb dL_town_259 (lv_at hl 0 rfl) ?_
    refine lv_if_lt (tgt := 268) hx hb dL_town_261 (by decide) (fun c33 => ?_) (fun c33 => ?_)
    · have q := (if_pos c33).mp q
      refine lv_iconst (v := 0) hx hb dL_town_268 (by decide) ?_
      exact t_269 F31 x5 s0 r29 0 (F31.2.2 (0 : Int32).toNatClampNeg) 0 _ _ _ hH hS (lv_sub hl [3, 5, 1, 0] rfl) q
    · have q := (if_neg c33).mp q
      refine lv_iconst (v := 1) hx hb dL_town_264 (by decide) ?_
      refine lv_goto (tgt := 269) hx hb dL_town_265 (by decide) ?_
      exact t_269 F31 x5 s0 r29 0 (F31.2.2 (0 : Int32).toNatClampNeg) 1 _ _ _ hH hS (lv_sub hl [3, 5, 1, 0] rfl) q
  have t_184 : ∀ (F : S3) (x4 : Int32) (x5 : Int32) (x7 : Int32) (s1 : Int32) (s2 : Int32) (s3 : Int32) (H : Heap) (locs : List Loc) (ls : Array Slot), tH G a0 b0 ca F H → va_S (gA (zg G)) s.heap H locs → lv_has ls 9 [(1, .ref b0), (4, .int x4), (5, .int x5), (7, .int x7)] → (P_M_town_184 K) F x4 x5 x7 s1 s2 s3 → W p l e rm_L_town s m ([.ref a0, .ref b0, .ref ca, .int p3, .int p4] : List Value).toArray below meth c H locs 6 36 (q_L_town G a0 b0 ca K below ([.ref a0, .ref b0, .ref ca, .int p3, .int p4] : List Value).toArray s) (F0 m 184 ls [.int s3, .int s2, .int s1, .ref ca]) := by
    intro F x4 x5 x7 s1 s2 s3 H locs ls hH hS hl q
    unfold P_M_town_184 at q
    refine lv_iadd hx hb dL_town_184 ?_
    obtain ⟨h47, q⟩ := q
    refine t_cst hx hb hK hH hS h47 dL_town_185 (fun H locs hH hS => ?_)
    obtain ⟨F48, eF48⟩ : ∃ z : S3, z = (F.1, F.2.1, upd F.2.2 s1.toNatClampNeg (s2 + s3)) := ⟨_, rfl⟩
    have q := q F48 eF48
    rw [← eF48] at hH
    refine lv_aload_n hx hb dL_town_186 rfl (lv_at hl 0 rfl) ?_
    refine lv_iconst (v := 0) hx hb dL_town_187 (by decide) ?_
    refine lv_iload hx hb dL_town_188 (lv_at hl 2 rfl) ?_
    refine va_calli (va_runS (As := [.int x5]) (rest := [.int 0, .ref b0]) ⟨hx, hb, hml, hown, hts⟩ (c_L_over l x5) (va_cwS 1 hts gL_town_L_over rfl rfl rfl (by decide +kernel) ⟨Nat.le_of_ble_eq_true rfl, Nat.le_of_ble_eq_true rfl⟩) ⟨fun a U g mk h => ⟨h.1, trivial⟩, fun U hU hW => ⟨rfl, trivial⟩⟩ rfl rfl hl.1 rfl (lv_room (Nat.le_of_ble_eq_true rfl)) dL_town_190 ⟨Nat.le_of_ble_eq_true rfl, Nat.le_of_ble_eq_true rfl⟩) hS (fun _ _ h => h.elim) (fun _ h => h.elim) (fun r49 z50 t H locs ht hvm z50q hB1 hz hk hS => ?_)
    have hH := tH_grow hH (fun q hq => hk q hq (fun h => h))
    rw [z50q]
    refine lv_iload hx hb dL_town_193 (lv_at hl 1 rfl) ?_
    refine lv_bipush (v := 36) hx hb dL_town_195 (by decide) ?_
    refine lv_idiv hx hb dL_town_197 (by decide) ?_
    refine lv_iconst (v := 4) hx hb dL_town_198 (by decide) ?_
    refine lv_irem hx hb dL_town_199 (by decide) ?_
    have hH0 := hH
    obtain ⟨ada, adb, ea, eb, hT⟩ := hH
    refine va_calli (vx_runSW (As := [.ref b0, .int 0, .int (ovr x5), .int ((x4 / 36) - (x4 / 36) / 4 * 4)]) (rest := []) ⟨hx, hb, hml, hown, hts⟩ (cm_L_does l hfl (tG G ada F48.1 ca) adb F48.2.1 0 (ovr x5) ((x4 / 36) - (x4 / 36) / 4 * 4) b0 eb _) (vx_cwSW 4 hts gL_town_L_does rfl rfl rfl (by decide +kernel) ⟨Nat.le_of_ble_eq_true rfl, Nat.le_of_ble_eq_true rfl⟩) ⟨fun a U g mk h => ⟨h.1, ⟨gD_blind h.2.1.1, gL.moved (u := U) (U := U.calling g mk a) (Vm.Alike.refl U.vm) h.2.1.2⟩, h.2.2⟩, fun U hU hW => ⟨rfl, ⟨tD_B hK hG hB hT hS hU hW, gL.moved hW.alike hL⟩, q⟩⟩ rfl rfl hl.1 rfl (lv_room (Nat.le_of_ble_eq_true rfl)) dL_town_200 ⟨Nat.le_of_ble_eq_true rfl, Nat.le_of_ble_eq_true rfl⟩) hS (fun _ _ h => h.1) (fun _ h => h.1) (fun r51 Z52u t H locs ht hvm q hB1 hz hk hS => ?_)
    obtain ⟨Z52, ad1⟩ := Z52u
    obtain ⟨q, hα⟩ := q
    have hB1 : gH (tG G ada F48.1 ca) ad1 Z52 H := gH_to ht hB1
    have hT := tO_B hT hk hB1
    obtain ⟨F53, eF53, q⟩ := q
    have hH : tH G a0 b0 ca F53 H := tH_eq ⟨ada, ad1, ea, ((hα 0 0 (by decide)).trans eb), hT⟩ eF53
    refine lv_iload hx hb dL_town_203 (lv_at hl 3 rfl) ?_
    refine lv_icmp_ne (tgt := 212) hx hb dL_town_205 (by decide) (fun c54 => ?_) (fun c54 => ?_)
    · have q := (if_neg c54).mp q
      refine lv_iconst (v := 0) hx hb dL_town_212 (by decide) ?_
      exact (W.zret (v := 0) hx hb hr rfl (fun t ht hW => ⟨⟨0, F53, rfl, q, tH_at ht hH⟩, hS.F ht⟩) hS.2.2 dL_town_213)
    · have q := (if_pos c54).mp q
      refine lv_iconst (v := 1) hx hb dL_town_208 (by decide) ?_
      refine lv_goto (tgt := 213) hx hb dL_town_209 (by decide) ?_
      exact (W.zret (v := 1) hx hb hr rfl (fun t ht hW => ⟨⟨1, F53, rfl, q, tH_at ht hH⟩, hS.F ht⟩) hS.2.2 dL_town_213)
  have t_137 : ∀ (F : S3) (s0 : Int32) (s2 : Int32) (s3 : Int32) (s4 : Int32) (H : Heap) (locs : List Loc) (ls : Array Slot), tH G a0 b0 ca F H → va_S (gA (zg G)) s.heap H locs → lv_has ls 9 [] → (P_M_town_137 K) F s0 s2 s3 s4 → W p l e rm_L_town s m ([.ref a0, .ref b0, .ref ca, .int p3, .int p4] : List Value).toArray below meth c H locs 3 18 (q_L_town G a0 b0 ca K below ([.ref a0, .ref b0, .ref ca, .int p3, .int p4] : List Value).toArray s) (F0 m 137 ls [.int s4, .int s3, .int s2, .ref b0, .int s0]) := by
    intro F s0 s2 s3 s4 H locs ls hH hS hl q
    unfold P_M_town_137 at q
    have hH0 := hH
    obtain ⟨ada, adb, ea, eb, hT⟩ := hH
    refine va_calli (vx_runSW (As := [.ref b0, .int s2, .int s3, .int s4]) (rest := [.int s0]) ⟨hx, hb, hml, hown, hts⟩ (cm_L_bar l hfl (tG G ada F.1 ca) adb F.2.1 s2 s3 s4 b0 eb _) (vx_cwSW 4 hts gL_town_L_bar rfl rfl rfl (by decide +kernel) ⟨Nat.le_of_ble_eq_true rfl, Nat.le_of_ble_eq_true rfl⟩) ⟨fun a U g mk h => ⟨h.1, ⟨gD_blind h.2.1.1, gL.moved (u := U) (U := U.calling g mk a) (Vm.Alike.refl U.vm) h.2.1.2⟩, h.2.2⟩, fun U hU hW => ⟨rfl, ⟨tD_B hK hG hB hT hS hU hW, gL.moved hW.alike hL⟩, q⟩⟩ rfl rfl hl.1 rfl (lv_room (Nat.le_of_ble_eq_true rfl)) dL_town_137 ⟨Nat.le_of_ble_eq_true rfl, Nat.le_of_ble_eq_true rfl⟩) hS (fun _ _ h => h.1) (fun _ h => h.1) (fun r66 Z67 t H locs ht hvm q hB1 hz hk hS => ?_)
    have hB1 : gH (tG G ada F.1 ca) adb Z67 H := gH_to ht hB1
    have hT := tO_B hT hk hB1
    obtain ⟨F68, eF68, q⟩ := q
    have hH : tH G a0 b0 ca F68 H := tH_eq ⟨ada, adb, ea, eb, hT⟩ eF68
    refine lv_icmp_ne (tgt := 147) hx hb dL_town_140 (by decide) (fun c69 => ?_) (fun c69 => ?_)
    · have q := (if_neg c69).mp q
      refine lv_iconst (v := 0) hx hb dL_town_147 (by decide) ?_
      refine W.widen (k := 12) (n := 72) (Nat.le_of_ble_eq_true rfl) (Nat.le_of_ble_eq_true rfl) ?_
      exact (W.zret (v := 0) hx hb hr rfl (fun t ht hW => ⟨⟨0, F68, rfl, q, tH_at ht hH⟩, hS.F ht⟩) hS.2.2 dL_town_148)
    · have q := (if_pos c69).mp q
      refine lv_iconst (v := 1) hx hb dL_town_143 (by decide) ?_
      refine lv_goto (tgt := 148) hx hb dL_town_144 (by decide) ?_
      refine W.widen (k := 12) (n := 72) (Nat.le_of_ble_eq_true rfl) (Nat.le_of_ble_eq_true rfl) ?_
      exact (W.zret (v := 1) hx hb hr rfl (fun t ht hW => ⟨⟨1, F68, rfl, q, tH_at ht hH⟩, hS.F ht⟩) hS.2.2 dL_town_148)
  have t_108 : ∀ (F : S3) (x4 : Int32) (x5 : Int32) (x7 : Int32) (s1 : Int32) (s2 : Int32) (s3 : Int32) (H : Heap) (locs : List Loc) (ls : Array Slot), tH G a0 b0 ca F H → va_S (gA (zg G)) s.heap H locs → lv_has ls 9 [(1, .ref b0), (4, .int x4), (5, .int x5), (7, .int x7)] → (P_M_town_108 K) F x4 x5 x7 s1 s2 s3 → W p l e rm_L_town s m ([.ref a0, .ref b0, .ref ca, .int p3, .int p4] : List Value).toArray below meth c H locs 0 0 (q_L_town G a0 b0 ca K below ([.ref a0, .ref b0, .ref ca, .int p3, .int p4] : List Value).toArray s) (F0 m 108 ls [.int s3, .int s2, .int s1, .ref a0]) := by
    intro F x4 x5 x7 s1 s2 s3 H locs ls hH hS hl q
    unfold P_M_town_108 at q
    have hH0 := hH
    obtain ⟨ada, adb, ea, eb, hT⟩ := hH
    refine va_calli (vx_runSW (As := [.ref a0, .int s1, .int s2, .int s3]) (rest := []) ⟨hx, hb, hml, hown, hts⟩ (cm_L_bar l hfl (tG G adb F.2.1 ca) ada F.1 s1 s2 s3 a0 ea _) (vx_cwSW 4 hts gL_town_L_bar rfl rfl rfl (by decide +kernel) ⟨Nat.le_of_ble_eq_true rfl, Nat.le_of_ble_eq_true rfl⟩) ⟨fun a U g mk h => ⟨h.1, ⟨gD_blind h.2.1.1, gL.moved (u := U) (U := U.calling g mk a) (Vm.Alike.refl U.vm) h.2.1.2⟩, h.2.2⟩, fun U hU hW => ⟨rfl, ⟨tD_A hK hG hB hT hS hU hW, gL.moved hW.alike hL⟩, q⟩⟩ rfl rfl hl.1 rfl (lv_room (Nat.le_of_ble_eq_true rfl)) dL_town_108 ⟨Nat.le_of_ble_eq_true rfl, Nat.le_of_ble_eq_true rfl⟩) hS (fun _ _ h => h.1) (fun _ h => h.1) (fun r58 Z59 t H locs ht hvm q hB1 hz hk hS => ?_)
    have hB1 : gH (tG G adb F.2.1 ca) ada Z59 H := gH_to ht hB1
    have hT := tO_A hT hk hB1
    obtain ⟨F60, eF60, q⟩ := q
    have hH : tH G a0 b0 ca F60 H := tH_eq ⟨ada, adb, ea, eb, hT⟩ eF60
    refine lv_aload_n hx hb dL_town_111 rfl (lv_at hl 0 rfl) ?_
    refine lv_iload hx hb dL_town_112 (lv_at hl 2 rfl) ?_
    refine va_calli (va_runS (As := [.int x5]) (rest := [.ref b0, .int r58]) ⟨hx, hb, hml, hown, hts⟩ (c_L_over l x5) (va_cwS 1 hts gL_town_L_over rfl rfl rfl (by decide +kernel) ⟨Nat.le_of_ble_eq_true rfl, Nat.le_of_ble_eq_true rfl⟩) ⟨fun a U g mk h => ⟨h.1, trivial⟩, fun U hU hW => ⟨rfl, trivial⟩⟩ rfl rfl hl.1 rfl (lv_room (Nat.le_of_ble_eq_true rfl)) dL_town_114 ⟨Nat.le_of_ble_eq_true rfl, Nat.le_of_ble_eq_true rfl⟩) hS (fun _ _ h => h.elim) (fun _ h => h.elim) (fun r61 z62 t H locs ht hvm z62q hB1 hz hk hS => ?_)
    have hH := tH_grow hH (fun q hq => hk q hq (fun h => h))
    rw [z62q]
    refine lv_iload hx hb dL_town_117 (lv_at hl 3 rfl) ?_
    refine va_calli (va_runS (As := [.int x7]) (rest := [.int (ovr x5), .ref b0, .int r58]) ⟨hx, hb, hml, hown, hts⟩ (c_L_over l x7) (va_cwS 1 hts gL_town_L_over rfl rfl rfl (by decide +kernel) ⟨Nat.le_of_ble_eq_true rfl, Nat.le_of_ble_eq_true rfl⟩) ⟨fun a U g mk h => ⟨h.1, trivial⟩, fun U hU hW => ⟨rfl, trivial⟩⟩ rfl rfl hl.1 rfl (lv_room (Nat.le_of_ble_eq_true rfl)) dL_town_119 ⟨Nat.le_of_ble_eq_true rfl, Nat.le_of_ble_eq_true rfl⟩) hS (fun _ _ h => h.elim) (fun _ h => h.elim) (fun r63 z64 t H locs ht hvm z64q hB1 hz hk hS => ?_)
    have hH := tH_grow hH (fun q hq => hk q hq (fun h => h))
    rw [z64q]
    refine lv_iload hx hb dL_town_122 (lv_at hl 1 rfl) ?_
    refine lv_bipush (v := 72) hx hb dL_town_124 (by decide) ?_
    refine lv_idiv hx hb dL_town_126 (by decide) ?_
    refine lv_iconst (v := 3) hx hb dL_town_127 (by decide) ?_
    refine lv_irem hx hb dL_town_128 (by decide) ?_
    refine lv_if_le (tgt := 136) hx hb dL_town_129 (by decide) (fun c65 => ?_) (fun c65 => ?_)
    · have q := (if_pos c65).mp q
      refine lv_iconst (v := 0) hx hb dL_town_136 (by decide) ?_
      exact t_137 F60 r58 (ovr x5) (ovr x7) 0 _ _ _ hH hS (lv_sub hl [] rfl) q
    · have q := (if_neg c65).mp q
      refine lv_iconst (v := 1) hx hb dL_town_132 (by decide) ?_
      refine lv_goto (tgt := 137) hx hb dL_town_133 (by decide) ?_
      exact t_137 F60 r58 (ovr x5) (ovr x7) 1 _ _ _ hH hS (lv_sub hl [] rfl) q
  have t_86 : ∀ (F : S3) (x4 : Int32) (x5 : Int32) (s0 : Int32) (H : Heap) (locs : List Loc) (ls : Array Slot), tH G a0 b0 ca F H → va_S (gA (zg G)) s.heap H locs → lv_has ls 9 [(0, .ref a0), (1, .ref b0), (4, .int x4), (5, .int x5)] → (P_M_town_86 K) F x4 x5 s0 → W p l e rm_L_town s m ([.ref a0, .ref b0, .ref ca, .int p3, .int p4] : List Value).toArray below meth c H locs 0 0 (q_L_town G a0 b0 ca K below ([.ref a0, .ref b0, .ref ca, .int p3, .int p4] : List Value).toArray s) (F0 m 86 ls [.int s0]) := by
    intro F x4 x5 s0 H locs ls hH hS hl q
    unfold P_M_town_86 at q
    refine lv_istore (lv' := [(7, .int s0), (0, .ref a0), (1, .ref b0), (4, .int x4), (5, .int x5)]) hx hb dL_town_86 hl (by decide) rfl (fun ls hl => ?_)
    refine lv_aload_n hx hb dL_town_88 rfl (lv_at hl 1 rfl) ?_
    refine lv_iload hx hb dL_town_89 (lv_at hl 4 rfl) ?_
    refine lv_iload hx hb dL_town_91 (lv_at hl 0 rfl) ?_
    refine lv_iload hx hb dL_town_93 (lv_at hl 3 rfl) ?_
    refine lv_bipush (v := 72) hx hb dL_town_95 (by decide) ?_
    refine lv_idiv hx hb dL_town_97 (by decide) ?_
    refine lv_iconst (v := 3) hx hb dL_town_98 (by decide) ?_
    refine lv_irem hx hb dL_town_99 (by decide) ?_
    refine lv_if_le (tgt := 107) hx hb dL_town_100 (by decide) (fun c57 => ?_) (fun c57 => ?_)
    · have q := (if_pos c57).mp q
      refine lv_iconst (v := 0) hx hb dL_town_107 (by decide) ?_
      exact t_108 F x4 x5 s0 x5 s0 0 _ _ _ hH hS (lv_sub hl [2, 3, 4, 0] rfl) q
    · have q := (if_neg c57).mp q
      refine lv_iconst (v := 1) hx hb dL_town_103 (by decide) ?_
      refine lv_goto (tgt := 108) hx hb dL_town_104 (by decide) ?_
      exact t_108 F x4 x5 s0 x5 s0 1 _ _ _ hH hS (lv_sub hl [2, 3, 4, 0] rfl) q
  have t_26 : ∀ (F : S3) (x3 : Int32) (x4 : Int32) (x5 : Int32) (s0 : Int32) (H : Heap) (locs : List Loc) (ls : Array Slot), tH G a0 b0 ca F H → va_S (gA (zg G)) s.heap H locs → lv_has ls 9 [(0, .ref a0), (1, .ref b0), (2, .ref ca), (3, .int x3), (4, .int x4), (5, .int x5)] → (P_M_town_26 K) F x3 x4 x5 s0 → W p l e rm_L_town s m ([.ref a0, .ref b0, .ref ca, .int p3, .int p4] : List Value).toArray below meth c H locs 0 0 (q_L_town G a0 b0 ca K below ([.ref a0, .ref b0, .ref ca, .int p3, .int p4] : List Value).toArray s) (F0 m 26 ls [.int s0]) := by
    intro F x3 x4 x5 s0 H locs ls hH hS hl q
    unfold P_M_town_26 at q
    refine lv_istore (lv' := [(6, .int s0), (0, .ref a0), (1, .ref b0), (2, .ref ca), (3, .int x3), (4, .int x4), (5, .int x5)]) hx hb dL_town_26 hl (by decide) rfl (fun ls hl => ?_)
    refine lv_iload_n hx hb dL_town_28 rfl (lv_at hl 4 rfl) ?_
    refine lv_iconst (v := 3) hx hb dL_town_29 (by decide) ?_
    refine lv_icmp_ge (tgt := 149) hx hb dL_town_30 (by decide) (fun c5 => ?_) (fun c5 => ?_)
    · have q := (if_pos c5).mp q
      refine lv_iload_n hx hb dL_town_149 rfl (lv_at hl 4 rfl) ?_
      refine lv_iconst (v := 3) hx hb dL_town_150 (by decide) ?_
      refine lv_icmp_ne (tgt := 214) hx hb dL_town_151 (by decide) (fun c6 => ?_) (fun c6 => ?_)
      · have q := (if_neg c6).mp q
        refine lv_iload_n hx hb dL_town_214 rfl (lv_at hl 4 rfl) ?_
        refine lv_bipush (v := 7) hx hb dL_town_215 (by decide) ?_
        refine lv_icmp_ge (tgt := 294) hx hb dL_town_217 (by decide) (fun c7 => ?_) (fun c7 => ?_)
        · have q := (if_pos c7).mp q
          refine lv_iload_n hx hb dL_town_294 rfl (lv_at hl 4 rfl) ?_
          refine lv_bipush (v := 10) hx hb dL_town_295 (by decide) ?_
          refine lv_icmp_ge (tgt := 333) hx hb dL_town_297 (by decide) (fun c8 => ?_) (fun c8 => ?_)
          · have q := (if_pos c8).mp q
            refine lv_iload hx hb dL_town_333 (lv_at hl 5 rfl) ?_
            refine lv_sipush (v := 720) hx hb dL_town_335 (by decide) ?_
            refine lv_idiv hx hb dL_town_338 (by decide) ?_
            refine lv_iconst (v := 4) hx hb dL_town_339 (by decide) ?_
            refine lv_irem hx hb dL_town_340 (by decide) ?_
            refine lv_if_gt (tgt := 361) hx hb dL_town_341 (by decide) (fun c9 => ?_) (fun c9 => ?_)
            · have q := (if_pos c9).mp q
              refine lv_iconst (v := 1) hx hb dL_town_361 (by decide) ?_
              refine lv_goto (tgt := 366) hx hb dL_town_362 (by decide) ?_
              refine W.widen (k := 12) (n := 72) (Nat.le_of_ble_eq_true rfl) (Nat.le_of_ble_eq_true rfl) ?_
              exact (W.zret (v := 1) hx hb hr rfl (fun t ht hW => ⟨⟨1, F, rfl, q, tH_at ht hH⟩, hS.F ht⟩) hS.2.2 dL_town_366)
            · have q := (if_neg c9).mp q
              refine lv_aload_n hx hb dL_town_344 rfl (lv_at hl 1 rfl) ?_
              refine lv_iconst (v := 0) hx hb dL_town_345 (by decide) ?_
              refine lv_iload hx hb dL_town_346 (lv_at hl 0 rfl) ?_
              have hH0 := hH
              obtain ⟨ada, adb, ea, eb, hT⟩ := hH
              refine va_calli (vx_runSW (As := [.ref a0, .int 0, .int s0]) (rest := []) ⟨hx, hb, hml, hown, hts⟩ (cm_L_act l hfl (tG G adb F.2.1 ca) ada F.1 0 s0 a0 ea _) (vx_cwSW 3 hts gL_town_L_act rfl rfl rfl (by decide +kernel) ⟨Nat.le_of_ble_eq_true rfl, Nat.le_of_ble_eq_true rfl⟩) ⟨fun a U g mk h => ⟨h.1, ⟨gD_blind h.2.1.1, gL.moved (u := U) (U := U.calling g mk a) (Vm.Alike.refl U.vm) h.2.1.2⟩, h.2.2⟩, fun U hU hW => ⟨rfl, ⟨tD_A hK hG hB hT hS hU hW, gL.moved hW.alike hL⟩, q⟩⟩ rfl rfl hl.1 rfl (lv_room (Nat.le_of_ble_eq_true rfl)) dL_town_348 ⟨Nat.le_of_ble_eq_true rfl, Nat.le_of_ble_eq_true rfl⟩) hS (fun _ _ h => h.1) (fun _ h => h.1) (fun r10 Z11 t H locs ht hvm q hB1 hz hk hS => ?_)
              have hB1 : gH (tG G adb F.2.1 ca) ada Z11 H := gH_to ht hB1
              have hT := tO_A hT hk hB1
              obtain ⟨F12, eF12, q⟩ := q
              have hH : tH G a0 b0 ca F12 H := tH_eq ⟨ada, adb, ea, eb, hT⟩ eF12
              refine lv_aload_n hx hb dL_town_351 rfl (lv_at hl 2 rfl) ?_
              refine lv_iconst (v := 0) hx hb dL_town_352 (by decide) ?_
              refine lv_iload hx hb dL_town_353 (lv_at hl 0 rfl) ?_
              have hH0 := hH
              obtain ⟨ada, adb, ea, eb, hT⟩ := hH
              refine va_calli (vx_runSW (As := [.ref b0, .int 0, .int s0]) (rest := [.int r10]) ⟨hx, hb, hml, hown, hts⟩ (cm_L_act l hfl (tG G ada F12.1 ca) adb F12.2.1 0 s0 b0 eb _) (vx_cwSW 3 hts gL_town_L_act rfl rfl rfl (by decide +kernel) ⟨Nat.le_of_ble_eq_true rfl, Nat.le_of_ble_eq_true rfl⟩) ⟨fun a U g mk h => ⟨h.1, ⟨gD_blind h.2.1.1, gL.moved (u := U) (U := U.calling g mk a) (Vm.Alike.refl U.vm) h.2.1.2⟩, h.2.2⟩, fun U hU hW => ⟨rfl, ⟨tD_B hK hG hB hT hS hU hW, gL.moved hW.alike hL⟩, q⟩⟩ rfl rfl hl.1 rfl (lv_room (Nat.le_of_ble_eq_true rfl)) dL_town_355 ⟨Nat.le_of_ble_eq_true rfl, Nat.le_of_ble_eq_true rfl⟩) hS (fun _ _ h => h.1) (fun _ h => h.1) (fun r13 Z14 t H locs ht hvm q hB1 hz hk hS => ?_)
              have hB1 : gH (tG G ada F12.1 ca) adb Z14 H := gH_to ht hB1
              have hT := tO_B hT hk hB1
              obtain ⟨F15, eF15, q⟩ := q
              have hH : tH G a0 b0 ca F15 H := tH_eq ⟨ada, adb, ea, eb, hT⟩ eF15
              refine lv_icmp_ne (tgt := 365) hx hb dL_town_358 (by decide) (fun c16 => ?_) (fun c16 => ?_)
              · have q := (if_neg c16).mp q
                refine lv_iconst (v := 0) hx hb dL_town_365 (by decide) ?_
                refine W.widen (k := 12) (n := 72) (Nat.le_of_ble_eq_true rfl) (Nat.le_of_ble_eq_true rfl) ?_
                exact (W.zret (v := 0) hx hb hr rfl (fun t ht hW => ⟨⟨0, F15, rfl, q, tH_at ht hH⟩, hS.F ht⟩) hS.2.2 dL_town_366)
              · have q := (if_pos c16).mp q
                refine lv_iconst (v := 1) hx hb dL_town_361 (by decide) ?_
                refine lv_goto (tgt := 366) hx hb dL_town_362 (by decide) ?_
                refine W.widen (k := 12) (n := 72) (Nat.le_of_ble_eq_true rfl) (Nat.le_of_ble_eq_true rfl) ?_
                exact (W.zret (v := 1) hx hb hr rfl (fun t ht hW => ⟨⟨1, F15, rfl, q, tH_at ht hH⟩, hS.F ht⟩) hS.2.2 dL_town_366)
          · have q := (if_neg c8).mp q
            refine lv_aload_n hx hb dL_town_300 rfl (lv_at hl 2 rfl) ?_
            refine lv_iconst (v := 3) hx hb dL_town_301 (by decide) ?_
            refine lv_iload hx hb dL_town_302 (lv_at hl 0 rfl) ?_
            refine lv_iload hx hb dL_town_304 (lv_at hl 6 rfl) ?_
            refine va_calli (va_runS (As := [.int x5]) (rest := [.int s0, .int 3, .ref b0]) ⟨hx, hb, hml, hown, hts⟩ (c_L_over l x5) (va_cwS 1 hts gL_town_L_over rfl rfl rfl (by decide +kernel) ⟨Nat.le_of_ble_eq_true rfl, Nat.le_of_ble_eq_true rfl⟩) ⟨fun a U g mk h => ⟨h.1, trivial⟩, fun U hU hW => ⟨rfl, trivial⟩⟩ rfl rfl hl.1 rfl (lv_room (Nat.le_of_ble_eq_true rfl)) dL_town_306 ⟨Nat.le_of_ble_eq_true rfl, Nat.le_of_ble_eq_true rfl⟩) hS (fun _ _ h => h.elim) (fun _ h => h.elim) (fun r17 z18 t H locs ht hvm z18q hB1 hz hk hS => ?_)
            have hH := tH_grow hH (fun q hq => hk q hq (fun h => h))
            rw [z18q]
            have hH0 := hH
            obtain ⟨ada, adb, ea, eb, hT⟩ := hH
            refine va_calli (vx_runSW (As := [.ref b0, .int 3, .int s0, .int (ovr x5)]) (rest := []) ⟨hx, hb, hml, hown, hts⟩ (cm_L_does l hfl (tG G ada F.1 ca) adb F.2.1 3 s0 (ovr x5) b0 eb _) (vx_cwSW 4 hts gL_town_L_does rfl rfl rfl (by decide +kernel) ⟨Nat.le_of_ble_eq_true rfl, Nat.le_of_ble_eq_true rfl⟩) ⟨fun a U g mk h => ⟨h.1, ⟨gD_blind h.2.1.1, gL.moved (u := U) (U := U.calling g mk a) (Vm.Alike.refl U.vm) h.2.1.2⟩, h.2.2⟩, fun U hU hW => ⟨rfl, ⟨tD_B hK hG hB hT hS hU hW, gL.moved hW.alike hL⟩, q⟩⟩ rfl rfl hl.1 rfl (lv_room (Nat.le_of_ble_eq_true rfl)) dL_town_309 ⟨Nat.le_of_ble_eq_true rfl, Nat.le_of_ble_eq_true rfl⟩) hS (fun _ _ h => h.1) (fun _ h => h.1) (fun r19 Z20u t H locs ht hvm q hB1 hz hk hS => ?_)
            obtain ⟨Z20, ad1⟩ := Z20u
            obtain ⟨q, hα⟩ := q
            have hB1 : gH (tG G ada F.1 ca) ad1 Z20 H := gH_to ht hB1
            have hT := tO_B hT hk hB1
            obtain ⟨F21, eF21, q⟩ := q
            have hH : tH G a0 b0 ca F21 H := tH_eq ⟨ada, ad1, ea, ((hα 0 0 (by decide)).trans eb), hT⟩ eF21
            refine lv_aload_n hx hb dL_town_312 rfl (lv_at hl 1 rfl) ?_
            refine lv_iconst (v := 3) hx hb dL_town_313 (by decide) ?_
            refine lv_iload hx hb dL_town_314 (lv_at hl 0 rfl) ?_
            refine lv_iload hx hb dL_town_316 (lv_at hl 6 rfl) ?_
            have hH0 := hH
            obtain ⟨ada, adb, ea, eb, hT⟩ := hH
            refine va_calli (vx_runSW (As := [.ref a0, .int 3, .int s0, .int x5]) (rest := [.int r19]) ⟨hx, hb, hml, hown, hts⟩ (cm_L_does l hfl (tG G adb F21.2.1 ca) ada F21.1 3 s0 x5 a0 ea _) (vx_cwSW 4 hts gL_town_L_does rfl rfl rfl (by decide +kernel) ⟨Nat.le_of_ble_eq_true rfl, Nat.le_of_ble_eq_true rfl⟩) ⟨fun a U g mk h => ⟨h.1, ⟨gD_blind h.2.1.1, gL.moved (u := U) (U := U.calling g mk a) (Vm.Alike.refl U.vm) h.2.1.2⟩, h.2.2⟩, fun U hU hW => ⟨rfl, ⟨tD_A hK hG hB hT hS hU hW, gL.moved hW.alike hL⟩, q⟩⟩ rfl rfl hl.1 rfl (lv_room (Nat.le_of_ble_eq_true rfl)) dL_town_318 ⟨Nat.le_of_ble_eq_true rfl, Nat.le_of_ble_eq_true rfl⟩) hS (fun _ _ h => h.1) (fun _ h => h.1) (fun r22 Z23u t H locs ht hvm q hB1 hz hk hS => ?_)
            obtain ⟨Z23, ad1⟩ := Z23u
            obtain ⟨q, hα⟩ := q
            have hB1 : gH (tG G adb F21.2.1 ca) ad1 Z23 H := gH_to ht hB1
            have hT := tO_A hT hk hB1
            obtain ⟨F24, eF24, q⟩ := q
            have hH : tH G a0 b0 ca F24 H := tH_eq ⟨ad1, adb, ((hα 0 0 (by decide)).trans ea), eb, hT⟩ eF24
            refine va_calli (va_runS (As := [.int r22]) (rest := [.int r19]) ⟨hx, hb, hml, hown, hts⟩ (c_L_over l r22) (va_cwS 1 hts gL_town_L_over rfl rfl rfl (by decide +kernel) ⟨Nat.le_of_ble_eq_true rfl, Nat.le_of_ble_eq_true rfl⟩) ⟨fun a U g mk h => ⟨h.1, trivial⟩, fun U hU hW => ⟨rfl, trivial⟩⟩ rfl rfl hl.1 rfl (lv_room (Nat.le_of_ble_eq_true rfl)) dL_town_321 ⟨Nat.le_of_ble_eq_true rfl, Nat.le_of_ble_eq_true rfl⟩) hS (fun _ _ h => h.elim) (fun _ h => h.elim) (fun r25 z26 t H locs ht hvm z26q hB1 hz hk hS => ?_)
            have hH := tH_grow hH (fun q hq => hk q hq (fun h => h))
            rw [z26q]
            refine lv_icmp_ne (tgt := 331) hx hb dL_town_324 (by decide) (fun c27 => ?_) (fun c27 => ?_)
            · have q := (if_neg c27).mp q
              refine lv_iconst (v := 0) hx hb dL_town_331 (by decide) ?_
              exact (W.zret (v := 0) hx hb hr rfl (fun t ht hW => ⟨⟨0, F24, rfl, q, tH_at ht hH⟩, hS.F ht⟩) hS.2.2 dL_town_332)
            · have q := (if_pos c27).mp q
              refine lv_iconst (v := 1) hx hb dL_town_327 (by decide) ?_
              refine lv_goto (tgt := 332) hx hb dL_town_328 (by decide) ?_
              exact (W.zret (v := 1) hx hb hr rfl (fun t ht hW => ⟨⟨1, F24, rfl, q, tH_at ht hH⟩, hS.F ht⟩) hS.2.2 dL_town_332)
        · have q := (if_neg c7).mp q
          refine lv_iload hx hb dL_town_220 (lv_at hl 5 rfl) ?_
          refine lv_bipush (v := 36) hx hb dL_town_222 (by decide) ?_
          refine lv_idiv hx hb dL_town_224 (by decide) ?_
          refine lv_iconst (v := 3) hx hb dL_town_225 (by decide) ?_
          refine lv_irem hx hb dL_town_226 (by decide) ?_
          refine lv_if_ne (tgt := 241) hx hb dL_town_227 (by decide) (fun c28 => ?_) (fun c28 => ?_)
          · have q := (if_neg c28).mp q
            refine lv_iconst (v := 0) hx hb dL_town_241 (by decide) ?_
            exact t_242 F x5 0 _ _ _ hH hS (lv_sub hl [1, 2, 3, 6] rfl) q
          · have q := (if_pos c28).mp q
            refine lv_iload hx hb dL_town_230 (lv_at hl 5 rfl) ?_
            refine lv_bipush (v := 108) hx hb dL_town_232 (by decide) ?_
            refine lv_idiv hx hb dL_town_234 (by decide) ?_
            refine lv_bipush (v := 100) hx hb dL_town_235 (by decide) ?_
            refine lv_irem hx hb dL_town_237 (by decide) ?_
            refine lv_goto (tgt := 242) hx hb dL_town_238 (by decide) ?_
            exact t_242 F x5 ((x4 / 108) - (x4 / 108) / 100 * 100) _ _ _ hH hS (lv_sub hl [1, 2, 3, 6] rfl) q
      · have q := (if_pos c6).mp q
        refine lv_aload_n hx hb dL_town_154 rfl (lv_at hl 1 rfl) ?_
        refine lv_iconst (v := 0) hx hb dL_town_155 (by decide) ?_
        refine lv_iload hx hb dL_town_156 (lv_at hl 6 rfl) ?_
        refine lv_iload hx hb dL_town_158 (lv_at hl 5 rfl) ?_
        refine lv_bipush (v := 36) hx hb dL_town_160 (by decide) ?_
        refine lv_idiv hx hb dL_town_162 (by decide) ?_
        refine lv_iconst (v := 4) hx hb dL_town_163 (by decide) ?_
        refine lv_irem hx hb dL_town_164 (by decide) ?_
        have hH0 := hH
        obtain ⟨ada, adb, ea, eb, hT⟩ := hH
        refine va_calli (vx_runSW (As := [.ref a0, .int 0, .int x5, .int ((x4 / 36) - (x4 / 36) / 4 * 4)]) (rest := []) ⟨hx, hb, hml, hown, hts⟩ (cm_L_does l hfl (tG G adb F.2.1 ca) ada F.1 0 x5 ((x4 / 36) - (x4 / 36) / 4 * 4) a0 ea _) (vx_cwSW 4 hts gL_town_L_does rfl rfl rfl (by decide +kernel) ⟨Nat.le_of_ble_eq_true rfl, Nat.le_of_ble_eq_true rfl⟩) ⟨fun a U g mk h => ⟨h.1, ⟨gD_blind h.2.1.1, gL.moved (u := U) (U := U.calling g mk a) (Vm.Alike.refl U.vm) h.2.1.2⟩, h.2.2⟩, fun U hU hW => ⟨rfl, ⟨tD_A hK hG hB hT hS hU hW, gL.moved hW.alike hL⟩, q⟩⟩ rfl rfl hl.1 rfl (lv_room (Nat.le_of_ble_eq_true rfl)) dL_town_165 ⟨Nat.le_of_ble_eq_true rfl, Nat.le_of_ble_eq_true rfl⟩) hS (fun _ _ h => h.1) (fun _ h => h.1) (fun r42 Z43u t H locs ht hvm q hB1 hz hk hS => ?_)
        obtain ⟨Z43, ad1⟩ := Z43u
        obtain ⟨q, hα⟩ := q
        have hB1 : gH (tG G adb F.2.1 ca) ad1 Z43 H := gH_to ht hB1
        have hT := tO_A hT hk hB1
        obtain ⟨F44, eF44, q⟩ := q
        have hH : tH G a0 b0 ca F44 H := tH_eq ⟨ad1, adb, ((hα 0 0 (by decide)).trans ea), eb, hT⟩ eF44
        refine lv_istore (lv' := [(7, .int r42), (6, .int s0), (0, .ref a0), (1, .ref b0), (2, .ref ca), (3, .int x3), (4, .int x4), (5, .int x5)]) hx hb dL_town_168 hl (by decide) rfl (fun ls hl => ?_)
        refine lv_aload_n hx hb dL_town_170 rfl (lv_at hl 4 rfl) ?_
        refine lv_iconst (v := 1) hx hb dL_town_171 (by decide) ?_
        refine lv_dup2_11 hx hb dL_town_172 rfl rfl ?_
        obtain ⟨h45, q⟩ := q
        refine t_cld hx hb hK hH h45 dL_town_173 ?_
        refine lv_iload hx hb dL_town_174 (lv_at hl 0 rfl) ?_
        refine lv_if_lt (tgt := 183) hx hb dL_town_176 (by decide) (fun c46 => ?_) (fun c46 => ?_)
        · have q := (if_pos c46).mp q
          refine lv_iconst (v := 0) hx hb dL_town_183 (by decide) ?_
          exact t_184 F44 x4 x5 r42 1 (F44.2.2 (1 : Int32).toNatClampNeg) 0 _ _ _ hH hS (lv_sub hl [3, 6, 7, 0] rfl) q
        · have q := (if_neg c46).mp q
          refine lv_iconst (v := 1) hx hb dL_town_179 (by decide) ?_
          refine lv_goto (tgt := 184) hx hb dL_town_180 (by decide) ?_
          exact t_184 F44 x4 x5 r42 1 (F44.2.2 (1 : Int32).toNatClampNeg) 1 _ _ _ hH hS (lv_sub hl [3, 6, 7, 0] rfl) q
    · have q := (if_neg c5).mp q
      refine lv_iload hx hb dL_town_33 (lv_at hl 5 rfl) ?_
      refine lv_bipush (v := 36) hx hb dL_town_35 (by decide) ?_
      refine lv_idiv hx hb dL_town_37 (by decide) ?_
      refine lv_iconst (v := 2) hx hb dL_town_38 (by decide) ?_
      refine lv_irem hx hb dL_town_39 (by decide) ?_
      refine lv_if_ne (tgt := 66) hx hb dL_town_40 (by decide) (fun c55 => ?_) (fun c55 => ?_)
      · have q := (if_neg c55).mp q
        refine lv_iload hx hb dL_town_66 (lv_at hl 6 rfl) ?_
        refine lv_bipush (v := 29) hx hb dL_town_68 (by decide) ?_
        refine lv_icmp_le (tgt := 81) hx hb dL_town_70 (by decide) (fun c56 => ?_) (fun c56 => ?_)
        · have q := (if_pos c56).mp q
          refine lv_iload hx hb dL_town_81 (lv_at hl 6 rfl) ?_
          refine lv_bipush (v := 6) hx hb dL_town_83 (by decide) ?_
          refine lv_iadd hx hb dL_town_85 ?_
          exact t_86 F x4 x5 (x5 + 6) _ _ _ hH hS (lv_sub hl [1, 2, 5, 6] rfl) q
        · have q := (if_neg c56).mp q
          refine lv_iload hx hb dL_town_73 (lv_at hl 6 rfl) ?_
          refine lv_bipush (v := 6) hx hb dL_town_75 (by decide) ?_
          refine lv_isub hx hb dL_town_77 ?_
          refine lv_goto (tgt := 86) hx hb dL_town_78 (by decide) ?_
          exact t_86 F x4 x5 (x5 - 6) _ _ _ hH hS (lv_sub hl [1, 2, 5, 6] rfl) q
      · have q := (if_pos c55).mp q
        refine lv_iload hx hb dL_town_43 (lv_at hl 6 rfl) ?_
        refine lv_bipush (v := 6) hx hb dL_town_45 (by decide) ?_
        refine lv_irem hx hb dL_town_47 (by decide) ?_
        refine lv_iconst (v := 5) hx hb dL_town_48 (by decide) ?_
        refine lv_icmp_ne (tgt := 59) hx hb dL_town_49 (by decide) (fun c70 => ?_) (fun c70 => ?_)
        · have q := (if_neg c70).mp q
          refine lv_iload hx hb dL_town_59 (lv_at hl 6 rfl) ?_
          refine lv_iconst (v := 1) hx hb dL_town_61 (by decide) ?_
          refine lv_iadd hx hb dL_town_62 ?_
          refine lv_goto (tgt := 86) hx hb dL_town_63 (by decide) ?_
          exact t_86 F x4 x5 (x5 + 1) _ _ _ hH hS (lv_sub hl [1, 2, 5, 6] rfl) q
        · have q := (if_pos c70).mp q
          refine lv_iload hx hb dL_town_52 (lv_at hl 6 rfl) ?_
          refine lv_iconst (v := 1) hx hb dL_town_54 (by decide) ?_
          refine lv_isub hx hb dL_town_55 ?_
          refine lv_goto (tgt := 86) hx hb dL_town_56 (by decide) ?_
          exact t_86 F x4 x5 (x5 - 1) _ _ _ hH hS (lv_sub hl [1, 2, 5, 6] rfl) q
  unfold P_M_town at q
  refine lv_iload hx hb dL_town_0 (lv_at hl 4 rfl) ?_
  refine lv_bipush (v := 36) hx hb dL_town_2 (by decide) ?_
  refine lv_irem hx hb dL_town_4 (by decide) ?_
  refine lv_istore (lv' := [(5, .int (p4 - p4 / 36 * 36)), (0, .ref a0), (1, .ref b0), (2, .ref ca), (3, .int p3), (4, .int p4)]) hx hb dL_town_5 hl (by decide) rfl (fun ls hl => ?_)
  refine lv_aload_n hx hb dL_town_7 rfl (lv_at hl 3 rfl) ?_
  refine lv_iconst (v := 0) hx hb dL_town_8 (by decide) ?_
  obtain ⟨h1, q⟩ := q
  refine t_cld hx hb hK hH h1 dL_town_9 ?_
  refine lv_if_ne (tgt := 17) hx hb dL_town_10 (by decide) (fun c2 => ?_) (fun c2 => ?_)
  · have q := (if_neg c2).mp q
    refine lv_iload hx hb dL_town_17 (lv_at hl 5 rfl) ?_
    refine lv_bipush (v := 36) hx hb dL_town_19 (by decide) ?_
    refine lv_idiv hx hb dL_town_21 (by decide) ?_
    refine lv_aload_n hx hb dL_town_22 rfl (lv_at hl 3 rfl) ?_
    refine lv_iconst (v := 0) hx hb dL_town_23 (by decide) ?_
    obtain ⟨h3, q⟩ := q
    refine t_cld hx hb hK hH h3 dL_town_24 ?_
    obtain ⟨h4, q⟩ := q
    refine lv_irem hx hb dL_town_25 h4 ?_
    exact t_26 F p3 p4 (p4 - p4 / 36 * 36) ((p4 / 36) - (p4 / 36) / (F.2.2 (0 : Int32).toNatClampNeg) * (F.2.2 (0 : Int32).toNatClampNeg)) _ _ _ hH hS (lv_sub hl [1, 2, 3, 4, 5, 0] rfl) q
  · have q := (if_pos c2).mp q
    refine lv_iconst (v := 0) hx hb dL_town_13 (by decide) ?_
    refine lv_goto (tgt := 26) hx hb dL_town_14 (by decide) ?_
    exact t_26 F p3 p4 (p4 - p4 / 36 * 36) 0 _ _ _ hH hS (lv_sub hl [1, 2, 3, 4, 5, 0] rfl) q
