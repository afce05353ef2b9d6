def MCL : Nat := 7
def MSL : Nat := 42
set_option maxHeartbeats 4000000 in
set_option maxRecDepth 100000 in
theorem law_0 {p : Program} {l : Launch} {e : Env} {s : State} {m : MethodId} {below : List Frame} {meth : Method} {c : Code} {b L : Nat} {xs : Nat → Int32} {Q : State → Prop} {G : GP} (hfl : l.stackTraces = false) (hx : p.tables.exec = Jvm.exec) (hb : c.code = code) (hml : c.maxLocals = 7) (hown : s.vm.findClass RL = some m.cls) (hts : ∀ w ∈ wsL_law, w.before #[Value.ref b] s = true) (hX : va_X b L xs s s.heap) (hbl : b < s.heap.size) (hK : gK G s) (hG : gS G s) (hB : G.2.2.2 ≤ s.heap.size) (hL : gL s) (hBe : G.2.2.2 = s.heap.size) (ad : Nat → Nat → Nat) (F : GF) (x4 a1 a2 a3 : Int32) (hi1 : vp_in (x4 + 1) L) (hi2 : vp_in (x4 + 2) L) (hi3 : vp_in (x4 + 3) L) (ha1 : xs (x4 + 1).toNatClampNeg = a1) (ha2 : xs (x4 + 2).toNatClampNeg = a2) (ha3 : xs (x4 + 3).toNatClampNeg = a3) (cl sl : Nat) (hcl : cl + MCL ≤ 601024) (hsl : sl + MSL ≤ 7293034) (H : Heap) (locs : List Loc) (ls : Array Slot) (hH : gH G ad F H) (hS : va_S (gA G) s.heap H locs) (hl : lv_has ls 7 [(0, .ref b), (1, .ref (ad 0 0)), (2, .ref (ad 40 0)), (3, .ref (ad 79 0)), (4, .int x4)]) (K : GF → Prop) (hkk : ∀ (F1 : GF) (ad1 : Nat → Nat → Nat) (H : Heap) (locs : List Loc) (ls : Array Slot), (∀ f i : Nat, f ≠ 39 → ad1 f i = ad f i) → gH G ad1 F1 H → va_S (gA G) s.heap H locs → lv_has ls 7 [(0, .ref b), (1, .ref (ad1 0 0)), (2, .ref (ad1 40 0)), (3, .ref (ad1 79 0)), (4, .int x4)] → K F1 → W p l e room_1 s m #[Value.ref b] below meth c H locs (cl + MCL) (sl + MSL) Q (F0 m 2280 ls [])) (q : PL_0 a1 a2 a3 K F) : W p l e room_1 s m #[Value.ref b] below meth c H locs cl sl Q (F0 m 196 ls []) := by
  have hbA : ¬ gA G b := by
    intro h
    have h2 : G.2.2.2 ≤ b := h
    omega
  unfold MCL at hcl
  unfold MSL at hsl
  have t_290 : ∀ (F : GF) (s0 : Int32) (s1 : Int32) (H : Heap) (locs : List Loc) (ls : Array Slot), gH G ad F H → va_S (gA G) s.heap H locs → lv_has ls 7 [(0, .ref b), (1, .ref (ad 0 0)), (2, .ref (ad 40 0)), (3, .ref (ad 79 0)), (4, .int x4)] → (P_L_law_290 a1 a2 a3 K) F s0 s1 → W p l e room_1 s m #[Value.ref b] below meth c H locs (cl + 3) (sl + 18) Q (F0 m 290 ls [.long s1.toInt64, .long s0.toInt64]) := by
    intro F s0 s1 H locs ls hH hS hl q
    unfold P_L_law_290 at q
    refine W.lcmp hx hb dL_law_290 ?_
    refine lv_if_eq (tgt := 296) hx hb dL_law_291 (by decide) (fun c13 => ?_) (fun c13 => ?_)
    · have q := (if_pos (lcmp_eq.mp c13)).mp q
      refine lv_goto (tgt := 2280) hx hb dL_law_296 (by decide) ?_
      refine W.widen (k := cl + MCL) (n := sl + MSL) (by unfold MCL; omega) (by unfold MSL; omega) ?_
      exact hkk F ad _ _ _ (fun _ _ _ => rfl) hH hS (lv_sub hl [0, 1, 2, 3, 4] rfl) q
    · have q := (if_neg (fun z => c13 (lcmp_eq.mpr z))).mp q
      refine lv_iconst (v := 0) hx hb dL_law_294 (by decide) ?_
      exact q.elim
  have t_256 : ∀ (F : GF) (x5 : Int32) (s1 : Int32) (s2 : Int32) (s3 : Int32) (H : Heap) (locs : List Loc) (ls : Array Slot), gH G ad F H → va_S (gA G) s.heap H locs → lv_has ls 7 [(0, .ref b), (1, .ref (ad 0 0)), (2, .ref (ad 40 0)), (3, .ref (ad 79 0)), (4, .int x4), (5, .int x5)] → (P_L_law_256 a1 a2 a3 K) F x5 s1 s2 s3 → W p l e room_1 s m #[Value.ref b] below meth c H locs (cl + 3) (sl + 18) Q (F0 m 256 ls [.int s3, .int s2, .int s1, .ref (ad 40 0)]) := by
    intro F x5 s1 s2 s3 H locs ls hH hS hl q
    unfold P_L_law_256 at q
    refine va_calli (va_runV (As := [.int s1, .int s2, .int s3]) (rest := []) ⟨hx, hb, hml, hown, hts⟩ (c_X11_bar l G ad F s1 s2 s3 _) (cwV 3 hts gL_law_X11_bar rfl rfl rfl (by decide +kernel) ⟨Nat.le_of_ble_eq_true rfl, Nat.le_of_ble_eq_true rfl⟩) ⟨fun a U g mk h => ⟨h.1, gD_blind h.2.1, h.2.2⟩, g_recv (C := RX11) (T := TX11) (N := 44) hK hH 40 0 (by decide) Nat.zero_lt_one rfl rfl, fun U hU hW => ⟨rfl, gD_at hK hG hB hH hS hU hW, q⟩⟩ rfl rfl hl.1 rfl (lv_room (Nat.le_of_ble_eq_true rfl)) dL_law_256 ⟨by show cl + 3 + 0 ≤ 601024; omega, by show sl + 18 + 0 ≤ 7293034; omega⟩) hS (fun _ _ h => h) (fun _ h => h) (fun r5 F6 t H locs ht hvm q hB1 hz hk hS => ?_)
    have hH : gH G ad F6 H := gH_to ht hB1
    refine lv_istore (lv' := [(6, .int r5), (0, .ref b), (1, .ref (ad 0 0)), (2, .ref (ad 40 0)), (3, .ref (ad 79 0)), (4, .int x4), (5, .int x5)]) hx hb dL_law_259 hl (by decide) rfl (fun ls hl => ?_)
    refine lv_aload_n hx hb dL_law_261 rfl (lv_at hl 3 rfl) ?_
    refine va_calli (va_runV (As := []) (rest := []) ⟨hx, hb, hml, hown, hts⟩ (c_X11_thrown l G ad F6 _) (cwV 0 hts gL_law_X11_thrown rfl rfl rfl (by decide +kernel) ⟨Nat.le_of_ble_eq_true rfl, Nat.le_of_ble_eq_true rfl⟩) ⟨fun a U g mk h => ⟨h.1, gD_blind h.2.1, h.2.2⟩, g_recv (C := RX11) (T := TX11) (N := 44) hK hH 40 0 (by decide) Nat.zero_lt_one rfl rfl, fun U hU hW => ⟨rfl, gD_at hK hG hB hH hS hU hW, q⟩⟩ rfl rfl hl.1 rfl (lv_room (Nat.le_of_ble_eq_true rfl)) dL_law_262 ⟨by show cl + 3 + 0 ≤ 601024; omega, by show sl + 18 + 0 ≤ 7293034; omega⟩) hS (fun _ _ h => h) (fun _ h => h) (fun r7 F8 t H locs ht hvm q hB1 hz hk hS => ?_)
    have hH : gH G ad F8 H := gH_to ht hB1
    refine lv_iload hx hb dL_law_265 (lv_at hl 6 rfl) ?_
    refine lv_icmp_eq (tgt := 272) hx hb dL_law_267 (by decide) (fun c9 => ?_) (fun c9 => ?_)
    · have q := (if_pos c9).mp q
      refine lv_iload hx hb dL_law_272 (lv_at hl 6 rfl) ?_
      refine lv_if_ne (tgt := 296) hx hb dL_law_274 (by decide) (fun c10 => ?_) (fun c10 => ?_)
      · have q := (if_neg c10).mp q
        refine lv_goto (tgt := 2280) hx hb dL_law_296 (by decide) ?_
        refine W.widen (k := cl + MCL) (n := sl + MSL) (by unfold MCL; omega) (by unfold MSL; omega) ?_
        exact hkk F8 ad _ _ _ (fun _ _ _ => rfl) hH hS (lv_sub hl [1, 2, 3, 4, 5] rfl) q
      · have q := (if_pos c10).mp q
        refine lv_aload_n hx hb dL_law_277 rfl (lv_at hl 4 rfl) ?_
        refine lv_iconst (v := 0) hx hb dL_law_278 (by decide) ?_
        obtain ⟨h11, q⟩ := q
        refine g_lald hx hb hK hH h11 dL_law_279 ?_
        refine lv_iload hx hb dL_law_280 (lv_at hl 0 rfl) ?_
        refine lv_if_eq (tgt := 289) hx hb dL_law_282 (by decide) (fun c12 => ?_) (fun c12 => ?_)
        · have q := (if_pos c12).mp q
          refine lv_lconst (v := (0 : Int32).toInt64) hx hb dL_law_289 (by decide) ?_
          exact t_290 F8 (F8 79 0 (0 : Int32).toNatClampNeg) 0 _ _ _ hH hS (lv_sub hl [1, 2, 3, 4, 5] rfl) q
        · have q := (if_neg c12).mp q
          refine lv_lconst (v := (1 : Int32).toInt64) hx hb dL_law_285 (by decide) ?_
          refine lv_goto (tgt := 290) hx hb dL_law_286 (by decide) ?_
          exact t_290 F8 (F8 79 0 (0 : Int32).toNatClampNeg) 1 _ _ _ hH hS (lv_sub hl [1, 2, 3, 4, 5] rfl) q
    · have q := (if_neg c9).mp q
      refine lv_iconst (v := 0) hx hb dL_law_270 (by decide) ?_
      exact q.elim
  have t_223 : ∀ (F : GF) (s1 : Int32) (s2 : Int32) (s3 : Int32) (H : Heap) (locs : List Loc) (ls : Array Slot), gH G ad F H → va_S (gA G) s.heap H locs → lv_has ls 7 [(0, .ref b), (1, .ref (ad 0 0)), (2, .ref (ad 40 0)), (3, .ref (ad 79 0)), (4, .int x4)] → (P_L_law_223 a1 a2 a3 K) F s1 s2 s3 → W p l e room_1 s m #[Value.ref b] below meth c H locs (cl + 0) (sl + 0) Q (F0 m 223 ls [.int s3, .int s2, .int s1, .ref (ad 0 0)]) := by
    intro F s1 s2 s3 H locs ls hH hS hl q
    unfold P_L_law_223 at q
    refine lv_aload_n hx hb dL_law_223 rfl (lv_at hl 3 rfl) ?_
    refine va_calli (vx_runSW (As := [.ref (ad 0 0), .int s1, .int s2, .int s3, .ref (ad 79 0)]) (rest := []) ⟨hx, hb, hml, hown, hts⟩ (c_L_bar l hfl G ad F s1 s2 s3 _) (vx_cwSW 5 hts gL_law_L_bar rfl rfl rfl (by decide +kernel) ⟨Nat.le_of_ble_eq_true rfl, Nat.le_of_ble_eq_true rfl⟩) ⟨fun a U g mk h => ⟨h.1, ⟨gD_blind h.2.1.1, gL.moved (u := U) (U := U.calling g mk a) (Vm.Alike.refl U.vm) h.2.1.2⟩, h.2.2⟩, fun U hU hW => ⟨rfl, ⟨gD_at hK hG hB hH hS hU hW, gL.moved hW.alike hL⟩, q⟩⟩ rfl rfl hl.1 rfl (lv_room (Nat.le_of_ble_eq_true rfl)) dL_law_224 ⟨by show cl + 0 + 3 ≤ 601024; omega, by show sl + 0 + 18 ≤ 7293034; omega⟩) hS (fun _ _ h => h) (fun _ h => h) (fun r2 F3 t H locs ht hvm q hB1 hz hk hS => ?_)
    have hH : gH G ad F3 H := gH_to ht hB1
    refine lv_istore (lv' := [(5, .int r2), (0, .ref b), (1, .ref (ad 0 0)), (2, .ref (ad 40 0)), (3, .ref (ad 79 0)), (4, .int x4)]) hx hb dL_law_227 hl (by decide) rfl (fun ls hl => ?_)
    refine lv_aload_n hx hb dL_law_229 rfl (lv_at hl 3 rfl) ?_
    refine lv_aload_n hx hb dL_law_230 rfl (lv_at hl 1 rfl) ?_
    refine lv_iload hx hb dL_law_231 (lv_at hl 5 rfl) ?_
    refine lv_iconst (v := 1) hx hb dL_law_233 (by decide) ?_
    refine lv_iadd hx hb dL_law_234 ?_
    refine va_sld hx hb hX hbl hbA hS hi1 dL_law_235 ?_
    rw [ha1]
    refine lv_aload_n hx hb dL_law_236 rfl (lv_at hl 1 rfl) ?_
    refine lv_iload hx hb dL_law_237 (lv_at hl 5 rfl) ?_
    refine lv_iconst (v := 2) hx hb dL_law_239 (by decide) ?_
    refine lv_iadd hx hb dL_law_240 ?_
    refine va_sld hx hb hX hbl hbA hS hi2 dL_law_241 ?_
    rw [ha2]
    refine lv_aload_n hx hb dL_law_242 rfl (lv_at hl 1 rfl) ?_
    refine lv_iload hx hb dL_law_243 (lv_at hl 5 rfl) ?_
    refine lv_iconst (v := 3) hx hb dL_law_245 (by decide) ?_
    refine lv_iadd hx hb dL_law_246 ?_
    refine va_sld hx hb hX hbl hbA hS hi3 dL_law_247 ?_
    rw [ha3]
    refine lv_if_eq (tgt := 255) hx hb dL_law_248 (by decide) (fun c4 => ?_) (fun c4 => ?_)
    · have q := (if_pos c4).mp q
      refine lv_iconst (v := 0) hx hb dL_law_255 (by decide) ?_
      exact t_256 F3 r2 a1 a2 0 _ _ _ hH hS (lv_sub hl [1, 2, 3, 4, 5, 0] rfl) q
    · have q := (if_neg c4).mp q
      refine lv_iconst (v := 1) hx hb dL_law_251 (by decide) ?_
      refine lv_goto (tgt := 256) hx hb dL_law_252 (by decide) ?_
      exact t_256 F3 r2 a1 a2 1 _ _ _ hH hS (lv_sub hl [1, 2, 3, 4, 5, 0] rfl) q
  unfold PL_0 at q
  refine lv_aload_n hx hb dL_law_196 rfl (lv_at hl 1 rfl) ?_
  refine lv_aload_n hx hb dL_law_197 rfl (lv_at hl 0 rfl) ?_
  refine lv_iload hx hb dL_law_198 (lv_at hl 4 rfl) ?_
  refine lv_iconst (v := 1) hx hb dL_law_200 (by decide) ?_
  refine lv_iadd hx hb dL_law_201 ?_
  refine va_sld hx hb hX hbl hbA hS hi1 dL_law_202 ?_
  rw [ha1]
  refine lv_aload_n hx hb dL_law_203 rfl (lv_at hl 0 rfl) ?_
  refine lv_iload hx hb dL_law_204 (lv_at hl 4 rfl) ?_
  refine lv_iconst (v := 2) hx hb dL_law_206 (by decide) ?_
  refine lv_iadd hx hb dL_law_207 ?_
  refine va_sld hx hb hX hbl hbA hS hi2 dL_law_208 ?_
  rw [ha2]
  refine lv_aload_n hx hb dL_law_209 rfl (lv_at hl 0 rfl) ?_
  refine lv_iload hx hb dL_law_210 (lv_at hl 4 rfl) ?_
  refine lv_iconst (v := 3) hx hb dL_law_212 (by decide) ?_
  refine lv_iadd hx hb dL_law_213 ?_
  refine va_sld hx hb hX hbl hbA hS hi3 dL_law_214 ?_
  rw [ha3]
  refine lv_if_eq (tgt := 222) hx hb dL_law_215 (by decide) (fun c1 => ?_) (fun c1 => ?_)
  · have q := (if_pos c1).mp q
    refine lv_iconst (v := 0) hx hb dL_law_222 (by decide) ?_
    exact t_223 F a1 a2 0 _ _ _ hH hS (lv_sub hl [0, 1, 2, 3, 4] rfl) q
  · have q := (if_neg c1).mp q
    refine lv_iconst (v := 1) hx hb dL_law_218 (by decide) ?_
    refine lv_goto (tgt := 223) hx hb dL_law_219 (by decide) ?_
    exact t_223 F a1 a2 1 _ _ _ hH hS (lv_sub hl [0, 1, 2, 3, 4] rfl) q
set_option maxHeartbeats 4000000 in
set_option maxRecDepth 100000 in
theorem law_1 {p : Program} {l : Launch} {e : Env} {s : State} {m : MethodId} {below : List Frame} {meth : Method} {c : Code} {b L : Nat} {xs : Nat → Int32} {Q : State → Prop} {G : GP} (hfl : l.stackTraces = false) (hx : p.tables.exec = Jvm.exec) (hb : c.code = code) (hml : c.maxLocals = 7) (hown : s.vm.findClass RL = some m.cls) (hts : ∀ w ∈ wsL_law, w.before #[Value.ref b] s = true) (hX : va_X b L xs s s.heap) (hbl : b < s.heap.size) (hK : gK G s) (hG : gS G s) (hB : G.2.2.2 ≤ s.heap.size) (hL : gL s) (hBe : G.2.2.2 = s.heap.size) (ad : Nat → Nat → Nat) (F : GF) (x4 a1 a2 a3 : Int32) (hi1 : vp_in (x4 + 1) L) (hi2 : vp_in (x4 + 2) L) (hi3 : vp_in (x4 + 3) L) (ha1 : xs (x4 + 1).toNatClampNeg = a1) (ha2 : xs (x4 + 2).toNatClampNeg = a2) (ha3 : xs (x4 + 3).toNatClampNeg = a3) (cl sl : Nat) (hcl : cl + MCL ≤ 601024) (hsl : sl + MSL ≤ 7293034) (H : Heap) (locs : List Loc) (ls : Array Slot) (hH : gH G ad F H) (hS : va_S (gA G) s.heap H locs) (hl : lv_has ls 7 [(0, .ref b), (1, .ref (ad 0 0)), (2, .ref (ad 40 0)), (3, .ref (ad 79 0)), (4, .int x4)]) (K : GF → Prop) (hkk : ∀ (F1 : GF) (ad1 : Nat → Nat → Nat) (H : Heap) (locs : List Loc) (ls : Array Slot), (∀ f i : Nat, f ≠ 39 → ad1 f i = ad f i) → gH G ad1 F1 H → va_S (gA G) s.heap H locs → lv_has ls 7 [(0, .ref b), (1, .ref (ad1 0 0)), (2, .ref (ad1 40 0)), (3, .ref (ad1 79 0)), (4, .int x4)] → K F1 → W p l e room_1 s m #[Value.ref b] below meth c H locs (cl + MCL) (sl + MSL) Q (F0 m 2280 ls [])) (q : PL_1 a1 a2 a3 K F) : W p l e room_1 s m #[Value.ref b] below meth c H locs cl sl Q (F0 m 299 ls []) := by
  have hbA : ¬ gA G b := by
    intro h
    have h2 : G.2.2.2 ≤ b := h
    omega
  unfold MCL at hcl
  unfold MSL at hsl
  unfold PL_1 at q
  refine lv_aload_n hx hb dL_law_299 rfl (lv_at hl 1 rfl) ?_
  refine lv_aload_n hx hb dL_law_300 rfl (lv_at hl 0 rfl) ?_
  refine lv_iload hx hb dL_law_301 (lv_at hl 4 rfl) ?_
  refine lv_iconst (v := 1) hx hb dL_law_303 (by decide) ?_
  refine lv_iadd hx hb dL_law_304 ?_
  refine va_sld hx hb hX hbl hbA hS hi1 dL_law_305 ?_
  rw [ha1]
  refine lv_aload_n hx hb dL_law_306 rfl (lv_at hl 0 rfl) ?_
  refine lv_iload hx hb dL_law_307 (lv_at hl 4 rfl) ?_
  refine lv_iconst (v := 2) hx hb dL_law_309 (by decide) ?_
  refine lv_iadd hx hb dL_law_310 ?_
  refine va_sld hx hb hX hbl hbA hS hi2 dL_law_311 ?_
  rw [ha2]
  refine lv_aload_n hx hb dL_law_312 rfl (lv_at hl 3 rfl) ?_
  refine va_calli (vx_runSW (As := [.ref (ad 0 0), .int a1, .int a2, .ref (ad 79 0)]) (rest := []) ⟨hx, hb, hml, hown, hts⟩ (c_L_way l hfl G ad F a1 a2 _) (vx_cwSW 4 hts gL_law_L_way rfl rfl rfl (by decide +kernel) ⟨Nat.le_of_ble_eq_true rfl, Nat.le_of_ble_eq_true rfl⟩) ⟨fun a U g mk h => ⟨h.1, ⟨gD_blind h.2.1.1, gL.moved (u := U) (U := U.calling g mk a) (Vm.Alike.refl U.vm) h.2.1.2⟩, h.2.2⟩, fun U hU hW => ⟨rfl, ⟨gD_at hK hG hB hH hS hU hW, gL.moved hW.alike hL⟩, q⟩⟩ rfl rfl hl.1 rfl (lv_room (Nat.le_of_ble_eq_true rfl)) dL_law_313 ⟨by show cl + 0 + 2 ≤ 601024; omega, by show sl + 0 + 12 ≤ 7293034; omega⟩) hS (fun _ _ h => h) (fun _ h => h) (fun r1 F2 t H locs ht hvm q hB1 hz hk hS => ?_)
  have hH : gH G ad F2 H := gH_to ht hB1
  refine lv_istore (lv' := [(5, .int r1), (0, .ref b), (1, .ref (ad 0 0)), (2, .ref (ad 40 0)), (3, .ref (ad 79 0)), (4, .int x4)]) hx hb dL_law_316 hl (by decide) rfl (fun ls hl => ?_)
  refine lv_aload_n hx hb dL_law_318 rfl (lv_at hl 3 rfl) ?_
  refine lv_aload_n hx hb dL_law_319 rfl (lv_at hl 1 rfl) ?_
  refine lv_iload hx hb dL_law_320 (lv_at hl 5 rfl) ?_
  refine lv_iconst (v := 1) hx hb dL_law_322 (by decide) ?_
  refine lv_iadd hx hb dL_law_323 ?_
  refine va_sld hx hb hX hbl hbA hS hi1 dL_law_324 ?_
  rw [ha1]
  refine lv_aload_n hx hb dL_law_325 rfl (lv_at hl 1 rfl) ?_
  refine lv_iload hx hb dL_law_326 (lv_at hl 5 rfl) ?_
  refine lv_iconst (v := 2) hx hb dL_law_328 (by decide) ?_
  refine lv_iadd hx hb dL_law_329 ?_
  refine va_sld hx hb hX hbl hbA hS hi2 dL_law_330 ?_
  rw [ha2]
  refine va_calli (va_runV (As := [.int a1, .int a2]) (rest := []) ⟨hx, hb, hml, hown, hts⟩ (c_X11_way l G ad F2 a1 a2 _) (cwV 2 hts gL_law_X11_way rfl rfl rfl (by decide +kernel) ⟨Nat.le_of_ble_eq_true rfl, Nat.le_of_ble_eq_true rfl⟩) ⟨fun a U g mk h => ⟨h.1, gD_blind h.2.1, h.2.2⟩, g_recv (C := RX11) (T := TX11) (N := 44) hK hH 40 0 (by decide) Nat.zero_lt_one rfl rfl, fun U hU hW => ⟨rfl, gD_at hK hG hB hH hS hU hW, q⟩⟩ rfl rfl hl.1 rfl (lv_room (Nat.le_of_ble_eq_true rfl)) dL_law_331 ⟨by show cl + 2 + 0 ≤ 601024; omega, by show sl + 12 + 0 ≤ 7293034; omega⟩) hS (fun _ _ h => h) (fun _ h => h) (fun r3 F4 t H locs ht hvm q hB1 hz hk hS => ?_)
  have hH : gH G ad F4 H := gH_to ht hB1
  refine lv_istore (lv' := [(6, .int r3), (5, .int r1), (0, .ref b), (1, .ref (ad 0 0)), (2, .ref (ad 40 0)), (3, .ref (ad 79 0)), (4, .int x4)]) hx hb dL_law_334 hl (by decide) rfl (fun ls hl => ?_)
  refine lv_aload_n hx hb dL_law_336 rfl (lv_at hl 4 rfl) ?_
  refine va_calli (va_runV (As := []) (rest := []) ⟨hx, hb, hml, hown, hts⟩ (c_X11_thrown l G ad F4 _) (cwV 0 hts gL_law_X11_thrown rfl rfl rfl (by decide +kernel) ⟨Nat.le_of_ble_eq_true rfl, Nat.le_of_ble_eq_true rfl⟩) ⟨fun a U g mk h => ⟨h.1, gD_blind h.2.1, h.2.2⟩, g_recv (C := RX11) (T := TX11) (N := 44) hK hH 40 0 (by decide) Nat.zero_lt_one rfl rfl, fun U hU hW => ⟨rfl, gD_at hK hG hB hH hS hU hW, q⟩⟩ rfl rfl hl.1 rfl (lv_room (Nat.le_of_ble_eq_true rfl)) dL_law_337 ⟨by show cl + 2 + 0 ≤ 601024; omega, by show sl + 12 + 0 ≤ 7293034; omega⟩) hS (fun _ _ h => h) (fun _ h => h) (fun r5 F6 t H locs ht hvm q hB1 hz hk hS => ?_)
  have hH : gH G ad F6 H := gH_to ht hB1
  refine lv_iload hx hb dL_law_340 (lv_at hl 1 rfl) ?_
  refine lv_icmp_eq (tgt := 347) hx hb dL_law_342 (by decide) (fun c7 => ?_) (fun c7 => ?_)
  · have q := (if_pos c7).mp q
    refine lv_iload hx hb dL_law_347 (lv_at hl 1 rfl) ?_
    refine lv_if_ne (tgt := 364) hx hb dL_law_349 (by decide) (fun c8 => ?_) (fun c8 => ?_)
    · have q := (if_neg c8).mp q
      refine lv_goto (tgt := 2280) hx hb dL_law_364 (by decide) ?_
      refine W.widen (k := cl + MCL) (n := sl + MSL) (by unfold MCL; omega) (by unfold MSL; omega) ?_
      exact hkk F6 ad _ _ _ (fun _ _ _ => rfl) hH hS (lv_sub hl [2, 3, 4, 5, 6] rfl) q
    · have q := (if_pos c8).mp q
      refine lv_aload_n hx hb dL_law_352 rfl (lv_at hl 5 rfl) ?_
      refine lv_iconst (v := 0) hx hb dL_law_353 (by decide) ?_
      obtain ⟨h9, q⟩ := q
      refine g_lald hx hb hK hH h9 dL_law_354 ?_
      refine lv_iload hx hb dL_law_355 (lv_at hl 0 rfl) ?_
      refine lv_i2l (v := r3.toInt64) hx hb dL_law_357 rfl ?_
      refine W.lcmp hx hb dL_law_358 ?_
      refine lv_if_eq (tgt := 364) hx hb dL_law_359 (by decide) (fun c10 => ?_) (fun c10 => ?_)
      · have q := (if_pos (lcmp_eq.mp c10)).mp q
        refine lv_goto (tgt := 2280) hx hb dL_law_364 (by decide) ?_
        refine W.widen (k := cl + MCL) (n := sl + MSL) (by unfold MCL; omega) (by unfold MSL; omega) ?_
        exact hkk F6 ad _ _ _ (fun _ _ _ => rfl) hH hS (lv_sub hl [2, 3, 4, 5, 6] rfl) q
      · have q := (if_neg (fun z => c10 (lcmp_eq.mpr z))).mp q
        refine lv_iconst (v := 0) hx hb dL_law_362 (by decide) ?_
        exact q.elim
  · have q := (if_neg c7).mp q
    refine lv_iconst (v := 0) hx hb dL_law_345 (by decide) ?_
    exact q.elim
set_option maxHeartbeats 4000000 in
set_option maxRecDepth 100000 in
theorem law_2 {p : Program} {l : Launch} {e : Env} {s : State} {m : MethodId} {below : List Frame} {meth : Method} {c : Code} {b L : Nat} {xs : Nat → Int32} {Q : State → Prop} {G : GP} (hfl : l.stackTraces = false) (hx : p.tables.exec = Jvm.exec) (hb : c.code = code) (hml : c.maxLocals = 7) (hown : s.vm.findClass RL = some m.cls) (hts : ∀ w ∈ wsL_law, w.before #[Value.ref b] s = true) (hX : va_X b L xs s s.heap) (hbl : b < s.heap.size) (hK : gK G s) (hG : gS G s) (hB : G.2.2.2 ≤ s.heap.size) (hL : gL s) (hBe : G.2.2.2 = s.heap.size) (ad : Nat → Nat → Nat) (F : GF) (x4 a1 a2 a3 : Int32) (hi1 : vp_in (x4 + 1) L) (hi2 : vp_in (x4 + 2) L) (hi3 : vp_in (x4 + 3) L) (ha1 : xs (x4 + 1).toNatClampNeg = a1) (ha2 : xs (x4 + 2).toNatClampNeg = a2) (ha3 : xs (x4 + 3).toNatClampNeg = a3) (cl sl : Nat) (hcl : cl + MCL ≤ 601024) (hsl : sl + MSL ≤ 7293034) (H : Heap) (locs : List Loc) (ls : Array Slot) (hH : gH G ad F H) (hS : va_S (gA G) s.heap H locs) (hl : lv_has ls 7 [(0, .ref b), (1, .ref (ad 0 0)), (2, .ref (ad 40 0)), (3, .ref (ad 79 0)), (4, .int x4)]) (K : GF → Prop) (hkk : ∀ (F1 : GF) (ad1 : Nat → Nat → Nat) (H : Heap) (locs : List Loc) (ls : Array Slot), (∀ f i : Nat, f ≠ 39 → ad1 f i = ad f i) → gH G ad1 F1 H → va_S (gA G) s.heap H locs → lv_has ls 7 [(0, .ref b), (1, .ref (ad1 0 0)), (2, .ref (ad1 40 0)), (3, .ref (ad1 79 0)), (4, .int x4)] → K F1 → W p l e room_1 s m #[Value.ref b] below meth c H locs (cl + MCL) (sl + MSL) Q (F0 m 2280 ls [])) (q : PL_2 a1 a2 a3 K F) : W p l e room_1 s m #[Value.ref b] below meth c H locs cl sl Q (F0 m 367 ls []) := by
  have hbA : ¬ gA G b := by
    intro h
    have h2 : G.2.2.2 ≤ b := h
    omega
  unfold MCL at hcl
  unfold MSL at hsl
  unfold PL_2 at q
  refine lv_aload_n hx hb dL_law_367 rfl (lv_at hl 1 rfl) ?_
  refine lv_aload_n hx hb dL_law_368 rfl (lv_at hl 0 rfl) ?_
  refine lv_iload hx hb dL_law_369 (lv_at hl 4 rfl) ?_
  refine lv_iconst (v := 1) hx hb dL_law_371 (by decide) ?_
  refine lv_iadd hx hb dL_law_372 ?_
  refine va_sld hx hb hX hbl hbA hS hi1 dL_law_373 ?_
  rw [ha1]
  refine lv_aload_n hx hb dL_law_374 rfl (lv_at hl 0 rfl) ?_
  refine lv_iload hx hb dL_law_375 (lv_at hl 4 rfl) ?_
  refine lv_iconst (v := 2) hx hb dL_law_377 (by decide) ?_
  refine lv_iadd hx hb dL_law_378 ?_
  refine va_sld hx hb hX hbl hbA hS hi2 dL_law_379 ?_
  rw [ha2]
  refine lv_aload_n hx hb dL_law_380 rfl (lv_at hl 3 rfl) ?_
  refine va_calli (vx_runSW (As := [.ref (ad 0 0), .int a1, .int a2, .ref (ad 79 0)]) (rest := []) ⟨hx, hb, hml, hown, hts⟩ (c_L_station l hfl G ad F a1 a2 _) (vx_cwSW 4 hts gL_law_L_station rfl rfl rfl (by decide +kernel) ⟨Nat.le_of_ble_eq_true rfl, Nat.le_of_ble_eq_true rfl⟩) ⟨fun a U g mk h => ⟨h.1, ⟨gD_blind h.2.1.1, gL.moved (u := U) (U := U.calling g mk a) (Vm.Alike.refl U.vm) h.2.1.2⟩, h.2.2⟩, fun U hU hW => ⟨rfl, ⟨gD_at hK hG hB hH hS hU hW, gL.moved hW.alike hL⟩, q⟩⟩ rfl rfl hl.1 rfl (lv_room (Nat.le_of_ble_eq_true rfl)) dL_law_381 ⟨by show cl + 0 + 3 ≤ 601024; omega, by show sl + 0 + 18 ≤ 7293034; omega⟩) hS (fun _ _ h => h) (fun _ h => h) (fun r1 F2 t H locs ht hvm q hB1 hz hk hS => ?_)
  have hH : gH G ad F2 H := gH_to ht hB1
  refine lv_istore (lv' := [(5, .int r1), (0, .ref b), (1, .ref (ad 0 0)), (2, .ref (ad 40 0)), (3, .ref (ad 79 0)), (4, .int x4)]) hx hb dL_law_384 hl (by decide) rfl (fun ls hl => ?_)
  refine lv_aload_n hx hb dL_law_386 rfl (lv_at hl 3 rfl) ?_
  refine lv_aload_n hx hb dL_law_387 rfl (lv_at hl 1 rfl) ?_
  refine lv_iload hx hb dL_law_388 (lv_at hl 5 rfl) ?_
  refine lv_iconst (v := 1) hx hb dL_law_390 (by decide) ?_
  refine lv_iadd hx hb dL_law_391 ?_
  refine va_sld hx hb hX hbl hbA hS hi1 dL_law_392 ?_
  rw [ha1]
  refine lv_aload_n hx hb dL_law_393 rfl (lv_at hl 1 rfl) ?_
  refine lv_iload hx hb dL_law_394 (lv_at hl 5 rfl) ?_
  refine lv_iconst (v := 2) hx hb dL_law_396 (by decide) ?_
  refine lv_iadd hx hb dL_law_397 ?_
  refine va_sld hx hb hX hbl hbA hS hi2 dL_law_398 ?_
  rw [ha2]
  refine va_calli (va_runV (As := [.int a1, .int a2]) (rest := []) ⟨hx, hb, hml, hown, hts⟩ (c_X11_station l G ad F2 a1 a2 _) (cwV 2 hts gL_law_X11_station rfl rfl rfl (by decide +kernel) ⟨Nat.le_of_ble_eq_true rfl, Nat.le_of_ble_eq_true rfl⟩) ⟨fun a U g mk h => ⟨h.1, gD_blind h.2.1, h.2.2⟩, g_recv (C := RX11) (T := TX11) (N := 44) hK hH 40 0 (by decide) Nat.zero_lt_one rfl rfl, fun U hU hW => ⟨rfl, gD_at hK hG hB hH hS hU hW, q⟩⟩ rfl rfl hl.1 rfl (lv_room (Nat.le_of_ble_eq_true rfl)) dL_law_399 ⟨by show cl + 3 + 0 ≤ 601024; omega, by show sl + 18 + 0 ≤ 7293034; omega⟩) hS (fun _ _ h => h) (fun _ h => h) (fun r3 F4 t H locs ht hvm q hB1 hz hk hS => ?_)
  have hH : gH G ad F4 H := gH_to ht hB1
  refine lv_istore (lv' := [(6, .int r3), (5, .int r1), (0, .ref b), (1, .ref (ad 0 0)), (2, .ref (ad 40 0)), (3, .ref (ad 79 0)), (4, .int x4)]) hx hb dL_law_402 hl (by decide) rfl (fun ls hl => ?_)
  refine lv_aload_n hx hb dL_law_404 rfl (lv_at hl 4 rfl) ?_
  refine va_calli (va_runV (As := []) (rest := []) ⟨hx, hb, hml, hown, hts⟩ (c_X11_thrown l G ad F4 _) (cwV 0 hts gL_law_X11_thrown rfl rfl rfl (by decide +kernel) ⟨Nat.le_of_ble_eq_true rfl, Nat.le_of_ble_eq_true rfl⟩) ⟨fun a U g mk h => ⟨h.1, gD_blind h.2.1, h.2.2⟩, g_recv (C := RX11) (T := TX11) (N := 44) hK hH 40 0 (by decide) Nat.zero_lt_one rfl rfl, fun U hU hW => ⟨rfl, gD_at hK hG hB hH hS hU hW, q⟩⟩ rfl rfl hl.1 rfl (lv_room (Nat.le_of_ble_eq_true rfl)) dL_law_405 ⟨by show cl + 3 + 0 ≤ 601024; omega, by show sl + 18 + 0 ≤ 7293034; omega⟩) hS (fun _ _ h => h) (fun _ h => h) (fun r5 F6 t H locs ht hvm q hB1 hz hk hS => ?_)
  have hH : gH G ad F6 H := gH_to ht hB1
  refine lv_iload hx hb dL_law_408 (lv_at hl 1 rfl) ?_
  refine lv_icmp_eq (tgt := 415) hx hb dL_law_410 (by decide) (fun c7 => ?_) (fun c7 => ?_)
  · have q := (if_pos c7).mp q
    refine lv_iload hx hb dL_law_415 (lv_at hl 1 rfl) ?_
    refine lv_if_ne (tgt := 432) hx hb dL_law_417 (by decide) (fun c8 => ?_) (fun c8 => ?_)
    · have q := (if_neg c8).mp q
      refine lv_goto (tgt := 2280) hx hb dL_law_432 (by decide) ?_
      refine W.widen (k := cl + MCL) (n := sl + MSL) (by unfold MCL; omega) (by unfold MSL; omega) ?_
      exact hkk F6 ad _ _ _ (fun _ _ _ => rfl) hH hS (lv_sub hl [2, 3, 4, 5, 6] rfl) q
    · have q := (if_pos c8).mp q
      refine lv_aload_n hx hb dL_law_420 rfl (lv_at hl 5 rfl) ?_
      refine lv_iconst (v := 0) hx hb dL_law_421 (by decide) ?_
      obtain ⟨h9, q⟩ := q
      refine g_lald hx hb hK hH h9 dL_law_422 ?_
      refine lv_iload hx hb dL_law_423 (lv_at hl 0 rfl) ?_
      refine lv_i2l (v := r3.toInt64) hx hb dL_law_425 rfl ?_
      refine W.lcmp hx hb dL_law_426 ?_
      refine lv_if_eq (tgt := 432) hx hb dL_law_427 (by decide) (fun c10 => ?_) (fun c10 => ?_)
      · have q := (if_pos (lcmp_eq.mp c10)).mp q
        refine lv_goto (tgt := 2280) hx hb dL_law_432 (by decide) ?_
        refine W.widen (k := cl + MCL) (n := sl + MSL) (by unfold MCL; omega) (by unfold MSL; omega) ?_
        exact hkk F6 ad _ _ _ (fun _ _ _ => rfl) hH hS (lv_sub hl [2, 3, 4, 5, 6] rfl) q
      · have q := (if_neg (fun z => c10 (lcmp_eq.mpr z))).mp q
        refine lv_iconst (v := 0) hx hb dL_law_430 (by decide) ?_
        exact q.elim
  · have q := (if_neg c7).mp q
    refine lv_iconst (v := 0) hx hb dL_law_413 (by decide) ?_
    exact q.elim
set_option maxHeartbeats 4000000 in
set_option maxRecDepth 100000 in
theorem law_3 {p : Program} {l : Launch} {e : Env} {s : State} {m : MethodId} {below : List Frame} {meth : Method} {c : Code} {b L : Nat} {xs : Nat → Int32} {Q : State → Prop} {G : GP} (hfl : l.stackTraces = false) (hx : p.tables.exec = Jvm.exec) (hb : c.code = code) (hml : c.maxLocals = 7) (hown : s.vm.findClass RL = some m.cls) (hts : ∀ w ∈ wsL_law, w.before #[Value.ref b] s = true) (hX : va_X b L xs s s.heap) (hbl : b < s.heap.size) (hK : gK G s) (hG : gS G s) (hB : G.2.2.2 ≤ s.heap.size) (hL : gL s) (hBe : G.2.2.2 = s.heap.size) (ad : Nat → Nat → Nat) (F : GF) (x4 a1 a2 a3 : Int32) (hi1 : vp_in (x4 + 1) L) (hi2 : vp_in (x4 + 2) L) (hi3 : vp_in (x4 + 3) L) (ha1 : xs (x4 + 1).toNatClampNeg = a1) (ha2 : xs (x4 + 2).toNatClampNeg = a2) (ha3 : xs (x4 + 3).toNatClampNeg = a3) (cl sl : Nat) (hcl : cl + MCL ≤ 601024) (hsl : sl + MSL ≤ 7293034) (H : Heap) (locs : List Loc) (ls : Array Slot) (hH : gH G ad F H) (hS : va_S (gA G) s.heap H locs) (hl : lv_has ls 7 [(0, .ref b), (1, .ref (ad 0 0)), (2, .ref (ad 40 0)), (3, .ref (ad 79 0)), (4, .int x4)]) (K : GF → Prop) (hkk : ∀ (F1 : GF) (ad1 : Nat → Nat → Nat) (H : Heap) (locs : List Loc) (ls : Array Slot), (∀ f i : Nat, f ≠ 39 → ad1 f i = ad f i) → gH G ad1 F1 H → va_S (gA G) s.heap H locs → lv_has ls 7 [(0, .ref b), (1, .ref (ad1 0 0)), (2, .ref (ad1 40 0)), (3, .ref (ad1 79 0)), (4, .int x4)] → K F1 → W p l e room_1 s m #[Value.ref b] below meth c H locs (cl + MCL) (sl + MSL) Q (F0 m 2280 ls [])) (q : PL_3 a1 a2 a3 K F) : W p l e room_1 s m #[Value.ref b] below meth c H locs cl sl Q (F0 m 435 ls []) := by
  have hbA : ¬ gA G b := by
    intro h
    have h2 : G.2.2.2 ≤ b := h
    omega
  unfold MCL at hcl
  unfold MSL at hsl
  unfold PL_3 at q
  refine lv_aload_n hx hb dL_law_435 rfl (lv_at hl 1 rfl) ?_
  refine lv_aload_n hx hb dL_law_436 rfl (lv_at hl 0 rfl) ?_
  refine lv_iload hx hb dL_law_437 (lv_at hl 4 rfl) ?_
  refine lv_iconst (v := 1) hx hb dL_law_439 (by decide) ?_
  refine lv_iadd hx hb dL_law_440 ?_
  refine va_sld hx hb hX hbl hbA hS hi1 dL_law_441 ?_
  rw [ha1]
  refine lv_aload_n hx hb dL_law_442 rfl (lv_at hl 0 rfl) ?_
  refine lv_iload hx hb dL_law_443 (lv_at hl 4 rfl) ?_
  refine lv_iconst (v := 2) hx hb dL_law_445 (by decide) ?_
  refine lv_iadd hx hb dL_law_446 ?_
  refine va_sld hx hb hX hbl hbA hS hi2 dL_law_447 ?_
  rw [ha2]
  refine lv_aload_n hx hb dL_law_448 rfl (lv_at hl 3 rfl) ?_
  refine va_calli (vx_runSW (As := [.ref (ad 0 0), .int a1, .int a2, .ref (ad 79 0)]) (rest := []) ⟨hx, hb, hml, hown, hts⟩ (c_L_setSeats l hfl G ad F a1 a2 _) (vx_cwSW 4 hts gL_law_L_setSeats rfl rfl rfl (by decide +kernel) ⟨Nat.le_of_ble_eq_true rfl, Nat.le_of_ble_eq_true rfl⟩) ⟨fun a U g mk h => ⟨h.1, ⟨gD_blind h.2.1.1, gL.moved (u := U) (U := U.calling g mk a) (Vm.Alike.refl U.vm) h.2.1.2⟩, h.2.2⟩, fun U hU hW => ⟨rfl, ⟨gD_at hK hG hB hH hS hU hW, gL.moved hW.alike hL⟩, q⟩⟩ rfl rfl hl.1 rfl (lv_room (Nat.le_of_ble_eq_true rfl)) dL_law_449 ⟨by show cl + 0 + 2 ≤ 601024; omega, by show sl + 0 + 12 ≤ 7293034; omega⟩) hS (fun _ _ h => h) (fun _ h => h) (fun r1 F2 t H locs ht hvm q hB1 hz hk hS => ?_)
  have hH : gH G ad F2 H := gH_to ht hB1
  refine lv_istore (lv' := [(5, .int r1), (0, .ref b), (1, .ref (ad 0 0)), (2, .ref (ad 40 0)), (3, .ref (ad 79 0)), (4, .int x4)]) hx hb dL_law_452 hl (by decide) rfl (fun ls hl => ?_)
  refine lv_aload_n hx hb dL_law_454 rfl (lv_at hl 3 rfl) ?_
  refine lv_aload_n hx hb dL_law_455 rfl (lv_at hl 1 rfl) ?_
  refine lv_iload hx hb dL_law_456 (lv_at hl 5 rfl) ?_
  refine lv_iconst (v := 1) hx hb dL_law_458 (by decide) ?_
  refine lv_iadd hx hb dL_law_459 ?_
  refine va_sld hx hb hX hbl hbA hS hi1 dL_law_460 ?_
  rw [ha1]
  refine lv_aload_n hx hb dL_law_461 rfl (lv_at hl 1 rfl) ?_
  refine lv_iload hx hb dL_law_462 (lv_at hl 5 rfl) ?_
  refine lv_iconst (v := 2) hx hb dL_law_464 (by decide) ?_
  refine lv_iadd hx hb dL_law_465 ?_
  refine va_sld hx hb hX hbl hbA hS hi2 dL_law_466 ?_
  rw [ha2]
  refine va_calli (va_runV (As := [.int a1, .int a2]) (rest := []) ⟨hx, hb, hml, hown, hts⟩ (c_X11_setSeats l G ad F2 a1 a2 _) (cwV 2 hts gL_law_X11_setSeats rfl rfl rfl (by decide +kernel) ⟨Nat.le_of_ble_eq_true rfl, Nat.le_of_ble_eq_true rfl⟩) ⟨fun a U g mk h => ⟨h.1, gD_blind h.2.1, h.2.2⟩, g_recv (C := RX11) (T := TX11) (N := 44) hK hH 40 0 (by decide) Nat.zero_lt_one rfl rfl, fun U hU hW => ⟨rfl, gD_at hK hG hB hH hS hU hW, q⟩⟩ rfl rfl hl.1 rfl (lv_room (Nat.le_of_ble_eq_true rfl)) dL_law_467 ⟨by show cl + 2 + 0 ≤ 601024; omega, by show sl + 12 + 0 ≤ 7293034; omega⟩) hS (fun _ _ h => h) (fun _ h => h) (fun r3 F4 t H locs ht hvm q hB1 hz hk hS => ?_)
  have hH : gH G ad F4 H := gH_to ht hB1
  refine lv_istore (lv' := [(6, .int r3), (5, .int r1), (0, .ref b), (1, .ref (ad 0 0)), (2, .ref (ad 40 0)), (3, .ref (ad 79 0)), (4, .int x4)]) hx hb dL_law_470 hl (by decide) rfl (fun ls hl => ?_)
  refine lv_aload_n hx hb dL_law_472 rfl (lv_at hl 4 rfl) ?_
  refine va_calli (va_runV (As := []) (rest := []) ⟨hx, hb, hml, hown, hts⟩ (c_X11_thrown l G ad F4 _) (cwV 0 hts gL_law_X11_thrown rfl rfl rfl (by decide +kernel) ⟨Nat.le_of_ble_eq_true rfl, Nat.le_of_ble_eq_true rfl⟩) ⟨fun a U g mk h => ⟨h.1, gD_blind h.2.1, h.2.2⟩, g_recv (C := RX11) (T := TX11) (N := 44) hK hH 40 0 (by decide) Nat.zero_lt_one rfl rfl, fun U hU hW => ⟨rfl, gD_at hK hG hB hH hS hU hW, q⟩⟩ rfl rfl hl.1 rfl (lv_room (Nat.le_of_ble_eq_true rfl)) dL_law_473 ⟨by show cl + 2 + 0 ≤ 601024; omega, by show sl + 12 + 0 ≤ 7293034; omega⟩) hS (fun _ _ h => h) (fun _ h => h) (fun r5 F6 t H locs ht hvm q hB1 hz hk hS => ?_)
  have hH : gH G ad F6 H := gH_to ht hB1
  refine lv_iload hx hb dL_law_476 (lv_at hl 1 rfl) ?_
  refine lv_icmp_eq (tgt := 483) hx hb dL_law_478 (by decide) (fun c7 => ?_) (fun c7 => ?_)
  · have q := (if_pos c7).mp q
    refine lv_iload hx hb dL_law_483 (lv_at hl 1 rfl) ?_
    refine lv_if_ne (tgt := 500) hx hb dL_law_485 (by decide) (fun c8 => ?_) (fun c8 => ?_)
    · have q := (if_neg c8).mp q
      refine lv_goto (tgt := 2280) hx hb dL_law_500 (by decide) ?_
      refine W.widen (k := cl + MCL) (n := sl + MSL) (by unfold MCL; omega) (by unfold MSL; omega) ?_
      exact hkk F6 ad _ _ _ (fun _ _ _ => rfl) hH hS (lv_sub hl [2, 3, 4, 5, 6] rfl) q
    · have q := (if_pos c8).mp q
      refine lv_aload_n hx hb dL_law_488 rfl (lv_at hl 5 rfl) ?_
      refine lv_iconst (v := 0) hx hb dL_law_489 (by decide) ?_
      obtain ⟨h9, q⟩ := q
      refine g_lald hx hb hK hH h9 dL_law_490 ?_
      refine lv_iload hx hb dL_law_491 (lv_at hl 0 rfl) ?_
      refine lv_i2l (v := r3.toInt64) hx hb dL_law_493 rfl ?_
      refine W.lcmp hx hb dL_law_494 ?_
      refine lv_if_eq (tgt := 500) hx hb dL_law_495 (by decide) (fun c10 => ?_) (fun c10 => ?_)
      · have q := (if_pos (lcmp_eq.mp c10)).mp q
        refine lv_goto (tgt := 2280) hx hb dL_law_500 (by decide) ?_
        refine W.widen (k := cl + MCL) (n := sl + MSL) (by unfold MCL; omega) (by unfold MSL; omega) ?_
        exact hkk F6 ad _ _ _ (fun _ _ _ => rfl) hH hS (lv_sub hl [2, 3, 4, 5, 6] rfl) q
      · have q := (if_neg (fun z => c10 (lcmp_eq.mpr z))).mp q
        refine lv_iconst (v := 0) hx hb dL_law_498 (by decide) ?_
        exact q.elim
  · have q := (if_neg c7).mp q
    refine lv_iconst (v := 0) hx hb dL_law_481 (by decide) ?_
    exact q.elim
set_option maxHeartbeats 4000000 in
set_option maxRecDepth 100000 in
theorem law_4 {p : Program} {l : Launch} {e : Env} {s : State} {m : MethodId} {below : List Frame} {meth : Method} {c : Code} {b L : Nat} {xs : Nat → Int32} {Q : State → Prop} {G : GP} (hfl : l.stackTraces = false) (hx : p.tables.exec = Jvm.exec) (hb : c.code = code) (hml : c.maxLocals = 7) (hown : s.vm.findClass RL = some m.cls) (hts : ∀ w ∈ wsL_law, w.before #[Value.ref b] s = true) (hX : va_X b L xs s s.heap) (hbl : b < s.heap.size) (hK : gK G s) (hG : gS G s) (hB : G.2.2.2 ≤ s.heap.size) (hL : gL s) (hBe : G.2.2.2 = s.heap.size) (ad : Nat → Nat → Nat) (F : GF) (x4 a1 a2 a3 : Int32) (hi1 : vp_in (x4 + 1) L) (hi2 : vp_in (x4 + 2) L) (hi3 : vp_in (x4 + 3) L) (ha1 : xs (x4 + 1).toNatClampNeg = a1) (ha2 : xs (x4 + 2).toNatClampNeg = a2) (ha3 : xs (x4 + 3).toNatClampNeg = a3) (cl sl : Nat) (hcl : cl + MCL ≤ 601024) (hsl : sl + MSL ≤ 7293034) (H : Heap) (locs : List Loc) (ls : Array Slot) (hH : gH G ad F H) (hS : va_S (gA G) s.heap H locs) (hl : lv_has ls 7 [(0, .ref b), (1, .ref (ad 0 0)), (2, .ref (ad 40 0)), (3, .ref (ad 79 0)), (4, .int x4)]) (K : GF → Prop) (hkk : ∀ (F1 : GF) (ad1 : Nat → Nat → Nat) (H : Heap) (locs : List Loc) (ls : Array Slot), (∀ f i : Nat, f ≠ 39 → ad1 f i = ad f i) → gH G ad1 F1 H → va_S (gA G) s.heap H locs → lv_has ls 7 [(0, .ref b), (1, .ref (ad1 0 0)), (2, .ref (ad1 40 0)), (3, .ref (ad1 79 0)), (4, .int x4)] → K F1 → W p l e room_1 s m #[Value.ref b] below meth c H locs (cl + MCL) (sl + MSL) Q (F0 m 2280 ls [])) (q : PL_4 a1 a2 a3 K F) : W p l e room_1 s m #[Value.ref b] below meth c H locs cl sl Q (F0 m 503 ls []) := by
  have hbA : ¬ gA G b := by
    intro h
    have h2 : G.2.2.2 ≤ b := h
    omega
  unfold MCL at hcl
  unfold MSL at hsl
  unfold PL_4 at q
  refine lv_aload_n hx hb dL_law_503 rfl (lv_at hl 1 rfl) ?_
  refine lv_aload_n hx hb dL_law_504 rfl (lv_at hl 0 rfl) ?_
  refine lv_iload hx hb dL_law_505 (lv_at hl 4 rfl) ?_
  refine lv_iconst (v := 1) hx hb dL_law_507 (by decide) ?_
  refine lv_iadd hx hb dL_law_508 ?_
  refine va_sld hx hb hX hbl hbA hS hi1 dL_law_509 ?_
  rw [ha1]
  refine lv_aload_n hx hb dL_law_510 rfl (lv_at hl 0 rfl) ?_
  refine lv_iload hx hb dL_law_511 (lv_at hl 4 rfl) ?_
  refine lv_iconst (v := 2) hx hb dL_law_513 (by decide) ?_
  refine lv_iadd hx hb dL_law_514 ?_
  refine va_sld hx hb hX hbl hbA hS hi2 dL_law_515 ?_
  rw [ha2]
  refine lv_aload_n hx hb dL_law_516 rfl (lv_at hl 3 rfl) ?_
  refine va_calli (vx_runSW (As := [.ref (ad 0 0), .int a1, .int a2, .ref (ad 79 0)]) (rest := []) ⟨hx, hb, hml, hown, hts⟩ (c_L_person l hfl G ad F a1 a2 _) (vx_cwSW 4 hts gL_law_L_person rfl rfl rfl (by decide +kernel) ⟨Nat.le_of_ble_eq_true rfl, Nat.le_of_ble_eq_true rfl⟩) ⟨fun a U g mk h => ⟨h.1, ⟨gD_blind h.2.1.1, gL.moved (u := U) (U := U.calling g mk a) (Vm.Alike.refl U.vm) h.2.1.2⟩, h.2.2⟩, fun U hU hW => ⟨rfl, ⟨gD_at hK hG hB hH hS hU hW, gL.moved hW.alike hL⟩, q⟩⟩ rfl rfl hl.1 rfl (lv_room (Nat.le_of_ble_eq_true rfl)) dL_law_517 ⟨by show cl + 0 + 3 ≤ 601024; omega, by show sl + 0 + 18 ≤ 7293034; omega⟩) hS (fun _ _ h => h) (fun _ h => h) (fun r1 F2u t H locs ht hvm q hB1 hz hk hS => ?_)
  obtain ⟨F2, ad1⟩ := F2u
  obtain ⟨q, hα⟩ := q
  have hα : ∀ f i : Nat, f ≠ 39 → ad1 f i = ad f i := hα
  have hH : gH G ad1 F2 H := gH_to ht hB1
  refine W.eq (g2 := F0 m 520 ls [.int r1]) (rfl) ?_
  have hl : lv_has ls 7 [(0, .ref b), (1, .ref (ad1 0 0)), (2, .ref (ad1 40 0)), (3, .ref (ad1 79 0)), (4, .int x4)] := by rw [hα 0 0 (by decide), hα 40 0 (by decide), hα 79 0 (by decide)]; exact hl
  refine lv_istore (lv' := [(5, .int r1), (0, .ref b), (1, .ref (ad1 0 0)), (2, .ref (ad1 40 0)), (3, .ref (ad1 79 0)), (4, .int x4)]) hx hb dL_law_520 hl (by decide) rfl (fun ls hl => ?_)
  refine lv_aload_n hx hb dL_law_522 rfl (lv_at hl 3 rfl) ?_
  refine lv_aload_n hx hb dL_law_523 rfl (lv_at hl 1 rfl) ?_
  refine lv_iload hx hb dL_law_524 (lv_at hl 5 rfl) ?_
  refine lv_iconst (v := 1) hx hb dL_law_526 (by decide) ?_
  refine lv_iadd hx hb dL_law_527 ?_
  refine va_sld hx hb hX hbl hbA hS hi1 dL_law_528 ?_
  rw [ha1]
  refine lv_aload_n hx hb dL_law_529 rfl (lv_at hl 1 rfl) ?_
  refine lv_iload hx hb dL_law_530 (lv_at hl 5 rfl) ?_
  refine lv_iconst (v := 2) hx hb dL_law_532 (by decide) ?_
  refine lv_iadd hx hb dL_law_533 ?_
  refine va_sld hx hb hX hbl hbA hS hi2 dL_law_534 ?_
  rw [ha2]
  refine va_calli (va_runV (As := [.int a1, .int a2]) (rest := []) ⟨hx, hb, hml, hown, hts⟩ (c_X11_person l G ad1 F2 a1 a2 _) (cwV 2 hts gL_law_X11_person rfl rfl rfl (by decide +kernel) ⟨Nat.le_of_ble_eq_true rfl, Nat.le_of_ble_eq_true rfl⟩) ⟨fun a U g mk h => ⟨h.1, gD_blind h.2.1, h.2.2⟩, g_recv (C := RX11) (T := TX11) (N := 44) hK hH 40 0 (by decide) Nat.zero_lt_one rfl rfl, fun U hU hW => ⟨rfl, gD_at hK hG hB hH hS hU hW, q⟩⟩ rfl rfl hl.1 rfl (lv_room (Nat.le_of_ble_eq_true rfl)) dL_law_535 ⟨by show cl + 3 + 0 ≤ 601024; omega, by show sl + 18 + 0 ≤ 7293034; omega⟩) hS (fun _ _ h => h) (fun _ h => h) (fun r3 F4 t H locs ht hvm q hB1 hz hk hS => ?_)
  have hH : gH G ad1 F4 H := gH_to ht hB1
  refine lv_istore (lv' := [(6, .int r3), (5, .int r1), (0, .ref b), (1, .ref (ad1 0 0)), (2, .ref (ad1 40 0)), (3, .ref (ad1 79 0)), (4, .int x4)]) hx hb dL_law_538 hl (by decide) rfl (fun ls hl => ?_)
  refine lv_aload_n hx hb dL_law_540 rfl (lv_at hl 4 rfl) ?_
  refine va_calli (va_runV (As := []) (rest := []) ⟨hx, hb, hml, hown, hts⟩ (c_X11_thrown l G ad1 F4 _) (cwV 0 hts gL_law_X11_thrown rfl rfl rfl (by decide +kernel) ⟨Nat.le_of_ble_eq_true rfl, Nat.le_of_ble_eq_true rfl⟩) ⟨fun a U g mk h => ⟨h.1, gD_blind h.2.1, h.2.2⟩, g_recv (C := RX11) (T := TX11) (N := 44) hK hH 40 0 (by decide) Nat.zero_lt_one rfl rfl, fun U hU hW => ⟨rfl, gD_at hK hG hB hH hS hU hW, q⟩⟩ rfl rfl hl.1 rfl (lv_room (Nat.le_of_ble_eq_true rfl)) dL_law_541 ⟨by show cl + 3 + 0 ≤ 601024; omega, by show sl + 18 + 0 ≤ 7293034; omega⟩) hS (fun _ _ h => h) (fun _ h => h) (fun r5 F6 t H locs ht hvm q hB1 hz hk hS => ?_)
  have hH : gH G ad1 F6 H := gH_to ht hB1
  refine lv_iload hx hb dL_law_544 (lv_at hl 1 rfl) ?_
  refine lv_icmp_eq (tgt := 551) hx hb dL_law_546 (by decide) (fun c7 => ?_) (fun c7 => ?_)
  · have q := (if_pos c7).mp q
    refine lv_iload hx hb dL_law_551 (lv_at hl 1 rfl) ?_
    refine lv_if_ne (tgt := 568) hx hb dL_law_553 (by decide) (fun c8 => ?_) (fun c8 => ?_)
    · have q := (if_neg c8).mp q
      refine lv_goto (tgt := 2280) hx hb dL_law_568 (by decide) ?_
      refine W.widen (k := cl + MCL) (n := sl + MSL) (by unfold MCL; omega) (by unfold MSL; omega) ?_
      exact hkk F6 ad1 _ _ _ hα hH hS (lv_sub hl [2, 3, 4, 5, 6] rfl) q
    · have q := (if_pos c8).mp q
      refine lv_aload_n hx hb dL_law_556 rfl (lv_at hl 5 rfl) ?_
      refine lv_iconst (v := 0) hx hb dL_law_557 (by decide) ?_
      obtain ⟨h9, q⟩ := q
      refine g_lald hx hb hK hH h9 dL_law_558 ?_
      refine lv_iload hx hb dL_law_559 (lv_at hl 0 rfl) ?_
      refine lv_i2l (v := r3.toInt64) hx hb dL_law_561 rfl ?_
      refine W.lcmp hx hb dL_law_562 ?_
      refine lv_if_eq (tgt := 568) hx hb dL_law_563 (by decide) (fun c10 => ?_) (fun c10 => ?_)
      · have q := (if_pos (lcmp_eq.mp c10)).mp q
        refine lv_goto (tgt := 2280) hx hb dL_law_568 (by decide) ?_
        refine W.widen (k := cl + MCL) (n := sl + MSL) (by unfold MCL; omega) (by unfold MSL; omega) ?_
        exact hkk F6 ad1 _ _ _ hα hH hS (lv_sub hl [2, 3, 4, 5, 6] rfl) q
      · have q := (if_neg (fun z => c10 (lcmp_eq.mpr z))).mp q
        refine lv_iconst (v := 0) hx hb dL_law_566 (by decide) ?_
        exact q.elim
  · have q := (if_neg c7).mp q
    refine lv_iconst (v := 0) hx hb dL_law_549 (by decide) ?_
    exact q.elim
set_option maxHeartbeats 4000000 in
set_option maxRecDepth 100000 in
theorem law_5 {p : Program} {l : Launch} {e : Env} {s : State} {m : MethodId} {below : List Frame} {meth : Method} {c : Code} {b L : Nat} {xs : Nat → Int32} {Q : State → Prop} {G : GP} (hfl : l.stackTraces = false) (hx : p.tables.exec = Jvm.exec) (hb : c.code = code) (hml : c.maxLocals = 7) (hown : s.vm.findClass RL = some m.cls) (hts : ∀ w ∈ wsL_law, w.before #[Value.ref b] s = true) (hX : va_X b L xs s s.heap) (hbl : b < s.heap.size) (hK : gK G s) (hG : gS G s) (hB : G.2.2.2 ≤ s.heap.size) (hL : gL s) (hBe : G.2.2.2 = s.heap.size) (ad : Nat → Nat → Nat) (F : GF) (x4 a1 a2 a3 : Int32) (hi1 : vp_in (x4 + 1) L) (hi2 : vp_in (x4 + 2) L) (hi3 : vp_in (x4 + 3) L) (ha1 : xs (x4 + 1).toNatClampNeg = a1) (ha2 : xs (x4 + 2).toNatClampNeg = a2) (ha3 : xs (x4 + 3).toNatClampNeg = a3) (cl sl : Nat) (hcl : cl + MCL ≤ 601024) (hsl : sl + MSL ≤ 7293034) (H : Heap) (locs : List Loc) (ls : Array Slot) (hH : gH G ad F H) (hS : va_S (gA G) s.heap H locs) (hl : lv_has ls 7 [(0, .ref b), (1, .ref (ad 0 0)), (2, .ref (ad 40 0)), (3, .ref (ad 79 0)), (4, .int x4)]) (K : GF → Prop) (hkk : ∀ (F1 : GF) (ad1 : Nat → Nat → Nat) (H : Heap) (locs : List Loc) (ls : Array Slot), (∀ f i : Nat, f ≠ 39 → ad1 f i = ad f i) → gH G ad1 F1 H → va_S (gA G) s.heap H locs → lv_has ls 7 [(0, .ref b), (1, .ref (ad1 0 0)), (2, .ref (ad1 40 0)), (3, .ref (ad1 79 0)), (4, .int x4)] → K F1 → W p l e room_1 s m #[Value.ref b] below meth c H locs (cl + MCL) (sl + MSL) Q (F0 m 2280 ls [])) (q : PL_5 a1 a2 a3 K F) : W p l e room_1 s m #[Value.ref b] below meth c H locs cl sl Q (F0 m 571 ls []) := by
  have hbA : ¬ gA G b := by
    intro h
    have h2 : G.2.2.2 ≤ b := h
    omega
  unfold MCL at hcl
  unfold MSL at hsl
  unfold PL_5 at q
  refine lv_aload_n hx hb dL_law_571 rfl (lv_at hl 1 rfl) ?_
  refine lv_aload_n hx hb dL_law_572 rfl (lv_at hl 0 rfl) ?_
  refine lv_iload hx hb dL_law_573 (lv_at hl 4 rfl) ?_
  refine lv_iconst (v := 1) hx hb dL_law_575 (by decide) ?_
  refine lv_iadd hx hb dL_law_576 ?_
  refine va_sld hx hb hX hbl hbA hS hi1 dL_law_577 ?_
  rw [ha1]
  refine lv_aload_n hx hb dL_law_578 rfl (lv_at hl 0 rfl) ?_
  refine lv_iload hx hb dL_law_579 (lv_at hl 4 rfl) ?_
  refine lv_iconst (v := 2) hx hb dL_law_581 (by decide) ?_
  refine lv_iadd hx hb dL_law_582 ?_
  refine va_sld hx hb hX hbl hbA hS hi2 dL_law_583 ?_
  rw [ha2]
  refine lv_aload_n hx hb dL_law_584 rfl (lv_at hl 3 rfl) ?_
  refine va_calli (vx_runSW (As := [.ref (ad 0 0), .int a1, .int a2, .ref (ad 79 0)]) (rest := []) ⟨hx, hb, hml, hown, hts⟩ (c_L_move l hfl G ad F a1 a2 _) (vx_cwSW 4 hts gL_law_L_move rfl rfl rfl (by decide +kernel) ⟨Nat.le_of_ble_eq_true rfl, Nat.le_of_ble_eq_true rfl⟩) ⟨fun a U g mk h => ⟨h.1, ⟨gD_blind h.2.1.1, gL.moved (u := U) (U := U.calling g mk a) (Vm.Alike.refl U.vm) h.2.1.2⟩, h.2.2⟩, fun U hU hW => ⟨rfl, ⟨gD_at hK hG hB hH hS hU hW, gL.moved hW.alike hL⟩, q⟩⟩ rfl rfl hl.1 rfl (lv_room (Nat.le_of_ble_eq_true rfl)) dL_law_585 ⟨by show cl + 0 + 4 ≤ 601024; omega, by show sl + 0 + 21 ≤ 7293034; omega⟩) hS (fun _ _ h => h) (fun _ h => h) (fun r1 F2u t H locs ht hvm q hB1 hz hk hS => ?_)
  obtain ⟨F2, ad1⟩ := F2u
  obtain ⟨q, hα⟩ := q
  have hα : ∀ f i : Nat, f ≠ 39 → ad1 f i = ad f i := hα
  have hH : gH G ad1 F2 H := gH_to ht hB1
  refine W.eq (g2 := F0 m 588 ls [.int r1]) (rfl) ?_
  have hl : lv_has ls 7 [(0, .ref b), (1, .ref (ad1 0 0)), (2, .ref (ad1 40 0)), (3, .ref (ad1 79 0)), (4, .int x4)] := by rw [hα 0 0 (by decide), hα 40 0 (by decide), hα 79 0 (by decide)]; exact hl
  refine lv_istore (lv' := [(5, .int r1), (0, .ref b), (1, .ref (ad1 0 0)), (2, .ref (ad1 40 0)), (3, .ref (ad1 79 0)), (4, .int x4)]) hx hb dL_law_588 hl (by decide) rfl (fun ls hl => ?_)
  refine lv_aload_n hx hb dL_law_590 rfl (lv_at hl 3 rfl) ?_
  refine lv_aload_n hx hb dL_law_591 rfl (lv_at hl 1 rfl) ?_
  refine lv_iload hx hb dL_law_592 (lv_at hl 5 rfl) ?_
  refine lv_iconst (v := 1) hx hb dL_law_594 (by decide) ?_
  refine lv_iadd hx hb dL_law_595 ?_
  refine va_sld hx hb hX hbl hbA hS hi1 dL_law_596 ?_
  rw [ha1]
  refine lv_aload_n hx hb dL_law_597 rfl (lv_at hl 1 rfl) ?_
  refine lv_iload hx hb dL_law_598 (lv_at hl 5 rfl) ?_
  refine lv_iconst (v := 2) hx hb dL_law_600 (by decide) ?_
  refine lv_iadd hx hb dL_law_601 ?_
  refine va_sld hx hb hX hbl hbA hS hi2 dL_law_602 ?_
  rw [ha2]
  refine va_calli (va_runV (As := [.int a1, .int a2]) (rest := []) ⟨hx, hb, hml, hown, hts⟩ (c_X11_move l G ad1 F2 a1 a2 _) (cwV 2 hts gL_law_X11_move rfl rfl rfl (by decide +kernel) ⟨Nat.le_of_ble_eq_true rfl, Nat.le_of_ble_eq_true rfl⟩) ⟨fun a U g mk h => ⟨h.1, gD_blind h.2.1, h.2.2⟩, g_recv (C := RX11) (T := TX11) (N := 44) hK hH 40 0 (by decide) Nat.zero_lt_one rfl rfl, fun U hU hW => ⟨rfl, gD_at hK hG hB hH hS hU hW, q⟩⟩ rfl rfl hl.1 rfl (lv_room (Nat.le_of_ble_eq_true rfl)) dL_law_603 ⟨by show cl + 4 + 0 ≤ 601024; omega, by show sl + 21 + 0 ≤ 7293034; omega⟩) hS (fun _ _ h => h) (fun _ h => h) (fun r3 F4 t H locs ht hvm q hB1 hz hk hS => ?_)
  have hH : gH G ad1 F4 H := gH_to ht hB1
  refine lv_istore (lv' := [(6, .int r3), (5, .int r1), (0, .ref b), (1, .ref (ad1 0 0)), (2, .ref (ad1 40 0)), (3, .ref (ad1 79 0)), (4, .int x4)]) hx hb dL_law_606 hl (by decide) rfl (fun ls hl => ?_)
  refine lv_aload_n hx hb dL_law_608 rfl (lv_at hl 4 rfl) ?_
  refine va_calli (va_runV (As := []) (rest := []) ⟨hx, hb, hml, hown, hts⟩ (c_X11_thrown l G ad1 F4 _) (cwV 0 hts gL_law_X11_thrown rfl rfl rfl (by decide +kernel) ⟨Nat.le_of_ble_eq_true rfl, Nat.le_of_ble_eq_true rfl⟩) ⟨fun a U g mk h => ⟨h.1, gD_blind h.2.1, h.2.2⟩, g_recv (C := RX11) (T := TX11) (N := 44) hK hH 40 0 (by decide) Nat.zero_lt_one rfl rfl, fun U hU hW => ⟨rfl, gD_at hK hG hB hH hS hU hW, q⟩⟩ rfl rfl hl.1 rfl (lv_room (Nat.le_of_ble_eq_true rfl)) dL_law_609 ⟨by show cl + 4 + 0 ≤ 601024; omega, by show sl + 21 + 0 ≤ 7293034; omega⟩) hS (fun _ _ h => h) (fun _ h => h) (fun r5 F6 t H locs ht hvm q hB1 hz hk hS => ?_)
  have hH : gH G ad1 F6 H := gH_to ht hB1
  refine lv_iload hx hb dL_law_612 (lv_at hl 1 rfl) ?_
  refine lv_icmp_eq (tgt := 619) hx hb dL_law_614 (by decide) (fun c7 => ?_) (fun c7 => ?_)
  · have q := (if_pos c7).mp q
    refine lv_iload hx hb dL_law_619 (lv_at hl 1 rfl) ?_
    refine lv_if_ne (tgt := 636) hx hb dL_law_621 (by decide) (fun c8 => ?_) (fun c8 => ?_)
    · have q := (if_neg c8).mp q
      refine lv_goto (tgt := 2280) hx hb dL_law_636 (by decide) ?_
      refine W.widen (k := cl + MCL) (n := sl + MSL) (by unfold MCL; omega) (by unfold MSL; omega) ?_
      exact hkk F6 ad1 _ _ _ hα hH hS (lv_sub hl [2, 3, 4, 5, 6] rfl) q
    · have q := (if_pos c8).mp q
      refine lv_aload_n hx hb dL_law_624 rfl (lv_at hl 5 rfl) ?_
      refine lv_iconst (v := 0) hx hb dL_law_625 (by decide) ?_
      obtain ⟨h9, q⟩ := q
      refine g_lald hx hb hK hH h9 dL_law_626 ?_
      refine lv_iload hx hb dL_law_627 (lv_at hl 0 rfl) ?_
      refine lv_i2l (v := r3.toInt64) hx hb dL_law_629 rfl ?_
      refine W.lcmp hx hb dL_law_630 ?_
      refine lv_if_eq (tgt := 636) hx hb dL_law_631 (by decide) (fun c10 => ?_) (fun c10 => ?_)
      · have q := (if_pos (lcmp_eq.mp c10)).mp q
        refine lv_goto (tgt := 2280) hx hb dL_law_636 (by decide) ?_
        refine W.widen (k := cl + MCL) (n := sl + MSL) (by unfold MCL; omega) (by unfold MSL; omega) ?_
        exact hkk F6 ad1 _ _ _ hα hH hS (lv_sub hl [2, 3, 4, 5, 6] rfl) q
      · have q := (if_neg (fun z => c10 (lcmp_eq.mpr z))).mp q
        refine lv_iconst (v := 0) hx hb dL_law_634 (by decide) ?_
        exact q.elim
  · have q := (if_neg c7).mp q
    refine lv_iconst (v := 0) hx hb dL_law_617 (by decide) ?_
    exact q.elim
set_option maxHeartbeats 4000000 in
set_option maxRecDepth 100000 in
theorem law_6 {p : Program} {l : Launch} {e : Env} {s : State} {m : MethodId} {below : List Frame} {meth : Method} {c : Code} {b L : Nat} {xs : Nat → Int32} {Q : State → Prop} {G : GP} (hfl : l.stackTraces = false) (hx : p.tables.exec = Jvm.exec) (hb : c.code = code) (hml : c.maxLocals = 7) (hown : s.vm.findClass RL = some m.cls) (hts : ∀ w ∈ wsL_law, w.before #[Value.ref b] s = true) (hX : va_X b L xs s s.heap) (hbl : b < s.heap.size) (hK : gK G s) (hG : gS G s) (hB : G.2.2.2 ≤ s.heap.size) (hL : gL s) (hBe : G.2.2.2 = s.heap.size) (ad : Nat → Nat → Nat) (F : GF) (x4 a1 a2 a3 : Int32) (hi1 : vp_in (x4 + 1) L) (hi2 : vp_in (x4 + 2) L) (hi3 : vp_in (x4 + 3) L) (ha1 : xs (x4 + 1).toNatClampNeg = a1) (ha2 : xs (x4 + 2).toNatClampNeg = a2) (ha3 : xs (x4 + 3).toNatClampNeg = a3) (cl sl : Nat) (hcl : cl + MCL ≤ 601024) (hsl : sl + MSL ≤ 7293034) (H : Heap) (locs : List Loc) (ls : Array Slot) (hH : gH G ad F H) (hS : va_S (gA G) s.heap H locs) (hl : lv_has ls 7 [(0, .ref b), (1, .ref (ad 0 0)), (2, .ref (ad 40 0)), (3, .ref (ad 79 0)), (4, .int x4)]) (K : GF → Prop) (hkk : ∀ (F1 : GF) (ad1 : Nat → Nat → Nat) (H : Heap) (locs : List Loc) (ls : Array Slot), (∀ f i : Nat, f ≠ 39 → ad1 f i = ad f i) → gH G ad1 F1 H → va_S (gA G) s.heap H locs → lv_has ls 7 [(0, .ref b), (1, .ref (ad1 0 0)), (2, .ref (ad1 40 0)), (3, .ref (ad1 79 0)), (4, .int x4)] → K F1 → W p l e room_1 s m #[Value.ref b] below meth c H locs (cl + MCL) (sl + MSL) Q (F0 m 2280 ls [])) (q : PL_6 a1 a2 a3 K F) : W p l e room_1 s m #[Value.ref b] below meth c H locs cl sl Q (F0 m 639 ls []) := by
  have hbA : ¬ gA G b := by
    intro h
    have h2 : G.2.2.2 ≤ b := h
    omega
  unfold MCL at hcl
  unfold MSL at hsl
  have t_693 : ∀ (F : GF) (s0 : Int32) (s1 : Int32) (H : Heap) (locs : List Loc) (ls : Array Slot), gH G ad F H → va_S (gA G) s.heap H locs → lv_has ls 7 [(0, .ref b), (1, .ref (ad 0 0)), (2, .ref (ad 40 0)), (3, .ref (ad 79 0)), (4, .int x4)] → (P_L_law_693 a1 a2 a3 K) F s0 s1 → W p l e room_1 s m #[Value.ref b] below meth c H locs (cl + 2) (sl + 12) Q (F0 m 693 ls [.long s1.toInt64, .long s0.toInt64]) := by
    intro F s0 s1 H locs ls hH hS hl q
    unfold P_L_law_693 at q
    refine W.lcmp hx hb dL_law_693 ?_
    refine lv_if_eq (tgt := 699) hx hb dL_law_694 (by decide) (fun c11 => ?_) (fun c11 => ?_)
    · have q := (if_pos (lcmp_eq.mp c11)).mp q
      refine lv_goto (tgt := 2280) hx hb dL_law_699 (by decide) ?_
      refine W.widen (k := cl + MCL) (n := sl + MSL) (by unfold MCL; omega) (by unfold MSL; omega) ?_
      exact hkk F ad _ _ _ (fun _ _ _ => rfl) hH hS (lv_sub hl [0, 1, 2, 3, 4] rfl) q
    · have q := (if_neg (fun z => c11 (lcmp_eq.mpr z))).mp q
      refine lv_iconst (v := 0) hx hb dL_law_697 (by decide) ?_
      exact q.elim
  unfold PL_6 at q
  refine lv_aload_n hx hb dL_law_639 rfl (lv_at hl 1 rfl) ?_
  refine lv_aload_n hx hb dL_law_640 rfl (lv_at hl 0 rfl) ?_
  refine lv_iload hx hb dL_law_641 (lv_at hl 4 rfl) ?_
  refine lv_iconst (v := 1) hx hb dL_law_643 (by decide) ?_
  refine lv_iadd hx hb dL_law_644 ?_
  refine va_sld hx hb hX hbl hbA hS hi1 dL_law_645 ?_
  rw [ha1]
  refine lv_aload_n hx hb dL_law_646 rfl (lv_at hl 3 rfl) ?_
  refine va_calli (vx_runSW (As := [.ref (ad 0 0), .int a1, .ref (ad 79 0)]) (rest := []) ⟨hx, hb, hml, hown, hts⟩ (c_L_die l hfl G ad F a1 _) (vx_cwSW 3 hts gL_law_L_die rfl rfl rfl (by decide +kernel) ⟨Nat.le_of_ble_eq_true rfl, Nat.le_of_ble_eq_true rfl⟩) ⟨fun a U g mk h => ⟨h.1, ⟨gD_blind h.2.1.1, gL.moved (u := U) (U := U.calling g mk a) (Vm.Alike.refl U.vm) h.2.1.2⟩, h.2.2⟩, fun U hU hW => ⟨rfl, ⟨gD_at hK hG hB hH hS hU hW, gL.moved hW.alike hL⟩, q⟩⟩ rfl rfl hl.1 rfl (lv_room (Nat.le_of_ble_eq_true rfl)) dL_law_647 ⟨by show cl + 0 + 2 ≤ 601024; omega, by show sl + 0 + 12 ≤ 7293034; omega⟩) hS (fun _ _ h => h) (fun _ h => h) (fun r1 F2 t H locs ht hvm q hB1 hz hk hS => ?_)
  have hH : gH G ad F2 H := gH_to ht hB1
  refine lv_istore (lv' := [(5, .int r1), (0, .ref b), (1, .ref (ad 0 0)), (2, .ref (ad 40 0)), (3, .ref (ad 79 0)), (4, .int x4)]) hx hb dL_law_650 hl (by decide) rfl (fun ls hl => ?_)
  refine lv_aload_n hx hb dL_law_652 rfl (lv_at hl 3 rfl) ?_
  refine lv_aload_n hx hb dL_law_653 rfl (lv_at hl 1 rfl) ?_
  refine lv_iload hx hb dL_law_654 (lv_at hl 5 rfl) ?_
  refine lv_iconst (v := 1) hx hb dL_law_656 (by decide) ?_
  refine lv_iadd hx hb dL_law_657 ?_
  refine va_sld hx hb hX hbl hbA hS hi1 dL_law_658 ?_
  rw [ha1]
  refine va_calli (va_runV (As := [.int a1]) (rest := []) ⟨hx, hb, hml, hown, hts⟩ (c_X11_die l G ad F2 a1 _) (cwV 1 hts gL_law_X11_die rfl rfl rfl (by decide +kernel) ⟨Nat.le_of_ble_eq_true rfl, Nat.le_of_ble_eq_true rfl⟩) ⟨fun a U g mk h => ⟨h.1, gD_blind h.2.1, h.2.2⟩, g_recv (C := RX11) (T := TX11) (N := 44) hK hH 40 0 (by decide) Nat.zero_lt_one rfl rfl, fun U hU hW => ⟨rfl, gD_at hK hG hB hH hS hU hW, q⟩⟩ rfl rfl hl.1 rfl (lv_room (Nat.le_of_ble_eq_true rfl)) dL_law_659 ⟨by show cl + 2 + 0 ≤ 601024; omega, by show sl + 12 + 0 ≤ 7293034; omega⟩) hS (fun _ _ h => h) (fun _ h => h) (fun r3 F4 t H locs ht hvm q hB1 hz hk hS => ?_)
  have hH : gH G ad F4 H := gH_to ht hB1
  refine lv_istore (lv' := [(6, .int r3), (5, .int r1), (0, .ref b), (1, .ref (ad 0 0)), (2, .ref (ad 40 0)), (3, .ref (ad 79 0)), (4, .int x4)]) hx hb dL_law_662 hl (by decide) rfl (fun ls hl => ?_)
  refine lv_aload_n hx hb dL_law_664 rfl (lv_at hl 4 rfl) ?_
  refine va_calli (va_runV (As := []) (rest := []) ⟨hx, hb, hml, hown, hts⟩ (c_X11_thrown l G ad F4 _) (cwV 0 hts gL_law_X11_thrown rfl rfl rfl (by decide +kernel) ⟨Nat.le_of_ble_eq_true rfl, Nat.le_of_ble_eq_true rfl⟩) ⟨fun a U g mk h => ⟨h.1, gD_blind h.2.1, h.2.2⟩, g_recv (C := RX11) (T := TX11) (N := 44) hK hH 40 0 (by decide) Nat.zero_lt_one rfl rfl, fun U hU hW => ⟨rfl, gD_at hK hG hB hH hS hU hW, q⟩⟩ rfl rfl hl.1 rfl (lv_room (Nat.le_of_ble_eq_true rfl)) dL_law_665 ⟨by show cl + 2 + 0 ≤ 601024; omega, by show sl + 12 + 0 ≤ 7293034; omega⟩) hS (fun _ _ h => h) (fun _ h => h) (fun r5 F6 t H locs ht hvm q hB1 hz hk hS => ?_)
  have hH : gH G ad F6 H := gH_to ht hB1
  refine lv_iload hx hb dL_law_668 (lv_at hl 1 rfl) ?_
  refine lv_icmp_eq (tgt := 675) hx hb dL_law_670 (by decide) (fun c7 => ?_) (fun c7 => ?_)
  · have q := (if_pos c7).mp q
    refine lv_iload hx hb dL_law_675 (lv_at hl 1 rfl) ?_
    refine lv_if_ne (tgt := 699) hx hb dL_law_677 (by decide) (fun c8 => ?_) (fun c8 => ?_)
    · have q := (if_neg c8).mp q
      refine lv_goto (tgt := 2280) hx hb dL_law_699 (by decide) ?_
      refine W.widen (k := cl + MCL) (n := sl + MSL) (by unfold MCL; omega) (by unfold MSL; omega) ?_
      exact hkk F6 ad _ _ _ (fun _ _ _ => rfl) hH hS (lv_sub hl [2, 3, 4, 5, 6] rfl) q
    · have q := (if_pos c8).mp q
      refine lv_aload_n hx hb dL_law_680 rfl (lv_at hl 5 rfl) ?_
      refine lv_iconst (v := 0) hx hb dL_law_681 (by decide) ?_
      obtain ⟨h9, q⟩ := q
      refine g_lald hx hb hK hH h9 dL_law_682 ?_
      refine lv_iload hx hb dL_law_683 (lv_at hl 0 rfl) ?_
      refine lv_if_eq (tgt := 692) hx hb dL_law_685 (by decide) (fun c10 => ?_) (fun c10 => ?_)
      · have q := (if_pos c10).mp q
        refine lv_lconst (v := (0 : Int32).toInt64) hx hb dL_law_692 (by decide) ?_
        exact t_693 F6 (F6 79 0 (0 : Int32).toNatClampNeg) 0 _ _ _ hH hS (lv_sub hl [2, 3, 4, 5, 6] rfl) q
      · have q := (if_neg c10).mp q
        refine lv_lconst (v := (1 : Int32).toInt64) hx hb dL_law_688 (by decide) ?_
        refine lv_goto (tgt := 693) hx hb dL_law_689 (by decide) ?_
        exact t_693 F6 (F6 79 0 (0 : Int32).toNatClampNeg) 1 _ _ _ hH hS (lv_sub hl [2, 3, 4, 5, 6] rfl) q
  · have q := (if_neg c7).mp q
    refine lv_iconst (v := 0) hx hb dL_law_673 (by decide) ?_
    exact q.elim
set_option maxHeartbeats 4000000 in
set_option maxRecDepth 100000 in
theorem law_7 {p : Program} {l : Launch} {e : Env} {s : State} {m : MethodId} {below : List Frame} {meth : Method} {c : Code} {b L : Nat} {xs : Nat → Int32} {Q : State → Prop} {G : GP} (hfl : l.stackTraces = false) (hx : p.tables.exec = Jvm.exec) (hb : c.code = code) (hml : c.maxLocals = 7) (hown : s.vm.findClass RL = some m.cls) (hts : ∀ w ∈ wsL_law, w.before #[Value.ref b] s = true) (hX : va_X b L xs s s.heap) (hbl : b < s.heap.size) (hK : gK G s) (hG : gS G s) (hB : G.2.2.2 ≤ s.heap.size) (hL : gL s) (hBe : G.2.2.2 = s.heap.size) (ad : Nat → Nat → Nat) (F : GF) (x4 a1 a2 a3 : Int32) (hi1 : vp_in (x4 + 1) L) (hi2 : vp_in (x4 + 2) L) (hi3 : vp_in (x4 + 3) L) (ha1 : xs (x4 + 1).toNatClampNeg = a1) (ha2 : xs (x4 + 2).toNatClampNeg = a2) (ha3 : xs (x4 + 3).toNatClampNeg = a3) (cl sl : Nat) (hcl : cl + MCL ≤ 601024) (hsl : sl + MSL ≤ 7293034) (H : Heap) (locs : List Loc) (ls : Array Slot) (hH : gH G ad F H) (hS : va_S (gA G) s.heap H locs) (hl : lv_has ls 7 [(0, .ref b), (1, .ref (ad 0 0)), (2, .ref (ad 40 0)), (3, .ref (ad 79 0)), (4, .int x4)]) (K : GF → Prop) (hkk : ∀ (F1 : GF) (ad1 : Nat → Nat → Nat) (H : Heap) (locs : List Loc) (ls : Array Slot), (∀ f i : Nat, f ≠ 39 → ad1 f i = ad f i) → gH G ad1 F1 H → va_S (gA G) s.heap H locs → lv_has ls 7 [(0, .ref b), (1, .ref (ad1 0 0)), (2, .ref (ad1 40 0)), (3, .ref (ad1 79 0)), (4, .int x4)] → K F1 → W p l e room_1 s m #[Value.ref b] below meth c H locs (cl + MCL) (sl + MSL) Q (F0 m 2280 ls [])) (q : PL_7 a1 a2 a3 K F) : W p l e room_1 s m #[Value.ref b] below meth c H locs cl sl Q (F0 m 702 ls []) := by
  have hbA : ¬ gA G b := by
    intro h
    have h2 : G.2.2.2 ≤ b := h
    omega
  unfold MCL at hcl
  unfold MSL at hsl
  unfold PL_7 at q
  refine lv_aload_n hx hb dL_law_702 rfl (lv_at hl 1 rfl) ?_
  refine lv_aload_n hx hb dL_law_703 rfl (lv_at hl 0 rfl) ?_
  refine lv_iload hx hb dL_law_704 (lv_at hl 4 rfl) ?_
  refine lv_iconst (v := 1) hx hb dL_law_706 (by decide) ?_
  refine lv_iadd hx hb dL_law_707 ?_
  refine va_sld hx hb hX hbl hbA hS hi1 dL_law_708 ?_
  rw [ha1]
  refine lv_aload_n hx hb dL_law_709 rfl (lv_at hl 0 rfl) ?_
  refine lv_iload hx hb dL_law_710 (lv_at hl 4 rfl) ?_
  refine lv_iconst (v := 2) hx hb dL_law_712 (by decide) ?_
  refine lv_iadd hx hb dL_law_713 ?_
  refine va_sld hx hb hX hbl hbA hS hi2 dL_law_714 ?_
  rw [ha2]
  refine lv_aload_n hx hb dL_law_715 rfl (lv_at hl 3 rfl) ?_
  refine va_calli (vx_runSW (As := [.ref (ad 0 0), .int a1, .int a2, .ref (ad 79 0)]) (rest := []) ⟨hx, hb, hml, hown, hts⟩ (c_L_dwells l hfl G ad F a1 a2 _) (vx_cwSW 4 hts gL_law_L_dwells rfl rfl rfl (by decide +kernel) ⟨Nat.le_of_ble_eq_true rfl, Nat.le_of_ble_eq_true rfl⟩) ⟨fun a U g mk h => ⟨h.1, ⟨gD_blind h.2.1.1, gL.moved (u := U) (U := U.calling g mk a) (Vm.Alike.refl U.vm) h.2.1.2⟩, h.2.2⟩, fun U hU hW => ⟨rfl, ⟨gD_at hK hG hB hH hS hU hW, gL.moved hW.alike hL⟩, q⟩⟩ rfl rfl hl.1 rfl (lv_room (Nat.le_of_ble_eq_true rfl)) dL_law_716 ⟨by show cl + 0 + 2 ≤ 601024; omega, by show sl + 0 + 12 ≤ 7293034; omega⟩) hS (fun _ _ h => h) (fun _ h => h) (fun r1 F2 t H locs ht hvm q hB1 hz hk hS => ?_)
  have hH : gH G ad F2 H := gH_to ht hB1
  refine lv_istore (lv' := [(5, .int r1), (0, .ref b), (1, .ref (ad 0 0)), (2, .ref (ad 40 0)), (3, .ref (ad 79 0)), (4, .int x4)]) hx hb dL_law_719 hl (by decide) rfl (fun ls hl => ?_)
  refine lv_aload_n hx hb dL_law_721 rfl (lv_at hl 3 rfl) ?_
  refine lv_aload_n hx hb dL_law_722 rfl (lv_at hl 1 rfl) ?_
  refine lv_iload hx hb dL_law_723 (lv_at hl 5 rfl) ?_
  refine lv_iconst (v := 1) hx hb dL_law_725 (by decide) ?_
  refine lv_iadd hx hb dL_law_726 ?_
  refine va_sld hx hb hX hbl hbA hS hi1 dL_law_727 ?_
  rw [ha1]
  refine lv_aload_n hx hb dL_law_728 rfl (lv_at hl 1 rfl) ?_
  refine lv_iload hx hb dL_law_729 (lv_at hl 5 rfl) ?_
  refine lv_iconst (v := 2) hx hb dL_law_731 (by decide) ?_
  refine lv_iadd hx hb dL_law_732 ?_
  refine va_sld hx hb hX hbl hbA hS hi2 dL_law_733 ?_
  rw [ha2]
  refine va_calli (va_runV (As := [.int a1, .int a2]) (rest := []) ⟨hx, hb, hml, hown, hts⟩ (c_X11_dwells l G ad F2 a1 a2 _) (cwV 2 hts gL_law_X11_dwells rfl rfl rfl (by decide +kernel) ⟨Nat.le_of_ble_eq_true rfl, Nat.le_of_ble_eq_true rfl⟩) ⟨fun a U g mk h => ⟨h.1, gD_blind h.2.1, h.2.2⟩, g_recv (C := RX11) (T := TX11) (N := 44) hK hH 40 0 (by decide) Nat.zero_lt_one rfl rfl, fun U hU hW => ⟨rfl, gD_at hK hG hB hH hS hU hW, q⟩⟩ rfl rfl hl.1 rfl (lv_room (Nat.le_of_ble_eq_true rfl)) dL_law_734 ⟨by show cl + 2 + 0 ≤ 601024; omega, by show sl + 12 + 0 ≤ 7293034; omega⟩) hS (fun _ _ h => h) (fun _ h => h) (fun r3 F4 t H locs ht hvm q hB1 hz hk hS => ?_)
  have hH : gH G ad F4 H := gH_to ht hB1
  refine lv_istore (lv' := [(6, .int r3), (5, .int r1), (0, .ref b), (1, .ref (ad 0 0)), (2, .ref (ad 40 0)), (3, .ref (ad 79 0)), (4, .int x4)]) hx hb dL_law_737 hl (by decide) rfl (fun ls hl => ?_)
  refine lv_aload_n hx hb dL_law_739 rfl (lv_at hl 4 rfl) ?_
  refine va_calli (va_runV (As := []) (rest := []) ⟨hx, hb, hml, hown, hts⟩ (c_X11_thrown l G ad F4 _) (cwV 0 hts gL_law_X11_thrown rfl rfl rfl (by decide +kernel) ⟨Nat.le_of_ble_eq_true rfl, Nat.le_of_ble_eq_true rfl⟩) ⟨fun a U g mk h => ⟨h.1, gD_blind h.2.1, h.2.2⟩, g_recv (C := RX11) (T := TX11) (N := 44) hK hH 40 0 (by decide) Nat.zero_lt_one rfl rfl, fun U hU hW => ⟨rfl, gD_at hK hG hB hH hS hU hW, q⟩⟩ rfl rfl hl.1 rfl (lv_room (Nat.le_of_ble_eq_true rfl)) dL_law_740 ⟨by show cl + 2 + 0 ≤ 601024; omega, by show sl + 12 + 0 ≤ 7293034; omega⟩) hS (fun _ _ h => h) (fun _ h => h) (fun r5 F6 t H locs ht hvm q hB1 hz hk hS => ?_)
  have hH : gH G ad F6 H := gH_to ht hB1
  refine lv_iload hx hb dL_law_743 (lv_at hl 1 rfl) ?_
  refine lv_icmp_eq (tgt := 750) hx hb dL_law_745 (by decide) (fun c7 => ?_) (fun c7 => ?_)
  · have q := (if_pos c7).mp q
    refine lv_iload hx hb dL_law_750 (lv_at hl 1 rfl) ?_
    refine lv_if_ne (tgt := 767) hx hb dL_law_752 (by decide) (fun c8 => ?_) (fun c8 => ?_)
    · have q := (if_neg c8).mp q
      refine lv_goto (tgt := 2280) hx hb dL_law_767 (by decide) ?_
      refine W.widen (k := cl + MCL) (n := sl + MSL) (by unfold MCL; omega) (by unfold MSL; omega) ?_
      exact hkk F6 ad _ _ _ (fun _ _ _ => rfl) hH hS (lv_sub hl [2, 3, 4, 5, 6] rfl) q
    · have q := (if_pos c8).mp q
      refine lv_aload_n hx hb dL_law_755 rfl (lv_at hl 5 rfl) ?_
      refine lv_iconst (v := 0) hx hb dL_law_756 (by decide) ?_
      obtain ⟨h9, q⟩ := q
      refine g_lald hx hb hK hH h9 dL_law_757 ?_
      refine lv_iload hx hb dL_law_758 (lv_at hl 0 rfl) ?_
      refine lv_i2l (v := r3.toInt64) hx hb dL_law_760 rfl ?_
      refine W.lcmp hx hb dL_law_761 ?_
      refine lv_if_eq (tgt := 767) hx hb dL_law_762 (by decide) (fun c10 => ?_) (fun c10 => ?_)
      · have q := (if_pos (lcmp_eq.mp c10)).mp q
        refine lv_goto (tgt := 2280) hx hb dL_law_767 (by decide) ?_
        refine W.widen (k := cl + MCL) (n := sl + MSL) (by unfold MCL; omega) (by unfold MSL; omega) ?_
        exact hkk F6 ad _ _ _ (fun _ _ _ => rfl) hH hS (lv_sub hl [2, 3, 4, 5, 6] rfl) q
      · have q := (if_neg (fun z => c10 (lcmp_eq.mpr z))).mp q
        refine lv_iconst (v := 0) hx hb dL_law_765 (by decide) ?_
        exact q.elim
  · have q := (if_neg c7).mp q
    refine lv_iconst (v := 0) hx hb dL_law_748 (by decide) ?_
    exact q.elim
set_option maxHeartbeats 4000000 in
set_option maxRecDepth 100000 in
theorem law_8 {p : Program} {l : Launch} {e : Env} {s : State} {m : MethodId} {below : List Frame} {meth : Method} {c : Code} {b L : Nat} {xs : Nat → Int32} {Q : State → Prop} {G : GP} (hfl : l.stackTraces = false) (hx : p.tables.exec = Jvm.exec) (hb : c.code = code) (hml : c.maxLocals = 7) (hown : s.vm.findClass RL = some m.cls) (hts : ∀ w ∈ wsL_law, w.before #[Value.ref b] s = true) (hX : va_X b L xs s s.heap) (hbl : b < s.heap.size) (hK : gK G s) (hG : gS G s) (hB : G.2.2.2 ≤ s.heap.size) (hL : gL s) (hBe : G.2.2.2 = s.heap.size) (ad : Nat → Nat → Nat) (F : GF) (x4 a1 a2 a3 : Int32) (hi1 : vp_in (x4 + 1) L) (hi2 : vp_in (x4 + 2) L) (hi3 : vp_in (x4 + 3) L) (ha1 : xs (x4 + 1).toNatClampNeg = a1) (ha2 : xs (x4 + 2).toNatClampNeg = a2) (ha3 : xs (x4 + 3).toNatClampNeg = a3) (cl sl : Nat) (hcl : cl + MCL ≤ 601024) (hsl : sl + MSL ≤ 7293034) (H : Heap) (locs : List Loc) (ls : Array Slot) (hH : gH G ad F H) (hS : va_S (gA G) s.heap H locs) (hl : lv_has ls 7 [(0, .ref b), (1, .ref (ad 0 0)), (2, .ref (ad 40 0)), (3, .ref (ad 79 0)), (4, .int x4)]) (K : GF → Prop) (hkk : ∀ (F1 : GF) (ad1 : Nat → Nat → Nat) (H : Heap) (locs : List Loc) (ls : Array Slot), (∀ f i : Nat, f ≠ 39 → ad1 f i = ad f i) → gH G ad1 F1 H → va_S (gA G) s.heap H locs → lv_has ls 7 [(0, .ref b), (1, .ref (ad1 0 0)), (2, .ref (ad1 40 0)), (3, .ref (ad1 79 0)), (4, .int x4)] → K F1 → W p l e room_1 s m #[Value.ref b] below meth c H locs (cl + MCL) (sl + MSL) Q (F0 m 2280 ls [])) (q : PL_8 a1 a2 a3 K F) : W p l e room_1 s m #[Value.ref b] below meth c H locs cl sl Q (F0 m 770 ls []) := by
  have hbA : ¬ gA G b := by
    intro h
    have h2 : G.2.2.2 ≤ b := h
    omega
  unfold MCL at hcl
  unfold MSL at hsl
  have t_830 : ∀ (F : GF) (x5 : Int32) (s1 : Int32) (s2 : Int32) (s3 : Int32) (H : Heap) (locs : List Loc) (ls : Array Slot), gH G ad F H → va_S (gA G) s.heap H locs → lv_has ls 7 [(0, .ref b), (1, .ref (ad 0 0)), (2, .ref (ad 40 0)), (3, .ref (ad 79 0)), (4, .int x4), (5, .int x5)] → (P_L_law_830 a1 a2 a3 K) F x5 s1 s2 s3 → W p l e room_1 s m #[Value.ref b] below meth c H locs (cl + 3) (sl + 18) Q (F0 m 830 ls [.int s3, .int s2, .int s1, .ref (ad 40 0)]) := by
    intro F x5 s1 s2 s3 H locs ls hH hS hl q
    unfold P_L_law_830 at q
    refine va_calli (va_runV (As := [.int s1, .int s2, .int s3]) (rest := []) ⟨hx, hb, hml, hown, hts⟩ (c_X11_call l G ad F s1 s2 s3 _) (cwV 3 hts gL_law_X11_call rfl rfl rfl (by decide +kernel) ⟨Nat.le_of_ble_eq_true rfl, Nat.le_of_ble_eq_true rfl⟩) ⟨fun a U g mk h => ⟨h.1, gD_blind h.2.1, h.2.2⟩, g_recv (C := RX11) (T := TX11) (N := 44) hK hH 40 0 (by decide) Nat.zero_lt_one rfl rfl, fun U hU hW => ⟨rfl, gD_at hK hG hB hH hS hU hW, q⟩⟩ rfl rfl hl.1 rfl (lv_room (Nat.le_of_ble_eq_true rfl)) dL_law_830 ⟨by show cl + 3 + 0 ≤ 601024; omega, by show sl + 18 + 0 ≤ 7293034; omega⟩) hS (fun _ _ h => h) (fun _ h => h) (fun r5 F6 t H locs ht hvm q hB1 hz hk hS => ?_)
    have hH : gH G ad F6 H := gH_to ht hB1
    refine lv_istore (lv' := [(6, .int r5), (0, .ref b), (1, .ref (ad 0 0)), (2, .ref (ad 40 0)), (3, .ref (ad 79 0)), (4, .int x4), (5, .int x5)]) hx hb dL_law_833 hl (by decide) rfl (fun ls hl => ?_)
    refine lv_aload_n hx hb dL_law_835 rfl (lv_at hl 3 rfl) ?_
    refine va_calli (va_runV (As := []) (rest := []) ⟨hx, hb, hml, hown, hts⟩ (c_X11_thrown l G ad F6 _) (cwV 0 hts gL_law_X11_thrown rfl rfl rfl (by decide +kernel) ⟨Nat.le_of_ble_eq_true rfl, Nat.le_of_ble_eq_true rfl⟩) ⟨fun a U g mk h => ⟨h.1, gD_blind h.2.1, h.2.2⟩, g_recv (C := RX11) (T := TX11) (N := 44) hK hH 40 0 (by decide) Nat.zero_lt_one rfl rfl, fun U hU hW => ⟨rfl, gD_at hK hG hB hH hS hU hW, q⟩⟩ rfl rfl hl.1 rfl (lv_room (Nat.le_of_ble_eq_true rfl)) dL_law_836 ⟨by show cl + 3 + 0 ≤ 601024; omega, by show sl + 18 + 0 ≤ 7293034; omega⟩) hS (fun _ _ h => h) (fun _ h => h) (fun r7 F8 t H locs ht hvm q hB1 hz hk hS => ?_)
    have hH : gH G ad F8 H := gH_to ht hB1
    refine lv_iload hx hb dL_law_839 (lv_at hl 6 rfl) ?_
    refine lv_icmp_eq (tgt := 846) hx hb dL_law_841 (by decide) (fun c9 => ?_) (fun c9 => ?_)
    · have q := (if_pos c9).mp q
      refine lv_iload hx hb dL_law_846 (lv_at hl 6 rfl) ?_
      refine lv_if_ne (tgt := 863) hx hb dL_law_848 (by decide) (fun c10 => ?_) (fun c10 => ?_)
      · have q := (if_neg c10).mp q
        refine lv_goto (tgt := 2280) hx hb dL_law_863 (by decide) ?_
        refine W.widen (k := cl + MCL) (n := sl + MSL) (by unfold MCL; omega) (by unfold MSL; omega) ?_
        exact hkk F8 ad _ _ _ (fun _ _ _ => rfl) hH hS (lv_sub hl [1, 2, 3, 4, 5] rfl) q
      · have q := (if_pos c10).mp q
        refine lv_aload_n hx hb dL_law_851 rfl (lv_at hl 4 rfl) ?_
        refine lv_iconst (v := 0) hx hb dL_law_852 (by decide) ?_
        obtain ⟨h11, q⟩ := q
        refine g_lald hx hb hK hH h11 dL_law_853 ?_
        refine lv_iload hx hb dL_law_854 (lv_at hl 0 rfl) ?_
        refine lv_i2l (v := r5.toInt64) hx hb dL_law_856 rfl ?_
        refine W.lcmp hx hb dL_law_857 ?_
        refine lv_if_eq (tgt := 863) hx hb dL_law_858 (by decide) (fun c12 => ?_) (fun c12 => ?_)
        · have q := (if_pos (lcmp_eq.mp c12)).mp q
          refine lv_goto (tgt := 2280) hx hb dL_law_863 (by decide) ?_
          refine W.widen (k := cl + MCL) (n := sl + MSL) (by unfold MCL; omega) (by unfold MSL; omega) ?_
          exact hkk F8 ad _ _ _ (fun _ _ _ => rfl) hH hS (lv_sub hl [1, 2, 3, 4, 5] rfl) q
        · have q := (if_neg (fun z => c12 (lcmp_eq.mpr z))).mp q
          refine lv_iconst (v := 0) hx hb dL_law_861 (by decide) ?_
          exact q.elim
    · have q := (if_neg c9).mp q
      refine lv_iconst (v := 0) hx hb dL_law_844 (by decide) ?_
      exact q.elim
  have t_797 : ∀ (F : GF) (s1 : Int32) (s2 : Int32) (s3 : Int32) (H : Heap) (locs : List Loc) (ls : Array Slot), gH G ad F H → va_S (gA G) s.heap H locs → lv_has ls 7 [(0, .ref b), (1, .ref (ad 0 0)), (2, .ref (ad 40 0)), (3, .ref (ad 79 0)), (4, .int x4)] → (P_L_law_797 a1 a2 a3 K) F s1 s2 s3 → W p l e room_1 s m #[Value.ref b] below meth c H locs (cl + 0) (sl + 0) Q (F0 m 797 ls [.int s3, .int s2, .int s1, .ref (ad 0 0)]) := by
    intro F s1 s2 s3 H locs ls hH hS hl q
    unfold P_L_law_797 at q
    refine lv_aload_n hx hb dL_law_797 rfl (lv_at hl 3 rfl) ?_
    refine va_calli (vx_runSW (As := [.ref (ad 0 0), .int s1, .int s2, .int s3, .ref (ad 79 0)]) (rest := []) ⟨hx, hb, hml, hown, hts⟩ (c_L_call l hfl G ad F s1 s2 s3 _) (vx_cwSW 5 hts gL_law_L_call rfl rfl rfl (by decide +kernel) ⟨Nat.le_of_ble_eq_true rfl, Nat.le_of_ble_eq_true rfl⟩) ⟨fun a U g mk h => ⟨h.1, ⟨gD_blind h.2.1.1, gL.moved (u := U) (U := U.calling g mk a) (Vm.Alike.refl U.vm) h.2.1.2⟩, h.2.2⟩, fun U hU hW => ⟨rfl, ⟨gD_at hK hG hB hH hS hU hW, gL.moved hW.alike hL⟩, q⟩⟩ rfl rfl hl.1 rfl (lv_room (Nat.le_of_ble_eq_true rfl)) dL_law_798 ⟨by show cl + 0 + 3 ≤ 601024; omega, by show sl + 0 + 18 ≤ 7293034; omega⟩) hS (fun _ _ h => h) (fun _ h => h) (fun r2 F3 t H locs ht hvm q hB1 hz hk hS => ?_)
    have hH : gH G ad F3 H := gH_to ht hB1
    refine lv_istore (lv' := [(5, .int r2), (0, .ref b), (1, .ref (ad 0 0)), (2, .ref (ad 40 0)), (3, .ref (ad 79 0)), (4, .int x4)]) hx hb dL_law_801 hl (by decide) rfl (fun ls hl => ?_)
    refine lv_aload_n hx hb dL_law_803 rfl (lv_at hl 3 rfl) ?_
    refine lv_aload_n hx hb dL_law_804 rfl (lv_at hl 1 rfl) ?_
    refine lv_iload hx hb dL_law_805 (lv_at hl 5 rfl) ?_
    refine lv_iconst (v := 1) hx hb dL_law_807 (by decide) ?_
    refine lv_iadd hx hb dL_law_808 ?_
    refine va_sld hx hb hX hbl hbA hS hi1 dL_law_809 ?_
    rw [ha1]
    refine lv_aload_n hx hb dL_law_810 rfl (lv_at hl 1 rfl) ?_
    refine lv_iload hx hb dL_law_811 (lv_at hl 5 rfl) ?_
    refine lv_iconst (v := 2) hx hb dL_law_813 (by decide) ?_
    refine lv_iadd hx hb dL_law_814 ?_
    refine va_sld hx hb hX hbl hbA hS hi2 dL_law_815 ?_
    rw [ha2]
    refine lv_aload_n hx hb dL_law_816 rfl (lv_at hl 1 rfl) ?_
    refine lv_iload hx hb dL_law_817 (lv_at hl 5 rfl) ?_
    refine lv_iconst (v := 3) hx hb dL_law_819 (by decide) ?_
    refine lv_iadd hx hb dL_law_820 ?_
    refine va_sld hx hb hX hbl hbA hS hi3 dL_law_821 ?_
    rw [ha3]
    refine lv_if_eq (tgt := 829) hx hb dL_law_822 (by decide) (fun c4 => ?_) (fun c4 => ?_)
    · have q := (if_pos c4).mp q
      refine lv_iconst (v := 0) hx hb dL_law_829 (by decide) ?_
      exact t_830 F3 r2 a1 a2 0 _ _ _ hH hS (lv_sub hl [1, 2, 3, 4, 5, 0] rfl) q
    · have q := (if_neg c4).mp q
      refine lv_iconst (v := 1) hx hb dL_law_825 (by decide) ?_
      refine lv_goto (tgt := 830) hx hb dL_law_826 (by decide) ?_
      exact t_830 F3 r2 a1 a2 1 _ _ _ hH hS (lv_sub hl [1, 2, 3, 4, 5, 0] rfl) q
  unfold PL_8 at q
  refine lv_aload_n hx hb dL_law_770 rfl (lv_at hl 1 rfl) ?_
  refine lv_aload_n hx hb dL_law_771 rfl (lv_at hl 0 rfl) ?_
  refine lv_iload hx hb dL_law_772 (lv_at hl 4 rfl) ?_
  refine lv_iconst (v := 1) hx hb dL_law_774 (by decide) ?_
  refine lv_iadd hx hb dL_law_775 ?_
  refine va_sld hx hb hX hbl hbA hS hi1 dL_law_776 ?_
  rw [ha1]
  refine lv_aload_n hx hb dL_law_777 rfl (lv_at hl 0 rfl) ?_
  refine lv_iload hx hb dL_law_778 (lv_at hl 4 rfl) ?_
  refine lv_iconst (v := 2) hx hb dL_law_780 (by decide) ?_
  refine lv_iadd hx hb dL_law_781 ?_
  refine va_sld hx hb hX hbl hbA hS hi2 dL_law_782 ?_
  rw [ha2]
  refine lv_aload_n hx hb dL_law_783 rfl (lv_at hl 0 rfl) ?_
  refine lv_iload hx hb dL_law_784 (lv_at hl 4 rfl) ?_
  refine lv_iconst (v := 3) hx hb dL_law_786 (by decide) ?_
  refine lv_iadd hx hb dL_law_787 ?_
  refine va_sld hx hb hX hbl hbA hS hi3 dL_law_788 ?_
  rw [ha3]
  refine lv_if_eq (tgt := 796) hx hb dL_law_789 (by decide) (fun c1 => ?_) (fun c1 => ?_)
  · have q := (if_pos c1).mp q
    refine lv_iconst (v := 0) hx hb dL_law_796 (by decide) ?_
    exact t_797 F a1 a2 0 _ _ _ hH hS (lv_sub hl [0, 1, 2, 3, 4] rfl) q
  · have q := (if_neg c1).mp q
    refine lv_iconst (v := 1) hx hb dL_law_792 (by decide) ?_
    refine lv_goto (tgt := 797) hx hb dL_law_793 (by decide) ?_
    exact t_797 F a1 a2 1 _ _ _ hH hS (lv_sub hl [0, 1, 2, 3, 4] rfl) q
set_option maxHeartbeats 4000000 in
set_option maxRecDepth 100000 in
theorem law_9 {p : Program} {l : Launch} {e : Env} {s : State} {m : MethodId} {below : List Frame} {meth : Method} {c : Code} {b L : Nat} {xs : Nat → Int32} {Q : State → Prop} {G : GP} (hfl : l.stackTraces = false) (hx : p.tables.exec = Jvm.exec) (hb : c.code = code) (hml : c.maxLocals = 7) (hown : s.vm.findClass RL = some m.cls) (hts : ∀ w ∈ wsL_law, w.before #[Value.ref b] s = true) (hX : va_X b L xs s s.heap) (hbl : b < s.heap.size) (hK : gK G s) (hG : gS G s) (hB : G.2.2.2 ≤ s.heap.size) (hL : gL s) (hBe : G.2.2.2 = s.heap.size) (ad : Nat → Nat → Nat) (F : GF) (x4 a1 a2 a3 : Int32) (hi1 : vp_in (x4 + 1) L) (hi2 : vp_in (x4 + 2) L) (hi3 : vp_in (x4 + 3) L) (ha1 : xs (x4 + 1).toNatClampNeg = a1) (ha2 : xs (x4 + 2).toNatClampNeg = a2) (ha3 : xs (x4 + 3).toNatClampNeg = a3) (cl sl : Nat) (hcl : cl + MCL ≤ 601024) (hsl : sl + MSL ≤ 7293034) (H : Heap) (locs : List Loc) (ls : Array Slot) (hH : gH G ad F H) (hS : va_S (gA G) s.heap H locs) (hl : lv_has ls 7 [(0, .ref b), (1, .ref (ad 0 0)), (2, .ref (ad 40 0)), (3, .ref (ad 79 0)), (4, .int x4)]) (K : GF → Prop) (hkk : ∀ (F1 : GF) (ad1 : Nat → Nat → Nat) (H : Heap) (locs : List Loc) (ls : Array Slot), (∀ f i : Nat, f ≠ 39 → ad1 f i = ad f i) → gH G ad1 F1 H → va_S (gA G) s.heap H locs → lv_has ls 7 [(0, .ref b), (1, .ref (ad1 0 0)), (2, .ref (ad1 40 0)), (3, .ref (ad1 79 0)), (4, .int x4)] → K F1 → W p l e room_1 s m #[Value.ref b] below meth c H locs (cl + MCL) (sl + MSL) Q (F0 m 2280 ls [])) (q : PL_9 a1 a2 a3 K F) : W p l e room_1 s m #[Value.ref b] below meth c H locs cl sl Q (F0 m 866 ls []) := by
  have hbA : ¬ gA G b := by
    intro h
    have h2 : G.2.2.2 ≤ b := h
    omega
  unfold MCL at hcl
  unfold MSL at hsl
  unfold PL_9 at q
  refine lv_aload_n hx hb dL_law_866 rfl (lv_at hl 1 rfl) ?_
  refine lv_aload_n hx hb dL_law_867 rfl (lv_at hl 0 rfl) ?_
  refine lv_iload hx hb dL_law_868 (lv_at hl 4 rfl) ?_
  refine lv_iconst (v := 1) hx hb dL_law_870 (by decide) ?_
  refine lv_iadd hx hb dL_law_871 ?_
  refine va_sld hx hb hX hbl hbA hS hi1 dL_law_872 ?_
  rw [ha1]
  refine lv_aload_n hx hb dL_law_873 rfl (lv_at hl 0 rfl) ?_
  refine lv_iload hx hb dL_law_874 (lv_at hl 4 rfl) ?_
  refine lv_iconst (v := 2) hx hb dL_law_876 (by decide) ?_
  refine lv_iadd hx hb dL_law_877 ?_
  refine va_sld hx hb hX hbl hbA hS hi2 dL_law_878 ?_
  rw [ha2]
  refine lv_aload_n hx hb dL_law_879 rfl (lv_at hl 3 rfl) ?_
  refine va_calli (vx_runSW (As := [.ref (ad 0 0), .int a1, .int a2, .ref (ad 79 0)]) (rest := []) ⟨hx, hb, hml, hown, hts⟩ (c_L_seed l hfl G ad F a1 a2 _) (vx_cwSW 4 hts gL_law_L_seed rfl rfl rfl (by decide +kernel) ⟨Nat.le_of_ble_eq_true rfl, Nat.le_of_ble_eq_true rfl⟩) ⟨fun a U g mk h => ⟨h.1, ⟨gD_blind h.2.1.1, gL.moved (u := U) (U := U.calling g mk a) (Vm.Alike.refl U.vm) h.2.1.2⟩, h.2.2⟩, fun U hU hW => ⟨rfl, ⟨gD_at hK hG hB hH hS hU hW, gL.moved hW.alike hL⟩, q⟩⟩ rfl rfl hl.1 rfl (lv_room (Nat.le_of_ble_eq_true rfl)) dL_law_880 ⟨by show cl + 0 + 3 ≤ 601024; omega, by show sl + 0 + 18 ≤ 7293034; omega⟩) hS (fun _ _ h => h) (fun _ h => h) (fun r1 F2 t H locs ht hvm q hB1 hz hk hS => ?_)
  have hH : gH G ad F2 H := gH_to ht hB1
  refine lv_istore (lv' := [(5, .int r1), (0, .ref b), (1, .ref (ad 0 0)), (2, .ref (ad 40 0)), (3, .ref (ad 79 0)), (4, .int x4)]) hx hb dL_law_883 hl (by decide) rfl (fun ls hl => ?_)
  refine lv_aload_n hx hb dL_law_885 rfl (lv_at hl 3 rfl) ?_
  refine lv_aload_n hx hb dL_law_886 rfl (lv_at hl 1 rfl) ?_
  refine lv_iload hx hb dL_law_887 (lv_at hl 5 rfl) ?_
  refine lv_iconst (v := 1) hx hb dL_law_889 (by decide) ?_
  refine lv_iadd hx hb dL_law_890 ?_
  refine va_sld hx hb hX hbl hbA hS hi1 dL_law_891 ?_
  rw [ha1]
  refine lv_aload_n hx hb dL_law_892 rfl (lv_at hl 1 rfl) ?_
  refine lv_iload hx hb dL_law_893 (lv_at hl 5 rfl) ?_
  refine lv_iconst (v := 2) hx hb dL_law_895 (by decide) ?_
  refine lv_iadd hx hb dL_law_896 ?_
  refine va_sld hx hb hX hbl hbA hS hi2 dL_law_897 ?_
  rw [ha2]
  refine va_calli (va_runV (As := [.int a1, .int a2]) (rest := []) ⟨hx, hb, hml, hown, hts⟩ (c_X11_seed l G ad F2 a1 a2 _) (cwV 2 hts gL_law_X11_seed rfl rfl rfl (by decide +kernel) ⟨Nat.le_of_ble_eq_true rfl, Nat.le_of_ble_eq_true rfl⟩) ⟨fun a U g mk h => ⟨h.1, gD_blind h.2.1, h.2.2⟩, g_recv (C := RX11) (T := TX11) (N := 44) hK hH 40 0 (by decide) Nat.zero_lt_one rfl rfl, fun U hU hW => ⟨rfl, gD_at hK hG hB hH hS hU hW, q⟩⟩ rfl rfl hl.1 rfl (lv_room (Nat.le_of_ble_eq_true rfl)) dL_law_898 ⟨by show cl + 3 + 0 ≤ 601024; omega, by show sl + 18 + 0 ≤ 7293034; omega⟩) hS (fun _ _ h => h) (fun _ h => h) (fun r3 F4 t H locs ht hvm q hB1 hz hk hS => ?_)
  have hH : gH G ad F4 H := gH_to ht hB1
  refine lv_istore (lv' := [(6, .int r3), (5, .int r1), (0, .ref b), (1, .ref (ad 0 0)), (2, .ref (ad 40 0)), (3, .ref (ad 79 0)), (4, .int x4)]) hx hb dL_law_901 hl (by decide) rfl (fun ls hl => ?_)
  refine lv_aload_n hx hb dL_law_903 rfl (lv_at hl 4 rfl) ?_
  refine va_calli (va_runV (As := []) (rest := []) ⟨hx, hb, hml, hown, hts⟩ (c_X11_thrown l G ad F4 _) (cwV 0 hts gL_law_X11_thrown rfl rfl rfl (by decide +kernel) ⟨Nat.le_of_ble_eq_true rfl, Nat.le_of_ble_eq_true rfl⟩) ⟨fun a U g mk h => ⟨h.1, gD_blind h.2.1, h.2.2⟩, g_recv (C := RX11) (T := TX11) (N := 44) hK hH 40 0 (by decide) Nat.zero_lt_one rfl rfl, fun U hU hW => ⟨rfl, gD_at hK hG hB hH hS hU hW, q⟩⟩ rfl rfl hl.1 rfl (lv_room (Nat.le_of_ble_eq_true rfl)) dL_law_904 ⟨by show cl + 3 + 0 ≤ 601024; omega, by show sl + 18 + 0 ≤ 7293034; omega⟩) hS (fun _ _ h => h) (fun _ h => h) (fun r5 F6 t H locs ht hvm q hB1 hz hk hS => ?_)
  have hH : gH G ad F6 H := gH_to ht hB1
  refine lv_iload hx hb dL_law_907 (lv_at hl 1 rfl) ?_
  refine lv_icmp_eq (tgt := 914) hx hb dL_law_909 (by decide) (fun c7 => ?_) (fun c7 => ?_)
  · have q := (if_pos c7).mp q
    refine lv_iload hx hb dL_law_914 (lv_at hl 1 rfl) ?_
    refine lv_if_ne (tgt := 931) hx hb dL_law_916 (by decide) (fun c8 => ?_) (fun c8 => ?_)
    · have q := (if_neg c8).mp q
      refine lv_goto (tgt := 2280) hx hb dL_law_931 (by decide) ?_
      refine W.widen (k := cl + MCL) (n := sl + MSL) (by unfold MCL; omega) (by unfold MSL; omega) ?_
      exact hkk F6 ad _ _ _ (fun _ _ _ => rfl) hH hS (lv_sub hl [2, 3, 4, 5, 6] rfl) q
    · have q := (if_pos c8).mp q
      refine lv_aload_n hx hb dL_law_919 rfl (lv_at hl 5 rfl) ?_
      refine lv_iconst (v := 0) hx hb dL_law_920 (by decide) ?_
      obtain ⟨h9, q⟩ := q
      refine g_lald hx hb hK hH h9 dL_law_921 ?_
      refine lv_iload hx hb dL_law_922 (lv_at hl 0 rfl) ?_
      refine lv_i2l (v := r3.toInt64) hx hb dL_law_924 rfl ?_
      refine W.lcmp hx hb dL_law_925 ?_
      refine lv_if_eq (tgt := 931) hx hb dL_law_926 (by decide) (fun c10 => ?_) (fun c10 => ?_)
      · have q := (if_pos (lcmp_eq.mp c10)).mp q
        refine lv_goto (tgt := 2280) hx hb dL_law_931 (by decide) ?_
        refine W.widen (k := cl + MCL) (n := sl + MSL) (by unfold MCL; omega) (by unfold MSL; omega) ?_
        exact hkk F6 ad _ _ _ (fun _ _ _ => rfl) hH hS (lv_sub hl [2, 3, 4, 5, 6] rfl) q
      · have q := (if_neg (fun z => c10 (lcmp_eq.mpr z))).mp q
        refine lv_iconst (v := 0) hx hb dL_law_929 (by decide) ?_
        exact q.elim
  · have q := (if_neg c7).mp q
    refine lv_iconst (v := 0) hx hb dL_law_912 (by decide) ?_
    exact q.elim
set_option maxHeartbeats 4000000 in
set_option maxRecDepth 100000 in
theorem law_10 {p : Program} {l : Launch} {e : Env} {s : State} {m : MethodId} {below : List Frame} {meth : Method} {c : Code} {b L : Nat} {xs : Nat → Int32} {Q : State → Prop} {G : GP} (hfl : l.stackTraces = false) (hx : p.tables.exec = Jvm.exec) (hb : c.code = code) (hml : c.maxLocals = 7) (hown : s.vm.findClass RL = some m.cls) (hts : ∀ w ∈ wsL_law, w.before #[Value.ref b] s = true) (hX : va_X b L xs s s.heap) (hbl : b < s.heap.size) (hK : gK G s) (hG : gS G s) (hB : G.2.2.2 ≤ s.heap.size) (hL : gL s) (hBe : G.2.2.2 = s.heap.size) (ad : Nat → Nat → Nat) (F : GF) (x4 a1 a2 a3 : Int32) (hi1 : vp_in (x4 + 1) L) (hi2 : vp_in (x4 + 2) L) (hi3 : vp_in (x4 + 3) L) (ha1 : xs (x4 + 1).toNatClampNeg = a1) (ha2 : xs (x4 + 2).toNatClampNeg = a2) (ha3 : xs (x4 + 3).toNatClampNeg = a3) (cl sl : Nat) (hcl : cl + MCL ≤ 601024) (hsl : sl + MSL ≤ 7293034) (H : Heap) (locs : List Loc) (ls : Array Slot) (hH : gH G ad F H) (hS : va_S (gA G) s.heap H locs) (hl : lv_has ls 7 [(0, .ref b), (1, .ref (ad 0 0)), (2, .ref (ad 40 0)), (3, .ref (ad 79 0)), (4, .int x4)]) (K : GF → Prop) (hkk : ∀ (F1 : GF) (ad1 : Nat → Nat → Nat) (H : Heap) (locs : List Loc) (ls : Array Slot), (∀ f i : Nat, f ≠ 39 → ad1 f i = ad f i) → gH G ad1 F1 H → va_S (gA G) s.heap H locs → lv_has ls 7 [(0, .ref b), (1, .ref (ad1 0 0)), (2, .ref (ad1 40 0)), (3, .ref (ad1 79 0)), (4, .int x4)] → K F1 → W p l e room_1 s m #[Value.ref b] below meth c H locs (cl + MCL) (sl + MSL) Q (F0 m 2280 ls [])) (q : PL_10 a1 a2 a3 K F) : W p l e room_1 s m #[Value.ref b] below meth c H locs cl sl Q (F0 m 934 ls []) := by
  have hbA : ¬ gA G b := by
    intro h
    have h2 : G.2.2.2 ≤ b := h
    omega
  unfold MCL at hcl
  unfold MSL at hsl
  unfold PL_10 at q
  refine lv_aload_n hx hb dL_law_934 rfl (lv_at hl 1 rfl) ?_
  refine lv_aload_n hx hb dL_law_935 rfl (lv_at hl 0 rfl) ?_
  refine lv_iload hx hb dL_law_936 (lv_at hl 4 rfl) ?_
  refine lv_iconst (v := 1) hx hb dL_law_938 (by decide) ?_
  refine lv_iadd hx hb dL_law_939 ?_
  refine va_sld hx hb hX hbl hbA hS hi1 dL_law_940 ?_
  rw [ha1]
  refine lv_aload_n hx hb dL_law_941 rfl (lv_at hl 3 rfl) ?_
  refine va_calli (vx_runSW (As := [.ref (ad 0 0), .int a1, .ref (ad 79 0)]) (rest := []) ⟨hx, hb, hml, hown, hts⟩ (c_L_advance l hfl G ad F a1 _) (vx_cwSW 3 hts gL_law_L_advance rfl rfl rfl (by decide +kernel) ⟨Nat.le_of_ble_eq_true rfl, Nat.le_of_ble_eq_true rfl⟩) ⟨fun a U g mk h => ⟨h.1, ⟨gD_blind h.2.1.1, gL.moved (u := U) (U := U.calling g mk a) (Vm.Alike.refl U.vm) h.2.1.2⟩, h.2.2⟩, fun U hU hW => ⟨rfl, ⟨gD_at hK hG hB hH hS hU hW, gL.moved hW.alike hL⟩, q⟩⟩ rfl rfl hl.1 rfl (lv_room (Nat.le_of_ble_eq_true rfl)) dL_law_942 ⟨by show cl + 0 + 2 ≤ 601024; omega, by show sl + 0 + 12 ≤ 7293034; omega⟩) hS (fun _ _ h => h) (fun _ h => h) (fun r1 F2 t H locs ht hvm q hB1 hz hk hS => ?_)
  have hH : gH G ad F2 H := gH_to ht hB1
  refine lv_istore (lv' := [(5, .int r1), (0, .ref b), (1, .ref (ad 0 0)), (2, .ref (ad 40 0)), (3, .ref (ad 79 0)), (4, .int x4)]) hx hb dL_law_945 hl (by decide) rfl (fun ls hl => ?_)
  refine lv_aload_n hx hb dL_law_947 rfl (lv_at hl 3 rfl) ?_
  refine lv_aload_n hx hb dL_law_948 rfl (lv_at hl 1 rfl) ?_
  refine lv_iload hx hb dL_law_949 (lv_at hl 5 rfl) ?_
  refine lv_iconst (v := 1) hx hb dL_law_951 (by decide) ?_
  refine lv_iadd hx hb dL_law_952 ?_
  refine va_sld hx hb hX hbl hbA hS hi1 dL_law_953 ?_
  rw [ha1]
  refine va_calli (va_runV (As := [.int a1]) (rest := []) ⟨hx, hb, hml, hown, hts⟩ (c_X11_advance l G ad F2 a1 _) (cwV 1 hts gL_law_X11_advance rfl rfl rfl (by decide +kernel) ⟨Nat.le_of_ble_eq_true rfl, Nat.le_of_ble_eq_true rfl⟩) ⟨fun a U g mk h => ⟨h.1, gD_blind h.2.1, h.2.2⟩, g_recv (C := RX11) (T := TX11) (N := 44) hK hH 40 0 (by decide) Nat.zero_lt_one rfl rfl, fun U hU hW => ⟨rfl, gD_at hK hG hB hH hS hU hW, q⟩⟩ rfl rfl hl.1 rfl (lv_room (Nat.le_of_ble_eq_true rfl)) dL_law_954 ⟨by show cl + 2 + 0 ≤ 601024; omega, by show sl + 12 + 0 ≤ 7293034; omega⟩) hS (fun _ _ h => h) (fun _ h => h) (fun r3 F4 t H locs ht hvm q hB1 hz hk hS => ?_)
  have hH : gH G ad F4 H := gH_to ht hB1
  refine lv_istore (lv' := [(6, .int r3), (5, .int r1), (0, .ref b), (1, .ref (ad 0 0)), (2, .ref (ad 40 0)), (3, .ref (ad 79 0)), (4, .int x4)]) hx hb dL_law_957 hl (by decide) rfl (fun ls hl => ?_)
  refine lv_aload_n hx hb dL_law_959 rfl (lv_at hl 4 rfl) ?_
  refine va_calli (va_runV (As := []) (rest := []) ⟨hx, hb, hml, hown, hts⟩ (c_X11_thrown l G ad F4 _) (cwV 0 hts gL_law_X11_thrown rfl rfl rfl (by decide +kernel) ⟨Nat.le_of_ble_eq_true rfl, Nat.le_of_ble_eq_true rfl⟩) ⟨fun a U g mk h => ⟨h.1, gD_blind h.2.1, h.2.2⟩, g_recv (C := RX11) (T := TX11) (N := 44) hK hH 40 0 (by decide) Nat.zero_lt_one rfl rfl, fun U hU hW => ⟨rfl, gD_at hK hG hB hH hS hU hW, q⟩⟩ rfl rfl hl.1 rfl (lv_room (Nat.le_of_ble_eq_true rfl)) dL_law_960 ⟨by show cl + 2 + 0 ≤ 601024; omega, by show sl + 12 + 0 ≤ 7293034; omega⟩) hS (fun _ _ h => h) (fun _ h => h) (fun r5 F6 t H locs ht hvm q hB1 hz hk hS => ?_)
  have hH : gH G ad F6 H := gH_to ht hB1
  refine lv_iload hx hb dL_law_963 (lv_at hl 1 rfl) ?_
  refine lv_icmp_eq (tgt := 970) hx hb dL_law_965 (by decide) (fun c7 => ?_) (fun c7 => ?_)
  · have q := (if_pos c7).mp q
    refine lv_iload hx hb dL_law_970 (lv_at hl 1 rfl) ?_
    refine lv_if_ne (tgt := 987) hx hb dL_law_972 (by decide) (fun c8 => ?_) (fun c8 => ?_)
    · have q := (if_neg c8).mp q
      refine lv_goto (tgt := 2280) hx hb dL_law_987 (by decide) ?_
      refine W.widen (k := cl + MCL) (n := sl + MSL) (by unfold MCL; omega) (by unfold MSL; omega) ?_
      exact hkk F6 ad _ _ _ (fun _ _ _ => rfl) hH hS (lv_sub hl [2, 3, 4, 5, 6] rfl) q
    · have q := (if_pos c8).mp q
      refine lv_aload_n hx hb dL_law_975 rfl (lv_at hl 5 rfl) ?_
      refine lv_iconst (v := 0) hx hb dL_law_976 (by decide) ?_
      obtain ⟨h9, q⟩ := q
      refine g_lald hx hb hK hH h9 dL_law_977 ?_
      refine lv_iload hx hb dL_law_978 (lv_at hl 0 rfl) ?_
      refine lv_i2l (v := r3.toInt64) hx hb dL_law_980 rfl ?_
      refine W.lcmp hx hb dL_law_981 ?_
      refine lv_if_eq (tgt := 987) hx hb dL_law_982 (by decide) (fun c10 => ?_) (fun c10 => ?_)
      · have q := (if_pos (lcmp_eq.mp c10)).mp q
        refine lv_goto (tgt := 2280) hx hb dL_law_987 (by decide) ?_
        refine W.widen (k := cl + MCL) (n := sl + MSL) (by unfold MCL; omega) (by unfold MSL; omega) ?_
        exact hkk F6 ad _ _ _ (fun _ _ _ => rfl) hH hS (lv_sub hl [2, 3, 4, 5, 6] rfl) q
      · have q := (if_neg (fun z => c10 (lcmp_eq.mpr z))).mp q
        refine lv_iconst (v := 0) hx hb dL_law_985 (by decide) ?_
        exact q.elim
  · have q := (if_neg c7).mp q
    refine lv_iconst (v := 0) hx hb dL_law_968 (by decide) ?_
    exact q.elim
set_option maxHeartbeats 4000000 in
set_option maxRecDepth 100000 in
theorem law_11 {p : Program} {l : Launch} {e : Env} {s : State} {m : MethodId} {below : List Frame} {meth : Method} {c : Code} {b L : Nat} {xs : Nat → Int32} {Q : State → Prop} {G : GP} (hfl : l.stackTraces = false) (hx : p.tables.exec = Jvm.exec) (hb : c.code = code) (hml : c.maxLocals = 7) (hown : s.vm.findClass RL = some m.cls) (hts : ∀ w ∈ wsL_law, w.before #[Value.ref b] s = true) (hX : va_X b L xs s s.heap) (hbl : b < s.heap.size) (hK : gK G s) (hG : gS G s) (hB : G.2.2.2 ≤ s.heap.size) (hL : gL s) (hBe : G.2.2.2 = s.heap.size) (ad : Nat → Nat → Nat) (F : GF) (x4 a1 a2 a3 : Int32) (hi1 : vp_in (x4 + 1) L) (hi2 : vp_in (x4 + 2) L) (hi3 : vp_in (x4 + 3) L) (ha1 : xs (x4 + 1).toNatClampNeg = a1) (ha2 : xs (x4 + 2).toNatClampNeg = a2) (ha3 : xs (x4 + 3).toNatClampNeg = a3) (cl sl : Nat) (hcl : cl + MCL ≤ 601024) (hsl : sl + MSL ≤ 7293034) (H : Heap) (locs : List Loc) (ls : Array Slot) (hH : gH G ad F H) (hS : va_S (gA G) s.heap H locs) (hl : lv_has ls 7 [(0, .ref b), (1, .ref (ad 0 0)), (2, .ref (ad 40 0)), (3, .ref (ad 79 0)), (4, .int x4)]) (K : GF → Prop) (hkk : ∀ (F1 : GF) (ad1 : Nat → Nat → Nat) (H : Heap) (locs : List Loc) (ls : Array Slot), (∀ f i : Nat, f ≠ 39 → ad1 f i = ad f i) → gH G ad1 F1 H → va_S (gA G) s.heap H locs → lv_has ls 7 [(0, .ref b), (1, .ref (ad1 0 0)), (2, .ref (ad1 40 0)), (3, .ref (ad1 79 0)), (4, .int x4)] → K F1 → W p l e room_1 s m #[Value.ref b] below meth c H locs (cl + MCL) (sl + MSL) Q (F0 m 2280 ls [])) (q : PL_11 a1 a2 a3 K F) : W p l e room_1 s m #[Value.ref b] below meth c H locs cl sl Q (F0 m 990 ls []) := by
  have hbA : ¬ gA G b := by
    intro h
    have h2 : G.2.2.2 ≤ b := h
    omega
  unfold MCL at hcl
  unfold MSL at hsl
  unfold PL_11 at q
  refine lv_aload_n hx hb dL_law_990 rfl (lv_at hl 1 rfl) ?_
  refine va_calli (va_runV (As := []) (rest := []) ⟨hx, hb, hml, hown, hts⟩ (c_X10_today l G ad F _) (cwV 0 hts gL_law_X10_today rfl rfl rfl (by decide +kernel) ⟨Nat.le_of_ble_eq_true rfl, Nat.le_of_ble_eq_true rfl⟩) ⟨fun a U g mk h => ⟨h.1, gD_blind h.2.1, h.2.2⟩, g_recv (C := RX10) (T := TX10) (N := 8) hK hH 0 0 (by decide) Nat.zero_lt_one rfl rfl, fun U hU hW => ⟨rfl, gD_at hK hG hB hH hS hU hW, q⟩⟩ rfl rfl hl.1 rfl (lv_room (Nat.le_of_ble_eq_true rfl)) dL_law_991 ⟨by show cl + 0 + 0 ≤ 601024; omega, by show sl + 0 + 0 ≤ 7293034; omega⟩) hS (fun _ _ h => h) (fun _ h => h) (fun r1 F2 t H locs ht hvm q hB1 hz hk hS => ?_)
  have hH : gH G ad F2 H := gH_to ht hB1
  refine lv_aload_n hx hb dL_law_994 rfl (lv_at hl 2 rfl) ?_
  refine va_calli (va_runV (As := []) (rest := [.int r1]) ⟨hx, hb, hml, hown, hts⟩ (c_X11_today l G ad F2 _) (cwV 0 hts gL_law_X11_today rfl rfl rfl (by decide +kernel) ⟨Nat.le_of_ble_eq_true rfl, Nat.le_of_ble_eq_true rfl⟩) ⟨fun a U g mk h => ⟨h.1, gD_blind h.2.1, h.2.2⟩, g_recv (C := RX11) (T := TX11) (N := 44) hK hH 40 0 (by decide) Nat.zero_lt_one rfl rfl, fun U hU hW => ⟨rfl, gD_at hK hG hB hH hS hU hW, q⟩⟩ rfl rfl hl.1 rfl (lv_room (Nat.le_of_ble_eq_true rfl)) dL_law_995 ⟨by show cl + 0 + 0 ≤ 601024; omega, by show sl + 0 + 0 ≤ 7293034; omega⟩) hS (fun _ _ h => h) (fun _ h => h) (fun r3 F4 t H locs ht hvm q hB1 hz hk hS => ?_)
  have hH : gH G ad F4 H := gH_to ht hB1
  refine lv_icmp_eq (tgt := 2280) hx hb dL_law_998 (by decide) (fun c5 => ?_) (fun c5 => ?_)
  · have q := (if_pos c5).mp q
    refine W.widen (k := cl + MCL) (n := sl + MSL) (by unfold MCL; omega) (by unfold MSL; omega) ?_
    exact hkk F4 ad _ _ _ (fun _ _ _ => rfl) hH hS (lv_sub hl [0, 1, 2, 3, 4] rfl) q
  · have q := (if_neg c5).mp q
    refine lv_iconst (v := 0) hx hb dL_law_1001 (by decide) ?_
    exact q.elim
