/-! the law's loop -/
theorem ll_120 {n : Nat} (hn : n < 120) : ¬ (120 : Int32) ≤ nI n := by
  rw [show (120 : Int32) = nI 120 from rfl, nI_le_iff (by omega) (by omega)]
  omega
set_option maxHeartbeats 4000000 in
set_option maxRecDepth 100000 in
theorem law_loop {p : Program} {l : Launch} {e : Env} {s : State} {m : MethodId} {below : List Frame} {meth : Method} {c : Code} {b L : Nat} {xs : Nat → Int32} {G : GPz} {a0 b0 ca : Nat} (hfl : l.stackTraces = false) (hx : p.tables.exec = Jvm.exec) (hb : c.code = code) (hr : meth.sig.returnType = ret) (hlocks : meth.locks = false) (hml : c.maxLocals = 12) (hown : s.vm.findClass RL = some m.cls) (hts : ∀ w ∈ wsL_law, w.before #[Value.ref b] s = true) (hX : va_X b L xs s s.heap) (hbl : b < s.heap.size) (hLL : L < 2 ^ 31) (hK : gK (zg G) s) (hG : gS (zg G) s) (hL : gL s) (hBe : G.2.2.2 = s.heap.size) (Iv : Nat → S3 → Prop) (hstep : ∀ n F, n < 120 → Iv n F → P_M_body L xs (nI n) F (fun r F1 => r = 1 ∧ Iv (n + 1) F1)) : ∀ (d n : Nat), n + d = 120 → ∀ (F : S3) (cl sl : Nat), cl + d * MCL ≤ 600130 → sl + d * MSL ≤ 7301080 → ∀ (H : Heap) (locs : List Loc) (ls : Array Slot), tH G a0 b0 ca F H → va_S (gA (zg G)) s.heap H locs → lv_has ls 12 [(0, .ref b), (1, .ref a0), (2, .ref b0), (3, .ref ca), (4, .int 1), (5, .int (nI n))] → Iv n F → W p l e room_1 s m #[Value.ref b] below meth c H locs cl sl (lw_Z below #[Value.ref b] s) (F0 m 26 ls []) := by
  intro d
  induction d with
  | zero =>
    intro n hn F cl sl hcl hsl H locs ls hH hS hl q
    obtain rfl : n = 120 := by omega
    refine lv_iload hx hb dL_law_26 (lv_at hl 5 rfl) ?_
    refine lv_bipush (v := 120) hx hb dL_law_28 (by decide) ?_
    refine lv_icmp_ge (tgt := 633) hx hb dL_law_30 (by decide) (fun cc => ?_) (fun cc => absurd (show (120 : Int32) ≤ nI 120 by decide) cc)
    refine lv_iload hx hb dL_law_633 (lv_at hl 4 rfl) ?_
    refine W.widen (k := 600130) (n := 7301080) (by omega) (by omega) ?_
    exact va_forget (fun q hq => Nat.le_trans (Nat.le_of_eq hBe.symm) (hS.2.2 q hq)) (lw_ret hx hb hr hlocks dL_law_635)
  | succ d ih =>
    intro n hn F cl sl hcl hsl H locs ls hH hS hl q
    have hn120 : n < 120 := by omega
    have hM1 : cl + MCL + d * MCL ≤ 600130 := by rw [Nat.succ_mul] at hcl; omega
    have hM2 : sl + MSL + d * MSL ≤ 7301080 := by rw [Nat.succ_mul] at hsl; omega
    refine lv_iload hx hb dL_law_26 (lv_at hl 5 rfl) ?_
    refine lv_bipush (v := 120) hx hb dL_law_28 (by decide) ?_
    refine lv_icmp_ge (tgt := 633) hx hb dL_law_30 (by decide) (fun cc => absurd cc (ll_120 hn120)) (fun _ => ?_)
    refine lv_iload hx hb dL_law_33 (lv_at hl 4 rfl) ?_
    refine lv_if_eq (tgt := 633) hx hb dL_law_35 (by decide) (fun cc => absurd cc (by decide)) (fun _ => ?_)
    refine law_body hfl hx hb hml hown hts hX hbl hLL hK hG hL hBe F (nI n) cl sl (by omega) (by omega) H locs ls hH hS hl (fun r F1 => r = 1 ∧ Iv (n + 1) F1) (fun r F1 H locs ls hH hS hl q => ?_) (hstep n F hn120 q)
    obtain ⟨rfl, q⟩ := q
    exact ih (n + 1) (by omega) F1 (cl + MCL) (sl + MSL) hM1 hM2 H locs ls hH hS (by rw [nI_succ]; exact hl) q
