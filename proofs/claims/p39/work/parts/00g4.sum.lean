def cntN (b : Nat → Int32) (x : Int32) : Nat → Nat
  | 0 => 0
  | n + 1 => cntN b x n + (if b n = x then 1 else 0)
theorem cntN_le {b : Nat → Int32} {x : Int32} : ∀ n, cntN b x n ≤ n := by
  intro n
  induction n with
  | zero => exact Nat.le_refl _
  | succ n ih =>
    unfold cntN
    split <;> omega
theorem cntN_congr {b b' : Nat → Int32} {x : Int32} : ∀ n, (∀ i, i < n → b' i = b i) → cntN b' x n = cntN b x n := by
  intro n
  induction n with
  | zero => intro _; rfl
  | succ n ih =>
    intro h
    unfold cntN
    rw [h n (Nat.lt_succ_self n), ih (fun i hi => h i (Nat.lt_succ_of_lt hi))]
def sumU (u : Nat → Nat) : Nat → Nat
  | 0 => 0
  | n + 1 => sumU u n + u n
theorem sumU_le {u : Nat → Nat} {c : Nat} : ∀ n, (∀ i, i < n → u i ≤ c) → sumU u n ≤ c * n := by
  intro n
  induction n with
  | zero => intro _; exact Nat.le_refl _
  | succ n ih =>
    intro h
    unfold sumU
    have h1 := ih (fun i hi => h i (Nat.lt_succ_of_lt hi))
    have h2 := h n (Nat.lt_succ_self n)
    rw [Nat.mul_succ]
    omega
theorem bf_cls {F : GF} {s z : Nat} {x : Int32} {K : Int32 → GF → Prop} (h28 : F 28 s 1 = nI z) (hz : z ≤ 20) (hK : K (nI (cntN (F 29 s) x z)) F) : P_X1_ballotsFor F s x K := by
  refine ⟨z + 1, ?_⟩
  have key : ∀ m j, j + m = z → P_X1_ballotsFor_4 s K (m + 1) F x (nI (cntN (F 29 s) x j)) (nI j) := by
    intro m
    induction m with
    | zero =>
      intro j hj
      obtain rfl : j = z := by omega
      unfold P_X1_ballotsFor_4
      rw [h28, if_pos (Int32.le_refl _)]
      exact hK
    | succ m ih =>
      intro j hj
      have hnx := ih (j + 1) (by omega)
      unfold cntN at hnx
      unfold P_X1_ballotsFor_4
      rw [h28, if_neg (nI_ge (by omega) (by omega)), nI_clamp' (by omega)]
      refine ⟨nI_in (by omega) (by omega), ?_⟩
      unfold P_X1_ballotsFor_25
      by_cases h : F 29 s j = x
      · rw [if_pos h] at hnx ⊢
        rw [nI_succ, nI_succ] at hnx
        exact hnx
      · rw [if_neg h] at hnx ⊢
        rw [Nat.add_zero, nI_succ] at hnx
        exact hnx
  exact key z 0 (by omega)
theorem ib_mod {F : GF} {s z : Nat} {x : Int32} {K : Int32 → GF → Prop} (hs : s < 5) (h59 : F 59 0 s = nI z) (hz : z ≤ 20) (hK : K (nI (cntN (fun j => F 58 0 (20 * s + j)) x z)) F) : P_X11_inBox F (nI s) x K := by
  refine ⟨z + 1, ?_⟩
  have key : ∀ m j, j + m = z → P_X11_inBox_8 K (m + 1) F (nI s) x (nI (cntN (fun j => F 58 0 (20 * s + j)) x j)) (nI (20 * s + j)) := by
    intro m
    induction m with
    | zero =>
      intro j hj
      obtain rfl : j = z := by omega
      unfold P_X11_inBox_8
      rw [nI_clamp' (by omega), h59, li20, nI_mul, nI_add, if_pos (Int32.le_refl _)]
      exact ⟨nI_in (by omega) (by omega), hK⟩
    | succ m ih =>
      intro j hj
      have hnx := ih (j + 1) (by omega)
      unfold cntN at hnx
      rw [← Nat.add_assoc, nI_succ (20 * s + j)] at hnx
      unfold P_X11_inBox_8
      rw [nI_clamp' (by omega), h59, li20, nI_mul, nI_add, if_neg (nI_ge (by omega) (by omega)), nI_clamp' (by omega)]
      refine ⟨nI_in (by omega) (by omega), nI_in (by omega) (by omega), ?_⟩
      unfold P_X11_inBox_41
      by_cases h : F 58 0 (20 * s + j) = x
      · rw [if_pos h] at hnx ⊢
        rw [nI_succ] at hnx
        exact hnx
      · rw [if_neg h] at hnx ⊢
        rw [show nI (cntN (fun j => F 58 0 (20 * s + j)) x j) + 0 = nI (cntN (fun j => F 58 0 (20 * s + j)) x j) from nI_add _ 0]
        exact hnx
  have h0 := key z 0 (by omega)
  rw [li20, nI_mul]
  exact h0
theorem sn_cls {F : GF} {s w p : Nat} {K : Int32 → GF → Prop} (h5 : F 28 s 5 = nI w) (hw : w < 8) (hp : p < 6) (hK : K (F 32 (8 * s + w) p) F) : P_X1_settledNumber F s (nI p) K := by
  unfold P_X1_settledNumber
  rw [h5, if_neg (nI_pos (by omega)), if_neg (show ¬ (8 : Int32) ≤ nI w from nI_ge (b := 8) (by omega) (by omega)), if_neg (nI_pos (by omega)), if_pos (show nI p < 6 from nI_lt (b := 6) (by omega) (by omega)), nI_clamp' (by omega), nI_clamp' (by omega)]
  exact ⟨nI_in (by omega) (by omega), nI_in (by omega) (by omega), hK⟩
theorem nf_cls {F : GF} {e p : Nat} {w u : Nat → Nat} {K : Int32 → GF → Prop} (h4 : F 10 0 4 = nI e) (he : e ≤ 5) (hp : p < 6) (hu : ∀ k, k < e → F 28 k 5 = nI (w k) ∧ w k < 8 ∧ F 32 (8 * k + w k) p = nI (u k)) (hK : K (nI (sumU u e)) F) : P_X2_numbersFor F (nI p) K := by
  refine ⟨e + 1, ?_⟩
  have key : ∀ m j, j + m = e → P_X2_numbersFor_4 K (m + 1) F (nI p) (nI (sumU u j)) (nI j) := by
    intro m
    induction m with
    | zero =>
      intro j hj
      obtain rfl : j = e := by omega
      unfold P_X2_numbersFor_4
      rw [h4, if_pos (Int32.le_refl _)]
      exact hK
    | succ m ih =>
      intro j hj
      have hnx := ih (j + 1) (by omega)
      obtain ⟨a1, a2, a3⟩ := hu j (by omega)
      unfold P_X2_numbersFor_4
      rw [h4, if_neg (nI_ge (by omega) (by omega)), nI_clamp' (by omega)]
      refine ⟨nI_in (by omega) (by omega), sn_cls a1 a2 hp ?_⟩
      rw [a3, nI_add, ← nI_succ]
      exact hnx
  exact key e 0 (by omega)
theorem bfs_cls {F : GF} {e p : Nat} {z u : Nat → Nat} {K : Int32 → GF → Prop} (h4 : F 10 0 4 = nI e) (he : e ≤ 5) (hu : ∀ k, k < e → F 28 k 1 = nI (z k) ∧ z k ≤ 20 ∧ cntN (F 29 k) (nI p) (z k) = u k) (hK : K (nI (sumU u e)) F) : P_X2_ballotsFor F (nI p) K := by
  refine ⟨e + 1, ?_⟩
  have key : ∀ m j, j + m = e → P_X2_ballotsFor_4 K (m + 1) F (nI p) (nI (sumU u j)) (nI j) := by
    intro m
    induction m with
    | zero =>
      intro j hj
      obtain rfl : j = e := by omega
      unfold P_X2_ballotsFor_4
      rw [h4, if_pos (Int32.le_refl _)]
      exact hK
    | succ m ih =>
      intro j hj
      have hnx := ih (j + 1) (by omega)
      obtain ⟨a1, a2, a3⟩ := hu j (by omega)
      unfold P_X2_ballotsFor_4
      rw [h4, if_neg (nI_ge (by omega) (by omega)), nI_clamp' (by omega)]
      refine ⟨nI_in (by omega) (by omega), bf_cls a1 a2 ?_⟩
      rw [a3, nI_add, ← nI_succ]
      exact hnx
  exact key e 0 (by omega)
theorem ss_cls {F : GF} {sd : Nat → Nat} {K : Int32 → GF → Prop} (hs : ∀ p, p < 5 → F 11 0 p = nI (sd p)) (hK : K (nI (sumU sd 5)) F) : P_X2_sumOfSeeds F K := by
  refine ⟨6, ?_⟩
  have key : ∀ m j, j + m = 5 → P_X2_sumOfSeeds_4 K (m + 1) F (nI (sumU sd j)) (nI j) := by
    intro m
    induction m with
    | zero =>
      intro j hj
      obtain rfl : j = 5 := by omega
      unfold P_X2_sumOfSeeds_4
      rw [if_pos (show (5 : Int32) ≤ nI 5 by decide)]
      exact hK
    | succ m ih =>
      intro j hj
      have hnx := ih (j + 1) (by omega)
      unfold P_X2_sumOfSeeds_4
      rw [if_neg (show ¬ (5 : Int32) ≤ nI j from nI_ge (b := 5) (by omega) (by omega)), nI_clamp' (by omega), hs j (by omega)]
      refine ⟨nI_in (by omega) (by omega), fun y ey => ?_⟩
      rw [ey, nI_add, ← nI_succ]
      exact hnx
  exact key 5 0 rfl
theorem gbNumbers {F : GF} {V sd : Nat → Nat} {x : Int32} {s : Nat} {K : GF → Prop} (hs : s ≤ 30) (h2 : F 10 0 2 = nI s) (h3 : F 10 0 3 = x) (hsd : ∀ p, p < 5 → F 11 0 p = nI (sd p)) (hl0 : sumU sd 5 < 100000) (hVb : ∀ q, q < 5 → V q ≤ 100) (hN : ∀ p, p < 5 → ∀ F1 : GF, (∀ f, f ≠ 34 → F1 f = F f) → ∀ K' : Int32 → GF → Prop, K' (nI (V p)) F1 → P_X2_numbersFor F1 (nI p) K') (hK : ∀ F1 F2 n, (∀ f, f ≠ 34 → F1 f = F f) → ((∃ p, p < 5 ∧ 0 < V p) ∧ n = s ∨ (∀ p, p < 5 → V p = 0) ∧ n = 0) → GC F1 n (gsq V x (sumU sd 5) n) F2 → K F2) : P_X10_giveByNumbers F K := by
  refine ⟨6, ?_⟩
  have key : ∀ m j F1, j + m = 5 → (∀ f, f ≠ 34 → F1 f = F f) → (∀ q, q < j → F1 34 0 q = nI (V q)) → P_X10_giveByNumbers_2 K (m + 1) F1 (nI j) := by
    intro m
    induction m with
    | zero =>
      intro j F1 hj hF hV
      obtain rfl : j = 5 := by omega
      unfold P_X10_giveByNumbers_2
      rw [if_pos (show (5 : Int32) ≤ nI 5 by decide)]
      refine ss_cls (sd := sd) (fun p hp => by rw [hF 11 (by decide)]; exact hsd p hp) ?_
      rw [hF 10 (by decide), h2, h3]
      exact gv_cls hl0 hs (fun q hq => ⟨hVb q hq, hV q hq⟩) (fun F2 n hn hG => hK F1 F2 n hF hn hG)
    | succ m ih =>
      intro j F1 hj hF hV
      unfold P_X10_giveByNumbers_2
      rw [if_neg (show ¬ (5 : Int32) ≤ nI j from nI_ge (b := 5) (by omega) (by omega))]
      refine hN j (by omega) F1 hF _ ?_
      refine ⟨nI_in (by omega) (by omega), fun F9 e9 => ?_⟩
      rw [← nI_succ]
      refine ih (j + 1) F9 (by omega) (fun f hf => by rw [e9, fs_fam hf]; exact hF f hf) (fun q hq => ?_)
      rw [e9, nI_clamp' (by omega)]
      by_cases e : q = j
      · subst e
        rw [fs_eq]
      · rw [fs_ne (Or.inr (Or.inr e))]
        exact hV q (by omega)
  exact key 5 0 F rfl (fun _ _ => rfl) (fun q hq => absurd hq (Nat.not_lt_zero q))
theorem gbBallots {F : GF} {V sd : Nat → Nat} {x : Int32} {s : Nat} {K : GF → Prop} (hs : s ≤ 30) (h2 : F 10 0 2 = nI s) (h3 : F 10 0 3 = x) (hsd : ∀ p, p < 5 → F 11 0 p = nI (sd p)) (hl0 : sumU sd 5 < 100000) (hVb : ∀ q, q < 5 → V q ≤ 100) (hN : ∀ p, p < 5 → ∀ F1 : GF, (∀ f, f ≠ 34 → F1 f = F f) → ∀ K' : Int32 → GF → Prop, K' (nI (V p)) F1 → P_X2_ballotsFor F1 (nI p) K') (hK : ∀ F1 F2 n, (∀ f, f ≠ 34 → F1 f = F f) → ((∃ p, p < 5 ∧ 0 < V p) ∧ n = s ∨ (∀ p, p < 5 → V p = 0) ∧ n = 0) → GC F1 n (gsq V x (sumU sd 5) n) F2 → K F2) : P_X10_giveByBallots F K := by
  refine ⟨6, ?_⟩
  have key : ∀ m j F1, j + m = 5 → (∀ f, f ≠ 34 → F1 f = F f) → (∀ q, q < j → F1 34 0 q = nI (V q)) → P_X10_giveByBallots_2 K (m + 1) F1 (nI j) := by
    intro m
    induction m with
    | zero =>
      intro j F1 hj hF hV
      obtain rfl : j = 5 := by omega
      unfold P_X10_giveByBallots_2
      rw [if_pos (show (5 : Int32) ≤ nI 5 by decide)]
      refine ss_cls (sd := sd) (fun p hp => by rw [hF 11 (by decide)]; exact hsd p hp) ?_
      rw [hF 10 (by decide), h2, h3]
      exact gv_cls hl0 hs (fun q hq => ⟨hVb q hq, hV q hq⟩) (fun F2 n hn hG => hK F1 F2 n hF hn hG)
    | succ m ih =>
      intro j F1 hj hF hV
      unfold P_X10_giveByBallots_2
      rw [if_neg (show ¬ (5 : Int32) ≤ nI j from nI_ge (b := 5) (by omega) (by omega))]
      refine hN j (by omega) F1 hF _ ?_
      refine ⟨nI_in (by omega) (by omega), fun F9 e9 => ?_⟩
      rw [← nI_succ]
      refine ih (j + 1) F9 (by omega) (fun f hf => by rw [e9, fs_fam hf]; exact hF f hf) (fun q hq => ?_)
      rw [e9, nI_clamp' (by omega)]
      by_cases e : q = j
      · subst e
        rw [fs_eq]
      · rw [fs_ne (Or.inr (Or.inr e))]
        exact hV q (by omega)
  exact key 5 0 F rfl (fun _ _ => rfl) (fun q hq => absurd hq (Nat.not_lt_zero q))
/-- what the reference adds up for a party -/
def UM (F0 : GF) (x1 : Int32) (e : Nat) (u : Nat → Nat → Nat) : Prop := (x1 = 0 ∧ ∀ k, k < e → ∃ r, r < 40 ∧ F0 63 0 k = nI r ∧ ∀ p, p < 5 → F0 60 0 (6 * r + p) = nI (u k p)) ∨ (x1 = 1 ∧ ∀ k, k < e → ∃ z, z ≤ 20 ∧ F0 59 0 k = nI z ∧ ∀ p, p < 5 → cntN (fun j => F0 58 0 (20 * k + j)) (nI p) z = u k p)
theorem g35_run {F0 : GF} {x1 x2 : Int32} {e p : Nat} {u : Nat → Nat → Nat} {k4 : GF → Int32 → Int32 → Int32 → Prop} {K : GF → Prop} (hu : UM F0 x1 e u) (he : e ≤ 5) (hp : p < 5) (h19 : F0 40 0 19 = nI e) {FA : GF} (hK : ∀ F1, (∀ f, f ≠ 65 → f ≠ 66 → F1 f = F0 f) → F1 65 0 p = nI (sumU (fun k => u k p) e) → (∀ q, q ≠ p → F1 65 0 q = FA 65 0 q) → F1 66 = FA 66 → k4 F1 x1 x2 (nI p + 1)) : ∀ m j F, j + m = e → (∀ f, f ≠ 65 → f ≠ 66 → F f = F0 f) → F 65 0 p = nI (sumU (fun k => u k p) j) → (∀ q, q ≠ p → F 65 0 q = FA 65 0 q) → F 66 = FA 66 → P_X11_gives_35 k4 K (m + 1) F x1 x2 (nI p) (nI j) := by
  intro m
  induction m with
  | zero =>
    intro j F hj hF h65 hq h66
    obtain rfl : j = e := by omega
    unfold P_X11_gives_35
    rw [hF 40 (by decide) (by decide), h19, if_pos (Int32.le_refl _)]
    exact hK F hF h65 hq h66
  | succ m ih =>
    intro j F hj hF h65 hq h66
    have hnx : ∀ F1 : GF, F1 = fs F 65 0 p (nI (sumU (fun k => u k p) j) + nI (u j p)) → P_X11_gives_35 k4 K (m + 1) F1 x1 x2 (nI p) (nI j + 1) := by
      intro F1 e1
      rw [← nI_succ]
      refine ih (j + 1) F1 (by omega) (fun f a b => by rw [e1, fs_fam a]; exact hF f a b) ?_ (fun q hqp => ?_) (by rw [e1, fs_fam (by decide)]; exact h66)
      · rw [e1, fs_eq, nI_add]
        rfl
      · rw [e1, fs_ne (Or.inr (Or.inr hqp))]
        exact hq q hqp
    unfold P_X11_gives_35
    rw [hF 40 (by decide) (by decide), h19, if_neg (nI_ge (by omega) (by omega)), nI_clamp' (by omega), nI_clamp' (by omega), h65]
    refine ⟨nI_in (by omega) (by omega), ?_⟩
    rcases hu with ⟨hx, hu⟩ | ⟨hx, hu⟩
    · rw [if_pos hx]
      obtain ⟨r, r1, r2, r3⟩ := hu j (by omega)
      rw [hF 63 (by decide) (by decide), r2, li6, nI_mul, nI_add, nI_clamp' (by omega), hF 60 (by decide) (by decide), r3 p hp]
      refine ⟨nI_in (by omega) (by omega), nI_in (by omega) (by omega), ?_⟩
      unfold P_X11_gives_82
      rw [nI_clamp' (by omega)]
      exact ⟨nI_in (by omega) (by omega), hnx⟩
    · rw [if_neg (show ¬ x1 = 0 by rw [hx]; decide)]
      obtain ⟨z, r1, r2, r3⟩ := hu j (by omega)
      refine ib_mod (z := z) (by omega) (by rw [hF 59 (by decide) (by decide)]; exact r2) r1 ?_
      rw [hF 58 (by decide) (by decide), r3 p hp]
      unfold P_X11_gives_82
      rw [nI_clamp' (by omega)]
      exact ⟨nI_in (by omega) (by omega), hnx⟩
theorem gs_mod {F0 : GF} {x1 : Int32} {e s : Nat} {u : Nat → Nat → Nat} {sd : Nat → Nat} {K : GF → Prop} (hu : UM F0 x1 e u) (hub : ∀ k p, k < e → p < 5 → u k p ≤ 20) (he : e ≤ 5) (hs : s ≤ 30) (h19 : F0 40 0 19 = nI e) (h16 : F0 40 0 16 = nI s) (hsd : ∀ p, p < 5 → F0 51 0 p = nI (sd p)) (hl0 : sumU sd 5 < 100000) (hK : ∀ F1 F2 n, (∀ f, f ≠ 65 → f ≠ 66 → f ≠ 40 → F1 f = F0 f) → (∀ j, j ≠ 37 → j ≠ 38 → F1 40 0 j = F0 40 0 j) → ((∃ p, p < 5 ∧ 0 < sumU (fun k => u k p) e) ∧ n = s ∨ (∀ p, p < 5 → sumU (fun k => u k p) e = 0) ∧ n = 0) → GM (fun p => sumU (fun k => u k p) e) F1 n (gsq (fun p => sumU (fun k => u k p) e) (F0 40 0 17) (sumU sd 5) n) F2 → K F2) : P_X11_gives F0 x1 K := by
  refine ⟨6, ?_⟩
  have hVb : ∀ q, q < 5 → sumU (fun k => u k q) e ≤ 100 := by
    intro q hq
    have := sumU_le (u := fun k => u k q) (c := 20) e (fun i hi => hub i q hi hq)
    omega
  have key : ∀ m p F, p + m = 5 → (∀ f, f ≠ 65 → f ≠ 66 → F f = F0 f) → (∀ q, q < p → F 65 0 q = nI (sumU (fun k => u k q) e) ∧ F 66 0 q = nI 0) → P_X11_gives_4 K (m + 1) F x1 (nI (sumU sd p)) (nI p) := by
    intro m
    induction m with
    | zero =>
      intro p F hp hF hq
      obtain rfl : p = 5 := by omega
      unfold P_X11_gives_4
      rw [if_pos (show (5 : Int32) ≤ nI 5 by decide)]
      intro F2 e2 F3 e3
      refine ⟨by unfold vp_in; decide, by unfold vp_in; decide, by unfold vp_in; decide, by unfold vp_in; decide, by unfold vp_in; decide, ?_⟩
      have h65 : ∀ q, q < 5 → F3 65 0 q = nI (sumU (fun k => u k q) e) := fun q hq5 => by rw [e3, e2, fs_fam (by decide), fs_fam (by decide)]; exact (hq q hq5).1
      have h66 : ∀ q, q < 5 → F3 66 0 q = nI 0 := fun q hq5 => by rw [e3, e2, fs_fam (by decide), fs_fam (by decide)]; exact (hq q hq5).2
      have h40 : ∀ j, j ≠ 37 → j ≠ 38 → F3 40 0 j = F0 40 0 j := fun j a b => by rw [e3, e2, fs_ne (Or.inr (Or.inr b)), fs_ne (Or.inr (Or.inr a)), hF 40 (by decide) (by decide)]
      have hfam : ∀ f, f ≠ 65 → f ≠ 66 → f ≠ 40 → F3 f = F0 f := fun f a b c => by rw [e3, e2, fs_fam c, fs_fam c]; exact hF f a b
      have h37 : F3 40 0 37 = nI 0 := by rw [e3, fs_ne (by omega), e2, fs_eq]; rfl
      have h38 : F3 40 0 38 = nI 0 := by rw [e3, fs_eq]; rfl
      rw [show (0 : Int32).toNatClampNeg = 0 by decide, show (1 : Int32).toNatClampNeg = 1 by decide, show (2 : Int32).toNatClampNeg = 2 by decide, show (3 : Int32).toNatClampNeg = 3 by decide, show (4 : Int32).toNatClampNeg = 4 by decide, h65 0 (by omega), h65 1 (by omega), h65 2 (by omega), h65 3 (by omega), h65 4 (by omega), nI_add, nI_add, nI_add, nI_add]
      have v0 := hVb 0 (by omega)
      have v1 := hVb 1 (by omega)
      have v2 := hVb 2 (by omega)
      have v3 := hVb 3 (by omega)
      have v4 := hVb 4 (by omega)
      have hGM0 : GM (fun p => sumU (fun k => u k p) e) F3 0 (gsq (fun p => sumU (fun k => u k p) e) (F0 40 0 17) (sumU sd 5) 0) F3 := ⟨fun _ _ _ _ _ => rfl, fun _ _ _ => rfl, h65, h66, h37, h38, fun j hj => absurd hj (Nat.not_lt_zero j)⟩
      by_cases hz : sumU (fun k => u k 0) e + sumU (fun k => u k 1) e + sumU (fun k => u k 2) e + sumU (fun k => u k 3) e + sumU (fun k => u k 4) e = 0
      · rw [hz, if_pos (show nI 0 ≤ 0 by decide)]
        refine ⟨1, ?_⟩
        unfold P_X11_gives_149
        rw [if_pos rfl]
        refine hK F3 F3 0 hfam h40 (Or.inr ⟨fun p hp5 => ?_, rfl⟩) hGM0
        have : p = 0 ∨ p = 1 ∨ p = 2 ∨ p = 3 ∨ p = 4 := by omega
        rcases this with rfl | rfl | rfl | rfl | rfl <;> omega
      · rw [if_neg (show ¬ nI (sumU (fun k => u k 0) e + sumU (fun k => u k 1) e + sumU (fun k => u k 2) e + sumU (fun k => u k 3) e + sumU (fun k => u k 4) e) ≤ 0 from nI_nle (Nat.pos_of_ne_zero hz) (by omega))]
        have hpos : ∃ p, p < 5 ∧ 0 < (fun p => sumU (fun k => u k p) e) p := by
          by_cases a0 : sumU (fun k => u k 0) e = 0
          · by_cases a1 : sumU (fun k => u k 1) e = 0
            · by_cases a2 : sumU (fun k => u k 2) e = 0
              · by_cases a3 : sumU (fun k => u k 3) e = 0
                · exact ⟨4, by omega, by show 0 < sumU (fun k => u k 4) e; omega⟩
                · exact ⟨3, by omega, Nat.pos_of_ne_zero a3⟩
              · exact ⟨2, by omega, Nat.pos_of_ne_zero a2⟩
            · exact ⟨1, by omega, Nat.pos_of_ne_zero a1⟩
          · exact ⟨0, by omega, Nat.pos_of_ne_zero a0⟩
        have h17 : F3 40 0 17 = F0 40 0 17 := h40 17 (by decide) (by decide)
        refine ⟨s + 1, ?_⟩
        have hgo := gv_mod (F0 := F3) (V := fun p => sumU (fun k => u k p) e) (l0 := sumU sd 5) (s := s) (K := K) hl0 hs hVb ((h40 16 (by decide) (by decide)).trans h16) hpos (fun F2 hG => hK F3 F2 s hfam h40 (Or.inl ⟨hpos, rfl⟩) (by rw [← h17]; exact hG)) s 0 F3 (by omega)
        rw [h17] at hgo
        exact hgo hGM0
    | succ m ih =>
      intro p F hp hF hq
      unfold P_X11_gives_4
      rw [if_neg (show ¬ (5 : Int32) ≤ nI p from nI_ge (b := 5) (by omega) (by omega)), nI_clamp' (by omega)]
      refine ⟨nI_in (by omega) (by omega), fun F40 e40 => ⟨nI_in (by omega) (by omega), fun F42 e42 => ⟨nI_in (by omega) (by omega), fun y44 ey => ?_⟩⟩⟩
      have hF42 : ∀ f, f ≠ 65 → f ≠ 66 → F42 f = F0 f := fun f a b => by rw [e42, e40, fs_fam b, fs_fam a]; exact hF f a b
      rw [hF42 51 (by decide) (by decide), hsd p (by omega), nI_add] at ey
      rw [ey]
      refine ⟨e + 1, g35_run (FA := F42) hu he (by omega) h19 (fun F1 a1 a2 a3 a4 => ?_) e 0 F42 (by omega) hF42 ?_ (fun _ _ => rfl) rfl⟩
      · rw [← nI_succ]
        refine ih (p + 1) F1 (by omega) a1 (fun q hq2 => ?_)
        by_cases e : q = p
        · subst e
          refine ⟨a2, ?_⟩
          rw [a4, e42, fs_eq]
          rfl
        · obtain ⟨b1, b2⟩ := hq q (by omega)
          refine ⟨?_, ?_⟩
          · rw [a3 q e, e42, e40, fs_fam (by decide), fs_ne (Or.inr (Or.inr e))]
            exact b1
          · rw [a4, e42, e40, fs_ne (Or.inr (Or.inr e)), fs_fam (by decide)]
            exact b2
      · rw [e42, e40, fs_fam (by decide), fs_eq]
        rfl
  exact key 5 0 F0 rfl (fun _ _ _ => rfl) (fun q hq => absurd hq (Nat.not_lt_zero q))
