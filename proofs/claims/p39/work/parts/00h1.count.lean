/-- what is read off the j-th ballot -/
def kindN (sl : Int32) (bb : Nat → Nat) (j : Nat) : Nat := if sl ≤ 0 then bb j else if ((nI j + 1) - (nI j + 1) / sl * sl) = 0 then (bb j + 1) % 6 else bb j
def cntK (kd : Nat → Nat) (x : Nat) : Nat → Nat
  | 0 => 0
  | n + 1 => cntK kd x n + (if kd n = x then 1 else 0)
theorem cntK_le {kd : Nat → Nat} {x : Nat} : ∀ n, cntK kd x n ≤ n := by
  intro n
  induction n with
  | zero => exact Nat.le_refl _
  | succ n ih =>
    unfold cntK
    split <;> omega
theorem kindN_lt {sl : Int32} {bb : Nat → Nat} {j : Nat} (h : bb j ≤ 5) : kindN sl bb j < 6 := by
  unfold kindN
  split
  · omega
  · split
    · exact Nat.mod_lt _ (by decide)
    · omega
theorem pos_ne {sl : Int32} (h : ¬ sl ≤ 0) : ¬ sl = 0 := fun e => h (by rw [e]; decide)
theorem rb_cls {F : GF} {p r z : Nat} {sl : Int32} {bb : Nat → Nat} {K : GF → Prop} (h28 : F 28 p 1 = nI z) (hz : z ≤ 20) (hbb : ∀ j, j < 20 → bb j ≤ 5 ∧ F 29 p j = nI (bb j)) (hK : ∀ F1, (∀ f, f ≠ 32 → F1 f = F f) → (∀ i, i ≠ r → F1 32 i = F 32 i) → (∀ k, k < 6 → F1 32 r k = nI (cntK (kindN sl bb) k z)) → K F1) : P_X1_readBallots F p r sl K := by
  intro F2 e2
  refine ⟨z + 1, ?_⟩
  have key : ∀ m j F1, j + m = z → (∀ f, f ≠ 32 → F1 f = F f) → (∀ i, i ≠ r → F1 32 i = F 32 i) → (∀ k, k < 6 → F1 32 r k = nI (cntK (kindN sl bb) k j)) → P_X1_readBallots_7 p r K (m + 1) F1 sl (nI j) := by
    intro m
    induction m with
    | zero =>
      intro j F1 hj h1 h2 h3
      obtain rfl : j = z := by omega
      unfold P_X1_readBallots_7
      rw [h1 28 (by decide), h28, if_pos (Int32.le_refl _)]
      exact hK F1 h1 h2 h3
    | succ m ih =>
      intro j F1 hj h1 h2 h3
      have hj20 : j < 20 := by omega
      obtain ⟨b1, b2⟩ := hbb j hj20
      have hkd := kindN_lt (sl := sl) b1
      have hput : P_X1_readBallots_59 p r (fun F a0 a1 => P_X1_readBallots_7 p r K (m + 1) F a0 a1) K F1 sl (nI j) (nI (kindN sl bb j)) := by
        unfold P_X1_readBallots_59 P_X1_readBallots_81
        rw [if_neg (nI_pos (by omega)), if_neg (show ¬ (6 : Int32) ≤ nI (kindN sl bb j) from nI_ge (b := 6) (by omega) (by omega))]
        refine ⟨nI_in (by omega) (by omega), nI_in (by omega) (by omega), fun F11 e11 => ?_⟩
        rw [nI_clamp' (by omega), h3 _ hkd] at e11
        rw [← nI_succ]
        refine ih (j + 1) F11 (by omega) (fun f hf => by rw [e11, fs_fam hf]; exact h1 f hf) (fun i hi => ?_) (fun k hk => ?_)
        · rw [e11]
          funext k
          rw [fs_ne (Or.inr (Or.inl hi)), h2 i hi]
        · rw [e11]
          show _ = nI (cntK (kindN sl bb) k j + (if kindN sl bb j = k then 1 else 0))
          by_cases e : k = kindN sl bb j
          · subst e
            rw [fs_eq, if_pos rfl, nI_succ]
          · rw [fs_ne (Or.inr (Or.inr e)), if_neg (fun q => e q.symm)]
            exact h3 k hk
      unfold P_X1_readBallots_7
      rw [h1 28 (by decide), h28, if_neg (nI_ge (by omega) (by omega))]
      have h29 : F1 29 p (nI j).toNatClampNeg = nI (bb j) := by rw [nI_clamp' (by omega), h1 29 (by decide)]; exact b2
      unfold kindN at hput
      by_cases hs : sl ≤ 0
      · rw [if_pos hs] at hput ⊢
        unfold P_X1_readBallots_31 P_X1_readBallots_32
        rw [if_pos (show (0 : Int32) = 0 from rfl), h29]
        exact ⟨nI_in (by omega) (by omega), hput⟩
      · rw [if_neg hs] at hput ⊢
        refine ⟨pos_ne hs, ?_⟩
        by_cases hm : ((nI j + 1) - (nI j + 1) / sl * sl) = 0
        · rw [if_pos hm] at hput ⊢
          unfold P_X1_readBallots_32
          rw [if_neg (show ¬ (1 : Int32) = 0 by decide), h29, li6, ← nI_succ, nI_mod (by omega) (by omega)]
          exact ⟨nI_in (by omega) (by omega), hput⟩
        · rw [if_neg hm] at hput ⊢
          unfold P_X1_readBallots_31 P_X1_readBallots_32
          rw [if_pos (show (0 : Int32) = 0 from rfl), h29]
          exact ⟨nI_in (by omega) (by omega), hput⟩
  refine key z 0 F2 (by omega) (fun f hf => by rw [e2, ffill_fam hf]) (fun i hi => ?_) (fun k hk => ?_)
  · rw [e2]
    funext k
    exact ffill_ne (Or.inr (Or.inl hi))
  · rw [e2, ffill_in hk]
    rfl
theorem rb_mod {F : GF} {p c r z : Nat} {sl : Int32} {bb : Nat → Nat} {K : Int32 → GF → Prop} (hp : p < 5) (hc : c < 4) (hr : r < 40) (h59 : F 59 0 p = nI z) (h64 : F 64 0 c = sl) (hz : z ≤ 20) (hbb : ∀ j, j < 20 → bb j ≤ 5 ∧ F 58 0 (20 * p + j) = nI (bb j)) (hK : ∀ F1, (∀ f, f ≠ 60 → F1 f = F f) → (∀ q, ¬ (6 * r ≤ q ∧ q < 6 * r + 6) → F1 60 0 q = F 60 0 q) → (∀ k, k < 6 → F1 60 0 (6 * r + k) = nI (cntK (kindN sl bb) k z)) → ∀ F17, F17 = fs F1 62 0 p ((F1 62 0 p) + 1) → ∃ nn : Nat, P_X11_count_237 K nn F17 (nI p) (nI r) (8 * nI p)) : ∀ nn, nn = 7 → P_X11_count_103 K nn F (nI p) (nI c) (nI r) 0 := by
  rintro _ rfl
  have key : ∀ m j F1, j + m = z → (∀ f, f ≠ 60 → F1 f = F f) → (∀ q, ¬ (6 * r ≤ q ∧ q < 6 * r + 6) → F1 60 0 q = F 60 0 q) → (∀ k, k < 6 → F1 60 0 (6 * r + k) = nI (cntK (kindN sl bb) k j)) → P_X11_count_133 K (m + 1) F1 (nI p) (nI c) (nI r) (nI j) := by
    intro m
    induction m with
    | zero =>
      intro j F1 hj h1 h2 h3
      obtain rfl : j = z := by omega
      unfold P_X11_count_133
      rw [nI_clamp' (by omega), h1 59 (by decide), h59, if_pos (Int32.le_refl _)]
      exact ⟨nI_in (by omega) (by omega), nI_in (by omega) (by omega), nI_in (by omega) (by omega), hK F1 h1 h2 h3⟩
    | succ m ih =>
      intro j F1 hj h1 h2 h3
      have hj20 : j < 20 := by omega
      obtain ⟨b1, b2⟩ := hbb j hj20
      have hkd := kindN_lt (sl := sl) b1
      have hput : ∀ (y : Nat), (bb j + y) % 6 = kindN sl bb j → bb j + y < 2147483648 → P_X11_count_205 (fun F a0 a1 a2 a3 => P_X11_count_133 K (m + 1) F a0 a1 a2 a3) K F1 (nI p) (nI c) (nI r) (nI j) (6 * nI r) (nI (bb j)) (nI y) := by
        intro y hy hyb
        unfold P_X11_count_205
        rw [nI_add, li6, nI_mod hyb (by omega), nI_mul, nI_add, hy, nI_clamp' (by omega), h3 _ hkd]
        refine ⟨nI_in (by omega) (by omega), nI_in (by omega) (by omega), fun F41 e41 => ?_⟩
        rw [← nI_succ]
        refine ih (j + 1) F41 (by omega) (fun f hf => by rw [e41, fs_fam hf]; exact h1 f hf) (fun q hq => ?_) (fun k hk => ?_)
        · rw [e41, fs_ne (by omega)]
          exact h2 q hq
        · rw [e41]
          show _ = nI (cntK (kindN sl bb) k j + (if kindN sl bb j = k then 1 else 0))
          by_cases e : k = kindN sl bb j
          · subst e
            rw [fs_eq, if_pos rfl, nI_succ]
          · rw [fs_ne (by omega), if_neg (fun q => e q.symm)]
            exact h3 k hk
      unfold P_X11_count_133
      rw [nI_clamp' (by omega), nI_clamp' (by omega), h1 59 (by decide), h59, if_neg (nI_ge (by omega) (by omega)), h1 64 (by decide), h64]
      have h58 : F1 58 0 (20 * nI p + nI j).toNatClampNeg = nI (bb j) := by rw [li20, nI_mul, nI_add, nI_clamp' (by omega), h1 58 (by decide)]; exact b2
      have hv100 : vp_in (20 * nI p + nI j) 100 := by rw [li20, nI_mul, nI_add]; exact nI_in (by omega) (by omega)
      refine ⟨nI_in (by omega) (by omega), nI_in (by omega) (by omega), ?_⟩
      by_cases hs : sl ≤ 0
      · rw [if_pos hs]
        unfold P_X11_count_171 P_X11_count_172
        rw [if_pos (show (0 : Int32) = 0 from rfl), h58]
        exact ⟨hv100, hput 0 (by unfold kindN; rw [if_pos hs]; omega) (by omega)⟩
      · rw [if_neg hs]
        refine ⟨nI_in (by omega) (by omega), pos_ne hs, ?_⟩
        by_cases hm : ((nI j + 1) - (nI j + 1) / sl * sl) = 0
        · rw [if_pos hm]
          unfold P_X11_count_172
          rw [if_neg (show ¬ (1 : Int32) = 0 by decide), h58]
          exact ⟨hv100, hput 1 (by unfold kindN; rw [if_neg hs, if_pos hm]) (by omega)⟩
        · rw [if_neg hm]
          unfold P_X11_count_171 P_X11_count_172
          rw [if_pos (show (0 : Int32) = 0 from rfl), h58]
          exact ⟨hv100, hput 0 (by unfold kindN; rw [if_neg hs, if_neg hm]; omega) (by omega)⟩
  have clr : ∀ m j F1, j + m = 6 → (∀ f, f ≠ 60 → F1 f = F f) → (∀ q, ¬ (6 * r ≤ q ∧ q < 6 * r + 6) → F1 60 0 q = F 60 0 q) → (∀ k, k < j → F1 60 0 (6 * r + k) = nI 0) → P_X11_count_103 K (m + 1) F1 (nI p) (nI c) (nI r) (nI j) := by
    intro m
    induction m with
    | zero =>
      intro j F1 hj h1 h2 h3
      obtain rfl : j = 6 := by omega
      unfold P_X11_count_103
      rw [if_pos (show (6 : Int32) ≤ nI 6 by decide)]
      exact ⟨z + 1, key z 0 F1 (by omega) h1 h2 h3⟩
    | succ m ih =>
      intro j F1 hj h1 h2 h3
      unfold P_X11_count_103
      rw [if_neg (show ¬ (6 : Int32) ≤ nI j from nI_ge (b := 6) (by omega) (by omega)), li6, nI_mul, nI_add, nI_clamp' (by omega)]
      refine ⟨nI_in (by omega) (by omega), fun F46 e46 => ?_⟩
      rw [← nI_succ]
      refine ih (j + 1) F46 (by omega) (fun f hf => by rw [e46, fs_fam hf]; exact h1 f hf) (fun q hq => ?_) (fun k hk => ?_)
      · rw [e46, fs_ne (by omega)]
        exact h2 q hq
      · rw [e46]
        by_cases e : k = j
        · subst e
          rw [fs_eq]
          rfl
        · rw [fs_ne (by omega)]
          exact h3 k (by omega)
  exact clr 6 0 F rfl (fun _ _ => rfl) (fun _ _ => rfl) (fun k hk => absurd hk (Nat.not_lt_zero k))
/-- two counts alike -/
def alike (F : GF) (p n : Nat) (cl : Int32) (j : Nat) : Prop := ¬ F 30 p j = cl ∧ ∀ k, k < 6 → F 32 (8 * p + j) k = F 32 (8 * p + n) k
theorem al_cls {F : GF} {j0 j1 : Nat} {K : Int32 → GF → Prop} (h1 : (∀ k, k < 6 → F 32 j0 k = F 32 j1 k) → K 1 F) (h0 : ¬ (∀ k, k < 6 → F 32 j0 k = F 32 j1 k) → K 0 F) : P_X1_isAlike F j0 j1 K := by
  refine ⟨7, ?_⟩
  have key : ∀ m j, j + m = 6 → (∀ k, k < j → F 32 j0 k = F 32 j1 k) → P_X1_isAlike_2 j0 j1 K (m + 1) F (nI j) := by
    intro m
    induction m with
    | zero =>
      intro j hj h
      obtain rfl : j = 6 := by omega
      unfold P_X1_isAlike_2
      rw [if_pos (show (6 : Int32) ≤ nI 6 by decide)]
      exact h1 h
    | succ m ih =>
      intro j hj h
      have hn : ¬ (6 : Int32) ≤ nI j := nI_ge (b := 6) (by omega) (by omega)
      unfold P_X1_isAlike_2
      rw [if_neg hn, if_neg hn, nI_clamp' (by omega)]
      refine ⟨nI_in (by omega) (by omega), nI_in (by omega) (by omega), ?_⟩
      by_cases e : F 32 j0 j = F 32 j1 j
      · rw [if_pos e, ← nI_succ]
        refine ih (j + 1) (by omega) (fun k hk => ?_)
        by_cases ek : k = j
        · subst ek; exact e
        · exact h k (by omega)
      · rw [if_neg e]
        exact h0 (fun q => e (q j (by omega)))
  exact key 6 0 rfl (fun k hk => absurd hk (Nat.not_lt_zero k))
theorem al_mod {F : GF} {r0 r1 : Nat} {K : Int32 → GF → Prop} (hr0 : r0 < 40) (hr1 : r1 < 40) (h1 : (¬ F 61 0 r0 = F 61 0 r1 ∧ ∀ k, k < 6 → F 60 0 (6 * r0 + k) = F 60 0 (6 * r1 + k)) → K 1 F) (h0 : ¬ (¬ F 61 0 r0 = F 61 0 r1 ∧ ∀ k, k < 6 → F 60 0 (6 * r0 + k) = F 60 0 (6 * r1 + k)) → K 0 F) : P_X11_areAlike F (nI r0) (nI r1) K := by
  have key0 : (¬ (¬ F 61 0 r0 = F 61 0 r1 ∧ ∀ k, k < 6 → F 60 0 (6 * r0 + k) = F 60 0 (6 * r1 + k))) → ∀ m j, j + m = 6 → P_X11_areAlike_24 K (m + 1) F (nI r0) (nI r1) 0 (nI j) := by
    intro hno m
    induction m with
    | zero =>
      intro j hj
      obtain rfl : j = 6 := by omega
      unfold P_X11_areAlike_24
      rw [if_pos (show (6 : Int32) ≤ nI 6 by decide)]
      exact ⟨Or.inl rfl, h0 hno⟩
    | succ m ih =>
      intro j hj
      unfold P_X11_areAlike_24
      rw [if_neg (show ¬ (6 : Int32) ≤ nI j from nI_ge (b := 6) (by omega) (by omega)), if_pos (show (0 : Int32) = 0 from rfl)]
      unfold P_X11_areAlike_66 P_X11_areAlike_67
      rw [← nI_succ]
      exact ih (j + 1) (by omega)
  have key1 : ¬ F 61 0 r0 = F 61 0 r1 → ∀ m j, j + m = 6 → (∀ k, k < j → F 60 0 (6 * r0 + k) = F 60 0 (6 * r1 + k)) → P_X11_areAlike_24 K (m + 1) F (nI r0) (nI r1) 1 (nI j) := by
    intro hc m
    induction m with
    | zero =>
      intro j hj h
      obtain rfl : j = 6 := by omega
      unfold P_X11_areAlike_24
      rw [if_pos (show (6 : Int32) ≤ nI 6 by decide)]
      exact ⟨Or.inr rfl, h1 ⟨hc, h⟩⟩
    | succ m ih =>
      intro j hj h
      unfold P_X11_areAlike_24
      rw [if_neg (show ¬ (6 : Int32) ≤ nI j from nI_ge (b := 6) (by omega) (by omega)), if_neg (show ¬ (1 : Int32) = 0 by decide), li6, nI_mul, nI_mul, nI_add, nI_add, nI_clamp' (by omega), nI_clamp' (by omega)]
      refine ⟨nI_in (by omega) (by omega), nI_in (by omega) (by omega), ?_⟩
      by_cases e : F 60 0 (6 * r0 + j) = F 60 0 (6 * r1 + j)
      · rw [if_pos e]
        unfold P_X11_areAlike_67
        rw [← nI_succ]
        refine ih (j + 1) (by omega) (fun k hk => ?_)
        by_cases ek : k = j
        · subst ek; exact e
        · exact h k (by omega)
      · rw [if_neg e]
        unfold P_X11_areAlike_66 P_X11_areAlike_67
        rw [← nI_succ]
        exact key0 (fun q => e (q.2 j (by omega))) m (j + 1) (by omega)
  unfold P_X11_areAlike
  rw [nI_clamp' (by omega), nI_clamp' (by omega)]
  refine ⟨nI_in (by omega) (by omega), nI_in (by omega) (by omega), ?_⟩
  by_cases hc : F 61 0 r0 = F 61 0 r1
  · rw [if_pos hc]
    exact ⟨7, key0 (fun q => q.1 hc) 6 0 rfl⟩
  · rw [if_neg hc]
    exact ⟨7, key1 hc 6 0 rfl (fun k hk => absurd hk (Nat.not_lt_zero k))⟩
theorem cb_cls {F : GF} {p n : Nat} {cl : Int32} {K : GF → Prop} (hp : p < 5) (hn : n < 8) (h4 : F 28 p 4 = nI n) (h5 : F 28 p 5 = -1) (hK : ∀ F1 : GF, (∀ f, f ≠ 28 → F1 f = F f) → (∀ i j, ¬ (i = p ∧ (j = 4 ∨ j = 5)) → F1 28 i j = F 28 i j) → F1 28 p 4 = nI (n + 1) → ((F1 28 p 5 = -1 ∧ ∀ j, j < n → ¬ alike F p n cl j) ∨ (F1 28 p 5 = nI n ∧ ∃ j, j < n ∧ alike F p n cl j)) → K F1) : ∃ nn : Nat, P_X1_countBy_36 p K nn F cl 0 := by
  refine ⟨n + 1, ?_⟩
  have key : ∀ m j (F1 : GF), j + m = n → (∀ f, f ≠ 28 → F1 f = F f) → (∀ i j, ¬ (i = p ∧ j = 5) → F1 28 i j = F 28 i j) → ((F1 28 p 5 = -1 ∧ ∀ i, i < j → ¬ alike F p n cl i) ∨ (F1 28 p 5 = nI n ∧ ∃ i, i < j ∧ alike F p n cl i)) → P_X1_countBy_36 p K (m + 1) F1 cl (nI j) := by
    intro m
    induction m with
    | zero =>
      intro j F1 hj h1 h2 h3
      obtain rfl : j = n := by omega
      have e4 : F1 28 p 4 = nI j := (h2 p 4 (by omega)).trans h4
      unfold P_X1_countBy_36
      rw [e4, if_pos (Int32.le_refl _)]
      intro F8 e8
      refine hK F8 (fun f hf => by rw [e8, fs_fam hf]; exact h1 f hf) (fun i q hq => by rw [e8, fs_ne (by omega)]; exact h2 i q (by omega)) (by rw [e8, fs_eq, nI_succ]) ?_
      rw [e8, fs_ne (by omega)]
      exact h3
    | succ m ih =>
      intro j F1 hj h1 h2 h3
      have e4 : F1 28 p 4 = nI n := (h2 p 4 (by omega)).trans h4
      have hskip : ¬ alike F p n cl j → P_X1_countBy_83 p (fun F a0 a1 => P_X1_countBy_36 p K (m + 1) F a0 a1) K F1 cl (nI j) := by
        intro hno
        unfold P_X1_countBy_83
        rw [← nI_succ]
        refine ih (j + 1) F1 (by omega) h1 h2 ?_
        rcases h3 with ⟨a, b⟩ | ⟨a, i, b, c⟩
        · refine Or.inl ⟨a, fun i hi => ?_⟩
          by_cases e : i = j
          · subst e; exact hno
          · exact b i (by omega)
        · exact Or.inr ⟨a, i, by omega, c⟩
      unfold P_X1_countBy_36
      rw [e4, if_neg (nI_ge (by omega) (by omega)), nI_clamp' (by omega), nI_clamp' (by omega), h1 30 (by decide)]
      refine ⟨nI_in (by omega) (by omega), ?_⟩
      by_cases hc : F 30 p j = cl
      · rw [if_pos hc]
        exact hskip (fun q => q.1 hc)
      · rw [if_neg hc]
        refine ⟨nI_in (by omega) (by omega), nI_in (by omega) (by omega), al_cls (fun ha => ?_) (fun ha => ?_)⟩
        · rw [if_neg (show ¬ (1 : Int32) = 0 by decide)]
          intro F16 e16
          unfold P_X1_countBy_83
          rw [← nI_succ]
          rw [h1 32 (by decide)] at ha
          rw [e4] at e16
          refine ih (j + 1) F16 (by omega) (fun f hf => by rw [e16, fs_fam hf]; exact h1 f hf) (fun i q hq => by rw [e16, fs_ne (by omega)]; exact h2 i q hq) (Or.inr ⟨by rw [e16, fs_eq], j, by omega, hc, ha⟩)
        · rw [if_pos (show (0 : Int32) = 0 from rfl)]
          rw [h1 32 (by decide)] at ha
          exact hskip (fun q => ha q.2)
  exact key n 0 F (by omega) (fun _ _ => rfl) (fun _ _ _ => rfl) (Or.inl ⟨h5, fun i hi => absurd hi (Nat.not_lt_zero i)⟩)
theorem cb_mod {F : GF} {p n : Nat} {K : Int32 → GF → Prop} (hp : p < 5) (hn : n < 8) (h63 : F 63 0 p = -1) (hK : ∀ F1 : GF, (∀ f, f ≠ 63 → F1 f = F f) → (∀ i, i ≠ p → F1 63 0 i = F 63 0 i) → ((F1 63 0 p = -1 ∧ ∀ j, j < n → ¬ (¬ F 61 0 (8 * p + j) = F 61 0 (8 * p + n) ∧ ∀ k, k < 6 → F 60 0 (6 * (8 * p + j) + k) = F 60 0 (6 * (8 * p + n) + k))) ∨ (F1 63 0 p = nI (8 * p + n) ∧ ∃ j, j < n ∧ (¬ F 61 0 (8 * p + j) = F 61 0 (8 * p + n) ∧ ∀ k, k < 6 → F 60 0 (6 * (8 * p + j) + k) = F 60 0 (6 * (8 * p + n) + k)))) → P_X11_notes F1 (F1 40 0 0) 99 (nI p) (fun F20 => (∃ nn : Nat, P_X11_count_295 K nn F20 (nI p) 1 0))) : ∃ nn : Nat, P_X11_count_237 K nn F (nI p) (nI (8 * p + n)) (8 * nI p) := by
  refine ⟨n + 1, ?_⟩
  have key : ∀ m j (F1 : GF), j + m = n → (∀ f, f ≠ 63 → F1 f = F f) → (∀ i, i ≠ p → F1 63 0 i = F 63 0 i) → ((F1 63 0 p = -1 ∧ ∀ i, i < j → ¬ (¬ F 61 0 (8 * p + i) = F 61 0 (8 * p + n) ∧ ∀ k, k < 6 → F 60 0 (6 * (8 * p + i) + k) = F 60 0 (6 * (8 * p + n) + k))) ∨ (F1 63 0 p = nI (8 * p + n) ∧ ∃ i, i < j ∧ (¬ F 61 0 (8 * p + i) = F 61 0 (8 * p + n) ∧ ∀ k, k < 6 → F 60 0 (6 * (8 * p + i) + k) = F 60 0 (6 * (8 * p + n) + k)))) → P_X11_count_237 K (m + 1) F1 (nI p) (nI (8 * p + n)) (nI (8 * p + j)) := by
    intro m
    induction m with
    | zero =>
      intro j F1 hj h1 h2 h3
      obtain rfl : j = n := by omega
      unfold P_X11_count_237
      rw [if_pos (Int32.le_refl _)]
      exact hK F1 h1 h2 h3
    | succ m ih =>
      intro j F1 hj h1 h2 h3
      unfold P_X11_count_237
      rw [if_neg (nI_ge (by omega) (by omega))]
      refine al_mod (by omega) (by omega) (fun ha => ?_) (fun ha => ?_)
      · rw [if_neg (show ¬ (1 : Int32) = 0 by decide)]
        rw [h1 61 (by decide), h1 60 (by decide)] at ha
        unfold P_X11_count_271
        rw [nI_clamp' (by omega)]
        refine ⟨nI_in (by omega) (by omega), fun F34 e34 => ?_⟩
        rw [← nI_succ]
        exact ih (j + 1) F34 (by omega) (fun f hf => by rw [e34, fs_fam hf]; exact h1 f hf) (fun i hi => by rw [e34, fs_ne (Or.inr (Or.inr hi))]; exact h2 i hi) (Or.inr ⟨by rw [e34, fs_eq], j, by omega, ha⟩)
      · rw [if_pos (show (0 : Int32) = 0 from rfl)]
        rw [h1 61 (by decide), h1 60 (by decide)] at ha
        unfold P_X11_count_271
        rw [nI_clamp' (by omega)]
        refine ⟨nI_in (by omega) (by omega), nI_in (by omega) (by omega), fun F34 e34 => ?_⟩
        rw [← nI_succ]
        refine ih (j + 1) F34 (by omega) (fun f hf => by rw [e34, fs_fam hf]; exact h1 f hf) (fun i hi => by rw [e34, fs_ne (Or.inr (Or.inr hi))]; exact h2 i hi) ?_
        rw [e34, fs_eq]
        rcases h3 with ⟨a, b⟩ | ⟨a, i, b, c⟩
        · refine Or.inl ⟨a, fun i hi => ?_⟩
          by_cases e : i = j
          · subst e; exact ha
          · exact b i (by omega)
        · exact Or.inr ⟨a, i, by omega, c⟩
  rw [li8, nI_mul]
  exact key n 0 F (by omega) (fun _ _ => rfl) (fun _ _ => rfl) (Or.inl ⟨h63, fun i hi => absurd hi (Nat.not_lt_zero i)⟩)
theorem as_cls {F : GF} {e : Nat} {K : Int32 → GF → Prop} (h4 : F 10 0 4 = nI e) (he : e ≤ 5) (h1 : (∀ s, s < e → ¬ F 28 s 5 = -1) → K 1 F) (h0 : ¬ (∀ s, s < e → ¬ F 28 s 5 = -1) → K 0 F) : P_X2_isAllSettled F K := by
  refine ⟨e + 1, ?_⟩
  have key : ∀ m j, j + m = e → (∀ s, s < j → ¬ F 28 s 5 = -1) → P_X2_isAllSettled_2 K (m + 1) F (nI j) := by
    intro m
    induction m with
    | zero =>
      intro j hj h
      obtain rfl : j = e := by omega
      unfold P_X2_isAllSettled_2
      rw [h4, if_pos (Int32.le_refl _)]
      exact h1 h
    | succ m ih =>
      intro j hj h
      unfold P_X2_isAllSettled_2 P_X1_hasNumbers
      rw [h4, if_neg (nI_ge (by omega) (by omega)), nI_clamp' (by omega)]
      refine ⟨nI_in (by omega) (by omega), ?_⟩
      by_cases hs : F 28 j 5 = -1
      · rw [if_pos hs]
        show if (0 : Int32) = 0 then _ else _
        rw [if_pos (show (0 : Int32) = 0 from rfl)]
        exact h0 (fun q => q j (by omega) hs)
      · rw [if_neg hs]
        show if (1 : Int32) = 0 then _ else _
        rw [if_neg (show ¬ (1 : Int32) = 0 by decide), ← nI_succ]
        refine ih (j + 1) (by omega) (fun s hs2 => ?_)
        by_cases ek : s = j
        · subst ek; exact hs
        · exact h s (by omega)
  exact key e 0 (by omega) (fun s hs => absurd hs (Nat.not_lt_zero s))
theorem as_mod {F : GF} {e : Nat} {x1 : Int32} {K : Int32 → GF → Prop} (h19 : F 40 0 19 = nI e) (he : e ≤ 5) (h1 : (∀ s, s < e → ¬ F 63 0 s = -1) → P_X11_count_347 K F x1 5) (h0 : ¬ (∀ s, s < e → ¬ F 63 0 s = -1) → P_X11_count_347 K F x1 (F 40 0 14)) : ∃ nn : Nat, P_X11_count_295 K nn F x1 1 0 := by
  have key0 : ¬ (∀ s, s < e → ¬ F 63 0 s = -1) → ∀ m j, j + m = e → P_X11_count_295 K (m + 1) F x1 0 (nI j) := by
    intro hno m
    induction m with
    | zero =>
      intro j hj
      obtain rfl : j = e := by omega
      unfold P_X11_count_295
      rw [h19, if_pos (Int32.le_refl _), if_pos (show (0 : Int32) = 0 from rfl)]
      exact h0 hno
    | succ m ih =>
      intro j hj
      unfold P_X11_count_295
      rw [h19, if_neg (nI_ge (by omega) (by omega)), if_pos (show (0 : Int32) = 0 from rfl)]
      unfold P_X11_count_324 P_X11_count_325
      rw [← nI_succ]
      exact ih (j + 1) (by omega)
  refine ⟨e + 1, ?_⟩
  have key : ∀ m j, j + m = e → (∀ s, s < j → ¬ F 63 0 s = -1) → P_X11_count_295 K (m + 1) F x1 1 (nI j) := by
    intro m
    induction m with
    | zero =>
      intro j hj h
      obtain rfl : j = e := by omega
      unfold P_X11_count_295
      rw [h19, if_pos (Int32.le_refl _), if_neg (show ¬ (1 : Int32) = 0 by decide)]
      exact h1 h
    | succ m ih =>
      intro j hj h
      unfold P_X11_count_295
      rw [h19, if_neg (nI_ge (by omega) (by omega)), if_neg (show ¬ (1 : Int32) = 0 by decide), nI_clamp' (by omega)]
      refine ⟨nI_in (by omega) (by omega), ?_⟩
      by_cases hs : F 63 0 j = -1
      · rw [if_pos hs]
        unfold P_X11_count_324 P_X11_count_325
        rw [← nI_succ]
        exact key0 (fun q => q j (by omega) hs) m (j + 1) (by omega)
      · rw [if_neg hs]
        unfold P_X11_count_325
        rw [← nI_succ]
        refine ih (j + 1) (by omega) (fun s hs2 => ?_)
        by_cases ek : s = j
        · subst ek; exact hs
        · exact h s (by omega)
  exact key e 0 (by omega) (fun s hs => absurd hs (Nat.not_lt_zero s))
