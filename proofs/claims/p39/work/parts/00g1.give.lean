theorem dif_toInt {a b : Nat} (ha : a < 1073741824) (hb : b < 1073741824) : (nI a - nI b).toInt = (a : Int) - b := by
  rw [Int32.toInt_sub, nI_toInt' (by omega), nI_toInt' (by omega), Int.bmod_eq_of_le (by omega) (by omega)]
theorem nI0_toInt : (nI 0).toInt = 0 := by decide
theorem dif_eq {a b : Nat} (ha : a < 1073741824) (hb : b < 1073741824) : nI a - nI b = nI 0 ↔ a = b := by
  rw [← Int32.toInt_inj, dif_toInt ha hb, nI0_toInt]
  omega
theorem dif_le {a b : Nat} (ha : a < 1073741824) (hb : b < 1073741824) : nI a - nI b ≤ nI 0 ↔ a ≤ b := by
  rw [Int32.le_iff_toInt_le, dif_toInt ha hb, nI0_toInt]
  omega
theorem dif_lt {a b : Nat} (ha : a < 1073741824) (hb : b < 1073741824) : nI 0 < nI a - nI b ↔ b < a := by
  rw [Int32.lt_iff_toInt_lt, dif_toInt ha hb, nI0_toInt]
  omega
/-- the divisor at n seats -/
def dvN (x : Int32) (n : Nat) : Nat := if x = 0 then n + 1 else 2 * n + 1
theorem dvN_le {x : Int32} {n : Nat} (h : n ≤ 30) : dvN x n ≤ 61 ∧ 0 < dvN x n := by
  unfold dvN
  split <;> omega
theorem mul_le_6100 {a b : Nat} (ha : a ≤ 100) (hb : b ≤ 61) : a * b ≤ 6100 := Nat.mul_le_mul ha hb
/-- the greatest quotients among the first parties, in their order -/
def fg (V d : Nat → Nat) : Nat → List Nat
  | 0 => []
  | j + 1 => if V j = 0 then fg V d j else match fg V d j with
    | [] => [j]
    | a :: r => if V a * d j < V j * d a then [j] else if V a * d j = V j * d a then a :: r ++ [j] else a :: r
theorem fg_lt {V d : Nat → Nat} : ∀ j, (∀ q ∈ fg V d j, q < j) ∧ (fg V d j).length ≤ j := by
  intro j
  induction j with
  | zero => exact ⟨fun q h => absurd h List.not_mem_nil, Nat.le_refl _⟩
  | succ j ih =>
    unfold fg
    by_cases h0 : V j = 0
    · rw [if_pos h0]
      exact ⟨fun q h => Nat.lt_succ_of_lt (ih.1 q h), Nat.le_succ_of_le ih.2⟩
    · rw [if_neg h0]
      cases hl : fg V d j with
      | nil => exact ⟨fun q h => by simp only [List.mem_singleton] at h; omega, by simp⟩
      | cons a r =>
        rw [hl] at ih
        simp only
        split
        · exact ⟨fun q h => by simp only [List.mem_singleton] at h; omega, by simp⟩
        · split
          · refine ⟨fun q h => ?_, ?_⟩
            · simp only [List.mem_append, List.mem_singleton] at h
              rcases h with h | h
              · exact Nat.lt_succ_of_lt (ih.1 q h)
              · omega
            · have := ih.2
              simp only [List.length_append, List.length_singleton]
              omega
          · exact ⟨fun q h => Nat.lt_succ_of_lt (ih.1 q h), Nat.le_succ_of_le ih.2⟩
/-- the reference's best party and the number of ties -/
def mb (V d : Nat → Nat) : Nat → Nat × Nat
  | 0 => (0, 0)
  | j + 1 => if V (mb V d j).1 * d j < V j * d (mb V d j).1 then (j, 1) else if V (mb V d j).1 * d j = V j * d (mb V d j).1 then ((mb V d j).1, (mb V d j).2 + 1) else mb V d j
theorem mb_lt {V d : Nat → Nat} : ∀ j, (mb V d j).1 ≤ j - 1 ∧ (mb V d j).2 ≤ j := by
  intro j
  induction j with
  | zero => exact ⟨Nat.le_refl _, Nat.le_refl _⟩
  | succ j ih =>
    unfold mb
    split
    · exact ⟨by simp, by simp⟩
    · split
      · exact ⟨by have := ih.1; simp only; omega, by have := ih.2; simp only; omega⟩
      · exact ⟨by have := ih.1; omega, by have := ih.2; omega⟩
/-- parties from b on whose quotient is b's -/
def eqs (V d : Nat → Nat) (b : Nat) (n : Nat) : List Nat := (List.range n).filter (fun q => decide (b ≤ q ∧ V b * d q = V q * d b))
theorem eqs_succ {V d : Nat → Nat} {b n : Nat} : eqs V d b (n + 1) = eqs V d b n ++ (if b ≤ n ∧ V b * d n = V n * d b then [n] else []) := by
  unfold eqs
  rw [List.range_succ, List.filter_append]
  congr 1
  by_cases h : b ≤ n ∧ V b * d n = V n * d b
  · rw [if_pos h, List.filter_cons_of_pos (by exact decide_eq_true h)]
    rfl
  · rw [if_neg h, List.filter_cons_of_neg (by simpa using h)]
    rfl
theorem eqs_lt {V d : Nat → Nat} {b n : Nat} (h : n ≤ b) : eqs V d b n = [] := by
  unfold eqs
  rw [List.filter_eq_nil_iff]
  intro q hq
  have := List.mem_range.mp hq
  simp only [decide_eq_true_eq]
  omega
/-- both ways of finding the greatest -/
theorem fg_mb {V d : Nat → Nat} (hd : ∀ p, 0 < d p) : ∀ j, ((∀ p, p < j → V p = 0) ∧ fg V d j = [] ∧ V (mb V d j).1 = 0) ∨ ((∃ p, p < j ∧ 0 < V p) ∧ fg V d j = eqs V d (mb V d j).1 j ∧ (fg V d j).length = (mb V d j).2 ∧ 0 < V (mb V d j).1 ∧ (mb V d j).1 < j ∧ ∃ r, fg V d j = (mb V d j).1 :: r) ∨ j = 0 := by
  intro j
  induction j with
  | zero => exact Or.inr (Or.inr rfl)
  | succ j ih =>
    -- nothing so far
    have start : ((∀ p, p < j → V p = 0) ∧ fg V d j = [] ∧ (j = 0 ∨ V (mb V d j).1 = 0)) → (((∀ p, p < j + 1 → V p = 0) ∧ fg V d (j + 1) = [] ∧ V (mb V d (j + 1)).1 = 0) ∨ ((∃ p, p < j + 1 ∧ 0 < V p) ∧ fg V d (j + 1) = eqs V d (mb V d (j + 1)).1 (j + 1) ∧ (fg V d (j + 1)).length = (mb V d (j + 1)).2 ∧ 0 < V (mb V d (j + 1)).1 ∧ (mb V d (j + 1)).1 < j + 1 ∧ ∃ r, fg V d (j + 1) = (mb V d (j + 1)).1 :: r)) := by
      rintro ⟨h1, h2, h3⟩
      by_cases h0 : V j = 0
      · left
        refine ⟨fun p hp => ?_, ?_, ?_⟩
        · by_cases e : p = j
          · subst e; exact h0
          · exact h1 p (by omega)
        · unfold fg
          rw [if_pos h0, h2]
        · unfold mb
          have hz : V (mb V d j).1 = 0 := by
            rcases h3 with h3 | h3
            · subst h3; exact h0
            · exact h3
          rw [h0, hz]
          simp [hz]
      · right
        have hf : fg V d (j + 1) = [j] := by
          unfold fg
          rw [if_neg h0, h2]
        have hj0 : 0 < V j := Nat.pos_of_ne_zero h0
        by_cases hb0 : V (mb V d j).1 = 0
        · have hm : mb V d (j + 1) = (j, 1) := by
            unfold mb
            rw [hb0, if_pos (by rw [Nat.zero_mul]; exact Nat.mul_pos hj0 (hd _))]
          rw [hm, hf]
          refine ⟨⟨j, Nat.lt_succ_self j, hj0⟩, ?_, rfl, hj0, Nat.lt_succ_self j, [], rfl⟩
          rw [eqs_succ, eqs_lt (Nat.le_refl j), if_pos ⟨Nat.le_refl j, rfl⟩]
          rfl
        · rcases h3 with h3 | h3
          · subst h3
            have hm : mb V d (0 + 1) = (0, 1) := by
              unfold mb
              have e : mb V d 0 = (0, 0) := rfl
              rw [e]
              simp
            rw [hm, hf]
            refine ⟨⟨0, Nat.lt_succ_self 0, hj0⟩, ?_, rfl, hj0, Nat.lt_succ_self 0, [], rfl⟩
            rw [eqs_succ, eqs_lt (Nat.le_refl 0), if_pos ⟨Nat.le_refl 0, rfl⟩]
            rfl
          · exact absurd h3 hb0
    rcases ih with ⟨h1, h2, h3⟩ | ⟨⟨p0, hp1, hp2⟩, h2, h3, h4, h5, r, h6⟩ | h
    · rcases start ⟨h1, h2, Or.inr h3⟩ with h | h
      · exact Or.inl h
      · exact Or.inr (Or.inl h)
    · right; left
      generalize hbt : mb V d j = bt at h2 h3 h4 h5 h6
      obtain ⟨b, tt⟩ := bt
      simp only at h2 h3 h4 h5 h6
      by_cases h0 : V j = 0
      · have hf : fg V d (j + 1) = fg V d j := by
          conv => lhs; unfold fg
          rw [if_pos h0]
        have hm : mb V d (j + 1) = (b, tt) := by
          unfold mb
          rw [hbt, h0]
          have hx : 0 < V b * d j := Nat.mul_pos h4 (hd j)
          simp only [Nat.zero_mul]
          rw [if_neg (by omega), if_neg (by omega)]
        rw [hm, hf]
        refine ⟨⟨p0, by omega, hp2⟩, ?_, h3, h4, by omega, r, h6⟩
        have hx : 0 < V b * d j := Nat.mul_pos h4 (hd j)
        show fg V d j = eqs V d b (j + 1)
        rw [eqs_succ, if_neg (by rw [h0, Nat.zero_mul]; omega), List.append_nil]
        exact h2
      · by_cases hgt : V b * d j < V j * d b
        · have hf : fg V d (j + 1) = [j] := by
            conv => lhs; unfold fg
            rw [if_neg h0, h6]
            simp only
            rw [if_pos hgt]
          have hm : mb V d (j + 1) = (j, 1) := by
            unfold mb
            rw [hbt]
            simp only
            rw [if_pos hgt]
          rw [hm, hf]
          refine ⟨⟨p0, by omega, hp2⟩, ?_, rfl, by simp only; omega, Nat.lt_succ_self j, [], rfl⟩
          rw [eqs_succ, eqs_lt (Nat.le_refl j), if_pos ⟨Nat.le_refl j, rfl⟩]
          rfl
        · by_cases heq : V b * d j = V j * d b
          · have hf : fg V d (j + 1) = fg V d j ++ [j] := by
              conv => lhs; unfold fg
              rw [if_neg h0, h6]
              simp only
              rw [if_neg hgt, if_pos heq]
            have hm : mb V d (j + 1) = (b, tt + 1) := by
              unfold mb
              rw [hbt]
              simp only
              rw [if_neg hgt, if_pos heq]
            rw [hm, hf]
            refine ⟨⟨p0, by omega, hp2⟩, ?_, ?_, h4, by omega, r ++ [j], by rw [h6]; rfl⟩
            · rw [eqs_succ, if_pos ⟨by omega, heq⟩, ← h2]
            · rw [List.length_append, h3]
              rfl
          · have hf : fg V d (j + 1) = fg V d j := by
              conv => lhs; unfold fg
              rw [if_neg h0, h6]
              simp only
              rw [if_neg hgt, if_neg heq]
            have hm : mb V d (j + 1) = (b, tt) := by
              unfold mb
              rw [hbt]
              simp only
              rw [if_neg hgt, if_neg heq]
            rw [hm, hf]
            refine ⟨⟨p0, by omega, hp2⟩, ?_, h3, h4, by omega, r, h6⟩
            rw [eqs_succ, if_neg (fun q => heq q.2), List.append_nil]
            exact h2
    · subst h
      rcases start ⟨fun p hp => absurd hp (Nat.not_lt_zero p), rfl, Or.inl rfl⟩ with h | h
      · exact Or.inl h
      · exact Or.inr (Or.inl h)
theorem dv_cls {F : GF} {p : Nat} {g : Nat → Nat} {x : Int32} {K : Int32 → GF → Prop} (hp : p < 5) (h35 : F 35 0 p = nI (g p)) (hK : K (nI (dvN x (g p))) F) : P_X6_divisor F (nI p) x K := by
  unfold P_X6_divisor
  unfold dvN at hK
  by_cases h : x = 0
  · rw [if_pos h] at hK ⊢
    simp (disch := first | omega | assumption) only [li0, li1, li2, li3, li4, li5, li6, li7, li8, li10, li20, li30, li35, li36, li60, li72, li100, li572, li2000, li2100, li9999, nI_lt_t, nI_lt_f, nI_le_t, nI_le_f, nI_eq_t, nI_eq_f, nI_eq_neg2, neg_eq_nI2, neg_lt2, neg_le2, nI_lt_neg2, nI_le_neg2, pred_t, pred_f, nI_clamp', vp_t, lt0_t, lt0_le, lt0_lt, lt0_eq, if_true, if_false, ite_true, ite_false, true_and, and_true, false_and, and_false, false_or, or_false, true_or, or_true, eq_self, forall_eq, fs_ne, fs_eq, fs_eq', st12, st13, st21, st23, st31, st32, not_true_eq_false, not_false_eq_true, h35, nI_add]
    exact hK
  · rw [if_neg h] at hK ⊢
    simp (disch := first | omega | assumption) only [li0, li1, li2, li3, li4, li5, li6, li7, li8, li10, li20, li30, li35, li36, li60, li72, li100, li572, li2000, li2100, li9999, nI_lt_t, nI_lt_f, nI_le_t, nI_le_f, nI_eq_t, nI_eq_f, nI_eq_neg2, neg_eq_nI2, neg_lt2, neg_le2, nI_lt_neg2, nI_le_neg2, pred_t, pred_f, nI_clamp', vp_t, lt0_t, lt0_le, lt0_lt, lt0_eq, if_true, if_false, ite_true, ite_false, true_and, and_true, false_and, and_false, false_or, or_false, true_or, or_true, eq_self, forall_eq, fs_ne, fs_eq, fs_eq', st12, st13, st21, st23, st31, st32, not_true_eq_false, not_false_eq_true, h35, nI_mul, nI_add]
    exact hK
theorem dv_mod {F : GF} {p : Nat} {g : Nat → Nat} {K : Int32 → GF → Prop} (hp : p < 5) (h66 : F 66 0 p = nI (g p)) (hK : K (nI (dvN (F 40 0 17) (g p))) F) : P_X11_divisor F (nI p) K := by
  unfold P_X11_divisor
  unfold dvN at hK
  by_cases h : F 40 0 17 = 0
  · rw [if_pos h] at hK ⊢
    simp (disch := first | omega | assumption) only [li0, li1, li2, li3, li4, li5, li6, li7, li8, li10, li20, li30, li35, li36, li60, li72, li100, li572, li2000, li2100, li9999, nI_lt_t, nI_lt_f, nI_le_t, nI_le_f, nI_eq_t, nI_eq_f, nI_eq_neg2, neg_eq_nI2, neg_lt2, neg_le2, nI_lt_neg2, nI_le_neg2, pred_t, pred_f, nI_clamp', vp_t, lt0_t, lt0_le, lt0_lt, lt0_eq, if_true, if_false, ite_true, ite_false, true_and, and_true, false_and, and_false, false_or, or_false, true_or, or_true, eq_self, forall_eq, fs_ne, fs_eq, fs_eq', st12, st13, st21, st23, st31, st32, not_true_eq_false, not_false_eq_true, h66, nI_add]
    exact hK
  · rw [if_neg h] at hK ⊢
    simp (disch := first | omega | assumption) only [li0, li1, li2, li3, li4, li5, li6, li7, li8, li10, li20, li30, li35, li36, li60, li72, li100, li572, li2000, li2100, li9999, nI_lt_t, nI_lt_f, nI_le_t, nI_le_f, nI_eq_t, nI_eq_f, nI_eq_neg2, neg_eq_nI2, neg_lt2, neg_le2, nI_lt_neg2, nI_le_neg2, pred_t, pred_f, nI_clamp', vp_t, lt0_t, lt0_le, lt0_lt, lt0_eq, if_true, if_false, ite_true, ite_false, true_and, and_true, false_and, and_false, false_or, or_false, true_or, or_true, eq_self, forall_eq, fs_ne, fs_eq, fs_eq', st12, st13, st21, st23, st31, st32, not_true_eq_false, not_false_eq_true, h66, nI_mul, nI_add]
    exact hK
/-- the two sides of a comparison of quotients -/
theorem cq_cls {F : GF} {p a : Nat} {V g : Nat → Nat} {x : Int32} {K : Int32 → GF → Prop} (hp : p < 5) (ha : a < 5) (hV : ∀ q, q < 5 → V q ≤ 100 ∧ F 34 0 q = nI (V q)) (hg : ∀ q, q < 5 → g q ≤ 30 ∧ F 35 0 q = nI (g q)) (hK : K (if V a * dvN x (g p) < V p * dvN x (g a) then 1 else if V a * dvN x (g p) = V p * dvN x (g a) then 0 else -1) F) : P_X6_compareQuotients F (nI p) (nI a) x K := by
  unfold P_X6_compareQuotients
  refine ⟨nI_in (by omega) (by omega), dv_cls (g := g) ha (hg a ha).2 ⟨nI_in (by omega) (by omega), dv_cls (g := g) hp (hg p hp).2 ?_⟩⟩
  unfold P_J6_compare_7cf53
  rw [nI_clamp' (by omega), nI_clamp' (by omega), (hV p hp).2, (hV a ha).2, nI_mul, nI_mul]
  have b1 := mul_le_6100 (hV p hp).1 (dvN_le (x := x) (hg a ha).1).1
  have b2 := mul_le_6100 (hV a ha).1 (dvN_le (x := x) (hg p hp).1).1
  generalize V p * dvN x (g a) = u1 at *
  generalize V a * dvN x (g p) = u2 at *
  by_cases h1 : u2 < u1
  · rw [if_pos h1] at hK
    simp (disch := first | omega | assumption) only [li0, li1, li2, li3, li4, li5, li6, li7, li8, li10, li20, li30, li35, li36, li60, li72, li100, li572, li2000, li2100, li9999, nI_lt_t, nI_lt_f, nI_le_t, nI_le_f, nI_eq_t, nI_eq_f, nI_eq_neg2, neg_eq_nI2, neg_lt2, neg_le2, nI_lt_neg2, nI_le_neg2, pred_t, pred_f, nI_clamp', vp_t, lt0_t, lt0_le, lt0_lt, lt0_eq, if_true, if_false, ite_true, ite_false, true_and, and_true, false_and, and_false, false_or, or_false, true_or, or_true, eq_self, forall_eq, fs_ne, fs_eq, fs_eq', st12, st13, st21, st23, st31, st32, not_true_eq_false, not_false_eq_true]
    exact hK
  · rw [if_neg h1] at hK
    by_cases h2 : u2 = u1
    · rw [if_pos h2] at hK
      subst h2
      simp (disch := first | omega | assumption) only [li0, li1, li2, li3, li4, li5, li6, li7, li8, li10, li20, li30, li35, li36, li60, li72, li100, li572, li2000, li2100, li9999, nI_lt_t, nI_lt_f, nI_le_t, nI_le_f, nI_eq_t, nI_eq_f, nI_eq_neg2, neg_eq_nI2, neg_lt2, neg_le2, nI_lt_neg2, nI_le_neg2, pred_t, pred_f, nI_clamp', vp_t, lt0_t, lt0_le, lt0_lt, lt0_eq, if_true, if_false, ite_true, ite_false, true_and, and_true, false_and, and_false, false_or, or_false, true_or, or_true, eq_self, forall_eq, fs_ne, fs_eq, fs_eq', st12, st13, st21, st23, st31, st32, not_true_eq_false, not_false_eq_true]
      exact hK
    · rw [if_neg h2] at hK
      simp (disch := first | omega | assumption) only [li0, li1, li2, li3, li4, li5, li6, li7, li8, li10, li20, li30, li35, li36, li60, li72, li100, li572, li2000, li2100, li9999, nI_lt_t, nI_lt_f, nI_le_t, nI_le_f, nI_eq_t, nI_eq_f, nI_eq_neg2, neg_eq_nI2, neg_lt2, neg_le2, nI_lt_neg2, nI_le_neg2, pred_t, pred_f, nI_clamp', vp_t, lt0_t, lt0_le, lt0_lt, lt0_eq, if_true, if_false, ite_true, ite_false, true_and, and_true, false_and, and_false, false_or, or_false, true_or, or_true, eq_self, forall_eq, fs_ne, fs_eq, fs_eq', st12, st13, st21, st23, st31, st32, not_true_eq_false, not_false_eq_true]
      exact hK
theorem by_mod {F : GF} {p a : Nat} {V g : Nat → Nat} {K : Int32 → GF → Prop} (hp : p < 5) (ha : a < 5) (hV : ∀ q, q < 5 → V q ≤ 100 ∧ F 65 0 q = nI (V q)) (hg : ∀ q, q < 5 → g q ≤ 30 ∧ F 66 0 q = nI (g q)) (hK : K (nI (V p * dvN (F 40 0 17) (g a)) - nI (V a * dvN (F 40 0 17) (g p))) F) : P_X11_beyond F (nI p) (nI a) K := by
  unfold P_X11_beyond
  refine ⟨nI_in (by omega) (by omega), dv_mod (g := g) ha (hg a ha).2 ⟨nI_in (by omega) (by omega), dv_mod (g := g) hp (hg p hp).2 ?_⟩⟩
  rw [nI_clamp' (by omega), nI_clamp' (by omega), (hV p hp).2, (hV a ha).2, nI_mul, nI_mul]
  exact hK
/-- the class's list of the greatest, in its own array -/
def TL (l : List Nat) (F : GF) : Prop := ∀ i, i < l.length → ∃ q, l[i]? = some q ∧ F 37 0 i = nI q
theorem fg_cls {F0 : GF} {V g : Nat → Nat} {x : Int32} {K : Int32 → GF → Prop} (hV : ∀ q, q < 5 → V q ≤ 100 ∧ F0 34 0 q = nI (V q)) (hg : ∀ q, q < 5 → g q ≤ 30 ∧ F0 35 0 q = nI (g q)) (hK : ∀ F, (∀ f, f ≠ 37 → F f = F0 f) → TL (fg V (fun p => dvN x (g p)) 5) F → K (nI (fg V (fun p => dvN x (g p)) 5).length) F) : P_X6_findGreatest F0 x K := by
  refine ⟨6, ?_⟩
  have key : ∀ m j F, j + m = 5 → (∀ f, f ≠ 37 → F f = F0 f) → TL (fg V (fun p => dvN x (g p)) j) F → P_X6_findGreatest_4 K (m + 1) F x (nI (fg V (fun p => dvN x (g p)) j).length) (nI j) := by
    intro m
    induction m with
    | zero =>
      intro j F hj hF hT
      obtain rfl : j = 5 := by omega
      unfold P_X6_findGreatest_4
      rw [if_pos (show (5 : Int32) ≤ nI 5 by decide)]
      exact hK F hF hT
    | succ m ih =>
      intro j F hj hF hT
      have hlen := fg_lt (V := V) (d := fun p => dvN x (g p)) j
      have h34 : F 34 0 j = nI (V j) := by rw [hF 34 (by decide)]; exact (hV j (by omega)).2
      have hVj := (hV j (by omega)).1
      have hnx : ∀ F1, (∀ f, f ≠ 37 → F1 f = F0 f) → TL (fg V (fun p => dvN x (g p)) (j + 1)) F1 → P_X6_findGreatest_4 K (m + 1) F1 x (nI (fg V (fun p => dvN x (g p)) (j + 1)).length) (nI j + 1) := by
        intro F1 h1 h2
        rw [← nI_succ]
        exact ih (j + 1) F1 (by omega) h1 h2
      unfold P_X6_findGreatest_4
      rw [if_neg (show ¬ (5 : Int32) ≤ nI j from nI_ge (b := 5) (by omega) (by omega)), nI_clamp' (by omega), h34]
      refine ⟨nI_in (by omega) (by omega), ?_⟩
      by_cases h0 : V j = 0
      · have hf : fg V (fun p => dvN x (g p)) (j + 1) = fg V (fun p => dvN x (g p)) j := by
          conv => lhs; unfold fg
          rw [if_pos h0]
        rw [hf] at hnx
        rw [if_neg (show ¬ (0 : Int32) < nI (V j) by rw [h0]; decide)]
        unfold P_X6_findGreatest_70
        exact hnx F hF hT
      · rw [if_pos (show (0 : Int32) < nI (V j) from nI_lt (a := 0) (by omega) (by omega))]
        have put1 : ∀ (F1 : GF), TL [j] (fs F1 37 0 0 (nI j)) := by
          intro F1 i hi
          obtain rfl : i = 0 := by simp at hi; exact hi
          exact ⟨j, rfl, by rw [fs_eq]⟩
        cases hl : fg V (fun p => dvN x (g p)) j with
        | nil =>
          have hf : fg V (fun p => dvN x (g p)) (j + 1) = [j] := by
            conv => lhs; unfold fg
            rw [if_neg h0, hl]
          rw [hf] at hnx
          unfold P_X6_findGreatest_41 P_X6_findGreatest_50 P_X6_findGreatest_70
          rw [if_pos (show nI ([] : List Nat).length = 0 by decide), if_pos (show (0 : Int32) ≤ 0 by decide), if_neg (show ¬ (0 : Int32) < 0 by decide), if_neg (show ¬ (5 : Int32) ≤ nI ([] : List Nat).length by decide)]
          refine ⟨nI_in (by show 0 < 5; omega) (by omega), fun F12 e => ?_⟩
          subst e
          exact hnx _ (fun f hf2 => by rw [fs_fam hf2]; exact hF f hf2) (put1 F)
        | cons a r =>
          rw [hl] at hT hlen
          have ha : a < j := hlen.1 a List.mem_cons_self
          obtain ⟨q0, hq0, h370⟩ := hT 0 (by simp)
          obtain rfl : a = q0 := Option.some.inj hq0
          have hll : (a :: r).length ≤ j := hlen.2
          have hl1 : 0 < (a :: r).length := by simp
          rw [if_neg (show ¬ nI (a :: r).length = 0 from nI_ne0 hl1 (by omega))]
          refine ⟨nI_in (c := 0) (by omega) (by omega), ?_⟩
          rw [show (0 : Int32).toNatClampNeg = 0 by decide, h370]
          refine cq_cls (V := V) (g := g) (by omega) (by omega) (fun q hq => ⟨(hV q hq).1, by rw [hF 34 (by decide)]; exact (hV q hq).2⟩) (fun q hq => ⟨(hg q hq).1, by rw [hF 35 (by decide)]; exact (hg q hq).2⟩) ?_
          by_cases hgt : V a * dvN x (g j) < V j * dvN x (g a)
          · have hf : fg V (fun p => dvN x (g p)) (j + 1) = [j] := by
              conv => lhs; unfold fg
              rw [if_neg h0, hl]
              simp only
              rw [if_pos hgt]
            rw [hf] at hnx
            rw [if_pos hgt]
            unfold P_X6_findGreatest_41 P_X6_findGreatest_50 P_X6_findGreatest_70
            rw [if_neg (show ¬ (1 : Int32) ≤ 0 by decide), if_neg (show ¬ (1 : Int32) < 0 by decide), if_neg (show ¬ (5 : Int32) ≤ 0 by decide)]
            refine ⟨by unfold vp_in; decide, fun F12 e => ?_⟩
            subst e
            exact hnx _ (fun f hf2 => by rw [fs_fam hf2]; exact hF f hf2) (put1 F)
          · rw [if_neg hgt]
            by_cases heq : V a * dvN x (g j) = V j * dvN x (g a)
            · have hf : fg V (fun p => dvN x (g p)) (j + 1) = a :: r ++ [j] := by
                conv => lhs; unfold fg
                rw [if_neg h0, hl]
                simp only
                rw [if_neg hgt, if_pos heq]
              rw [hf, List.length_append, show [j].length = 1 from rfl, nI_succ] at hnx
              rw [if_pos heq]
              unfold P_X6_findGreatest_41 P_X6_findGreatest_50 P_X6_findGreatest_70
              rw [if_pos (show (0 : Int32) ≤ 0 by decide), if_neg (show ¬ (0 : Int32) < 0 by decide), if_neg (show ¬ (5 : Int32) ≤ nI (a :: r).length from nI_ge (b := 5) (by omega) (by omega))]
              refine ⟨nI_in (by omega) (by omega), fun F12 e => ?_⟩
              subst e
              refine hnx _ (fun f hf2 => by rw [fs_fam hf2]; exact hF f hf2) ?_
              rw [nI_clamp' (by omega)]
              intro i hi
              rw [List.length_append] at hi
              by_cases e : i = (a :: r).length
              · subst e
                exact ⟨j, by rw [List.getElem?_append_right (Nat.le_refl _), Nat.sub_self]; rfl, by rw [fs_eq]⟩
              · have hi2 : i < (a :: r).length := by
                  simp only [List.length_singleton] at hi
                  omega
                obtain ⟨q, z1, z2⟩ := hT i hi2
                exact ⟨q, by rw [List.getElem?_append_left hi2]; exact z1, by rw [fs_ne (Or.inr (Or.inr e))]; exact z2⟩
            · have hf : fg V (fun p => dvN x (g p)) (j + 1) = a :: r := by
                conv => lhs; unfold fg
                rw [if_neg h0, hl]
                simp only
                rw [if_neg hgt, if_neg heq]
              rw [hf] at hnx
              rw [if_neg heq]
              unfold P_X6_findGreatest_41 P_X6_findGreatest_50 P_X6_findGreatest_70
              rw [if_pos (show (-1 : Int32) ≤ 0 by decide), if_pos (show (-1 : Int32) < 0 by decide)]
              exact hnx F hF hT
  exact key 5 0 F0 rfl (fun _ _ => rfl) (fun i hi => absurd hi (Nat.not_lt_zero i))
