theorem se_cls {F : GF} {v : Nat} {x : Int32} {K : Int32 → GF → Prop} (h16 : F 16 0 3 = nI v) (hv : v ≤ 60) {r : Int32} (hr : (r = -1 ∧ ∀ i, i < v → ¬ (F 17 0 i = x ∧ F 19 0 i = 0)) ∨ ∃ e, e < v ∧ r = nI e ∧ (F 17 0 e = x ∧ F 19 0 e = 0) ∧ ∀ i, i < v → F 17 0 i = x ∧ F 19 0 i = 0 → i = e) (hK : K r F) : P_X3_sealedOf F x K := by
  refine ⟨v + 1, ?_⟩
  have key : ∀ m j, j + m = v → (∀ i, i < j → ¬ (F 17 0 i = x ∧ F 19 0 i = 0)) → P_X3_sealedOf_2 K (m + 1) F x (nI j) := by
    intro m
    induction m with
    | zero =>
      intro j hj hno
      obtain rfl : j = v := by omega
      unfold P_X3_sealedOf_2
      rw [h16, if_pos (Int32.le_refl _)]
      rcases hr with ⟨r1, r2⟩ | ⟨e, r1, r2, r3, r4⟩
      · rw [← r1]; exact hK
      · exact absurd r3 (hno e r1)
    | succ m ih =>
      intro j hj hno
      have hvp : vp_in (nI j) 60 := nI_in (by omega) (by omega)
      have hc : (nI j).toNatClampNeg = j := nI_clamp' (by omega)
      have hstep : ¬ (F 17 0 j = x ∧ F 19 0 j = 0) → P_X3_sealedOf_31 (fun F a0 a1 => P_X3_sealedOf_2 K (m + 1) F a0 a1) K F x (nI j) := by
        intro hn
        unfold P_X3_sealedOf_31
        rw [← nI_succ]
        refine ih (j + 1) (by omega) (fun i hi => ?_)
        by_cases e : i = j
        · subst e; exact hn
        · exact hno i (by omega)
      unfold P_X3_sealedOf_2
      rw [h16, if_neg (nI_ge (by omega) (by omega)), hc]
      refine ⟨hvp, ?_⟩
      by_cases h1 : F 17 0 j = x
      · rw [if_pos h1]
        refine ⟨hvp, ?_⟩
        by_cases h2 : F 19 0 j = 0
        · rw [if_pos h2]
          rcases hr with ⟨r1, r2⟩ | ⟨e, r1, r2, r3, r4⟩
          · exact absurd ⟨h1, h2⟩ (r2 j (by omega))
          · have := r4 j (by omega) ⟨h1, h2⟩
            rw [this, ← r2]
            exact hK
        · rw [if_neg h2]
          exact hstep (fun q => h2 q.2)
      · rw [if_neg h1]
        exact hstep (fun q => h1 q.1)
  exact key v 0 (by omega) (fun i hi => absurd hi (Nat.not_lt_zero i))
theorem se_mod {F : GF} {v : Nat} {x : Int32} {K : Int32 → GF → Prop} (h26 : F 40 0 26 = nI v) (hv : v ≤ 60) {r : Int32} (hr : (r = -1 ∧ ∀ i, i < v → ¬ (F 55 0 i = x ∧ F 57 0 i = 0)) ∨ ∃ e, e < v ∧ r = nI e ∧ (F 55 0 e = x ∧ F 57 0 e = 0) ∧ ∀ i, i < v → F 55 0 i = x ∧ F 57 0 i = 0 → i = e) (hK : K r F) : P_X11_sealedOf F x K := by
  refine ⟨v + 1, ?_⟩
  have key : ∀ m j, j + m = v → ∀ y : Int32, (((∀ i, i < j → ¬ (F 55 0 i = x ∧ F 57 0 i = 0)) ∧ y = -1) ∨ ((∃ i, i < j ∧ F 55 0 i = x ∧ F 57 0 i = 0) ∧ y = r)) → P_X11_sealedOf_4 K (m + 1) F x y (nI j) := by
    intro m
    induction m with
    | zero =>
      intro j hj y hy
      obtain rfl : j = v := by omega
      unfold P_X11_sealedOf_4
      rw [h26, if_pos (Int32.le_refl _)]
      rcases hr with ⟨r1, r2⟩ | ⟨e, r1, r2, r3, r4⟩
      · rcases hy with ⟨-, hy⟩ | ⟨⟨i, i1, i2⟩, -⟩
        · rw [hy, ← r1]; exact hK
        · exact absurd i2 (r2 i i1)
      · rcases hy with ⟨hy, -⟩ | ⟨-, hy⟩
        · exact absurd r3 (hy e r1)
        · rw [hy]; exact hK
    | succ m ih =>
      intro j hj y hy
      have hvp : vp_in (nI j) 60 := nI_in (by omega) (by omega)
      have hc : (nI j).toNatClampNeg = j := nI_clamp' (by omega)
      have hstep : ¬ (F 55 0 j = x ∧ F 57 0 j = 0) → P_X11_sealedOf_35 (fun F a0 a1 a2 => P_X11_sealedOf_4 K (m + 1) F a0 a1 a2) K F x y (nI j) := by
        intro hn
        unfold P_X11_sealedOf_35 P_X11_sealedOf_36
        rw [← nI_succ]
        refine ih (j + 1) (by omega) y ?_
        rcases hy with ⟨hy, hy2⟩ | ⟨⟨i, i1, i2⟩, hy2⟩
        · refine Or.inl ⟨fun i hi => ?_, hy2⟩
          by_cases e : i = j
          · subst e; exact hn
          · exact hy i (by omega)
        · exact Or.inr ⟨⟨i, by omega, i2⟩, hy2⟩
      unfold P_X11_sealedOf_4
      rw [h26, if_neg (nI_ge (by omega) (by omega)), hc]
      refine ⟨hvp, ?_⟩
      by_cases h1 : F 55 0 j = x
      · rw [if_pos h1]
        refine ⟨hvp, ?_⟩
        by_cases h2 : F 57 0 j = 0
        · rw [if_pos h2]
          unfold P_X11_sealedOf_36
          rw [← nI_succ]
          refine ih (j + 1) (by omega) (nI j) (Or.inr ⟨⟨j, by omega, h1, h2⟩, ?_⟩)
          rcases hr with ⟨r1, r2⟩ | ⟨e, r1, r2, r3, r4⟩
          · exact absurd ⟨h1, h2⟩ (r2 j (by omega))
          · rw [r4 j (by omega) ⟨h1, h2⟩, ← r2]
        · rw [if_neg h2]
          exact hstep (fun q => h2 q.2)
      · rw [if_neg h1]
        exact hstep (fun q => h1 q.1)
  exact key v 0 (by omega) (-1) (Or.inl ⟨fun i hi => absurd hi (Nat.not_lt_zero i), rfl⟩)
theorem seals_le {F : GF} : ∀ n, seals F n ≤ n := by
  intro n
  induction n with
  | zero => exact Nat.le_refl _
  | succ n ih =>
    unfold seals
    split <;> omega
theorem seals_cong {F F' : GF} : ∀ n, (∀ j, j < n → F' 19 0 j = F 19 0 j) → seals F' n = seals F n := by
  intro n
  induction n with
  | zero => intro _; rfl
  | succ n ih =>
    intro h
    unfold seals
    rw [h n (Nat.lt_succ_self n), ih (fun j hj => h j (Nat.lt_succ_of_lt hj))]
/-- one that was sealed is no more -/
theorem seals_void {F F' : GF} {e : Nat} (h1 : F 19 0 e = 0) (h2 : ¬ F' 19 0 e = 0) : ∀ n, (∀ j, j ≠ e → F' 19 0 j = F 19 0 j) → e < n → seals F n = seals F' n + 1 := by
  intro n
  induction n with
  | zero => intro _ h; exact absurd h (Nat.not_lt_zero e)
  | succ n ih =>
    intro h he
    unfold seals
    by_cases q : e = n
    · subst q
      rw [if_pos h1, if_neg h2, seals_cong e (fun j hj => h j (by omega))]
    · rw [h n (fun z => q z.symm), ih h (by omega)]
      omega
theorem voters_cong {F F' : GF} : ∀ n, (∀ j, j < n → F' 15 0 j = F 15 0 j) → voters F' n = voters F n := by
  intro n
  induction n with
  | zero => intro _; rfl
  | succ n ih =>
    intro h
    unfold voters
    rw [h n (Nat.lt_succ_self n), ih (fun j hj => h j (Nat.lt_succ_of_lt hj))]
theorem voters_vote {F F' : GF} {p : Nat} (h1 : F 15 0 p = 0) (h2 : ¬ F' 15 0 p = 0) : ∀ n, (∀ j, j ≠ p → F' 15 0 j = F 15 0 j) → p < n → voters F' n = voters F n + 1 := by
  intro n
  induction n with
  | zero => intro _ h; exact absurd h (Nat.not_lt_zero p)
  | succ n ih =>
    intro h he
    unfold voters
    by_cases q : p = n
    · subst q
      rw [if_pos h1, if_neg h2, voters_cong p (fun j hj => h j (by omega))]
    · rw [h n (fun z => q z.symm), ih h (by omega)]
      omega
theorem voters_le {F : GF} : ∀ n, voters F n ≤ n := by
  intro n
  induction n with
  | zero => exact Nat.le_refl _
  | succ n ih =>
    unfold voters
    split <;> omega
theorem voters_lt {F : GF} {p : Nat} (h1 : F 15 0 p = 0) : ∀ n, p < n → voters F n < n := by
  intro n
  induction n with
  | zero => intro h; exact absurd h (Nat.not_lt_zero p)
  | succ n ih =>
    intro he
    unfold voters
    have hl := voters_le (F := F) n
    by_cases q : p = n
    · subst q
      rw [if_pos h1]
      omega
    · have := ih (by omega)
      split <;> omega
/-- a person's sealed envelope: none, or the one -/
theorem seal_cases {F : GF} {v p : Nat} (h16 : F 16 0 3 = nI v) (hv : v ≤ 60) (hs : b_seal F) : (∀ i, i < v → ¬ (F 17 0 i = nI p ∧ F 19 0 i = 0)) ∨ ∃ e, e < v ∧ (F 17 0 e = nI p ∧ F 19 0 e = 0) ∧ ∀ i, i < v → F 17 0 i = nI p ∧ F 19 0 i = 0 → i = e := by
  by_cases h : ∃ e, e < v ∧ (F 17 0 e = nI p ∧ F 19 0 e = 0)
  · obtain ⟨e, h1, h2⟩ := h
    refine Or.inr ⟨e, h1, h2, fun i hi q => ?_⟩
    exact (hs e (by omega) ⟨by rw [h16]; exact nI_lt h1 (by omega), h2.2⟩).2.2 i (by omega) ⟨by rw [h16]; exact nI_lt hi (by omega), q.2⟩ (q.1.trans h2.1.symm)
  · exact Or.inl (fun i hi q => h ⟨i, hi, q⟩)
theorem wr_cls {F : GF} {b : Nat} {d c p : Int32} {K : GF → Prop} (h21 : F 21 0 4 = nI b) (hb : b < 572) (hK : K (fs (fs (fs (fs F 22 0 b d) 23 0 b (vp_nar .char c)) 24 0 b p) 21 0 4 (nI (b + 1)))) : P_X0_write F d c p K := by
  unfold P_X0_write
  simp (disch := first | omega | assumption) only [li0, li1, li2, li3, li4, li5, li6, li7, li8, li10, li20, li30, li35, li36, li60, li72, li100, li572, li2000, li2100, li9999, nI_lt_t, nI_lt_f, nI_le_t, nI_le_f, nI_eq_t, nI_eq_f, nI_eq_neg2, neg_eq_nI2, neg_lt2, neg_le2, nI_lt_neg2, nI_le_neg2, pred_t, pred_f, nI_clamp', vp_t, lt0_t, lt0_le, lt0_lt, lt0_eq, if_true, if_false, ite_true, ite_false, true_and, and_true, false_and, and_false, false_or, or_false, true_or, or_true, eq_self, forall_eq, fs_ne, fs_eq, fs_eq', st12, st13, st21, st23, st31, st32, not_true_eq_false, not_false_eq_true, h21, nI_add]
  exact hK
theorem wr_mod {F : GF} {b : Nat} {d c p : Int32} {K : GF → Prop} (h42 : F 40 0 42 = nI b) (hb : b < 1000) (hK : K (fs (fs (fs (fs F 68 0 b d) 69 0 b c) 70 0 b p) 40 0 42 (nI (b + 1)))) : P_X11_notes F d c p K := by
  unfold P_X11_notes
  simp (disch := first | omega | assumption) only [li0, li1, li2, li3, li4, li5, li6, li7, li8, li10, li20, li30, li35, li36, li60, li72, li100, li572, li2000, li2100, li9999, nI_lt_t, nI_lt_f, nI_le_t, nI_le_f, nI_eq_t, nI_eq_f, nI_eq_neg2, neg_eq_nI2, neg_lt2, neg_le2, nI_lt_neg2, nI_le_neg2, pred_t, pred_f, nI_clamp', vp_t, lt0_t, lt0_le, lt0_lt, lt0_eq, if_true, if_false, ite_true, ite_false, true_and, and_true, false_and, and_false, false_or, or_false, true_or, or_true, eq_self, forall_eq, fs_ne, fs_eq, fs_eq', st12, st13, st21, st23, st31, st32, not_true_eq_false, not_false_eq_true, h42, nI_add]
  exact hK
/-- a note more, on both sides -/
theorem book_more {F F' : GF} {b v c p : Nat} (hb : b < 572) (hv : v ≤ 2100) (hc : c < 128) (hp : p < 20) (h : t_book F) (h2 : b_book F) (e1 : F' 40 0 42 = nI (b + 1)) (e2 : F' 21 0 4 = nI (b + 1)) (n22 : ∀ j, F' 22 0 j = if j = b then nI v else F 22 0 j) (n23 : ∀ j, F' 23 0 j = if j = b then nI c else F 23 0 j) (n24 : ∀ j, F' 24 0 j = if j = b then nI p else F 24 0 j) (n68 : ∀ j, F' 68 0 j = if j = b then nI v else F 68 0 j) (n69 : ∀ j, F' 69 0 j = if j = b then nI c else F 69 0 j) (n70 : ∀ j, F' 70 0 j = if j = b then nI p else F 70 0 j) : t_book F' ∧ b_book F' := by
  refine ⟨⟨e1.trans e2.symm, fun j hj => ?_⟩, fun j hj => ?_⟩
  · rw [n22, n23, n24, n68, n69, n70]
    obtain ⟨a1, a2, a3⟩ := h.2 j hj
    rw [a1, a2, a3]
    exact ⟨rfl, rfl, rfl⟩
  · rw [n22, n23, n24]
    obtain ⟨a1, a2, a3⟩ := h2 j hj
    by_cases e : j = b
    · rw [if_pos e, if_pos e, if_pos e]
      exact ⟨⟨v, hv, rfl⟩, ⟨c, hc, rfl⟩, ⟨p, hp, rfl⟩⟩
    · rw [if_neg e, if_neg e, if_neg e]
      exact ⟨a1, a2, a3⟩
/-- two notes more -/
theorem book_more2 {F F' : GF} {b v c p v2 c2 p2 : Nat} (hb : b + 1 < 572) (hv : v ≤ 2100) (hc : c < 128) (hp : p < 20) (hv2 : v2 ≤ 2100) (hc2 : c2 < 128) (hp2 : p2 < 20) (h : t_book F) (h2 : b_book F) (e1 : F' 40 0 42 = nI (b + 2)) (e2 : F' 21 0 4 = nI (b + 2)) (n22 : ∀ j, F' 22 0 j = if j = b + 1 then nI v2 else if j = b then nI v else F 22 0 j) (n23 : ∀ j, F' 23 0 j = if j = b + 1 then nI c2 else if j = b then nI c else F 23 0 j) (n24 : ∀ j, F' 24 0 j = if j = b + 1 then nI p2 else if j = b then nI p else F 24 0 j) (n68 : ∀ j, F' 68 0 j = if j = b + 1 then nI v2 else if j = b then nI v else F 68 0 j) (n69 : ∀ j, F' 69 0 j = if j = b + 1 then nI c2 else if j = b then nI c else F 69 0 j) (n70 : ∀ j, F' 70 0 j = if j = b + 1 then nI p2 else if j = b then nI p else F 70 0 j) : t_book F' ∧ b_book F' := by
  refine ⟨⟨e1.trans e2.symm, fun j hj => ?_⟩, fun j hj => ?_⟩
  · rw [n22, n23, n24, n68, n69, n70]
    obtain ⟨a1, a2, a3⟩ := h.2 j hj
    rw [a1, a2, a3]
    exact ⟨rfl, rfl, rfl⟩
  · rw [n22, n23, n24]
    obtain ⟨a1, a2, a3⟩ := h2 j hj
    by_cases e : j = b + 1
    · rw [if_pos e, if_pos e, if_pos e]
      exact ⟨⟨v2, hv2, rfl⟩, ⟨c2, hc2, rfl⟩, ⟨p2, hp2, rfl⟩⟩
    · rw [if_neg e, if_neg e, if_neg e]
      by_cases e : j = b
      · rw [if_pos e, if_pos e, if_pos e]
        exact ⟨⟨v, hv, rfl⟩, ⟨c, hc, rfl⟩, ⟨p, hp, rfl⟩⟩
      · rw [if_neg e, if_neg e, if_neg e]
        exact ⟨a1, a2, a3⟩
