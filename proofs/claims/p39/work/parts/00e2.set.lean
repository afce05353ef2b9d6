set_option maxHeartbeats 1000000 in
set_option maxRecDepth 20000 in
theorem i3 {k : Nat} {F : GF} (h : Inv k F) {p : Nat} (hp : p < 5) (c r x : Int32) : Inv (k + 1) (fs (fs (fs (fs F 8 0 p c) 79 0 0 r) 40 0 43 x) 45 0 p c) := by
  have hI := h
  obtain ⟨⟨q0, q1, q2, q3, q4, q5, q6, q7, q8, q9, q10, q11⟩, ⟨r0, r1, r2, r3, r4, r5, r6, r7, r8, r9, r10, r11, r12, r13, r14⟩, cb, lg⟩ := h
  refine ⟨⟨q0, q1, ?_, q3, q4, q5, q6, q7, q8, q9, q10, q11⟩, ⟨r0, r1, r2, r3, r4, r5, r6, r7, b_vot.fam (F := F) rfl rfl r8, r9, r10, r11, r12, r13, r14⟩, c_book_mono (c_book.fam (F := F) rfl rfl rfl cb), fun t h1 h2 => c_log_mono (lg t h1 h2)⟩
  refine ⟨q2.1, fun s hs => ⟨(q2.2 s hs).1, ?_⟩⟩
  by_cases e : s = p
  · subst e
    simp (disch := omega) only [fs_ne, fs_eq]
  · simp (disch := omega) only [fs_ne]
    exact (q2.2 s hs).2
set_option maxHeartbeats 1000000 in
set_option maxRecDepth 20000 in
theorem i9 {k : Nat} {F : GF} (h : Inv k F) {p c : Nat} (hp : p < 5) (hc : c ≤ 9999) (r x : Int32) : Inv (k + 1) (fs (fs (fs (fs F 11 0 p (nI c)) 79 0 0 r) 40 0 43 x) 51 0 p (nI c)) := by
  have hI := h
  obtain ⟨⟨q0, q1, q2, q3, q4, q5, q6, q7, q8, q9, q10, q11⟩, ⟨r0, r1, r2, r3, r4, r5, r6, r7, r8, r9, r10, r11, r12, r13, r14⟩, cb, lg⟩ := h
  refine ⟨⟨q0, q1, q2, q3, q4, q5, ?_, q7, q8, q9, q10, q11⟩, ⟨r0, r1, r2, r3, r4, r5, r6, r7, b_vot.fam (F := F) rfl rfl r8, r9, r10, r11, ?_, r13, r14⟩, c_book_mono (c_book.fam (F := F) rfl rfl rfl cb), fun t h1 h2 => c_log_mono (lg t h1 h2)⟩
  · intro s hs
    by_cases e : s = p
    · subst e
      simp (disch := omega) only [fs_ne, fs_eq]
    · simp (disch := omega) only [fs_ne]
      exact q6 s hs
  · intro s hs
    by_cases e : s = p
    · subst e
      exact ⟨c, hc, by simp (disch := omega) only [fs_ne, fs_eq]⟩
    · obtain ⟨v, h1, h2⟩ := r12 s hs
      exact ⟨v, h1, by simp (disch := omega) only [fs_ne]; exact h2⟩
set_option maxHeartbeats 1000000 in
set_option maxRecDepth 20000 in
theorem i23 {k : Nat} {F : GF} (h : Inv k F) {p : Nat} (hp : p < 4) (c r x : Int32) : Inv (k + 1) (fs (fs (fs (fs F 9 0 p c) 79 0 0 r) 40 0 43 x) 64 0 p c) := by
  have hI := h
  obtain ⟨⟨q0, q1, q2, q3, q4, q5, q6, q7, q8, q9, q10, q11⟩, ⟨r0, r1, r2, r3, r4, r5, r6, r7, r8, r9, r10, r11, r12, r13, r14⟩, cb, lg⟩ := h
  refine ⟨⟨q0, q1, q2, ?_, q4, q5, q6, q7, q8, q9, q10, q11⟩, ⟨r0, r1, r2, r3, r4, r5, r6, r7, b_vot.fam (F := F) rfl rfl r8, r9, r10, r11, r12, r13, r14⟩, c_book_mono (c_book.fam (F := F) rfl rfl rfl cb), fun t h1 h2 => c_log_mono (lg t h1 h2)⟩
  intro s hs
  by_cases e : s = p
  · subst e
    simp (disch := omega) only [fs_ne, fs_eq]
  · simp (disch := omega) only [fs_ne]
    exact q3 s hs
set_option maxHeartbeats 1000000 in
set_option maxRecDepth 20000 in
theorem i25 {k : Nat} {F : GF} (h : Inv k F) {p : Nat} (hp : p < 5) (hst : F 10 0 0 = 4) (r x : Int32) : Inv (k + 1) (fs (fs (fs (fs (fs (fs F 28 p 4 0) 28 p 5 (-1)) 79 0 0 r) 40 0 43 x) 62 0 p 0) 63 0 p (-1)) := by
  have hI := h
  obtain ⟨⟨q0, q1, q2, q3, q4, q5, q6, q7, q8, q9, q10, q11⟩, ⟨r0, r1, r2, r3, r4, r5, r6, r7, r8, r9, r10, r11, r12, r13, r14⟩, cb, lg⟩ := h
  refine ⟨⟨q0, q1, q2, q3, q4, q5, q6, q7, q8, ?_, q10, q11⟩, ⟨r0, r1, r2, r3, r4, r5, r6, ?_, ?_, r9, ?_, r11, r12, r13, r14⟩, c_book_mono (c_book.fam (F := F) rfl rfl rfl cb), fun t h1 h2 => c_log_mono (lg t h1 h2)⟩
  · intro s hs
    obtain ⟨h1, h2, h3, h4⟩ := q9 s hs
    by_cases e : s = p
    · subst e
      refine ⟨?_, ?_, ?_, ?_⟩
      · simp (disch := omega) only [fs_ne]
        exact h1
      · simp (disch := omega) only [fs_ne, fs_eq]
      · intro j hj
        simp (disch := omega) only [fs_ne]
        exact h3 j hj
      · intro j hj
        simp (disch := omega) only [fs_ne]
        exact h4 j hj
    · refine ⟨?_, ?_, ?_, ?_⟩
      · simp (disch := omega) only [fs_ne]
        exact h1
      · simp (disch := omega) only [fs_ne]
        exact h2
      · intro j hj
        simp (disch := omega) only [fs_ne]
        exact h3 j hj
      · intro j hj
        simp (disch := omega) only [fs_ne]
        exact h4 j hj
  · intro s hs
    obtain ⟨⟨c, h1, h2⟩, h3, h4⟩ := r7 s hs
    by_cases e : s = p
    · subst e
      refine ⟨⟨0, by omega, ?_⟩, Or.inl ⟨?_, ?_⟩, fun j hj => ?_⟩
      · simp (disch := omega) only [fs_ne, fs_eq]
        rfl
      · simp (disch := omega) only [fs_ne, fs_eq]
      · simp (disch := omega) only [fs_eq]
      · simp (disch := omega) only [fs_ne]
        exact h4 j hj
    · refine ⟨⟨c, h1, ?_⟩, ?_, fun j hj => ?_⟩
      · simp (disch := omega) only [fs_ne]
        exact h2
      · simp (disch := omega) only [fs_ne]
        exact h3
      · simp (disch := omega) only [fs_ne]
        exact h4 j hj
  · intro s hs
    obtain ⟨c, h1, h2⟩ := r8 s hs
    exact ⟨c, by rw [voters_eq rfl]; exact h1, by simp (disch := omega) only [fs_ne]; exact h2⟩
  · intro h5
    have h6 : F 10 0 0 = 5 := h5
    rw [hst] at h6
    exact absurd h6 (by decide)
set_option maxHeartbeats 1000000 in
set_option maxRecDepth 20000 in
theorem i2 {k : Nat} {F : GF} (h : Inv k F) {m c : Nat} (hm : m < 5) (em : F 6 0 2 = nI m) (em2 : F 40 0 6 = nI m) (hc : c < 36) (u r x : Int32) : Inv (k + 1) (fs (fs (fs (fs (fs (fs (fs (fs F 7 0 m (nI c)) 8 0 m u) 6 0 2 (nI (m + 1))) 79 0 0 r) 40 0 43 x) 44 0 m (nI c)) 45 0 m u) 40 0 6 (nI (m + 1))) := by
  have hI := h
  obtain ⟨⟨q0, q1, q2, q3, q4, q5, q6, q7, q8, q9, q10, q11⟩, ⟨r0, r1, r2, r3, r4, r5, r6, r7, r8, r9, r10, r11, r12, r13, r14⟩, cb, lg⟩ := h
  refine ⟨⟨q0, q1, ?_, q3, q4, q5, q6, q7, q8, q9, q10, q11⟩, ⟨r0, ?_, r2, ?_, r4, r5, r6, r7, b_vot.fam (F := F) rfl rfl r8, r9, r10, r11, r12, r13, r14⟩, c_book_mono (c_book.fam (F := F) rfl rfl rfl cb), fun t h1 h2 => c_log_mono (lg t h1 h2)⟩
  · refine ⟨by simp (disch := omega) only [fs_ne, fs_eq], fun s hs => ?_⟩
    by_cases e : s = m
    · subst e
      refine ⟨?_, ?_⟩ <;> simp (disch := omega) only [fs_ne, fs_eq]
    · obtain ⟨h1, h2⟩ := q2.2 s hs
      refine ⟨?_, ?_⟩
      · simp (disch := omega) only [fs_ne]
        exact h1
      · simp (disch := omega) only [fs_ne]
        exact h2
  · obtain ⟨m', h1, h2, h3⟩ := r1
    have e : m' = m := (nI_eq_iff (by omega) (by omega)).mp (h2.symm.trans em)
    subst e
    refine ⟨m' + 1, by omega, by simp (disch := omega) only [fs_ne, fs_eq], fun s hs => ?_⟩
    by_cases e : s = m'
    · subst e
      exact ⟨c, hc, by simp (disch := omega) only [fs_ne, fs_eq]⟩
    · obtain ⟨c', h4, h5⟩ := h3 s (by omega)
      exact ⟨c', h4, by simp (disch := omega) only [fs_ne]; exact h5⟩
  · obtain ⟨t, g, d, s, e, ht, et, hg, eg, hd, ed, hs, es, he, ee, ⟨m', h1, h2, h3⟩, hg1⟩ := r3
    have e' : m' = m := (nI_eq_iff (by omega) (by omega)).mp (h3.symm.trans em)
    subst e'
    exact ⟨t, g, d, s, e, ht, et, hg, eg, hd, ed, hs, es, he, ee, ⟨m' + 1, by omega, by omega, by simp (disch := omega) only [fs_ne, fs_eq]⟩, hg1⟩
/-- the class's number of a street -/
def scls (x y : Nat) : Int32 := if max x y - min x y = 6 then nI (2 * min x y + 1) else if max x y - min x y = 1 ∧ max x y % 6 ≠ 0 then nI (2 * min x y) else -1
/-- the reference's number of a street -/
def smod (x y : Nat) : Int32 := if max x y - min x y = 1 ∧ max x y % 6 ≠ 0 then nI (min x y) else if max x y - min x y = 6 then nI (36 + min x y) else -1
theorem neg_lit : (-nI 1 : Int32) = -1 := rfl
set_option maxHeartbeats 1000000 in
set_option maxRecDepth 20000 in
theorem st_cls {F : GF} {x y : Nat} (hx : x < 36) (hy : y < 36) {K : Int32 → GF → Prop} (h : K (scls x y) F) : P_X9_streetBetween F (nI x) (nI y) K := by
  unfold scls at h
  unfold P_X9_streetBetween P_X9_streetBetween_10 P_X9_streetBetween_21
  by_cases e : y ≤ x
  · rw [Nat.max_eq_left e, Nat.min_eq_right e] at h
    by_cases e6 : x - y = 6
    · rw [if_pos e6] at h
      simp (disch := first | omega | assumption) only [li0, li1, li2, li3, li4, li5, li6, li7, li8, li10, li20, li30, li35, li36, li60, li72, li100, li572, li2000, li2100, li9999, nI_lt_t, nI_lt_f, nI_le_t, nI_le_f, nI_eq_t, nI_eq_f, nI_eq_neg2, neg_eq_nI2, neg_lt2, neg_le2, nI_lt_neg2, nI_le_neg2, pred_t, pred_f, nI_clamp', vp_t, lt0_t, lt0_le, lt0_lt, lt0_eq, if_true, if_false, ite_true, ite_false, true_and, and_true, false_and, and_false, false_or, or_false, true_or, or_true, eq_self, forall_eq, fs_ne, fs_eq, fs_eq', st12, st13, st21, st23, st31, st32, not_true_eq_false, not_false_eq_true, nI_mod, nI_mul, nI_add, nI_sub, e6]
      exact h
    · rw [if_neg e6] at h
      by_cases e1 : x - y = 1
      · by_cases e0 : x % 6 = 0
        · rw [if_neg (fun q => q.2 e0)] at h
          simp (disch := first | omega | assumption) only [li0, li1, li2, li3, li4, li5, li6, li7, li8, li10, li20, li30, li35, li36, li60, li72, li100, li572, li2000, li2100, li9999, nI_lt_t, nI_lt_f, nI_le_t, nI_le_f, nI_eq_t, nI_eq_f, nI_eq_neg2, neg_eq_nI2, neg_lt2, neg_le2, nI_lt_neg2, nI_le_neg2, pred_t, pred_f, nI_clamp', vp_t, lt0_t, lt0_le, lt0_lt, lt0_eq, if_true, if_false, ite_true, ite_false, true_and, and_true, false_and, and_false, false_or, or_false, true_or, or_true, eq_self, forall_eq, fs_ne, fs_eq, fs_eq', st12, st13, st21, st23, st31, st32, not_true_eq_false, not_false_eq_true, nI_mod, nI_mul, nI_add, nI_sub, e1, e0]
          exact h
        · rw [if_pos ⟨e1, e0⟩] at h
          simp (disch := first | omega | assumption) only [li0, li1, li2, li3, li4, li5, li6, li7, li8, li10, li20, li30, li35, li36, li60, li72, li100, li572, li2000, li2100, li9999, nI_lt_t, nI_lt_f, nI_le_t, nI_le_f, nI_eq_t, nI_eq_f, nI_eq_neg2, neg_eq_nI2, neg_lt2, neg_le2, nI_lt_neg2, nI_le_neg2, pred_t, pred_f, nI_clamp', vp_t, lt0_t, lt0_le, lt0_lt, lt0_eq, if_true, if_false, ite_true, ite_false, true_and, and_true, false_and, and_false, false_or, or_false, true_or, or_true, eq_self, forall_eq, fs_ne, fs_eq, fs_eq', st12, st13, st21, st23, st31, st32, not_true_eq_false, not_false_eq_true, nI_mod, nI_mul, nI_add, nI_sub, e1]
          exact h
      · rw [if_neg (fun q => e1 q.1)] at h
        simp (disch := first | omega | assumption) only [li0, li1, li2, li3, li4, li5, li6, li7, li8, li10, li20, li30, li35, li36, li60, li72, li100, li572, li2000, li2100, li9999, nI_lt_t, nI_lt_f, nI_le_t, nI_le_f, nI_eq_t, nI_eq_f, nI_eq_neg2, neg_eq_nI2, neg_lt2, neg_le2, nI_lt_neg2, nI_le_neg2, pred_t, pred_f, nI_clamp', vp_t, lt0_t, lt0_le, lt0_lt, lt0_eq, if_true, if_false, ite_true, ite_false, true_and, and_true, false_and, and_false, false_or, or_false, true_or, or_true, eq_self, forall_eq, fs_ne, fs_eq, fs_eq', st12, st13, st21, st23, st31, st32, not_true_eq_false, not_false_eq_true, nI_mod, nI_mul, nI_add, nI_sub]
        exact h
  · have e' : x ≤ y := by omega
    rw [Nat.max_eq_right e', Nat.min_eq_left e'] at h
    by_cases e6 : y - x = 6
    · rw [if_pos e6] at h
      simp (disch := first | omega | assumption) only [li0, li1, li2, li3, li4, li5, li6, li7, li8, li10, li20, li30, li35, li36, li60, li72, li100, li572, li2000, li2100, li9999, nI_lt_t, nI_lt_f, nI_le_t, nI_le_f, nI_eq_t, nI_eq_f, nI_eq_neg2, neg_eq_nI2, neg_lt2, neg_le2, nI_lt_neg2, nI_le_neg2, pred_t, pred_f, nI_clamp', vp_t, lt0_t, lt0_le, lt0_lt, lt0_eq, if_true, if_false, ite_true, ite_false, true_and, and_true, false_and, and_false, false_or, or_false, true_or, or_true, eq_self, forall_eq, fs_ne, fs_eq, fs_eq', st12, st13, st21, st23, st31, st32, not_true_eq_false, not_false_eq_true, nI_mod, nI_mul, nI_add, nI_sub, e6]
      exact h
    · rw [if_neg e6] at h
      by_cases e1 : y - x = 1
      · by_cases e0 : y % 6 = 0
        · rw [if_neg (fun q => q.2 e0)] at h
          simp (disch := first | omega | assumption) only [li0, li1, li2, li3, li4, li5, li6, li7, li8, li10, li20, li30, li35, li36, li60, li72, li100, li572, li2000, li2100, li9999, nI_lt_t, nI_lt_f, nI_le_t, nI_le_f, nI_eq_t, nI_eq_f, nI_eq_neg2, neg_eq_nI2, neg_lt2, neg_le2, nI_lt_neg2, nI_le_neg2, pred_t, pred_f, nI_clamp', vp_t, lt0_t, lt0_le, lt0_lt, lt0_eq, if_true, if_false, ite_true, ite_false, true_and, and_true, false_and, and_false, false_or, or_false, true_or, or_true, eq_self, forall_eq, fs_ne, fs_eq, fs_eq', st12, st13, st21, st23, st31, st32, not_true_eq_false, not_false_eq_true, nI_mod, nI_mul, nI_add, nI_sub, e1, e0]
          exact h
        · rw [if_pos ⟨e1, e0⟩] at h
          simp (disch := first | omega | assumption) only [li0, li1, li2, li3, li4, li5, li6, li7, li8, li10, li20, li30, li35, li36, li60, li72, li100, li572, li2000, li2100, li9999, nI_lt_t, nI_lt_f, nI_le_t, nI_le_f, nI_eq_t, nI_eq_f, nI_eq_neg2, neg_eq_nI2, neg_lt2, neg_le2, nI_lt_neg2, nI_le_neg2, pred_t, pred_f, nI_clamp', vp_t, lt0_t, lt0_le, lt0_lt, lt0_eq, if_true, if_false, ite_true, ite_false, true_and, and_true, false_and, and_false, false_or, or_false, true_or, or_true, eq_self, forall_eq, fs_ne, fs_eq, fs_eq', st12, st13, st21, st23, st31, st32, not_true_eq_false, not_false_eq_true, nI_mod, nI_mul, nI_add, nI_sub, e1]
          exact h
      · rw [if_neg (fun q => e1 q.1)] at h
        simp (disch := first | omega | assumption) only [li0, li1, li2, li3, li4, li5, li6, li7, li8, li10, li20, li30, li35, li36, li60, li72, li100, li572, li2000, li2100, li9999, nI_lt_t, nI_lt_f, nI_le_t, nI_le_f, nI_eq_t, nI_eq_f, nI_eq_neg2, neg_eq_nI2, neg_lt2, neg_le2, nI_lt_neg2, nI_le_neg2, pred_t, pred_f, nI_clamp', vp_t, lt0_t, lt0_le, lt0_lt, lt0_eq, if_true, if_false, ite_true, ite_false, true_and, and_true, false_and, and_false, false_or, or_false, true_or, or_true, eq_self, forall_eq, fs_ne, fs_eq, fs_eq', st12, st13, st21, st23, st31, st32, not_true_eq_false, not_false_eq_true, nI_mod, nI_mul, nI_add, nI_sub]
        exact h
set_option maxHeartbeats 1000000 in
set_option maxRecDepth 20000 in
theorem st_mod {F : GF} {x y : Nat} (hx : x < 36) (hy : y < 36) {K : Int32 → GF → Prop} (h : K (smod x y) F) : P_X11_street F (nI x) (nI y) K := by
  unfold smod at h
  unfold P_X11_street P_X11_street_10 P_X11_street_21 P_X11_street_40
  by_cases e : y ≤ x
  · rw [Nat.max_eq_left e, Nat.min_eq_right e] at h
    by_cases e1 : x - y = 1
    · by_cases e0 : x % 6 = 0
      · rw [if_neg (fun q => q.2 e0), if_neg (by omega)] at h
        simp (disch := first | omega | assumption) only [li0, li1, li2, li3, li4, li5, li6, li7, li8, li10, li20, li30, li35, li36, li60, li72, li100, li572, li2000, li2100, li9999, nI_lt_t, nI_lt_f, nI_le_t, nI_le_f, nI_eq_t, nI_eq_f, nI_eq_neg2, neg_eq_nI2, neg_lt2, neg_le2, nI_lt_neg2, nI_le_neg2, pred_t, pred_f, nI_clamp', vp_t, lt0_t, lt0_le, lt0_lt, lt0_eq, if_true, if_false, ite_true, ite_false, true_and, and_true, false_and, and_false, false_or, or_false, true_or, or_true, eq_self, forall_eq, fs_ne, fs_eq, fs_eq', st12, st13, st21, st23, st31, st32, not_true_eq_false, not_false_eq_true, nI_mod, nI_mul, nI_add, nI_sub, e1, e0]
        exact h
      · rw [if_pos ⟨e1, e0⟩] at h
        simp (disch := first | omega | assumption) only [li0, li1, li2, li3, li4, li5, li6, li7, li8, li10, li20, li30, li35, li36, li60, li72, li100, li572, li2000, li2100, li9999, nI_lt_t, nI_lt_f, nI_le_t, nI_le_f, nI_eq_t, nI_eq_f, nI_eq_neg2, neg_eq_nI2, neg_lt2, neg_le2, nI_lt_neg2, nI_le_neg2, pred_t, pred_f, nI_clamp', vp_t, lt0_t, lt0_le, lt0_lt, lt0_eq, if_true, if_false, ite_true, ite_false, true_and, and_true, false_and, and_false, false_or, or_false, true_or, or_true, eq_self, forall_eq, fs_ne, fs_eq, fs_eq', st12, st13, st21, st23, st31, st32, not_true_eq_false, not_false_eq_true, nI_mod, nI_mul, nI_add, nI_sub, e1]
        exact h
    · rw [if_neg (fun q => e1 q.1)] at h
      by_cases e6 : x - y = 6
      · rw [if_pos e6] at h
        simp (disch := first | omega | assumption) only [li0, li1, li2, li3, li4, li5, li6, li7, li8, li10, li20, li30, li35, li36, li60, li72, li100, li572, li2000, li2100, li9999, nI_lt_t, nI_lt_f, nI_le_t, nI_le_f, nI_eq_t, nI_eq_f, nI_eq_neg2, neg_eq_nI2, neg_lt2, neg_le2, nI_lt_neg2, nI_le_neg2, pred_t, pred_f, nI_clamp', vp_t, lt0_t, lt0_le, lt0_lt, lt0_eq, if_true, if_false, ite_true, ite_false, true_and, and_true, false_and, and_false, false_or, or_false, true_or, or_true, eq_self, forall_eq, fs_ne, fs_eq, fs_eq', st12, st13, st21, st23, st31, st32, not_true_eq_false, not_false_eq_true, nI_mod, nI_mul, nI_add, nI_sub, e6]
        exact h
      · rw [if_neg e6] at h
        simp (disch := first | omega | assumption) only [li0, li1, li2, li3, li4, li5, li6, li7, li8, li10, li20, li30, li35, li36, li60, li72, li100, li572, li2000, li2100, li9999, nI_lt_t, nI_lt_f, nI_le_t, nI_le_f, nI_eq_t, nI_eq_f, nI_eq_neg2, neg_eq_nI2, neg_lt2, neg_le2, nI_lt_neg2, nI_le_neg2, pred_t, pred_f, nI_clamp', vp_t, lt0_t, lt0_le, lt0_lt, lt0_eq, if_true, if_false, ite_true, ite_false, true_and, and_true, false_and, and_false, false_or, or_false, true_or, or_true, eq_self, forall_eq, fs_ne, fs_eq, fs_eq', st12, st13, st21, st23, st31, st32, not_true_eq_false, not_false_eq_true, nI_mod, nI_mul, nI_add, nI_sub]
        exact h
  · have e' : x ≤ y := by omega
    rw [Nat.max_eq_right e', Nat.min_eq_left e'] at h
    by_cases e1 : y - x = 1
    · by_cases e0 : y % 6 = 0
      · rw [if_neg (fun q => q.2 e0), if_neg (by omega)] at h
        simp (disch := first | omega | assumption) only [li0, li1, li2, li3, li4, li5, li6, li7, li8, li10, li20, li30, li35, li36, li60, li72, li100, li572, li2000, li2100, li9999, nI_lt_t, nI_lt_f, nI_le_t, nI_le_f, nI_eq_t, nI_eq_f, nI_eq_neg2, neg_eq_nI2, neg_lt2, neg_le2, nI_lt_neg2, nI_le_neg2, pred_t, pred_f, nI_clamp', vp_t, lt0_t, lt0_le, lt0_lt, lt0_eq, if_true, if_false, ite_true, ite_false, true_and, and_true, false_and, and_false, false_or, or_false, true_or, or_true, eq_self, forall_eq, fs_ne, fs_eq, fs_eq', st12, st13, st21, st23, st31, st32, not_true_eq_false, not_false_eq_true, nI_mod, nI_mul, nI_add, nI_sub, e1, e0]
        exact h
      · rw [if_pos ⟨e1, e0⟩] at h
        simp (disch := first | omega | assumption) only [li0, li1, li2, li3, li4, li5, li6, li7, li8, li10, li20, li30, li35, li36, li60, li72, li100, li572, li2000, li2100, li9999, nI_lt_t, nI_lt_f, nI_le_t, nI_le_f, nI_eq_t, nI_eq_f, nI_eq_neg2, neg_eq_nI2, neg_lt2, neg_le2, nI_lt_neg2, nI_le_neg2, pred_t, pred_f, nI_clamp', vp_t, lt0_t, lt0_le, lt0_lt, lt0_eq, if_true, if_false, ite_true, ite_false, true_and, and_true, false_and, and_false, false_or, or_false, true_or, or_true, eq_self, forall_eq, fs_ne, fs_eq, fs_eq', st12, st13, st21, st23, st31, st32, not_true_eq_false, not_false_eq_true, nI_mod, nI_mul, nI_add, nI_sub, e1]
        exact h
    · rw [if_neg (fun q => e1 q.1)] at h
      by_cases e6 : y - x = 6
      · rw [if_pos e6] at h
        simp (disch := first | omega | assumption) only [li0, li1, li2, li3, li4, li5, li6, li7, li8, li10, li20, li30, li35, li36, li60, li72, li100, li572, li2000, li2100, li9999, nI_lt_t, nI_lt_f, nI_le_t, nI_le_f, nI_eq_t, nI_eq_f, nI_eq_neg2, neg_eq_nI2, neg_lt2, neg_le2, nI_lt_neg2, nI_le_neg2, pred_t, pred_f, nI_clamp', vp_t, lt0_t, lt0_le, lt0_lt, lt0_eq, if_true, if_false, ite_true, ite_false, true_and, and_true, false_and, and_false, false_or, or_false, true_or, or_true, eq_self, forall_eq, fs_ne, fs_eq, fs_eq', st12, st13, st21, st23, st31, st32, not_true_eq_false, not_false_eq_true, nI_mod, nI_mul, nI_add, nI_sub, e6]
        exact h
      · rw [if_neg e6] at h
        simp (disch := first | omega | assumption) only [li0, li1, li2, li3, li4, li5, li6, li7, li8, li10, li20, li30, li35, li36, li60, li72, li100, li572, li2000, li2100, li9999, nI_lt_t, nI_lt_f, nI_le_t, nI_le_f, nI_eq_t, nI_eq_f, nI_eq_neg2, neg_eq_nI2, neg_lt2, neg_le2, nI_lt_neg2, nI_le_neg2, pred_t, pred_f, nI_clamp', vp_t, lt0_t, lt0_le, lt0_lt, lt0_eq, if_true, if_false, ite_true, ite_false, true_and, and_true, false_and, and_false, false_or, or_false, true_or, or_true, eq_self, forall_eq, fs_ne, fs_eq, fs_eq', st12, st13, st21, st23, st31, st32, not_true_eq_false, not_false_eq_true, nI_mod, nI_mul, nI_add, nI_sub]
        exact h
set_option maxHeartbeats 1000000 in
set_option maxRecDepth 20000 in
theorem sb_det (F : GF) (a b : Int32) : ∃ v : Int32, ∀ K : Int32 → GF → Prop, P_X9_streetBetween F a b K = K v F := by
  have key : ∀ x2 s0 : Int32, ∃ v : Int32, ∀ K : Int32 → GF → Prop, P_X9_streetBetween_21 K F x2 s0 = K v F := by
    intro x2 s0
    unfold P_X9_streetBetween_21
    by_cases c1 : x2 < 0
    · exact ⟨_, fun K => by rw [if_pos c1]⟩
    · by_cases c2 : s0 < 36
      · by_cases c3 : (s0 - x2) = 6
        · exact ⟨_, fun K => by rw [if_neg c1, if_pos c2, if_pos c3]⟩
        · by_cases c4 : (s0 - x2) = 1
          · by_cases c5 : (s0 - s0 / 6 * 6) = 0
            · exact ⟨_, fun K => by rw [if_neg c1, if_pos c2, if_neg c3, if_pos c4, if_pos c5]⟩
            · exact ⟨_, fun K => by rw [if_neg c1, if_pos c2, if_neg c3, if_pos c4, if_neg c5]⟩
          · exact ⟨_, fun K => by rw [if_neg c1, if_pos c2, if_neg c3, if_neg c4]⟩
      · exact ⟨_, fun K => by rw [if_neg c1, if_neg c2]⟩
  unfold P_X9_streetBetween P_X9_streetBetween_10
  by_cases c1 : b ≤ a
  · obtain ⟨v, hv⟩ := key b a
    exact ⟨v, fun K => by rw [if_pos c1, if_pos c1]; exact hv K⟩
  · obtain ⟨v, hv⟩ := key a b
    exact ⟨v, fun K => by rw [if_neg c1, if_neg c1]; exact hv K⟩
theorem sm_det (F : GF) (a b : Int32) : ∃ v : Int32, ∀ K : Int32 → GF → Prop, P_X11_street F a b K = K v F := by
  have key0 : ∀ x2 s0 : Int32, ∃ v : Int32, ∀ K : Int32 → GF → Prop, P_X11_street_40 K F x2 s0 = K v F := by
    intro x2 s0
    unfold P_X11_street_40
    by_cases c3 : (s0 - x2) = 6
    · exact ⟨_, fun K => by rw [if_pos c3]⟩
    · exact ⟨_, fun K => by rw [if_neg c3]⟩
  have key : ∀ x2 s0 : Int32, ∃ v : Int32, ∀ K : Int32 → GF → Prop, P_X11_street_21 K F x2 s0 = K v F := by
    intro x2 s0
    obtain ⟨v, hv⟩ := key0 x2 s0
    unfold P_X11_street_21
    by_cases c4 : (s0 - x2) = 1
    · by_cases c5 : (s0 - s0 / 6 * 6) ≤ 0
      · exact ⟨v, fun K => by rw [if_pos c4, if_pos c5]; exact hv K⟩
      · exact ⟨_, fun K => by rw [if_pos c4, if_neg c5]⟩
    · exact ⟨v, fun K => by rw [if_neg c4]; exact hv K⟩
  unfold P_X11_street P_X11_street_10
  by_cases c1 : b ≤ a
  · obtain ⟨v, hv⟩ := key b a
    exact ⟨v, fun K => by rw [if_pos c1, if_pos c1]; exact hv K⟩
  · obtain ⟨v, hv⟩ := key a b
    exact ⟨v, fun K => by rw [if_neg c1, if_neg c1]; exact hv K⟩
theorem st_clsE {F : GF} {x y : Nat} (hx : x < 36) (hy : y < 36) {K : Int32 → GF → Prop} : P_X9_streetBetween F (nI x) (nI y) K = K (scls x y) F := by
  obtain ⟨v, hv⟩ := sb_det F (nI x) (nI y)
  have h := st_cls (F := F) hx hy (K := fun r _ => r = scls x y) rfl
  rw [hv] at h
  rw [hv]
  exact congrArg (fun r => K r F) h
theorem st_modE {F : GF} {x y : Nat} (hx : x < 36) (hy : y < 36) {K : Int32 → GF → Prop} : P_X11_street F (nI x) (nI y) K = K (smod x y) F := by
  obtain ⟨v, hv⟩ := sm_det F (nI x) (nI y)
  have h := st_mod (F := F) hx hy (K := fun r _ => r = smod x y) rfl
  rw [hv] at h
  rw [hv]
  exact congrArg (fun r => K r F) h
theorem ite_of {c : Prop} [Decidable c] {a b : Prop} (h : c) (k : a) : if c then a else b := by
  rw [if_pos h]
  exact k
/-- a street's two numbers, or none -/
theorem st_both {x y : Nat} (hx : x < 36) (hy : y < 36) : (scls x y = -1 ∧ smod x y = -1) ∨ ∃ q, q < 36 ∧ ((scls x y = nI (2 * q) ∧ smod x y = nI q) ∨ (scls x y = nI (2 * q + 1) ∧ smod x y = nI (36 + q))) := by
  unfold scls smod
  by_cases e6 : max x y - min x y = 6
  · right
    refine ⟨min x y, by omega, Or.inr ⟨by rw [if_pos e6], ?_⟩⟩
    rw [if_neg (fun q => by omega), if_pos e6]
  · by_cases e1 : max x y - min x y = 1 ∧ max x y % 6 ≠ 0
    · right
      refine ⟨min x y, by omega, Or.inl ⟨by rw [if_neg e6, if_pos e1], by rw [if_pos e1]⟩⟩
    · left
      exact ⟨by rw [if_neg e6, if_neg e1], by rw [if_neg e1, if_neg e6]⟩
set_option maxHeartbeats 1000000 in
set_option maxRecDepth 20000 in
theorem i0a {k : Nat} {F : GF} (h : Inv k F) {q : Nat} (hq : q < 36) {b : Int32} (hb : b = 0 ∨ b = 1) (r x : Int32) : Inv (k + 1) (fs (fs (fs (fs F 2 0 (2 * q) b) 79 0 0 r) 40 0 43 x) 41 0 q b) := by
  have hI := h
  obtain ⟨⟨q0, q1, q2, q3, q4, q5, q6, q7, q8, q9, q10, q11⟩, ⟨r0, r1, r2, r3, r4, r5, r6, r7, r8, r9, r10, r11, r12, r13, r14⟩, cb, lg⟩ := h
  refine ⟨⟨q0, ?_, q2, q3, q4, q5, q6, q7, q8, q9, q10, q11⟩, ⟨?_, r1, r2, r3, r4, r5, r6, r7, b_vot.fam (F := F) rfl rfl r8, r9, r10, r11, r12, r13, r14⟩, c_book_mono (c_book.fam (F := F) rfl rfl rfl cb), fun t h1 h2 => c_log_mono (lg t h1 h2)⟩
  · intro s hs
    obtain ⟨h1, h2⟩ := q1 s hs
    by_cases e : s = q
    · subst e
      refine ⟨by simp (disch := omega) only [fs_ne, fs_eq], ?_⟩
      simp (disch := omega) only [fs_ne]
      exact h2
    · refine ⟨?_, ?_⟩ <;> simp (disch := omega) only [fs_ne]
      · exact h1
      · exact h2
  · intro j hj
    by_cases e : j = 2 * q
    · subst e
      simp (disch := omega) only [fs_ne, fs_eq]
      exact hb
    · simp (disch := omega) only [fs_ne]
      exact r0 j hj
set_option maxHeartbeats 1000000 in
set_option maxRecDepth 20000 in
theorem i0b {k : Nat} {F : GF} (h : Inv k F) {q : Nat} (hq : q < 36) {b : Int32} (hb : b = 0 ∨ b = 1) (r x : Int32) : Inv (k + 1) (fs (fs (fs (fs F 2 0 (2 * q + 1) b) 79 0 0 r) 40 0 43 x) 41 0 (36 + q) b) := by
  have hI := h
  obtain ⟨⟨q0, q1, q2, q3, q4, q5, q6, q7, q8, q9, q10, q11⟩, ⟨r0, r1, r2, r3, r4, r5, r6, r7, r8, r9, r10, r11, r12, r13, r14⟩, cb, lg⟩ := h
  refine ⟨⟨q0, ?_, q2, q3, q4, q5, q6, q7, q8, q9, q10, q11⟩, ⟨?_, r1, r2, r3, r4, r5, r6, r7, b_vot.fam (F := F) rfl rfl r8, r9, r10, r11, r12, r13, r14⟩, c_book_mono (c_book.fam (F := F) rfl rfl rfl cb), fun t h1 h2 => c_log_mono (lg t h1 h2)⟩
  · intro s hs
    obtain ⟨h1, h2⟩ := q1 s hs
    by_cases e : s = q
    · subst e
      refine ⟨?_, by simp (disch := omega) only [fs_ne, fs_eq]⟩
      simp (disch := omega) only [fs_ne]
      exact h1
    · refine ⟨?_, ?_⟩ <;> simp (disch := omega) only [fs_ne]
      · exact h1
      · exact h2
  · intro j hj
    by_cases e : j = 2 * q + 1
    · subst e
      simp (disch := omega) only [fs_ne, fs_eq]
      exact hb
    · simp (disch := omega) only [fs_ne]
      exact r0 j hj
