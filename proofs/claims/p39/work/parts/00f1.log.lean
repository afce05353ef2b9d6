/-- where x dwells on day T by the first n moves -/
def dwl (w d c : Nat → Int32) (x T : Int32) : Nat → Int32
  | 0 => -1
  | n + 1 => if w n = x then (if T < d n then dwl w d c x T n else c n) else dwl w d c x T n
theorem lastB_congr {w w' : Nat → Int32} {x : Int32} : ∀ n, (∀ i, i < n → w' i = w i) → lastB w' x n = lastB w x n := by
  intro n
  induction n with
  | zero => intro _; rfl
  | succ n ih =>
    intro h
    unfold lastB
    rw [h n (Nat.lt_succ_self n), ih (fun i hi => h i (Nat.lt_succ_of_lt hi))]
theorem dwl_congr {w w' d d' c c' : Nat → Int32} {x T : Int32} : ∀ n, (∀ i, i < n → w' i = w i ∧ d' i = d i ∧ c' i = c i) → dwl w' d' c' x T n = dwl w d c x T n := by
  intro n
  induction n with
  | zero => intro _; rfl
  | succ n ih =>
    intro h
    obtain ⟨h1, h2, h3⟩ := h n (Nat.lt_succ_self n)
    unfold dwl
    rw [h1, h2, h3, ih (fun i hi => h i (Nat.lt_succ_of_lt hi))]
theorem gcn_of {F : GF} {n : Nat} (h : F 38 0 0 = nI n) (hn : n < 2147483648) : gcn F = n := by
  unfold gcn
  rw [h, nI_clamp' hn]
theorem cr_cls {F : GF} {n i0 : Nat} {x T : Int32} {K : Int32 → GF → Prop} (hcn : F 38 0 0 = nI n) (hn : n ≤ 540) (hS : ∀ j, j < n → F 39 j 0 = F 49 0 j ∧ F 39 j 1 = F 50 0 j ∧ F 39 j 2 = lastB (F 48 0) (F 48 0 j) j) : ∀ j, j ≤ n → ∀ m, j < m → K (dwl (F 48 0) (F 49 0) (F 50 0) x T j) F → P_X4_crossingOn_5 i0 K m F T (lastB (F 48 0) x j) := by
  have hg : gcn F = n := gcn_of hcn (by omega)
  intro j
  induction j with
  | zero =>
    intro _ m hm hK
    obtain ⟨m, rfl⟩ : ∃ m', m = m' + 1 := ⟨m - 1, by omega⟩
    unfold P_X4_crossingOn_5
    rw [if_pos (show lastB (F 48 0) x 0 < 0 from (by decide : (-1 : Int32) < 0))]
    exact hK
  | succ j ih =>
    intro hj m hm hK
    by_cases hw : F 48 0 j = x
    · have e1 : lastB (F 48 0) x (j + 1) = nI j := by unfold lastB; rw [if_pos hw]
      have e2 : dwl (F 48 0) (F 49 0) (F 50 0) x T (j + 1) = if T < F 49 0 j then dwl (F 48 0) (F 49 0) (F 50 0) x T j else F 50 0 j := by
        conv => lhs; unfold dwl
        rw [if_pos hw]
      obtain ⟨m, rfl⟩ : ∃ m', m = m' + 1 := ⟨m - 1, by omega⟩
      obtain ⟨h1, h2, h3⟩ := hS j (by omega)
      rw [e1]
      rw [e2] at hK
      have hp : ¬ nI j < 0 := nI_pos (by omega)
      have hc : (nI j).toNatClampNeg = j := nI_clamp' (by omega)
      unfold P_X4_crossingOn_5
      rw [if_neg hp, hc, h1, h2, h3, hw]
      have hv : ¬ nI j < 0 ∧ j < gcn F := ⟨hp, by omega⟩
      refine ⟨hv, ?_⟩
      by_cases ht : T < F 49 0 j
      · rw [if_pos ht] at hK ⊢
        exact ⟨hv, ih (by omega) m (by omega) hK⟩
      · rw [if_neg ht] at hK ⊢
        exact ⟨hv, hK⟩
    · have e1 : lastB (F 48 0) x (j + 1) = lastB (F 48 0) x j := by
        conv => lhs; unfold lastB
        rw [if_neg hw]
      have e2 : dwl (F 48 0) (F 49 0) (F 50 0) x T (j + 1) = dwl (F 48 0) (F 49 0) (F 50 0) x T j := by
        conv => lhs; unfold dwl
        rw [if_neg hw]
      rw [e1]
      rw [e2] at hK
      exact ih (by omega) m (by omega) hK
theorem cr_run {F : GF} {n p : Nat} {T : Int32} {K : Int32 → GF → Prop} (hcn : F 38 0 0 = nI n) (hn : n ≤ 540) (hS : ∀ j, j < n → F 39 j 0 = F 49 0 j ∧ F 39 j 1 = F 50 0 j ∧ F 39 j 2 = lastB (F 48 0) (F 48 0 j) j) (hl : F 33 p 1 = lastB (F 48 0) (nI p) n) (hK : K (dwl (F 48 0) (F 49 0) (F 50 0) (nI p) T n) F) : P_X4_crossingOn F p T K := by
  refine ⟨n + 1, ?_⟩
  rw [hl]
  exact cr_cls hcn hn hS n (Nat.le_refl n) (n + 1) (Nat.lt_succ_self n) hK
theorem dw_mod {F : GF} {n : Nat} {x T : Int32} {K : Int32 → GF → Prop} (h13 : F 40 0 13 = nI n) (hn : n ≤ 540) (hK : K (dwl (F 48 0) (F 49 0) (F 50 0) x T n) F) : ∀ m j, j + m = n → P_X11_dwelt_5 K (m + 1) F x T (dwl (F 48 0) (F 49 0) (F 50 0) x T j) (nI j) := by
  intro m
  induction m with
  | zero =>
    intro j hj
    obtain rfl : j = n := by omega
    unfold P_X11_dwelt_5
    rw [h13, if_pos (Int32.le_refl _)]
    exact hK
  | succ m ih =>
    intro j hj
    have hnx := ih (j + 1) (by omega)
    rw [nI_succ] at hnx
    have hv : vp_in (nI j) 540 := nI_in (by omega) (by omega)
    have hc : (nI j).toNatClampNeg = j := nI_clamp' (by omega)
    unfold P_X11_dwelt_5
    rw [h13, if_neg (nI_ge (by omega) (by omega)), hc]
    unfold dwl at hnx
    refine ⟨hv, ?_⟩
    by_cases hw : F 48 0 j = x
    · rw [if_pos hw] at hnx ⊢
      refine ⟨hv, ?_⟩
      by_cases ht : T < F 49 0 j
      · rw [if_pos ht] at hnx ⊢
        exact hnx
      · rw [if_neg ht] at hnx ⊢
        exact ⟨hv, hnx⟩
    · rw [if_neg hw] at hnx ⊢
      exact hnx
theorem dw_run {F : GF} {n : Nat} {x T : Int32} {K : Int32 → GF → Prop} (h13 : F 40 0 13 = nI n) (hn : n ≤ 540) (hK : K (dwl (F 48 0) (F 49 0) (F 50 0) x T n) F) : P_X11_dwelt F x T K := ⟨n + 1, dw_mod h13 hn hK n 0 (by omega)⟩
/-- what the log says of stays -/
theorem c_log.stays {k t n : Nat} {F : GF} (h : c_log k t F) (hn : F 38 0 0 = nI n) (hn2 : n < 2147483648) (hk : k ≤ 512) : n ≤ k ∧ F 40 0 13 = nI n ∧ (∀ j, j < n → F 39 j 0 = F 49 0 j ∧ F 39 j 1 = F 50 0 j ∧ F 39 j 2 = lastB (F 48 0) (F 48 0 j) j) ∧ ∀ p, p < 20 → F 33 p 1 = lastB (F 48 0) (nI p) n := by
  obtain ⟨n', h1, h2, h3, h4, h5, h6⟩ := h
  obtain rfl : n' = n := (nI_eq_iff (by omega) (by omega)).mp (h2.symm.trans hn)
  refine ⟨h1, h3, fun j hj => ?_, h5⟩
  obtain ⟨-, ⟨c, -, hc1, hc2⟩, ⟨d, -, hd1, hd2⟩, hl⟩ := h4 j hj
  exact ⟨hd2.trans hd1.symm, hc2.trans hc1.symm, hl⟩
theorem c_log_step {k t n p c : Nat} {F F' : GF} (h : c_log k t F) (hk : k < 512) (hn : F 38 0 0 = nI n) (hn2 : n < 2147483648) (hp : p < 20) (hc : c < 36) (e38 : F' 38 0 0 = nI (n + 1)) (e13 : F' 40 0 13 = nI (n + 1)) (w1 : ∀ j, j ≠ n → F' 48 0 j = F 48 0 j) (w2 : F' 48 0 n = nI p) (d1 : ∀ j, j ≠ n → F' 49 0 j = F 49 0 j) (d2 : F' 49 0 n = nI t) (c1 : ∀ j, j ≠ n → F' 50 0 j = F 50 0 j) (c2 : F' 50 0 n = nI c) (s1 : ∀ j s, j ≠ n → F' 39 j s = F 39 j s) (s2 : F' 39 n 0 = nI t) (s3 : F' 39 n 1 = nI c) (s4 : F' 39 n 2 = F 33 p 1) (l1 : ∀ q, q ≠ p → F' 33 q 1 = F 33 q 1) (l2 : F' 33 p 1 = nI n) (pe : nI p < F' 0 0 2) (pm : ∀ q, q < 20 → nI q < F 0 0 2 → nI q < F' 0 0 2) (pn : ∀ q, q < 20 → nI q < F' 0 0 2 → q = p ∨ nI q < F 0 0 2) : c_log (k + 1) t F' := by
  obtain ⟨n', h1, h2, h3, h4, h5, h6⟩ := h
  obtain rfl : n' = n := (nI_eq_iff (by omega) (by omega)).mp (h2.symm.trans hn)
  have hlb : ∀ x j, j ≤ n' → lastB (F' 48 0) x j = lastB (F 48 0) x j := fun x j hj => lastB_congr j (fun i hi => w1 i (by omega))
  refine ⟨n' + 1, by omega, e38, e13, fun j hj => ?_, fun q hq => ?_, fun q hq hlt => ?_⟩
  · by_cases e : j = n'
    · subst e
      refine ⟨⟨p, hp, w2, pe⟩, ⟨c, hc, c2, s3⟩, ⟨t, Nat.le_refl t, d2, s2⟩, ?_⟩
      rw [s4, w2, hlb _ j (Nat.le_refl j)]
      exact h5 p hp
    · obtain ⟨⟨p', a1, a2, a3⟩, ⟨c', b1, b2, b3⟩, ⟨d', g1, g2, g3⟩, l⟩ := h4 j (by omega)
      refine ⟨⟨p', a1, (w1 j e).trans a2, pm p' a1 a3⟩, ⟨c', b1, (c1 j e).trans b2, (s1 j 1 e).trans b3⟩, ⟨d', g1, (d1 j e).trans g2, (s1 j 0 e).trans g3⟩, ?_⟩
      rw [s1 j 2 e, w1 j e, hlb _ j (by omega)]
      exact l
  · show F' 33 q 1 = if F' 48 0 n' = nI q then nI n' else lastB (F' 48 0) (nI q) n'
    rw [w2]
    by_cases e : q = p
    · subst e
      rw [if_pos rfl]
      exact l2
    · rw [if_neg (fun z => e ((nI_eq_iff (by omega) (by omega)).mp z).symm), hlb _ n' (Nat.le_refl n'), l1 q e]
      exact h5 q hq
  · rcases pn q hq hlt with e | e
    · subst e
      exact ⟨n', by omega, w2⟩
    · obtain ⟨j, j1, j2⟩ := h6 q hq e
      exact ⟨j, by omega, (w1 j (by omega)).trans j2⟩
theorem c_log.n {k t : Nat} {F : GF} (h : c_log k t F) (hk : k ≤ 512) : ∃ n, n ≤ k ∧ F 38 0 0 = nI n := by
  obtain ⟨n, h1, h2, -⟩ := h
  exact ⟨n, h1, h2⟩
set_option maxHeartbeats 1000000 in
set_option maxRecDepth 20000 in
theorem m7 {k : Nat} {F : GF} (hk : k < 512) (h : Inv k F) (a1 a2 a3 : Int32) : PL_7 a1 a2 a3 (Inv (k + 1)) F := by
  have hI := h
  obtain ⟨⟨q0, q1, q2, q3, q4, q5, q6, q7, q8, q9, q10, q11⟩, ⟨r0, r1, r2, r3, r4, r5, r6, r7, r8, r9, r10, r11, r12, r13, r14⟩, cb, lg⟩ := h
  have R1 := r1
  have R2 := r2
  have R3 := r3
  have R4 := r4
  obtain ⟨m, hm, em, hmc⟩ := r1
  have em' : F 40 0 6 = nI m := q2.1.trans em
  obtain ⟨n, hn, en⟩ := r2
  have en' : F 40 0 9 = nI n := q4.1.trans en
  obtain ⟨t, g, d, s, e, ht, et, hg, eg, hd, ed, hs, es, he, ee, hem, hg1, hg2, hg3⟩ := r3
  have et' : F 40 0 0 = nI t := q0.trans et
  have eg' : F 40 0 14 = nI g := q5.1.trans eg
  have ed' : F 40 0 15 = nI d := q5.2.1.trans ed
  have es' : F 40 0 16 = nI s := q5.2.2.1.trans es
  have eo' : F 40 0 17 = F 10 0 3 := q5.2.2.2.1
  have ee' : F 40 0 19 = nI e := q5.2.2.2.2.trans ee
  obtain ⟨⟨v, hv, ev⟩, hev⟩ := r4
  have ev' : F 40 0 26 = nI v := q8.1.trans ev
  have hlog := lg t et ht
  obtain ⟨N, hN, eN⟩ := hlog.n (by omega)
  obtain ⟨-, eM, hst, hla⟩ := hlog.stays eN (by omega) (by omega)
  rcases int_cases a1 with hneg_p | ⟨p, hbig_p, rfl⟩
  · rcases int_cases a2 with hneg_c | ⟨c, hbig_c, rfl⟩
    · first
        | exfalso; omega
        | simp (disch := first | omega | assumption) only [PL_7, P_L_dwells, P_X10_dwells, P_X11_dwells, P_X10_personAt, P_X10_needPerson, P_X11_isPerson, P_X10_needRange, P_X11_in, P_X11_asked, P_X11_asked_10, P_X11_asked_, P_X11_asked__18, P_X11_asked__, P_X11_asked___26, P_X11_thrown, P_X11_told, ↓reduceIte, ↓forall_eq, li0, li1, li2, li3, li4, li5, li6, li7, li8, li10, li20, li30, li35, li36, li60, li72, li100, li572, li2000, li2100, li9999, nI_lt_t, nI_lt_f, nI_le_t, nI_le_f, nI_eq_t, nI_eq_f, nI_eq_neg2, neg_eq_nI2, neg_lt2, neg_le2, nI_lt_neg2, nI_le_neg2, pred_t, pred_f, nI_clamp', vp_t, lt0_t, lt0_le, lt0_lt, lt0_eq, if_true, if_false, ite_true, ite_false, true_and, and_true, false_and, and_false, false_or, or_false, true_or, or_true, eq_self, fs_ne, fs_eq, fs_eq', st12, st13, st21, st23, st31, st32, not_true_eq_false, not_false_eq_true, em, em', en, en', et, et', eg, eg', ed, ed', es, es', eo', ee, ee', ev, ev']
          refine hI.end ?_
          repeat (first | exact Sm.refl _ | refine Sm.fs40 ?_ _ _ (by decide) | refine Sm.fsT ?_ _ _ _ _ rfl (by decide) (by decide))
    · by_cases hlt_c : c < (t + 1)
      · first
          | exfalso; omega
          | simp (disch := first | omega | assumption) only [PL_7, P_L_dwells, P_X10_dwells, P_X11_dwells, P_X10_personAt, P_X10_needPerson, P_X11_isPerson, P_X10_needRange, P_X11_in, P_X11_asked, P_X11_asked_10, P_X11_asked_, P_X11_asked__18, P_X11_asked__, P_X11_asked___26, P_X11_thrown, P_X11_told, ↓reduceIte, ↓forall_eq, li0, li1, li2, li3, li4, li5, li6, li7, li8, li10, li20, li30, li35, li36, li60, li72, li100, li572, li2000, li2100, li9999, nI_lt_t, nI_lt_f, nI_le_t, nI_le_f, nI_eq_t, nI_eq_f, nI_eq_neg2, neg_eq_nI2, neg_lt2, neg_le2, nI_lt_neg2, nI_le_neg2, pred_t, pred_f, nI_clamp', vp_t, lt0_t, lt0_le, lt0_lt, lt0_eq, if_true, if_false, ite_true, ite_false, true_and, and_true, false_and, and_false, false_or, or_false, true_or, or_true, eq_self, fs_ne, fs_eq, fs_eq', st12, st13, st21, st23, st31, st32, not_true_eq_false, not_false_eq_true, em, em', en, en', et, et', eg, eg', ed, ed', es, es', eo', ee, ee', ev, ev']
            refine hI.end ?_
            repeat (first | exact Sm.refl _ | refine Sm.fs40 ?_ _ _ (by decide) | refine Sm.fsT ?_ _ _ _ _ rfl (by decide) (by decide))
      · first
          | exfalso; omega
          | simp (disch := first | omega | assumption) only [PL_7, P_L_dwells, P_X10_dwells, P_X11_dwells, P_X10_personAt, P_X10_needPerson, P_X11_isPerson, P_X10_needRange, P_X11_in, P_X11_asked, P_X11_asked_10, P_X11_asked_, P_X11_asked__18, P_X11_asked__, P_X11_asked___26, P_X11_thrown, P_X11_told, ↓reduceIte, ↓forall_eq, li0, li1, li2, li3, li4, li5, li6, li7, li8, li10, li20, li30, li35, li36, li60, li72, li100, li572, li2000, li2100, li9999, nI_lt_t, nI_lt_f, nI_le_t, nI_le_f, nI_eq_t, nI_eq_f, nI_eq_neg2, neg_eq_nI2, neg_lt2, neg_le2, nI_lt_neg2, nI_le_neg2, pred_t, pred_f, nI_clamp', vp_t, lt0_t, lt0_le, lt0_lt, lt0_eq, if_true, if_false, ite_true, ite_false, true_and, and_true, false_and, and_false, false_or, or_false, true_or, or_true, eq_self, fs_ne, fs_eq, fs_eq', st12, st13, st21, st23, st31, st32, not_true_eq_false, not_false_eq_true, em, em', en, en', et, et', eg, eg', ed, ed', es, es', eo', ee, ee', ev, ev']
            refine hI.end ?_
            repeat (first | exact Sm.refl _ | refine Sm.fs40 ?_ _ _ (by decide) | refine Sm.fsT ?_ _ _ _ _ rfl (by decide) (by decide))
  · by_cases hlt_p : p < n
    · rcases int_cases a2 with hneg_c | ⟨c, hbig_c, rfl⟩
      · first
          | exfalso; omega
          | simp (disch := first | omega | assumption) only [PL_7, P_L_dwells, P_X10_dwells, P_X11_dwells, P_X10_personAt, P_X10_needPerson, P_X11_isPerson, P_X10_needRange, P_X11_in, P_X11_asked, P_X11_asked_10, P_X11_asked_, P_X11_asked__18, P_X11_asked__, P_X11_asked___26, P_X11_thrown, P_X11_told, ↓reduceIte, ↓forall_eq, li0, li1, li2, li3, li4, li5, li6, li7, li8, li10, li20, li30, li35, li36, li60, li72, li100, li572, li2000, li2100, li9999, nI_lt_t, nI_lt_f, nI_le_t, nI_le_f, nI_eq_t, nI_eq_f, nI_eq_neg2, neg_eq_nI2, neg_lt2, neg_le2, nI_lt_neg2, nI_le_neg2, pred_t, pred_f, nI_clamp', vp_t, lt0_t, lt0_le, lt0_lt, lt0_eq, if_true, if_false, ite_true, ite_false, true_and, and_true, false_and, and_false, false_or, or_false, true_or, or_true, eq_self, fs_ne, fs_eq, fs_eq', st12, st13, st21, st23, st31, st32, not_true_eq_false, not_false_eq_true, em, em', en, en', et, et', eg, eg', ed, ed', es, es', eo', ee, ee', ev, ev']
            refine hI.end ?_
            repeat (first | exact Sm.refl _ | refine Sm.fs40 ?_ _ _ (by decide) | refine Sm.fsT ?_ _ _ _ _ rfl (by decide) (by decide))
      · by_cases hlt_c : c < (t + 1)
        · have hb : p < 20 := by omega
          simp (disch := first | omega | assumption) only [PL_7, P_L_dwells, P_X10_dwells, P_X11_dwells, P_X10_personAt, P_X10_needPerson, P_X11_isPerson, P_X10_needRange, P_X11_in, P_X11_asked, P_X11_asked_10, P_X11_asked_, P_X11_asked__18, P_X11_asked__, P_X11_asked___26, P_X11_thrown, P_X11_told, ↓reduceIte, ↓forall_eq, li0, li1, li2, li3, li4, li5, li6, li7, li8, li10, li20, li30, li35, li36, li60, li72, li100, li572, li2000, li2100, li9999, nI_lt_t, nI_lt_f, nI_le_t, nI_le_f, nI_eq_t, nI_eq_f, nI_eq_neg2, neg_eq_nI2, neg_lt2, neg_le2, nI_lt_neg2, nI_le_neg2, pred_t, pred_f, nI_clamp', vp_t, lt0_t, lt0_le, lt0_lt, lt0_eq, if_true, if_false, ite_true, ite_false, true_and, and_true, false_and, and_false, false_or, or_false, true_or, or_true, eq_self, fs_ne, fs_eq, fs_eq', st12, st13, st21, st23, st31, st32, not_true_eq_false, not_false_eq_true, em, em', en, en', et, et', eg, eg', ed, ed', es, es', eo', ee, ee', ev, ev']
          refine cr_run eN (by omega) hst (hla p hb) ?_
          simp (disch := first | omega | assumption) only [PL_7, P_L_dwells, P_X10_dwells, P_X11_dwells, P_X10_personAt, P_X10_needPerson, P_X11_isPerson, P_X10_needRange, P_X11_in, P_X11_asked, P_X11_asked_10, P_X11_asked_, P_X11_asked__18, P_X11_asked__, P_X11_asked___26, P_X11_thrown, P_X11_told, ↓reduceIte, ↓forall_eq, li0, li1, li2, li3, li4, li5, li6, li7, li8, li10, li20, li30, li35, li36, li60, li72, li100, li572, li2000, li2100, li9999, nI_lt_t, nI_lt_f, nI_le_t, nI_le_f, nI_eq_t, nI_eq_f, nI_eq_neg2, neg_eq_nI2, neg_lt2, neg_le2, nI_lt_neg2, nI_le_neg2, pred_t, pred_f, nI_clamp', vp_t, lt0_t, lt0_le, lt0_lt, lt0_eq, if_true, if_false, ite_true, ite_false, true_and, and_true, false_and, and_false, false_or, or_false, true_or, or_true, eq_self, fs_ne, fs_eq, fs_eq', st12, st13, st21, st23, st31, st32, not_true_eq_false, not_false_eq_true, em, em', en, en', et, et', eg, eg', ed, ed', es, es', eo', ee, ee', ev, ev']
          refine dw_run (n := N) (by simp (disch := first | omega | assumption) only [PL_7, P_L_dwells, P_X10_dwells, P_X11_dwells, P_X10_personAt, P_X10_needPerson, P_X11_isPerson, P_X10_needRange, P_X11_in, P_X11_asked, P_X11_asked_10, P_X11_asked_, P_X11_asked__18, P_X11_asked__, P_X11_asked___26, P_X11_thrown, P_X11_told, ↓reduceIte, ↓forall_eq, li0, li1, li2, li3, li4, li5, li6, li7, li8, li10, li20, li30, li35, li36, li60, li72, li100, li572, li2000, li2100, li9999, nI_lt_t, nI_lt_f, nI_le_t, nI_le_f, nI_eq_t, nI_eq_f, nI_eq_neg2, neg_eq_nI2, neg_lt2, neg_le2, nI_lt_neg2, nI_le_neg2, pred_t, pred_f, nI_clamp', vp_t, lt0_t, lt0_le, lt0_lt, lt0_eq, if_true, if_false, ite_true, ite_false, true_and, and_true, false_and, and_false, false_or, or_false, true_or, or_true, eq_self, fs_ne, fs_eq, fs_eq', st12, st13, st21, st23, st31, st32, not_true_eq_false, not_false_eq_true, eM]) (by omega) ?_
          simp (disch := first | omega | assumption) only [PL_7, P_L_dwells, P_X10_dwells, P_X11_dwells, P_X10_personAt, P_X10_needPerson, P_X11_isPerson, P_X10_needRange, P_X11_in, P_X11_asked, P_X11_asked_10, P_X11_asked_, P_X11_asked__18, P_X11_asked__, P_X11_asked___26, P_X11_thrown, P_X11_told, ↓reduceIte, ↓forall_eq, li0, li1, li2, li3, li4, li5, li6, li7, li8, li10, li20, li30, li35, li36, li60, li72, li100, li572, li2000, li2100, li9999, nI_lt_t, nI_lt_f, nI_le_t, nI_le_f, nI_eq_t, nI_eq_f, nI_eq_neg2, neg_eq_nI2, neg_lt2, neg_le2, nI_lt_neg2, nI_le_neg2, pred_t, pred_f, nI_clamp', vp_t, lt0_t, lt0_le, lt0_lt, lt0_eq, if_true, if_false, ite_true, ite_false, true_and, and_true, false_and, and_false, false_or, or_false, true_or, or_true, eq_self, fs_ne, fs_eq, fs_eq', st12, st13, st21, st23, st31, st32, not_true_eq_false, not_false_eq_true, em, em', en, en', et, et', eg, eg', ed, ed', es, es', eo', ee, ee', ev, ev']
          refine ite_of (dwl_congr N (fun i hi => ⟨rfl, rfl, rfl⟩)).symm ?_
          refine hI.end ?_
          repeat (first | exact Sm.refl _ | refine Sm.fs40 ?_ _ _ (by decide) | refine Sm.fsT ?_ _ _ _ _ rfl (by decide) (by decide))
        · first
            | exfalso; omega
            | simp (disch := first | omega | assumption) only [PL_7, P_L_dwells, P_X10_dwells, P_X11_dwells, P_X10_personAt, P_X10_needPerson, P_X11_isPerson, P_X10_needRange, P_X11_in, P_X11_asked, P_X11_asked_10, P_X11_asked_, P_X11_asked__18, P_X11_asked__, P_X11_asked___26, P_X11_thrown, P_X11_told, ↓reduceIte, ↓forall_eq, li0, li1, li2, li3, li4, li5, li6, li7, li8, li10, li20, li30, li35, li36, li60, li72, li100, li572, li2000, li2100, li9999, nI_lt_t, nI_lt_f, nI_le_t, nI_le_f, nI_eq_t, nI_eq_f, nI_eq_neg2, neg_eq_nI2, neg_lt2, neg_le2, nI_lt_neg2, nI_le_neg2, pred_t, pred_f, nI_clamp', vp_t, lt0_t, lt0_le, lt0_lt, lt0_eq, if_true, if_false, ite_true, ite_false, true_and, and_true, false_and, and_false, false_or, or_false, true_or, or_true, eq_self, fs_ne, fs_eq, fs_eq', st12, st13, st21, st23, st31, st32, not_true_eq_false, not_false_eq_true, em, em', en, en', et, et', eg, eg', ed, ed', es, es', eo', ee, ee', ev, ev']
              refine hI.end ?_
              repeat (first | exact Sm.refl _ | refine Sm.fs40 ?_ _ _ (by decide) | refine Sm.fsT ?_ _ _ _ _ rfl (by decide) (by decide))
    · rcases int_cases a2 with hneg_c | ⟨c, hbig_c, rfl⟩
      · first
          | exfalso; omega
          | simp (disch := first | omega | assumption) only [PL_7, P_L_dwells, P_X10_dwells, P_X11_dwells, P_X10_personAt, P_X10_needPerson, P_X11_isPerson, P_X10_needRange, P_X11_in, P_X11_asked, P_X11_asked_10, P_X11_asked_, P_X11_asked__18, P_X11_asked__, P_X11_asked___26, P_X11_thrown, P_X11_told, ↓reduceIte, ↓forall_eq, li0, li1, li2, li3, li4, li5, li6, li7, li8, li10, li20, li30, li35, li36, li60, li72, li100, li572, li2000, li2100, li9999, nI_lt_t, nI_lt_f, nI_le_t, nI_le_f, nI_eq_t, nI_eq_f, nI_eq_neg2, neg_eq_nI2, neg_lt2, neg_le2, nI_lt_neg2, nI_le_neg2, pred_t, pred_f, nI_clamp', vp_t, lt0_t, lt0_le, lt0_lt, lt0_eq, if_true, if_false, ite_true, ite_false, true_and, and_true, false_and, and_false, false_or, or_false, true_or, or_true, eq_self, fs_ne, fs_eq, fs_eq', st12, st13, st21, st23, st31, st32, not_true_eq_false, not_false_eq_true, em, em', en, en', et, et', eg, eg', ed, ed', es, es', eo', ee, ee', ev, ev']
            refine hI.end ?_
            repeat (first | exact Sm.refl _ | refine Sm.fs40 ?_ _ _ (by decide) | refine Sm.fsT ?_ _ _ _ _ rfl (by decide) (by decide))
      · by_cases hlt_c : c < (t + 1)
        · first
            | exfalso; omega
            | simp (disch := first | omega | assumption) only [PL_7, P_L_dwells, P_X10_dwells, P_X11_dwells, P_X10_personAt, P_X10_needPerson, P_X11_isPerson, P_X10_needRange, P_X11_in, P_X11_asked, P_X11_asked_10, P_X11_asked_, P_X11_asked__18, P_X11_asked__, P_X11_asked___26, P_X11_thrown, P_X11_told, ↓reduceIte, ↓forall_eq, li0, li1, li2, li3, li4, li5, li6, li7, li8, li10, li20, li30, li35, li36, li60, li72, li100, li572, li2000, li2100, li9999, nI_lt_t, nI_lt_f, nI_le_t, nI_le_f, nI_eq_t, nI_eq_f, nI_eq_neg2, neg_eq_nI2, neg_lt2, neg_le2, nI_lt_neg2, nI_le_neg2, pred_t, pred_f, nI_clamp', vp_t, lt0_t, lt0_le, lt0_lt, lt0_eq, if_true, if_false, ite_true, ite_false, true_and, and_true, false_and, and_false, false_or, or_false, true_or, or_true, eq_self, fs_ne, fs_eq, fs_eq', st12, st13, st21, st23, st31, st32, not_true_eq_false, not_false_eq_true, em, em', en, en', et, et', eg, eg', ed, ed', es, es', eo', ee, ee', ev, ev']
              refine hI.end ?_
              repeat (first | exact Sm.refl _ | refine Sm.fs40 ?_ _ _ (by decide) | refine Sm.fsT ?_ _ _ _ _ rfl (by decide) (by decide))
        · first
            | exfalso; omega
            | simp (disch := first | omega | assumption) only [PL_7, P_L_dwells, P_X10_dwells, P_X11_dwells, P_X10_personAt, P_X10_needPerson, P_X11_isPerson, P_X10_needRange, P_X11_in, P_X11_asked, P_X11_asked_10, P_X11_asked_, P_X11_asked__18, P_X11_asked__, P_X11_asked___26, P_X11_thrown, P_X11_told, ↓reduceIte, ↓forall_eq, li0, li1, li2, li3, li4, li5, li6, li7, li8, li10, li20, li30, li35, li36, li60, li72, li100, li572, li2000, li2100, li9999, nI_lt_t, nI_lt_f, nI_le_t, nI_le_f, nI_eq_t, nI_eq_f, nI_eq_neg2, neg_eq_nI2, neg_lt2, neg_le2, nI_lt_neg2, nI_le_neg2, pred_t, pred_f, nI_clamp', vp_t, lt0_t, lt0_le, lt0_lt, lt0_eq, if_true, if_false, ite_true, ite_false, true_and, and_true, false_and, and_false, false_or, or_false, true_or, or_true, eq_self, fs_ne, fs_eq, fs_eq', st12, st13, st21, st23, st31, st32, not_true_eq_false, not_false_eq_true, em, em', en, en', et, et', eg, eg', ed, ed', es, es', eo', ee, ee', ev, ev']
              refine hI.end ?_
              repeat (first | exact Sm.refl _ | refine Sm.fs40 ?_ _ _ (by decide) | refine Sm.fsT ?_ _ _ _ _ rfl (by decide) (by decide))
theorem lastB_lt {w : Nat → Int32} {x : Int32} : ∀ n, n < 2147483648 → gko n (lastB w x n) := by
  intro n
  induction n with
  | zero => intro _; exact Or.inl (show (-1 : Int32) < 0 by decide)
  | succ n ih =>
    intro hn
    unfold lastB
    by_cases h : w n = x
    · rw [if_pos h]
      exact Or.inr (by rw [nI_clamp' (by omega)]; omega)
    · rw [if_neg h]
      rcases ih (by omega) with h2 | h2
      · exact Or.inl h2
      · exact Or.inr (by omega)
theorem gok_of {k t n : Nat} {F : GF} (h : c_log k t F) (hn : F 38 0 0 = nI n) (hk : k ≤ 512) : gok F := by
  obtain ⟨n', h1, h2, h3, h4, h5, h6⟩ := h
  have hg := gcn_of h2 (by omega)
  refine ⟨fun i hi => ?_, fun i hi => ?_⟩
  · rw [hg, h5 i hi]
    exact lastB_lt n' (by omega)
  · rw [hg] at hi ⊢
    obtain ⟨-, -, -, l⟩ := h4 i hi
    rw [l]
    rcases lastB_lt (w := F 48 0) (x := F 48 0 i) i (by omega) with h | h
    · exact Or.inl h
    · exact Or.inr (by omega)
set_option maxHeartbeats 1000000 in
set_option maxRecDepth 20000 in
theorem m5 {k : Nat} {F : GF} (hk : k < 512) (h : Inv k F) (a1 a2 a3 : Int32) : PL_5 a1 a2 a3 (Inv (k + 1)) F := by
  have hI := h
  obtain ⟨⟨q0, q1, q2, q3, q4, q5, q6, q7, q8, q9, q10, q11⟩, ⟨r0, r1, r2, r3, r4, r5, r6, r7, r8, r9, r10, r11, r12, r13, r14⟩, cb, lg⟩ := h
  have R1 := r1
  have R2 := r2
  have R3 := r3
  have R4 := r4
  obtain ⟨m, hm, em, hmc⟩ := r1
  have em' : F 40 0 6 = nI m := q2.1.trans em
  obtain ⟨n, hn, en⟩ := r2
  have en' : F 40 0 9 = nI n := q4.1.trans en
  obtain ⟨t, g, d, s, e, ht, et, hg, eg, hd, ed, hs, es, he, ee, hem, hg1, hg2, hg3⟩ := r3
  have et' : F 40 0 0 = nI t := q0.trans et
  have eg' : F 40 0 14 = nI g := q5.1.trans eg
  have ed' : F 40 0 15 = nI d := q5.2.1.trans ed
  have es' : F 40 0 16 = nI s := q5.2.2.1.trans es
  have eo' : F 40 0 17 = F 10 0 3 := q5.2.2.2.1
  have ee' : F 40 0 19 = nI e := q5.2.2.2.2.trans ee
  obtain ⟨⟨v, hv, ev⟩, hev⟩ := r4
  have ev' : F 40 0 26 = nI v := q8.1.trans ev
  have hlog := lg t et ht
  obtain ⟨N, hN, eN⟩ := hlog.n (by omega)
  obtain ⟨-, eM, hst, hla⟩ := hlog.stays eN (by omega) (by omega)
  rcases int_cases a2 with hneg_c | ⟨c, hbig_c, rfl⟩
  · rcases int_cases a1 with hneg_p | ⟨p, hbig_p, rfl⟩
    · first
        | exfalso; omega
        | simp (disch := first | omega | assumption) only [PL_5, P_L_move, P_X10_move, P_X11_move, P_X10_personAt, P_X10_needPerson, P_X10_needCrossing, P_X10_needAlive, P_X11_isPerson, P_X11_isCrossing, P_X11_move_19, P_X11_move_20, P_X11_move_40, P_X11_move_41, P_X11_in, P_X11_asked, P_X11_asked_10, P_X11_asked_, P_X11_asked__18, P_X11_asked__, P_X11_asked___26, P_X11_thrown, P_X11_told, ↓reduceIte, ↓forall_eq, li0, li1, li2, li3, li4, li5, li6, li7, li8, li10, li20, li30, li35, li36, li60, li72, li100, li572, li2000, li2100, li9999, nI_lt_t, nI_lt_f, nI_le_t, nI_le_f, nI_eq_t, nI_eq_f, nI_eq_neg2, neg_eq_nI2, neg_lt2, neg_le2, nI_lt_neg2, nI_le_neg2, pred_t, pred_f, nI_clamp', vp_t, lt0_t, lt0_le, lt0_lt, lt0_eq, if_true, if_false, ite_true, ite_false, true_and, and_true, false_and, and_false, false_or, or_false, true_or, or_true, eq_self, fs_ne, fs_eq, fs_eq', st12, st13, st21, st23, st31, st32, not_true_eq_false, not_false_eq_true, em, em', en, en', et, et', eg, eg', ed, ed', es, es', eo', ee, ee', ev, ev']
          refine hI.end ?_
          repeat (first | exact Sm.refl _ | refine Sm.fs40 ?_ _ _ (by decide) | refine Sm.fsT ?_ _ _ _ _ rfl (by decide) (by decide))
    · by_cases hlt_p : p < n
      · by_cases al : F 33 p 2 = nI 0
        · simp (disch := first | omega | assumption) only [PL_5, P_L_move, P_X10_move, P_X11_move, P_X10_personAt, P_X10_needPerson, P_X10_needCrossing, P_X10_needAlive, P_X11_isPerson, P_X11_isCrossing, P_X11_move_19, P_X11_move_20, P_X11_move_40, P_X11_move_41, P_X11_in, P_X11_asked, P_X11_asked_10, P_X11_asked_, P_X11_asked__18, P_X11_asked__, P_X11_asked___26, P_X11_thrown, P_X11_told, ↓reduceIte, ↓forall_eq, li0, li1, li2, li3, li4, li5, li6, li7, li8, li10, li20, li30, li35, li36, li60, li72, li100, li572, li2000, li2100, li9999, nI_lt_t, nI_lt_f, nI_le_t, nI_le_f, nI_eq_t, nI_eq_f, nI_eq_neg2, neg_eq_nI2, neg_lt2, neg_le2, nI_lt_neg2, nI_le_neg2, pred_t, pred_f, nI_clamp', vp_t, lt0_t, lt0_le, lt0_lt, lt0_eq, if_true, if_false, ite_true, ite_false, true_and, and_true, false_and, and_false, false_or, or_false, true_or, or_true, eq_self, fs_ne, fs_eq, fs_eq', st12, st13, st21, st23, st31, st32, not_true_eq_false, not_false_eq_true, em, em', en, en', et, et', eg, eg', ed, ed', es, es', eo', ee, ee', ev, ev', (q4.2 p (by omega)).2, al]
          refine hI.end ?_
          repeat (first | exact Sm.refl _ | refine Sm.fs40 ?_ _ _ (by decide) | refine Sm.fsT ?_ _ _ _ _ rfl (by decide) (by decide))
        · simp (disch := first | omega | assumption) only [PL_5, P_L_move, P_X10_move, P_X11_move, P_X10_personAt, P_X10_needPerson, P_X10_needCrossing, P_X10_needAlive, P_X11_isPerson, P_X11_isCrossing, P_X11_move_19, P_X11_move_20, P_X11_move_40, P_X11_move_41, P_X11_in, P_X11_asked, P_X11_asked_10, P_X11_asked_, P_X11_asked__18, P_X11_asked__, P_X11_asked___26, P_X11_thrown, P_X11_told, ↓reduceIte, ↓forall_eq, li0, li1, li2, li3, li4, li5, li6, li7, li8, li10, li20, li30, li35, li36, li60, li72, li100, li572, li2000, li2100, li9999, nI_lt_t, nI_lt_f, nI_le_t, nI_le_f, nI_eq_t, nI_eq_f, nI_eq_neg2, neg_eq_nI2, neg_lt2, neg_le2, nI_lt_neg2, nI_le_neg2, pred_t, pred_f, nI_clamp', vp_t, lt0_t, lt0_le, lt0_lt, lt0_eq, if_true, if_false, ite_true, ite_false, true_and, and_true, false_and, and_false, false_or, or_false, true_or, or_true, eq_self, fs_ne, fs_eq, fs_eq', st12, st13, st21, st23, st31, st32, not_true_eq_false, not_false_eq_true, em, em', en, en', et, et', eg, eg', ed, ed', es, es', eo', ee, ee', ev, ev', (q4.2 p (by omega)).2, al]
          refine hI.end ?_
          repeat (first | exact Sm.refl _ | refine Sm.fs40 ?_ _ _ (by decide) | refine Sm.fsT ?_ _ _ _ _ rfl (by decide) (by decide))
      · first
          | exfalso; omega
          | simp (disch := first | omega | assumption) only [PL_5, P_L_move, P_X10_move, P_X11_move, P_X10_personAt, P_X10_needPerson, P_X10_needCrossing, P_X10_needAlive, P_X11_isPerson, P_X11_isCrossing, P_X11_move_19, P_X11_move_20, P_X11_move_40, P_X11_move_41, P_X11_in, P_X11_asked, P_X11_asked_10, P_X11_asked_, P_X11_asked__18, P_X11_asked__, P_X11_asked___26, P_X11_thrown, P_X11_told, ↓reduceIte, ↓forall_eq, li0, li1, li2, li3, li4, li5, li6, li7, li8, li10, li20, li30, li35, li36, li60, li72, li100, li572, li2000, li2100, li9999, nI_lt_t, nI_lt_f, nI_le_t, nI_le_f, nI_eq_t, nI_eq_f, nI_eq_neg2, neg_eq_nI2, neg_lt2, neg_le2, nI_lt_neg2, nI_le_neg2, pred_t, pred_f, nI_clamp', vp_t, lt0_t, lt0_le, lt0_lt, lt0_eq, if_true, if_false, ite_true, ite_false, true_and, and_true, false_and, and_false, false_or, or_false, true_or, or_true, eq_self, fs_ne, fs_eq, fs_eq', st12, st13, st21, st23, st31, st32, not_true_eq_false, not_false_eq_true, em, em', en, en', et, et', eg, eg', ed, ed', es, es', eo', ee, ee', ev, ev']
            refine hI.end ?_
            repeat (first | exact Sm.refl _ | refine Sm.fs40 ?_ _ _ (by decide) | refine Sm.fsT ?_ _ _ _ _ rfl (by decide) (by decide))
  · by_cases hlt_c : c < 36
    · rcases int_cases a1 with hneg_p | ⟨p, hbig_p, rfl⟩
      · first
          | exfalso; omega
          | simp (disch := first | omega | assumption) only [PL_5, P_L_move, P_X10_move, P_X11_move, P_X10_personAt, P_X10_needPerson, P_X10_needCrossing, P_X10_needAlive, P_X11_isPerson, P_X11_isCrossing, P_X11_move_19, P_X11_move_20, P_X11_move_40, P_X11_move_41, P_X11_in, P_X11_asked, P_X11_asked_10, P_X11_asked_, P_X11_asked__18, P_X11_asked__, P_X11_asked___26, P_X11_thrown, P_X11_told, ↓reduceIte, ↓forall_eq, li0, li1, li2, li3, li4, li5, li6, li7, li8, li10, li20, li30, li35, li36, li60, li72, li100, li572, li2000, li2100, li9999, nI_lt_t, nI_lt_f, nI_le_t, nI_le_f, nI_eq_t, nI_eq_f, nI_eq_neg2, neg_eq_nI2, neg_lt2, neg_le2, nI_lt_neg2, nI_le_neg2, pred_t, pred_f, nI_clamp', vp_t, lt0_t, lt0_le, lt0_lt, lt0_eq, if_true, if_false, ite_true, ite_false, true_and, and_true, false_and, and_false, false_or, or_false, true_or, or_true, eq_self, fs_ne, fs_eq, fs_eq', st12, st13, st21, st23, st31, st32, not_true_eq_false, not_false_eq_true, em, em', en, en', et, et', eg, eg', ed, ed', es, es', eo', ee, ee', ev, ev']
            refine hI.end ?_
            repeat (first | exact Sm.refl _ | refine Sm.fs40 ?_ _ _ (by decide) | refine Sm.fsT ?_ _ _ _ _ rfl (by decide) (by decide))
      · by_cases hlt_p : p < n
        · by_cases al : F 33 p 2 = nI 0
          · have hb : p < 20 := by omega
            simp (disch := first | omega | assumption) only [PL_5, P_L_move, P_X10_move, P_X11_move, P_X10_personAt, P_X10_needPerson, P_X10_needCrossing, P_X10_needAlive, P_X11_isPerson, P_X11_isCrossing, P_X11_move_19, P_X11_move_20, P_X11_move_40, P_X11_move_41, P_X11_in, P_X11_asked, P_X11_asked_10, P_X11_asked_, P_X11_asked__18, P_X11_asked__, P_X11_asked___26, P_X11_thrown, P_X11_told, ↓reduceIte, ↓forall_eq, li0, li1, li2, li3, li4, li5, li6, li7, li8, li10, li20, li30, li35, li36, li60, li72, li100, li572, li2000, li2100, li9999, nI_lt_t, nI_lt_f, nI_le_t, nI_le_f, nI_eq_t, nI_eq_f, nI_eq_neg2, neg_eq_nI2, neg_lt2, neg_le2, nI_lt_neg2, nI_le_neg2, pred_t, pred_f, nI_clamp', vp_t, lt0_t, lt0_le, lt0_lt, lt0_eq, if_true, if_false, ite_true, ite_false, true_and, and_true, false_and, and_false, false_or, or_false, true_or, or_true, eq_self, fs_ne, fs_eq, fs_eq', st12, st13, st21, st23, st31, st32, not_true_eq_false, not_false_eq_true, em, em', en, en', et, et', eg, eg', ed, ed', es, es', eo', ee, ee', ev, ev', al]
            refine cr_run eN (by omega) hst (hla p hb) ?_
            have hg := gcn_of eN (by omega)
            have hgok : gok F := gok_of hlog eN (by omega)
            unfold P_X8_init fnew
            simp (disch := first | omega | assumption) only [PL_5, P_L_move, P_X10_move, P_X11_move, P_X10_personAt, P_X10_needPerson, P_X10_needCrossing, P_X10_needAlive, P_X11_isPerson, P_X11_isCrossing, P_X11_move_19, P_X11_move_20, P_X11_move_40, P_X11_move_41, P_X11_in, P_X11_asked, P_X11_asked_10, P_X11_asked_, P_X11_asked__18, P_X11_asked__, P_X11_asked___26, P_X11_thrown, P_X11_told, ↓reduceIte, ↓forall_eq, li0, li1, li2, li3, li4, li5, li6, li7, li8, li10, li20, li30, li35, li36, li60, li72, li100, li572, li2000, li2100, li9999, nI_lt_t, nI_lt_f, nI_le_t, nI_le_f, nI_eq_t, nI_eq_f, nI_eq_neg2, neg_eq_nI2, neg_lt2, neg_le2, nI_lt_neg2, nI_le_neg2, pred_t, pred_f, nI_clamp', vp_t, lt0_t, lt0_le, lt0_lt, lt0_eq, if_true, if_false, ite_true, ite_false, true_and, and_true, false_and, and_false, false_or, or_false, true_or, or_true, eq_self, fs_ne, fs_eq, fs_eq', st12, st13, st21, st23, st31, st32, not_true_eq_false, not_false_eq_true, em, em', en, en', et, et', eg, eg', ed, ed', es, es', eo', ee, ee', ev, ev', hg, hgok]
            refine ⟨by omega, ?_⟩
            have alm : F 47 0 p = nI 0 := ((q4.2 p hb).2).trans al
            simp (disch := first | omega | assumption) only [PL_5, P_L_move, P_X10_move, P_X11_move, P_X10_personAt, P_X10_needPerson, P_X10_needCrossing, P_X10_needAlive, P_X11_isPerson, P_X11_isCrossing, P_X11_move_19, P_X11_move_20, P_X11_move_40, P_X11_move_41, P_X11_in, P_X11_asked, P_X11_asked_10, P_X11_asked_, P_X11_asked__18, P_X11_asked__, P_X11_asked___26, P_X11_thrown, P_X11_told, ↓reduceIte, ↓forall_eq, li0, li1, li2, li3, li4, li5, li6, li7, li8, li10, li20, li30, li35, li36, li60, li72, li100, li572, li2000, li2100, li9999, nI_lt_t, nI_lt_f, nI_le_t, nI_le_f, nI_eq_t, nI_eq_f, nI_eq_neg2, neg_eq_nI2, neg_lt2, neg_le2, nI_lt_neg2, nI_le_neg2, pred_t, pred_f, nI_clamp', vp_t, lt0_t, lt0_le, lt0_lt, lt0_eq, if_true, if_false, ite_true, ite_false, true_and, and_true, false_and, and_false, false_or, or_false, true_or, or_true, eq_self, fs_ne, fs_eq, fs_eq', st12, st13, st21, st23, st31, st32, not_true_eq_false, not_false_eq_true, em, em', en, en', et, et', eg, eg', ed, ed', es, es', eo', ee, ee', ev, ev', al, alm, hg, eN, eM, nI_add]
            refine dw_run (n := N) (by simp (disch := first | omega | assumption) only [PL_5, P_L_move, P_X10_move, P_X11_move, P_X10_personAt, P_X10_needPerson, P_X10_needCrossing, P_X10_needAlive, P_X11_isPerson, P_X11_isCrossing, P_X11_move_19, P_X11_move_20, P_X11_move_40, P_X11_move_41, P_X11_in, P_X11_asked, P_X11_asked_10, P_X11_asked_, P_X11_asked__18, P_X11_asked__, P_X11_asked___26, P_X11_thrown, P_X11_told, ↓reduceIte, ↓forall_eq, li0, li1, li2, li3, li4, li5, li6, li7, li8, li10, li20, li30, li35, li36, li60, li72, li100, li572, li2000, li2100, li9999, nI_lt_t, nI_lt_f, nI_le_t, nI_le_f, nI_eq_t, nI_eq_f, nI_eq_neg2, neg_eq_nI2, neg_lt2, neg_le2, nI_lt_neg2, nI_le_neg2, pred_t, pred_f, nI_clamp', vp_t, lt0_t, lt0_le, lt0_lt, lt0_eq, if_true, if_false, ite_true, ite_false, true_and, and_true, false_and, and_false, false_or, or_false, true_or, or_true, eq_self, fs_ne, fs_eq, fs_eq', st12, st13, st21, st23, st31, st32, not_true_eq_false, not_false_eq_true, eM]) (by omega) ?_
            unfold P_X11_comes
            simp (disch := first | omega | assumption) only [PL_5, P_L_move, P_X10_move, P_X11_move, P_X10_personAt, P_X10_needPerson, P_X10_needCrossing, P_X10_needAlive, P_X11_isPerson, P_X11_isCrossing, P_X11_move_19, P_X11_move_20, P_X11_move_40, P_X11_move_41, P_X11_in, P_X11_asked, P_X11_asked_10, P_X11_asked_, P_X11_asked__18, P_X11_asked__, P_X11_asked___26, P_X11_thrown, P_X11_told, ↓reduceIte, ↓forall_eq, li0, li1, li2, li3, li4, li5, li6, li7, li8, li10, li20, li30, li35, li36, li60, li72, li100, li572, li2000, li2100, li9999, nI_lt_t, nI_lt_f, nI_le_t, nI_le_f, nI_eq_t, nI_eq_f, nI_eq_neg2, neg_eq_nI2, neg_lt2, neg_le2, nI_lt_neg2, nI_le_neg2, pred_t, pred_f, nI_clamp', vp_t, lt0_t, lt0_le, lt0_lt, lt0_eq, if_true, if_false, ite_true, ite_false, true_and, and_true, false_and, and_false, false_or, or_false, true_or, or_true, eq_self, fs_ne, fs_eq, fs_eq', st12, st13, st21, st23, st31, st32, not_true_eq_false, not_false_eq_true, em, em', en, en', et, et', eg, eg', ed, ed', es, es', eo', ee, ee', ev, ev', eM, nI_add, hg]
            refine ite_of (dwl_congr N (fun i hi => ⟨rfl, rfl, rfl⟩)).symm ?_
            refine ⟨⟨q0, q1, q2, q3, ⟨q4.1, fun q hq => by simp (disch := omega) only [fs_ne]; exact q4.2 q hq⟩, q5, q6, q7, q8, q9, q10, q11⟩, ⟨r0, R1, R2, R3, R4, r5, r6, r7, b_vot.fam (F := F) rfl rfl r8, r9, r10, r11, r12, r13, r14⟩, c_book_mono (c_book.fam (F := F) rfl rfl rfl cb), fun t2 h1 h2 => ?_⟩
            obtain rfl : t2 = t := (nI_eq_iff (by omega) (by omega)).mp (h1.symm.trans et)
            refine c_log_step (n := N) (p := p) (c := c) hlog hk eN (by omega) (by omega) hlt_c ?_ ?_ ?_ ?_ ?_ ?_ ?_ ?_ ?_ ?_ ?_ ?_ ?_ ?_ ?_ ?_ ?_
            · simp (disch := omega) only [fs_ne, fs_eq]
            · simp (disch := omega) only [fs_ne, fs_eq]
            · intro j hj; simp (disch := omega) only [fs_ne]
            · simp (disch := omega) only [fs_ne, fs_eq]
            · intro j hj; simp (disch := omega) only [fs_ne]
            · simp (disch := omega) only [fs_ne, fs_eq]
            · intro j hj; simp (disch := omega) only [fs_ne]
            · simp (disch := omega) only [fs_ne, fs_eq]
            · intro j s hj; simp (disch := omega) only [fs_ne]
            · simp (disch := omega) only [fs_ne, fs_eq]
            · simp (disch := omega) only [fs_ne, fs_eq]
            · simp (disch := omega) only [fs_ne, fs_eq]
            · intro q hq; simp (disch := omega) only [fs_ne]
            · simp (disch := omega) only [fs_ne, fs_eq]
            · simp (disch := omega) only [fs_ne]; rw [en]; exact nI_lt (by omega) (by omega)
            · intro q hq hlt; exact hlt
            · intro q hq hlt; exact Or.inr hlt
          · simp (disch := first | omega | assumption) only [PL_5, P_L_move, P_X10_move, P_X11_move, P_X10_personAt, P_X10_needPerson, P_X10_needCrossing, P_X10_needAlive, P_X11_isPerson, P_X11_isCrossing, P_X11_move_19, P_X11_move_20, P_X11_move_40, P_X11_move_41, P_X11_in, P_X11_asked, P_X11_asked_10, P_X11_asked_, P_X11_asked__18, P_X11_asked__, P_X11_asked___26, P_X11_thrown, P_X11_told, ↓reduceIte, ↓forall_eq, li0, li1, li2, li3, li4, li5, li6, li7, li8, li10, li20, li30, li35, li36, li60, li72, li100, li572, li2000, li2100, li9999, nI_lt_t, nI_lt_f, nI_le_t, nI_le_f, nI_eq_t, nI_eq_f, nI_eq_neg2, neg_eq_nI2, neg_lt2, neg_le2, nI_lt_neg2, nI_le_neg2, pred_t, pred_f, nI_clamp', vp_t, lt0_t, lt0_le, lt0_lt, lt0_eq, if_true, if_false, ite_true, ite_false, true_and, and_true, false_and, and_false, false_or, or_false, true_or, or_true, eq_self, fs_ne, fs_eq, fs_eq', st12, st13, st21, st23, st31, st32, not_true_eq_false, not_false_eq_true, em, em', en, en', et, et', eg, eg', ed, ed', es, es', eo', ee, ee', ev, ev', (q4.2 p (by omega)).2, al]
            refine hI.end ?_
            repeat (first | exact Sm.refl _ | refine Sm.fs40 ?_ _ _ (by decide) | refine Sm.fsT ?_ _ _ _ _ rfl (by decide) (by decide))
        · first
            | exfalso; omega
            | simp (disch := first | omega | assumption) only [PL_5, P_L_move, P_X10_move, P_X11_move, P_X10_personAt, P_X10_needPerson, P_X10_needCrossing, P_X10_needAlive, P_X11_isPerson, P_X11_isCrossing, P_X11_move_19, P_X11_move_20, P_X11_move_40, P_X11_move_41, P_X11_in, P_X11_asked, P_X11_asked_10, P_X11_asked_, P_X11_asked__18, P_X11_asked__, P_X11_asked___26, P_X11_thrown, P_X11_told, ↓reduceIte, ↓forall_eq, li0, li1, li2, li3, li4, li5, li6, li7, li8, li10, li20, li30, li35, li36, li60, li72, li100, li572, li2000, li2100, li9999, nI_lt_t, nI_lt_f, nI_le_t, nI_le_f, nI_eq_t, nI_eq_f, nI_eq_neg2, neg_eq_nI2, neg_lt2, neg_le2, nI_lt_neg2, nI_le_neg2, pred_t, pred_f, nI_clamp', vp_t, lt0_t, lt0_le, lt0_lt, lt0_eq, if_true, if_false, ite_true, ite_false, true_and, and_true, false_and, and_false, false_or, or_false, true_or, or_true, eq_self, fs_ne, fs_eq, fs_eq', st12, st13, st21, st23, st31, st32, not_true_eq_false, not_false_eq_true, em, em', en, en', et, et', eg, eg', ed, ed', es, es', eo', ee, ee', ev, ev']
              refine hI.end ?_
              repeat (first | exact Sm.refl _ | refine Sm.fs40 ?_ _ _ (by decide) | refine Sm.fsT ?_ _ _ _ _ rfl (by decide) (by decide))
    · rcases int_cases a1 with hneg_p | ⟨p, hbig_p, rfl⟩
      · first
          | exfalso; omega
          | simp (disch := first | omega | assumption) only [PL_5, P_L_move, P_X10_move, P_X11_move, P_X10_personAt, P_X10_needPerson, P_X10_needCrossing, P_X10_needAlive, P_X11_isPerson, P_X11_isCrossing, P_X11_move_19, P_X11_move_20, P_X11_move_40, P_X11_move_41, P_X11_in, P_X11_asked, P_X11_asked_10, P_X11_asked_, P_X11_asked__18, P_X11_asked__, P_X11_asked___26, P_X11_thrown, P_X11_told, ↓reduceIte, ↓forall_eq, li0, li1, li2, li3, li4, li5, li6, li7, li8, li10, li20, li30, li35, li36, li60, li72, li100, li572, li2000, li2100, li9999, nI_lt_t, nI_lt_f, nI_le_t, nI_le_f, nI_eq_t, nI_eq_f, nI_eq_neg2, neg_eq_nI2, neg_lt2, neg_le2, nI_lt_neg2, nI_le_neg2, pred_t, pred_f, nI_clamp', vp_t, lt0_t, lt0_le, lt0_lt, lt0_eq, if_true, if_false, ite_true, ite_false, true_and, and_true, false_and, and_false, false_or, or_false, true_or, or_true, eq_self, fs_ne, fs_eq, fs_eq', st12, st13, st21, st23, st31, st32, not_true_eq_false, not_false_eq_true, em, em', en, en', et, et', eg, eg', ed, ed', es, es', eo', ee, ee', ev, ev']
            refine hI.end ?_
            repeat (first | exact Sm.refl _ | refine Sm.fs40 ?_ _ _ (by decide) | refine Sm.fsT ?_ _ _ _ _ rfl (by decide) (by decide))
      · by_cases hlt_p : p < n
        · by_cases al : F 33 p 2 = nI 0
          · simp (disch := first | omega | assumption) only [PL_5, P_L_move, P_X10_move, P_X11_move, P_X10_personAt, P_X10_needPerson, P_X10_needCrossing, P_X10_needAlive, P_X11_isPerson, P_X11_isCrossing, P_X11_move_19, P_X11_move_20, P_X11_move_40, P_X11_move_41, P_X11_in, P_X11_asked, P_X11_asked_10, P_X11_asked_, P_X11_asked__18, P_X11_asked__, P_X11_asked___26, P_X11_thrown, P_X11_told, ↓reduceIte, ↓forall_eq, li0, li1, li2, li3, li4, li5, li6, li7, li8, li10, li20, li30, li35, li36, li60, li72, li100, li572, li2000, li2100, li9999, nI_lt_t, nI_lt_f, nI_le_t, nI_le_f, nI_eq_t, nI_eq_f, nI_eq_neg2, neg_eq_nI2, neg_lt2, neg_le2, nI_lt_neg2, nI_le_neg2, pred_t, pred_f, nI_clamp', vp_t, lt0_t, lt0_le, lt0_lt, lt0_eq, if_true, if_false, ite_true, ite_false, true_and, and_true, false_and, and_false, false_or, or_false, true_or, or_true, eq_self, fs_ne, fs_eq, fs_eq', st12, st13, st21, st23, st31, st32, not_true_eq_false, not_false_eq_true, em, em', en, en', et, et', eg, eg', ed, ed', es, es', eo', ee, ee', ev, ev', (q4.2 p (by omega)).2, al]
            refine hI.end ?_
            repeat (first | exact Sm.refl _ | refine Sm.fs40 ?_ _ _ (by decide) | refine Sm.fsT ?_ _ _ _ _ rfl (by decide) (by decide))
          · simp (disch := first | omega | assumption) only [PL_5, P_L_move, P_X10_move, P_X11_move, P_X10_personAt, P_X10_needPerson, P_X10_needCrossing, P_X10_needAlive, P_X11_isPerson, P_X11_isCrossing, P_X11_move_19, P_X11_move_20, P_X11_move_40, P_X11_move_41, P_X11_in, P_X11_asked, P_X11_asked_10, P_X11_asked_, P_X11_asked__18, P_X11_asked__, P_X11_asked___26, P_X11_thrown, P_X11_told, ↓reduceIte, ↓forall_eq, li0, li1, li2, li3, li4, li5, li6, li7, li8, li10, li20, li30, li35, li36, li60, li72, li100, li572, li2000, li2100, li9999, nI_lt_t, nI_lt_f, nI_le_t, nI_le_f, nI_eq_t, nI_eq_f, nI_eq_neg2, neg_eq_nI2, neg_lt2, neg_le2, nI_lt_neg2, nI_le_neg2, pred_t, pred_f, nI_clamp', vp_t, lt0_t, lt0_le, lt0_lt, lt0_eq, if_true, if_false, ite_true, ite_false, true_and, and_true, false_and, and_false, false_or, or_false, true_or, or_true, eq_self, fs_ne, fs_eq, fs_eq', st12, st13, st21, st23, st31, st32, not_true_eq_false, not_false_eq_true, em, em', en, en', et, et', eg, eg', ed, ed', es, es', eo', ee, ee', ev, ev', (q4.2 p (by omega)).2, al]
            refine hI.end ?_
            repeat (first | exact Sm.refl _ | refine Sm.fs40 ?_ _ _ (by decide) | refine Sm.fsT ?_ _ _ _ _ rfl (by decide) (by decide))
        · first
            | exfalso; omega
            | simp (disch := first | omega | assumption) only [PL_5, P_L_move, P_X10_move, P_X11_move, P_X10_personAt, P_X10_needPerson, P_X10_needCrossing, P_X10_needAlive, P_X11_isPerson, P_X11_isCrossing, P_X11_move_19, P_X11_move_20, P_X11_move_40, P_X11_move_41, P_X11_in, P_X11_asked, P_X11_asked_10, P_X11_asked_, P_X11_asked__18, P_X11_asked__, P_X11_asked___26, P_X11_thrown, P_X11_told, ↓reduceIte, ↓forall_eq, li0, li1, li2, li3, li4, li5, li6, li7, li8, li10, li20, li30, li35, li36, li60, li72, li100, li572, li2000, li2100, li9999, nI_lt_t, nI_lt_f, nI_le_t, nI_le_f, nI_eq_t, nI_eq_f, nI_eq_neg2, neg_eq_nI2, neg_lt2, neg_le2, nI_lt_neg2, nI_le_neg2, pred_t, pred_f, nI_clamp', vp_t, lt0_t, lt0_le, lt0_lt, lt0_eq, if_true, if_false, ite_true, ite_false, true_and, and_true, false_and, and_false, false_or, or_false, true_or, or_true, eq_self, fs_ne, fs_eq, fs_eq', st12, st13, st21, st23, st31, st32, not_true_eq_false, not_false_eq_true, em, em', en, en', et, et', eg, eg', ed, ed', es, es', eo', ee, ee', ev, ev']
              refine hI.end ?_
              repeat (first | exact Sm.refl _ | refine Sm.fs40 ?_ _ _ (by decide) | refine Sm.fsT ?_ _ _ _ _ rfl (by decide) (by decide))
theorem lastB_none {w : Nat → Int32} {x : Int32} : ∀ n, (∀ i, i < n → ¬ w i = x) → lastB w x n = -1 := by
  intro n
  induction n with
  | zero => intro _; rfl
  | succ n ih =>
    intro h
    unfold lastB
    rw [if_neg (h n (Nat.lt_succ_self n))]
    exact ih (fun i hi => h i (Nat.lt_succ_of_lt hi))
theorem c_log_new {k t n : Nat} {F : GF} (h : c_log k t F) (en : F 0 0 2 = nI n) (hn : n < 20) : F 33 n 1 = -nI 1 := by
  obtain ⟨N, h1, h2, h3, h4, h5, h6⟩ := h
  rw [h5 n hn]
  exact lastB_none N (fun i hi q => by
    obtain ⟨⟨p, p1, p2, p3⟩, -⟩ := h4 i hi
    have e := (nI_eq_iff (by omega) (by omega)).mp (p2.symm.trans q)
    rw [en] at p3
    have := (nI_lt_iff (by omega) (by omega)).mp p3
    omega)
set_option maxHeartbeats 1000000 in
set_option maxRecDepth 20000 in
theorem m4 {k : Nat} {F : GF} (hk : k < 512) (h : Inv k F) (a1 a2 a3 : Int32) : PL_4 a1 a2 a3 (Inv (k + 1)) F := by
  have hI := h
  obtain ⟨⟨q0, q1, q2, q3, q4, q5, q6, q7, q8, q9, q10, q11⟩, ⟨r0, r1, r2, r3, r4, r5, r6, r7, r8, r9, r10, r11, r12, r13, r14⟩, cb, lg⟩ := h
  have R1 := r1
  have R2 := r2
  have R3 := r3
  have R4 := r4
  obtain ⟨m, hm, em, hmc⟩ := r1
  have em' : F 40 0 6 = nI m := q2.1.trans em
  obtain ⟨n, hn, en⟩ := r2
  have en' : F 40 0 9 = nI n := q4.1.trans en
  obtain ⟨t, g, d, s, e, ht, et, hg, eg, hd, ed, hs, es, he, ee, hem, hg1, hg2, hg3⟩ := r3
  have et' : F 40 0 0 = nI t := q0.trans et
  have eg' : F 40 0 14 = nI g := q5.1.trans eg
  have ed' : F 40 0 15 = nI d := q5.2.1.trans ed
  have es' : F 40 0 16 = nI s := q5.2.2.1.trans es
  have eo' : F 40 0 17 = F 10 0 3 := q5.2.2.2.1
  have ee' : F 40 0 19 = nI e := q5.2.2.2.2.trans ee
  obtain ⟨⟨v, hv, ev⟩, hev⟩ := r4
  have ev' : F 40 0 26 = nI v := q8.1.trans ev
  have hlog := lg t et ht
  obtain ⟨N, hN, eN⟩ := hlog.n (by omega)
  obtain ⟨-, eM, hst, hla⟩ := hlog.stays eN (by omega) (by omega)
  rcases int_cases a1 with hneg_c | ⟨c, hbig_c, rfl⟩
  · rcases int_cases a2 with hneg_u | ⟨u, hbig_u, rfl⟩
    · by_cases n20 : n < 20
      · first
          | exfalso; omega
          | simp (disch := first | omega | assumption) only [PL_4, P_L_person, P_X10_person, P_X11_person, P_X10_needCrossing, P_X10_needRange, P_X11_isCrossing, P_X11_person_27, P_X11_in, P_X11_asked, P_X11_asked_10, P_X11_asked_, P_X11_asked__18, P_X11_asked__, P_X11_asked___26, P_X11_thrown, P_X11_told, ↓reduceIte, ↓forall_eq, li0, li1, li2, li3, li4, li5, li6, li7, li8, li10, li20, li30, li35, li36, li60, li72, li100, li572, li2000, li2100, li9999, nI_lt_t, nI_lt_f, nI_le_t, nI_le_f, nI_eq_t, nI_eq_f, nI_eq_neg2, neg_eq_nI2, neg_lt2, neg_le2, nI_lt_neg2, nI_le_neg2, pred_t, pred_f, nI_clamp', vp_t, lt0_t, lt0_le, lt0_lt, lt0_eq, if_true, if_false, ite_true, ite_false, true_and, and_true, false_and, and_false, false_or, or_false, true_or, or_true, eq_self, fs_ne, fs_eq, fs_eq', st12, st13, st21, st23, st31, st32, not_true_eq_false, not_false_eq_true, em, em', en, en', et, et', eg, eg', ed, ed', es, es', eo', ee, ee', ev, ev']
            refine hI.end ?_
            repeat (first | exact Sm.refl _ | refine Sm.fs40 ?_ _ _ (by decide) | refine Sm.fsT ?_ _ _ _ _ rfl (by decide) (by decide))
      · first
          | exfalso; omega
          | simp (disch := first | omega | assumption) only [PL_4, P_L_person, P_X10_person, P_X11_person, P_X10_needCrossing, P_X10_needRange, P_X11_isCrossing, P_X11_person_27, P_X11_in, P_X11_asked, P_X11_asked_10, P_X11_asked_, P_X11_asked__18, P_X11_asked__, P_X11_asked___26, P_X11_thrown, P_X11_told, ↓reduceIte, ↓forall_eq, li0, li1, li2, li3, li4, li5, li6, li7, li8, li10, li20, li30, li35, li36, li60, li72, li100, li572, li2000, li2100, li9999, nI_lt_t, nI_lt_f, nI_le_t, nI_le_f, nI_eq_t, nI_eq_f, nI_eq_neg2, neg_eq_nI2, neg_lt2, neg_le2, nI_lt_neg2, nI_le_neg2, pred_t, pred_f, nI_clamp', vp_t, lt0_t, lt0_le, lt0_lt, lt0_eq, if_true, if_false, ite_true, ite_false, true_and, and_true, false_and, and_false, false_or, or_false, true_or, or_true, eq_self, fs_ne, fs_eq, fs_eq', st12, st13, st21, st23, st31, st32, not_true_eq_false, not_false_eq_true, em, em', en, en', et, et', eg, eg', ed, ed', es, es', eo', ee, ee', ev, ev']
            refine hI.end ?_
            repeat (first | exact Sm.refl _ | refine Sm.fs40 ?_ _ _ (by decide) | refine Sm.fsT ?_ _ _ _ _ rfl (by decide) (by decide))
    · by_cases hlt_u : u < 2001
      · by_cases n20 : n < 20
        · first
            | exfalso; omega
            | simp (disch := first | omega | assumption) only [PL_4, P_L_person, P_X10_person, P_X11_person, P_X10_needCrossing, P_X10_needRange, P_X11_isCrossing, P_X11_person_27, P_X11_in, P_X11_asked, P_X11_asked_10, P_X11_asked_, P_X11_asked__18, P_X11_asked__, P_X11_asked___26, P_X11_thrown, P_X11_told, ↓reduceIte, ↓forall_eq, li0, li1, li2, li3, li4, li5, li6, li7, li8, li10, li20, li30, li35, li36, li60, li72, li100, li572, li2000, li2100, li9999, nI_lt_t, nI_lt_f, nI_le_t, nI_le_f, nI_eq_t, nI_eq_f, nI_eq_neg2, neg_eq_nI2, neg_lt2, neg_le2, nI_lt_neg2, nI_le_neg2, pred_t, pred_f, nI_clamp', vp_t, lt0_t, lt0_le, lt0_lt, lt0_eq, if_true, if_false, ite_true, ite_false, true_and, and_true, false_and, and_false, false_or, or_false, true_or, or_true, eq_self, fs_ne, fs_eq, fs_eq', st12, st13, st21, st23, st31, st32, not_true_eq_false, not_false_eq_true, em, em', en, en', et, et', eg, eg', ed, ed', es, es', eo', ee, ee', ev, ev']
              refine hI.end ?_
              repeat (first | exact Sm.refl _ | refine Sm.fs40 ?_ _ _ (by decide) | refine Sm.fsT ?_ _ _ _ _ rfl (by decide) (by decide))
        · first
            | exfalso; omega
            | simp (disch := first | omega | assumption) only [PL_4, P_L_person, P_X10_person, P_X11_person, P_X10_needCrossing, P_X10_needRange, P_X11_isCrossing, P_X11_person_27, P_X11_in, P_X11_asked, P_X11_asked_10, P_X11_asked_, P_X11_asked__18, P_X11_asked__, P_X11_asked___26, P_X11_thrown, P_X11_told, ↓reduceIte, ↓forall_eq, li0, li1, li2, li3, li4, li5, li6, li7, li8, li10, li20, li30, li35, li36, li60, li72, li100, li572, li2000, li2100, li9999, nI_lt_t, nI_lt_f, nI_le_t, nI_le_f, nI_eq_t, nI_eq_f, nI_eq_neg2, neg_eq_nI2, neg_lt2, neg_le2, nI_lt_neg2, nI_le_neg2, pred_t, pred_f, nI_clamp', vp_t, lt0_t, lt0_le, lt0_lt, lt0_eq, if_true, if_false, ite_true, ite_false, true_and, and_true, false_and, and_false, false_or, or_false, true_or, or_true, eq_self, fs_ne, fs_eq, fs_eq', st12, st13, st21, st23, st31, st32, not_true_eq_false, not_false_eq_true, em, em', en, en', et, et', eg, eg', ed, ed', es, es', eo', ee, ee', ev, ev']
              refine hI.end ?_
              repeat (first | exact Sm.refl _ | refine Sm.fs40 ?_ _ _ (by decide) | refine Sm.fsT ?_ _ _ _ _ rfl (by decide) (by decide))
      · by_cases n20 : n < 20
        · first
            | exfalso; omega
            | simp (disch := first | omega | assumption) only [PL_4, P_L_person, P_X10_person, P_X11_person, P_X10_needCrossing, P_X10_needRange, P_X11_isCrossing, P_X11_person_27, P_X11_in, P_X11_asked, P_X11_asked_10, P_X11_asked_, P_X11_asked__18, P_X11_asked__, P_X11_asked___26, P_X11_thrown, P_X11_told, ↓reduceIte, ↓forall_eq, li0, li1, li2, li3, li4, li5, li6, li7, li8, li10, li20, li30, li35, li36, li60, li72, li100, li572, li2000, li2100, li9999, nI_lt_t, nI_lt_f, nI_le_t, nI_le_f, nI_eq_t, nI_eq_f, nI_eq_neg2, neg_eq_nI2, neg_lt2, neg_le2, nI_lt_neg2, nI_le_neg2, pred_t, pred_f, nI_clamp', vp_t, lt0_t, lt0_le, lt0_lt, lt0_eq, if_true, if_false, ite_true, ite_false, true_and, and_true, false_and, and_false, false_or, or_false, true_or, or_true, eq_self, fs_ne, fs_eq, fs_eq', st12, st13, st21, st23, st31, st32, not_true_eq_false, not_false_eq_true, em, em', en, en', et, et', eg, eg', ed, ed', es, es', eo', ee, ee', ev, ev']
              refine hI.end ?_
              repeat (first | exact Sm.refl _ | refine Sm.fs40 ?_ _ _ (by decide) | refine Sm.fsT ?_ _ _ _ _ rfl (by decide) (by decide))
        · first
            | exfalso; omega
            | simp (disch := first | omega | assumption) only [PL_4, P_L_person, P_X10_person, P_X11_person, P_X10_needCrossing, P_X10_needRange, P_X11_isCrossing, P_X11_person_27, P_X11_in, P_X11_asked, P_X11_asked_10, P_X11_asked_, P_X11_asked__18, P_X11_asked__, P_X11_asked___26, P_X11_thrown, P_X11_told, ↓reduceIte, ↓forall_eq, li0, li1, li2, li3, li4, li5, li6, li7, li8, li10, li20, li30, li35, li36, li60, li72, li100, li572, li2000, li2100, li9999, nI_lt_t, nI_lt_f, nI_le_t, nI_le_f, nI_eq_t, nI_eq_f, nI_eq_neg2, neg_eq_nI2, neg_lt2, neg_le2, nI_lt_neg2, nI_le_neg2, pred_t, pred_f, nI_clamp', vp_t, lt0_t, lt0_le, lt0_lt, lt0_eq, if_true, if_false, ite_true, ite_false, true_and, and_true, false_and, and_false, false_or, or_false, true_or, or_true, eq_self, fs_ne, fs_eq, fs_eq', st12, st13, st21, st23, st31, st32, not_true_eq_false, not_false_eq_true, em, em', en, en', et, et', eg, eg', ed, ed', es, es', eo', ee, ee', ev, ev']
              refine hI.end ?_
              repeat (first | exact Sm.refl _ | refine Sm.fs40 ?_ _ _ (by decide) | refine Sm.fsT ?_ _ _ _ _ rfl (by decide) (by decide))
  · by_cases hlt_c : c < 36
    · rcases int_cases a2 with hneg_u | ⟨u, hbig_u, rfl⟩
      · by_cases n20 : n < 20
        · first
            | exfalso; omega
            | simp (disch := first | omega | assumption) only [PL_4, P_L_person, P_X10_person, P_X11_person, P_X10_needCrossing, P_X10_needRange, P_X11_isCrossing, P_X11_person_27, P_X11_in, P_X11_asked, P_X11_asked_10, P_X11_asked_, P_X11_asked__18, P_X11_asked__, P_X11_asked___26, P_X11_thrown, P_X11_told, ↓reduceIte, ↓forall_eq, li0, li1, li2, li3, li4, li5, li6, li7, li8, li10, li20, li30, li35, li36, li60, li72, li100, li572, li2000, li2100, li9999, nI_lt_t, nI_lt_f, nI_le_t, nI_le_f, nI_eq_t, nI_eq_f, nI_eq_neg2, neg_eq_nI2, neg_lt2, neg_le2, nI_lt_neg2, nI_le_neg2, pred_t, pred_f, nI_clamp', vp_t, lt0_t, lt0_le, lt0_lt, lt0_eq, if_true, if_false, ite_true, ite_false, true_and, and_true, false_and, and_false, false_or, or_false, true_or, or_true, eq_self, fs_ne, fs_eq, fs_eq', st12, st13, st21, st23, st31, st32, not_true_eq_false, not_false_eq_true, em, em', en, en', et, et', eg, eg', ed, ed', es, es', eo', ee, ee', ev, ev']
              refine hI.end ?_
              repeat (first | exact Sm.refl _ | refine Sm.fs40 ?_ _ _ (by decide) | refine Sm.fsT ?_ _ _ _ _ rfl (by decide) (by decide))
        · first
            | exfalso; omega
            | simp (disch := first | omega | assumption) only [PL_4, P_L_person, P_X10_person, P_X11_person, P_X10_needCrossing, P_X10_needRange, P_X11_isCrossing, P_X11_person_27, P_X11_in, P_X11_asked, P_X11_asked_10, P_X11_asked_, P_X11_asked__18, P_X11_asked__, P_X11_asked___26, P_X11_thrown, P_X11_told, ↓reduceIte, ↓forall_eq, li0, li1, li2, li3, li4, li5, li6, li7, li8, li10, li20, li30, li35, li36, li60, li72, li100, li572, li2000, li2100, li9999, nI_lt_t, nI_lt_f, nI_le_t, nI_le_f, nI_eq_t, nI_eq_f, nI_eq_neg2, neg_eq_nI2, neg_lt2, neg_le2, nI_lt_neg2, nI_le_neg2, pred_t, pred_f, nI_clamp', vp_t, lt0_t, lt0_le, lt0_lt, lt0_eq, if_true, if_false, ite_true, ite_false, true_and, and_true, false_and, and_false, false_or, or_false, true_or, or_true, eq_self, fs_ne, fs_eq, fs_eq', st12, st13, st21, st23, st31, st32, not_true_eq_false, not_false_eq_true, em, em', en, en', et, et', eg, eg', ed, ed', es, es', eo', ee, ee', ev, ev']
              refine hI.end ?_
              repeat (first | exact Sm.refl _ | refine Sm.fs40 ?_ _ _ (by decide) | refine Sm.fsT ?_ _ _ _ _ rfl (by decide) (by decide))
      · by_cases hlt_u : u < 2001
        · by_cases n20 : n < 20
          · have hg := gcn_of eN (by omega)
            have hgok : gok F := gok_of hlog eN (by omega)
            have hg7 : gcn (fs F 33 n 0 (nI u)) = N := hg
            have hgok7 : gok (fs F 33 n 0 (nI u)) := by
              refine ⟨fun i hi => ?_, fun i hi => ?_⟩
              · have := hgok.1 i hi
                rw [hg7, fs_ne (by omega)]
                rw [hg] at this
                exact this
              · rw [hg7] at hi ⊢
                have := hgok.2 i (by rw [hg]; exact hi)
                rw [hg] at this
                exact this
            have hN31 : N + 1 < 2 ^ 31 := by omega
            simp (disch := first | omega | assumption) only [PL_4, P_L_person, P_X10_person, P_X11_person, P_X10_needCrossing, P_X10_needRange, P_X11_isCrossing, P_X11_person_27, P_X11_in, P_X11_asked, P_X11_asked_10, P_X11_asked_, P_X11_asked__18, P_X11_asked__, P_X11_asked___26, P_X11_thrown, P_X11_told, ↓reduceIte, ↓forall_eq, li0, li1, li2, li3, li4, li5, li6, li7, li8, li10, li20, li30, li35, li36, li60, li72, li100, li572, li2000, li2100, li9999, nI_lt_t, nI_lt_f, nI_le_t, nI_le_f, nI_eq_t, nI_eq_f, nI_eq_neg2, neg_eq_nI2, neg_lt2, neg_le2, nI_lt_neg2, nI_le_neg2, pred_t, pred_f, nI_clamp', vp_t, lt0_t, lt0_le, lt0_lt, lt0_eq, if_true, if_false, ite_true, ite_false, true_and, and_true, false_and, and_false, false_or, or_false, true_or, or_true, eq_self, fs_ne, fs_eq, fs_eq', st12, st13, st21, st23, st31, st32, not_true_eq_false, not_false_eq_true, P_X8_init, fnew, P_X11_comes, em, em', en, en', et, et', eg, eg', ed, ed', es, es', eo', ee, ee', ev, ev', hg7, hgok7, hN31, eM, eN, nI_add, nI_sub, Nat.add_sub_cancel]
            refine ⟨⟨q0, q1, q2, q3, ?_, q5, q6, q7, q8, q9, q10, q11⟩, ⟨r0, R1, ⟨n + 1, by omega, by simp (disch := omega) only [fs_ne, fs_eq]⟩, R3, R4, r5, r6, r7, b_vot.fam (F := F) rfl rfl r8, r9, r10, r11, r12, r13, r14⟩, c_book_mono (c_book.fam (F := F) rfl rfl rfl cb), fun t2 h1 h2 => ?_⟩
            · refine ⟨by simp (disch := omega) only [fs_ne, fs_eq], fun q hq => ?_⟩
              by_cases e : q = n
              · subst e
                refine ⟨by simp (disch := omega) only [fs_ne, fs_eq], ?_⟩
                simp (disch := omega) only [fs_ne]
                exact (q4.2 q hq).2
              · refine ⟨?_, ?_⟩ <;> simp (disch := omega) only [fs_ne]
                · exact (q4.2 q hq).1
                · exact (q4.2 q hq).2
            · obtain rfl : t2 = t := (nI_eq_iff (by omega) (by omega)).mp (h1.symm.trans et)
              refine c_log_step (n := N) (p := n) (c := c) hlog hk eN (by omega) (by omega) hlt_c ?_ ?_ ?_ ?_ ?_ ?_ ?_ ?_ ?_ ?_ ?_ ?_ ?_ ?_ ?_ ?_ ?_
              · simp (disch := omega) only [fs_ne, fs_eq]
              · simp (disch := omega) only [fs_ne, fs_eq]
              · intro j hj; simp (disch := omega) only [fs_ne]
              · simp (disch := omega) only [fs_ne, fs_eq]
              · intro j hj; simp (disch := omega) only [fs_ne]
              · simp (disch := omega) only [fs_ne, fs_eq]
              · intro j hj; simp (disch := omega) only [fs_ne]
              · simp (disch := omega) only [fs_ne, fs_eq]
              · intro j s hj; simp (disch := omega) only [fs_ne]
              · simp (disch := omega) only [fs_ne, fs_eq]
              · simp (disch := omega) only [fs_ne, fs_eq]
              · simp (disch := omega) only [fs_ne, fs_eq]; exact (c_log_new hlog en n20).symm
              · intro q hq; simp (disch := omega) only [fs_ne]
              · simp (disch := omega) only [fs_ne, fs_eq]
              · simp (disch := omega) only [fs_ne, fs_eq]; exact nI_lt (by omega) (by omega)
              · intro q hq hlt; simp (disch := omega) only [fs_ne, fs_eq]; rw [en] at hlt; rw [nI_lt_iff (by omega) (by omega)] at hlt ⊢; omega
              · intro q hq hlt; simp (disch := omega) only [fs_ne, fs_eq] at hlt; rw [en]; rw [nI_lt_iff (by omega) (by omega)] at hlt ⊢; omega
          · first
              | exfalso; omega
              | simp (disch := first | omega | assumption) only [PL_4, P_L_person, P_X10_person, P_X11_person, P_X10_needCrossing, P_X10_needRange, P_X11_isCrossing, P_X11_person_27, P_X11_in, P_X11_asked, P_X11_asked_10, P_X11_asked_, P_X11_asked__18, P_X11_asked__, P_X11_asked___26, P_X11_thrown, P_X11_told, ↓reduceIte, ↓forall_eq, li0, li1, li2, li3, li4, li5, li6, li7, li8, li10, li20, li30, li35, li36, li60, li72, li100, li572, li2000, li2100, li9999, nI_lt_t, nI_lt_f, nI_le_t, nI_le_f, nI_eq_t, nI_eq_f, nI_eq_neg2, neg_eq_nI2, neg_lt2, neg_le2, nI_lt_neg2, nI_le_neg2, pred_t, pred_f, nI_clamp', vp_t, lt0_t, lt0_le, lt0_lt, lt0_eq, if_true, if_false, ite_true, ite_false, true_and, and_true, false_and, and_false, false_or, or_false, true_or, or_true, eq_self, fs_ne, fs_eq, fs_eq', st12, st13, st21, st23, st31, st32, not_true_eq_false, not_false_eq_true, em, em', en, en', et, et', eg, eg', ed, ed', es, es', eo', ee, ee', ev, ev']
                refine hI.end ?_
                repeat (first | exact Sm.refl _ | refine Sm.fs40 ?_ _ _ (by decide) | refine Sm.fsT ?_ _ _ _ _ rfl (by decide) (by decide))
        · by_cases n20 : n < 20
          · first
              | exfalso; omega
              | simp (disch := first | omega | assumption) only [PL_4, P_L_person, P_X10_person, P_X11_person, P_X10_needCrossing, P_X10_needRange, P_X11_isCrossing, P_X11_person_27, P_X11_in, P_X11_asked, P_X11_asked_10, P_X11_asked_, P_X11_asked__18, P_X11_asked__, P_X11_asked___26, P_X11_thrown, P_X11_told, ↓reduceIte, ↓forall_eq, li0, li1, li2, li3, li4, li5, li6, li7, li8, li10, li20, li30, li35, li36, li60, li72, li100, li572, li2000, li2100, li9999, nI_lt_t, nI_lt_f, nI_le_t, nI_le_f, nI_eq_t, nI_eq_f, nI_eq_neg2, neg_eq_nI2, neg_lt2, neg_le2, nI_lt_neg2, nI_le_neg2, pred_t, pred_f, nI_clamp', vp_t, lt0_t, lt0_le, lt0_lt, lt0_eq, if_true, if_false, ite_true, ite_false, true_and, and_true, false_and, and_false, false_or, or_false, true_or, or_true, eq_self, fs_ne, fs_eq, fs_eq', st12, st13, st21, st23, st31, st32, not_true_eq_false, not_false_eq_true, em, em', en, en', et, et', eg, eg', ed, ed', es, es', eo', ee, ee', ev, ev']
                refine hI.end ?_
                repeat (first | exact Sm.refl _ | refine Sm.fs40 ?_ _ _ (by decide) | refine Sm.fsT ?_ _ _ _ _ rfl (by decide) (by decide))
          · first
              | exfalso; omega
              | simp (disch := first | omega | assumption) only [PL_4, P_L_person, P_X10_person, P_X11_person, P_X10_needCrossing, P_X10_needRange, P_X11_isCrossing, P_X11_person_27, P_X11_in, P_X11_asked, P_X11_asked_10, P_X11_asked_, P_X11_asked__18, P_X11_asked__, P_X11_asked___26, P_X11_thrown, P_X11_told, ↓reduceIte, ↓forall_eq, li0, li1, li2, li3, li4, li5, li6, li7, li8, li10, li20, li30, li35, li36, li60, li72, li100, li572, li2000, li2100, li9999, nI_lt_t, nI_lt_f, nI_le_t, nI_le_f, nI_eq_t, nI_eq_f, nI_eq_neg2, neg_eq_nI2, neg_lt2, neg_le2, nI_lt_neg2, nI_le_neg2, pred_t, pred_f, nI_clamp', vp_t, lt0_t, lt0_le, lt0_lt, lt0_eq, if_true, if_false, ite_true, ite_false, true_and, and_true, false_and, and_false, false_or, or_false, true_or, or_true, eq_self, fs_ne, fs_eq, fs_eq', st12, st13, st21, st23, st31, st32, not_true_eq_false, not_false_eq_true, em, em', en, en', et, et', eg, eg', ed, ed', es, es', eo', ee, ee', ev, ev']
                refine hI.end ?_
                repeat (first | exact Sm.refl _ | refine Sm.fs40 ?_ _ _ (by decide) | refine Sm.fsT ?_ _ _ _ _ rfl (by decide) (by decide))
    · rcases int_cases a2 with hneg_u | ⟨u, hbig_u, rfl⟩
      · by_cases n20 : n < 20
        · first
            | exfalso; omega
            | simp (disch := first | omega | assumption) only [PL_4, P_L_person, P_X10_person, P_X11_person, P_X10_needCrossing, P_X10_needRange, P_X11_isCrossing, P_X11_person_27, P_X11_in, P_X11_asked, P_X11_asked_10, P_X11_asked_, P_X11_asked__18, P_X11_asked__, P_X11_asked___26, P_X11_thrown, P_X11_told, ↓reduceIte, ↓forall_eq, li0, li1, li2, li3, li4, li5, li6, li7, li8, li10, li20, li30, li35, li36, li60, li72, li100, li572, li2000, li2100, li9999, nI_lt_t, nI_lt_f, nI_le_t, nI_le_f, nI_eq_t, nI_eq_f, nI_eq_neg2, neg_eq_nI2, neg_lt2, neg_le2, nI_lt_neg2, nI_le_neg2, pred_t, pred_f, nI_clamp', vp_t, lt0_t, lt0_le, lt0_lt, lt0_eq, if_true, if_false, ite_true, ite_false, true_and, and_true, false_and, and_false, false_or, or_false, true_or, or_true, eq_self, fs_ne, fs_eq, fs_eq', st12, st13, st21, st23, st31, st32, not_true_eq_false, not_false_eq_true, em, em', en, en', et, et', eg, eg', ed, ed', es, es', eo', ee, ee', ev, ev']
              refine hI.end ?_
              repeat (first | exact Sm.refl _ | refine Sm.fs40 ?_ _ _ (by decide) | refine Sm.fsT ?_ _ _ _ _ rfl (by decide) (by decide))
        · first
            | exfalso; omega
            | simp (disch := first | omega | assumption) only [PL_4, P_L_person, P_X10_person, P_X11_person, P_X10_needCrossing, P_X10_needRange, P_X11_isCrossing, P_X11_person_27, P_X11_in, P_X11_asked, P_X11_asked_10, P_X11_asked_, P_X11_asked__18, P_X11_asked__, P_X11_asked___26, P_X11_thrown, P_X11_told, ↓reduceIte, ↓forall_eq, li0, li1, li2, li3, li4, li5, li6, li7, li8, li10, li20, li30, li35, li36, li60, li72, li100, li572, li2000, li2100, li9999, nI_lt_t, nI_lt_f, nI_le_t, nI_le_f, nI_eq_t, nI_eq_f, nI_eq_neg2, neg_eq_nI2, neg_lt2, neg_le2, nI_lt_neg2, nI_le_neg2, pred_t, pred_f, nI_clamp', vp_t, lt0_t, lt0_le, lt0_lt, lt0_eq, if_true, if_false, ite_true, ite_false, true_and, and_true, false_and, and_false, false_or, or_false, true_or, or_true, eq_self, fs_ne, fs_eq, fs_eq', st12, st13, st21, st23, st31, st32, not_true_eq_false, not_false_eq_true, em, em', en, en', et, et', eg, eg', ed, ed', es, es', eo', ee, ee', ev, ev']
              refine hI.end ?_
              repeat (first | exact Sm.refl _ | refine Sm.fs40 ?_ _ _ (by decide) | refine Sm.fsT ?_ _ _ _ _ rfl (by decide) (by decide))
      · by_cases hlt_u : u < 2001
        · by_cases n20 : n < 20
          · first
              | exfalso; omega
              | simp (disch := first | omega | assumption) only [PL_4, P_L_person, P_X10_person, P_X11_person, P_X10_needCrossing, P_X10_needRange, P_X11_isCrossing, P_X11_person_27, P_X11_in, P_X11_asked, P_X11_asked_10, P_X11_asked_, P_X11_asked__18, P_X11_asked__, P_X11_asked___26, P_X11_thrown, P_X11_told, ↓reduceIte, ↓forall_eq, li0, li1, li2, li3, li4, li5, li6, li7, li8, li10, li20, li30, li35, li36, li60, li72, li100, li572, li2000, li2100, li9999, nI_lt_t, nI_lt_f, nI_le_t, nI_le_f, nI_eq_t, nI_eq_f, nI_eq_neg2, neg_eq_nI2, neg_lt2, neg_le2, nI_lt_neg2, nI_le_neg2, pred_t, pred_f, nI_clamp', vp_t, lt0_t, lt0_le, lt0_lt, lt0_eq, if_true, if_false, ite_true, ite_false, true_and, and_true, false_and, and_false, false_or, or_false, true_or, or_true, eq_self, fs_ne, fs_eq, fs_eq', st12, st13, st21, st23, st31, st32, not_true_eq_false, not_false_eq_true, em, em', en, en', et, et', eg, eg', ed, ed', es, es', eo', ee, ee', ev, ev']
                refine hI.end ?_
                repeat (first | exact Sm.refl _ | refine Sm.fs40 ?_ _ _ (by decide) | refine Sm.fsT ?_ _ _ _ _ rfl (by decide) (by decide))
          · first
              | exfalso; omega
              | simp (disch := first | omega | assumption) only [PL_4, P_L_person, P_X10_person, P_X11_person, P_X10_needCrossing, P_X10_needRange, P_X11_isCrossing, P_X11_person_27, P_X11_in, P_X11_asked, P_X11_asked_10, P_X11_asked_, P_X11_asked__18, P_X11_asked__, P_X11_asked___26, P_X11_thrown, P_X11_told, ↓reduceIte, ↓forall_eq, li0, li1, li2, li3, li4, li5, li6, li7, li8, li10, li20, li30, li35, li36, li60, li72, li100, li572, li2000, li2100, li9999, nI_lt_t, nI_lt_f, nI_le_t, nI_le_f, nI_eq_t, nI_eq_f, nI_eq_neg2, neg_eq_nI2, neg_lt2, neg_le2, nI_lt_neg2, nI_le_neg2, pred_t, pred_f, nI_clamp', vp_t, lt0_t, lt0_le, lt0_lt, lt0_eq, if_true, if_false, ite_true, ite_false, true_and, and_true, false_and, and_false, false_or, or_false, true_or, or_true, eq_self, fs_ne, fs_eq, fs_eq', st12, st13, st21, st23, st31, st32, not_true_eq_false, not_false_eq_true, em, em', en, en', et, et', eg, eg', ed, ed', es, es', eo', ee, ee', ev, ev']
                refine hI.end ?_
                repeat (first | exact Sm.refl _ | refine Sm.fs40 ?_ _ _ (by decide) | refine Sm.fsT ?_ _ _ _ _ rfl (by decide) (by decide))
        · by_cases n20 : n < 20
          · first
              | exfalso; omega
              | simp (disch := first | omega | assumption) only [PL_4, P_L_person, P_X10_person, P_X11_person, P_X10_needCrossing, P_X10_needRange, P_X11_isCrossing, P_X11_person_27, P_X11_in, P_X11_asked, P_X11_asked_10, P_X11_asked_, P_X11_asked__18, P_X11_asked__, P_X11_asked___26, P_X11_thrown, P_X11_told, ↓reduceIte, ↓forall_eq, li0, li1, li2, li3, li4, li5, li6, li7, li8, li10, li20, li30, li35, li36, li60, li72, li100, li572, li2000, li2100, li9999, nI_lt_t, nI_lt_f, nI_le_t, nI_le_f, nI_eq_t, nI_eq_f, nI_eq_neg2, neg_eq_nI2, neg_lt2, neg_le2, nI_lt_neg2, nI_le_neg2, pred_t, pred_f, nI_clamp', vp_t, lt0_t, lt0_le, lt0_lt, lt0_eq, if_true, if_false, ite_true, ite_false, true_and, and_true, false_and, and_false, false_or, or_false, true_or, or_true, eq_self, fs_ne, fs_eq, fs_eq', st12, st13, st21, st23, st31, st32, not_true_eq_false, not_false_eq_true, em, em', en, en', et, et', eg, eg', ed, ed', es, es', eo', ee, ee', ev, ev']
                refine hI.end ?_
                repeat (first | exact Sm.refl _ | refine Sm.fs40 ?_ _ _ (by decide) | refine Sm.fsT ?_ _ _ _ _ rfl (by decide) (by decide))
          · first
              | exfalso; omega
              | simp (disch := first | omega | assumption) only [PL_4, P_L_person, P_X10_person, P_X11_person, P_X10_needCrossing, P_X10_needRange, P_X11_isCrossing, P_X11_person_27, P_X11_in, P_X11_asked, P_X11_asked_10, P_X11_asked_, P_X11_asked__18, P_X11_asked__, P_X11_asked___26, P_X11_thrown, P_X11_told, ↓reduceIte, ↓forall_eq, li0, li1, li2, li3, li4, li5, li6, li7, li8, li10, li20, li30, li35, li36, li60, li72, li100, li572, li2000, li2100, li9999, nI_lt_t, nI_lt_f, nI_le_t, nI_le_f, nI_eq_t, nI_eq_f, nI_eq_neg2, neg_eq_nI2, neg_lt2, neg_le2, nI_lt_neg2, nI_le_neg2, pred_t, pred_f, nI_clamp', vp_t, lt0_t, lt0_le, lt0_lt, lt0_eq, if_true, if_false, ite_true, ite_false, true_and, and_true, false_and, and_false, false_or, or_false, true_or, or_true, eq_self, fs_ne, fs_eq, fs_eq', st12, st13, st21, st23, st31, st32, not_true_eq_false, not_false_eq_true, em, em', en, en', et, et', eg, eg', ed, ed', es, es', eo', ee, ee', ev, ev']
                refine hI.end ?_
                repeat (first | exact Sm.refl _ | refine Sm.fs40 ?_ _ _ (by decide) | refine Sm.fsT ?_ _ _ _ _ rfl (by decide) (by decide))
