theorem Ed_congr {F F' : GF} (h : F' 2 = F 2) : Ed F' = Ed F := by
  funext x y
  unfold Ed
  rw [h]
theorem vis_congr {F F' : GF} (h : F' 2 = F 2) : vis F' = vis F := by
  funext x s y
  unfold vis
  rw [Ed_congr h]
theorem bfsN_congr {F F' : GF} (h : F' 2 = F 2) : ∀ f i s, bfsN F' f i s = bfsN F f i s := by
  intro f
  induction f with
  | zero => intro i s; rfl
  | succ f ih =>
    intro i s
    unfold bfsN stepM
    rw [vis_congr h]
    by_cases hi : s.2.2 ≤ i
    · rw [if_pos hi, if_pos hi]
    · rw [if_neg hi, if_neg hi]
      exact ih (i + 1) _
theorem farN_congr {F F' : GF} (h : F' 2 = F 2) (x : Nat) : farN F' x = farN F x := by
  unfold farN
  rw [bfsN_congr h]
theorem smod_Ed {F : GF} {x y : Nat} (hbar : ∀ q, q < 36 → F 41 0 q = F 2 0 (2 * q) ∧ F 41 0 (36 + q) = F 2 0 (2 * q + 1)) (hx : x < 36) (hy : y < 36) : smod x y = -1 ∧ Ed F x y = false ∨ ∃ q, q < 72 ∧ smod x y = nI q ∧ Ed F x y = decide (F 41 0 q = 0) := by
  have hm : min x y < 36 := by omega
  unfold smod Ed
  by_cases h6 : max x y - min x y = 6
  · rw [if_neg (by omega), if_pos h6, if_pos h6]
    exact Or.inr ⟨36 + min x y, by omega, rfl, by rw [(hbar _ hm).2]⟩
  · rw [if_neg h6, if_neg h6]
    by_cases h1 : max x y - min x y = 1 ∧ max x y % 6 ≠ 0
    · rw [if_pos h1, if_pos h1]
      exact Or.inr ⟨min x y, by omega, rfl, by rw [(hbar _ hm).1]⟩
    · rw [if_neg h1, if_neg h1]
      exact Or.inl ⟨rfl, rfl⟩
/-- the reference looks at one crossing -/
theorem vm_one {F F0 : GF} {s : BS} {x y i n : Nat} {k39 : GF → Int32 → Int32 → Prop} {K : GF → Prop} (hbar : ∀ q, q < 36 → F0 41 0 q = F0 2 0 (2 * q) ∧ F0 41 0 (36 + q) = F0 2 0 (2 * q + 1)) (hs : BI s) (hi : i < s.2.2) (hxi : s.2.1 i = x) (hy : y < 36) (hB : BM F0 s F) (hK : ∀ F1, BM F0 (vis F0 x s y) F1 → P_X11_finds_47 k39 K n F1 (nI (vis F0 x s y).2.2) (nI i) (nI (y + 1))) : P_X11_finds_47 k39 K (n + 1) F (nI s.2.2) (nI i) (nI y) := by
  obtain ⟨z1, z2⟩ := hs.2.2 i hi
  rw [hxi] at z1 z2
  have hle := hs.le
  have hv := vis_BI (F := F0) hs z1 hy z2
  have h43 : F 43 0 i = nI x := by rw [hB.2.2 i hi, hxi]
  unfold P_X11_finds_47 P_X11_finds_125
  rw [if_neg (show ¬ (36 : Int32) ≤ nI y from nI_ge (b := 36) hy (by omega)), nI_clamp' (by omega), h43]
  refine ⟨nI_in (by omega) (by omega), st_mod z1 hy ?_⟩
  have skip : ¬ (Ed F0 x y = true ∧ s.1 y = -1) → P_X11_finds_47 k39 K n F (nI s.2.2) (nI i) (nI y + 1) := by
    intro hno
    have e : vis F0 x s y = s := by unfold vis; rw [if_neg hno]
    rw [e] at hK
    rw [← nI_succ]
    exact hK F hB
  rcases smod_Ed hbar z1 hy with ⟨e1, e2⟩ | ⟨q, hq, e1, e2⟩
  · rw [e1, if_pos rfl]
    exact skip (fun z => by rw [e2] at z; cases z.1)
  · have hne : ¬ nI q = -1 := fun z => by have h := nI_eq_neg (a := q) (by omega); rw [h] at z; exact z
    rw [e1, if_neg hne, nI_clamp' (by omega), nI_clamp' (by omega), hB.1 41 (by decide) (by decide), hB.2.1 y hy]
    refine ⟨nI_in (by omega) (by omega), ?_⟩
    by_cases hb : F0 41 0 q = 0
    · rw [if_pos hb]
      refine ⟨nI_in (by omega) (by omega), ?_⟩
      by_cases hd : s.1 y = -1
      · have hE : Ed F0 x y = true ∧ s.1 y = -1 := ⟨by rw [e2]; exact decide_eq_true hb, hd⟩
        have hlt := hv.2.2.2.2 hE
        rw [if_pos hd, h43, nI_clamp' (by omega), hB.2.1 x z1]
        have e : vis F0 x s y = (updI s.1 y (s.1 x + 1), (fun q => if q = s.2.2 then y else s.2.1 q), s.2.2 + 1) := by unfold vis; rw [if_pos hE]
        rw [e] at hK
        refine ⟨nI_in (by omega) (by omega), nI_in (by omega) (by omega), nI_in (by omega) (by omega), fun F19 e19 => ⟨nI_in (by omega) (by omega), fun F21 e21 => ?_⟩⟩
        rw [← nI_succ, ← nI_succ]
        refine hK F21 ⟨fun f a b => ?_, fun u hu => ?_, fun j hj => ?_⟩
        · rw [e21, e19, fs_fam b, fs_fam a]
          exact hB.1 f a b
        · rw [e21, fs_fam (by decide), e19]
          show _ = (if u = y then s.1 x + 1 else s.1 u)
          by_cases eu : u = y
          · subst eu
            rw [fs_eq, if_pos rfl]
          · rw [fs_ne (Or.inr (Or.inr eu)), if_neg eu]
            exact hB.2.1 u hu
        · rw [e21, nI_clamp' (by omega)]
          show _ = nI (if j = s.2.2 then y else s.2.1 j)
          by_cases ej : j = s.2.2
          · subst ej
            rw [fs_eq, if_pos rfl]
          · rw [fs_ne (Or.inr (Or.inr ej)), if_neg ej, e19, fs_fam (by decide)]
            have hj2 : j < s.2.2 + 1 := hj
            exact hB.2.2 j (by omega)
      · rw [if_neg hd]
        exact skip (fun z => hd z.2)
    · rw [if_neg hb]
      exact skip (fun z => by rw [e2] at z; exact hb (of_decide_eq_true z.1))
/-- one place of the reference's row -/
theorem place_mod {F0 : GF} {s : BS} {i : Nat} {k39 : GF → Int32 → Int32 → Prop} {K : GF → Prop} (hbar : ∀ q, q < 36 → F0 41 0 q = F0 2 0 (2 * q) ∧ F0 41 0 (36 + q) = F0 2 0 (2 * q + 1)) (hs : BI s) (hi : i < s.2.2) (hK : ∀ F1, BM F0 (stepM F0 (s.2.1 i) s) F1 → k39 F1 (nI (stepM F0 (s.2.1 i) s).2.2) (nI (i + 1))) : ∀ m y F, y + m = 36 → BM F0 ((List.range y).foldl (vis F0 (s.2.1 i)) s) F → P_X11_finds_47 k39 K (m + 1) F (nI ((List.range y).foldl (vis F0 (s.2.1 i)) s).2.2) (nI i) (nI y) := by
  obtain ⟨z1, z2⟩ := hs.2.2 i hi
  intro m
  induction m with
  | zero =>
    intro y F hy hB
    obtain rfl : y = 36 := by omega
    unfold P_X11_finds_47
    rw [if_pos (show (36 : Int32) ≤ nI 36 by decide), ← nI_succ]
    exact hK F hB
  | succ m ih =>
    intro y F hy hB
    obtain ⟨b1, b2, b3, b4⟩ := fold_BI (F := F0) z1 (List.range y) s (fun u hu => by have := List.mem_range.mp hu; omega) hs z2
    refine vm_one hbar b1 (by omega) (b4 i hi) (by omega) hB (fun F1 hB1 => ?_)
    have e : (List.range (y + 1)).foldl (vis F0 (s.2.1 i)) s = vis F0 (s.2.1 i) ((List.range y).foldl (vis F0 (s.2.1 i)) s) y := by
      rw [List.range_succ, List.foldl_append]
      rfl
    have h := ih (y + 1) F1 (by omega)
    rw [e] at h
    exact h hB1
theorem fd_mod {F0 : GF} {x : Nat} {K : GF → Prop} (hbar : ∀ q, q < 36 → F0 41 0 q = F0 2 0 (2 * q) ∧ F0 41 0 (36 + q) = F0 2 0 (2 * q + 1)) (hx : x < 36) (hK : ∀ F1, (∀ f, f ≠ 42 → f ≠ 43 → F1 f = F0 f) → (∀ y, y < 36 → F1 42 0 y = farN F0 x y) → K F1) : P_X11_finds F0 (nI x) K := by
  have key : ∀ m i s F, i + m = 37 → BI s → i ≤ s.2.2 → BM F0 s F → (bfsN F0 m i s).1 = farN F0 x → P_X11_finds_39 K m F (nI s.2.2) (nI i) := by
    intro m
    induction m with
    | zero =>
      intro i s F hi hs his hB hf
      have := hs.le
      omega
    | succ m ih =>
      intro i s F hi hs his hB hf
      have hle := hs.le
      unfold P_X11_finds_39
      by_cases h : s.2.2 ≤ i
      · rw [if_pos (nI_le h (by omega))]
        unfold bfsN at hf
        rw [if_pos h] at hf
        exact hK F hB.1 (fun y hy => by rw [hB.2.1 y hy, hf])
      · obtain ⟨r1, r2⟩ := hs.2.2 i (by omega)
        unfold bfsN at hf
        rw [if_neg h] at hf
        obtain ⟨b1, b2, b3, b4⟩ := fold_BI (F := F0) r1 (List.range 36) s (fun y hy => List.mem_range.mp hy) hs r2
        rw [if_neg (nI_ge (by omega) (by omega))]
        refine ⟨37, ?_⟩
        exact place_mod (k39 := fun F a0 a1 => P_X11_finds_39 K m F a0 a1) (K := K) hbar hs (by omega) (fun F1 hB1 => ih (i + 1) _ F1 (by omega) b1 (Nat.le_trans (by omega) b3) hB1 hf) 36 0 F rfl hB
  have fil : ∀ m j F, j + m = 36 → (∀ f, f ≠ 42 → f ≠ 43 → F f = F0 f) → (∀ y, y < j → F 42 0 y = -1) → P_X11_finds_2 K (m + 1) F (nI x) (nI j) := by
    intro m
    induction m with
    | zero =>
      intro j F hj h1 h2
      obtain rfl : j = 36 := by omega
      unfold P_X11_finds_2
      rw [if_pos (show (36 : Int32) ≤ nI 36 by decide), nI_clamp' (by omega)]
      refine ⟨nI_in hx (by omega), fun F3 e3 => ⟨by unfold vp_in; decide, fun F5 e5 => ⟨37, ?_⟩⟩⟩
      rw [show (0 : Int32).toNatClampNeg = 0 by decide] at e5
      refine key 37 0 (bfs0 x) F5 rfl (bfs0_BI hx) (Nat.zero_le _) ⟨fun f a b => ?_, fun y hy => ?_, fun j hj => ?_⟩ rfl
      · rw [e5, e3, fs_fam b, fs_fam a]
        exact h1 f a b
      · rw [e5, fs_fam (by decide), e3]
        show _ = (if y = x then (0 : Int32) else -1)
        by_cases e : y = x
        · subst e
          rw [fs_eq, if_pos rfl]
        · rw [fs_ne (Or.inr (Or.inr e)), if_neg e]
          exact h2 y hy
      · have hj1 : j < 1 := hj
        obtain rfl : j = 0 := by omega
        rw [e5, fs_eq]
        rfl
    | succ m ih =>
      intro j F hj h1 h2
      unfold P_X11_finds_2
      rw [if_neg (show ¬ (36 : Int32) ≤ nI j from nI_ge (b := 36) (by omega) (by omega)), nI_clamp' (by omega)]
      refine ⟨nI_in (by omega) (by omega), fun F23 e23 => ?_⟩
      rw [← nI_succ]
      refine ih (j + 1) F23 (by omega) (fun f a b => by rw [e23, fs_fam a]; exact h1 f a b) (fun y hy => ?_)
      rw [e23]
      by_cases e : y = j
      · subst e
        rw [fs_eq]
      · rw [fs_ne (Or.inr (Or.inr e))]
        exact h2 y (by omega)
  exact ⟨37, fil 36 0 F0 rfl (fun _ _ _ => rfl) (fun y hy => absurd hy (Nat.not_lt_zero y))⟩
theorem Sm.two {F F1 F2 : GF} (h : Sm F F1) {a b : Nat} (ha : trF a = true) (hb : trF b = true) (a1 : a ≠ 25) (a2 : a ≠ 40) (b1 : b ≠ 25) (b2 : b ≠ 40) (hF : ∀ f, f ≠ a → f ≠ b → F2 f = F1 f) : Sm F F2 := by
  refine ⟨fun f hf => ?_, fun j p q r => ?_, fun q => ?_⟩
  · rw [hF f (fun e => by rw [e, ha] at hf; cases hf) (fun e => by rw [e, hb] at hf; cases hf)]
    exact h.1 f hf
  · rw [hF 40 (fun e => a2 e.symm) (fun e => b2 e.symm)]
    exact h.2.1 j p q r
  · have := h.2.2 q
    unfold b_sb at this ⊢
    rw [hF 25 (fun e => a1 e.symm) (fun e => b1 e.symm)]
    exact this
theorem hold_mf {F : GF} {a : Int32} {K : GF → Prop} : P_X9_measureFrom F a K = @Hold _ (P_X9_measureFrom F a) ⟨K⟩ := rfl
theorem hold_fd {F : GF} {a : Int32} {K : GF → Prop} : P_X11_finds F a K = @Hold _ (P_X11_finds F a) ⟨K⟩ := rfl
set_option maxHeartbeats 1000000 in
set_option maxRecDepth 20000 in
theorem m1 {k : Nat} {F : GF} (h : Inv k F) (a1 a2 a3 : Int32) : PL_1 a1 a2 a3 (Inv (k + 1)) F := by
  have hI := h
  obtain ⟨⟨q0, q1, q2, q3, q4, q5, q6, q7, q8, q9, q10, q11⟩, ⟨r0, r1, r2, r3, r4, r5, r6, r7, r8, r9, r10, r11, r12, r13, r14⟩, cb, lg⟩ := h
  have R1 := r1
  have R2 := r2
  have R3 := r3
  have R4 := r4
  obtain ⟨m, hm, em, hmc⟩ := r1
  have em' : F 40 0 6 = nI m := q2.1.trans em
  obtain ⟨n, hn, en⟩ := r2
  have en' : F 40 0 9 = nI n := q4.1.trans en
  obtain ⟨t, g, d, s, e, ht, et, hg, eg, hd, ed, hs, es, he, ee, hem, hg1, hg2, hg3⟩ := r3
  have et' : F 40 0 0 = nI t := q0.trans et
  have eg' : F 40 0 14 = nI g := q5.1.trans eg
  have ed' : F 40 0 15 = nI d := q5.2.1.trans ed
  have es' : F 40 0 16 = nI s := q5.2.2.1.trans es
  have eo' : F 40 0 17 = F 10 0 3 := q5.2.2.2.1
  have ee' : F 40 0 19 = nI e := q5.2.2.2.2.trans ee
  obtain ⟨⟨v, hv, ev⟩, hev⟩ := r4
  have ev' : F 40 0 26 = nI v := q8.1.trans ev
  rcases int_cases a1 with hneg_p | ⟨p, hbig_p, rfl⟩
  · rcases int_cases a2 with hneg_c | ⟨c, hbig_c, rfl⟩
    · first
        | exfalso; omega
        | simp (disch := first | omega | assumption) only [PL_1, P_L_way, P_X10_way, P_X10_needCrossing, P_X9_measuredTo, P_X11_isCrossing, P_X11_way, P_X11_way_19, P_X11_way_20, P_X11_in, P_X11_asked, P_X11_asked_10, P_X11_asked_, P_X11_asked__18, P_X11_asked__, P_X11_asked___26, P_X11_thrown, P_X11_told, ↓reduceIte, ↓forall_eq, ↓hold_ca, ↓hold_cam, ↓hold_cl, ↓hold_se, ↓hold_sem, ↓hold_st, ↓hold_wr, ↓hold_wrm, li0, li1, li2, li3, li4, li5, li6, li7, li8, li10, li20, li30, li35, li36, li60, li72, li100, li572, li2000, li2100, li9999, nI_lt_t, nI_lt_f, nI_le_t, nI_le_f, nI_eq_t, nI_eq_f, nI_eq_neg2, neg_eq_nI2, neg_lt2, neg_le2, nI_lt_neg2, nI_le_neg2, pred_t, pred_f, nI_clamp', vp_t, lt0_t, lt0_le, lt0_lt, lt0_eq, if_true, if_false, ite_true, ite_false, true_and, and_true, false_and, and_false, false_or, or_false, true_or, or_true, eq_self, fs_ne, fs_eq, fs_eq', st12, st13, st21, st23, st31, st32, not_true_eq_false, not_false_eq_true, ↓hold_mf, ↓hold_fd, em, em', en, en', et, et', eg, eg', ed, ed', es, es', eo', ee, ee', ev, ev']
          refine hI.end ?_
          repeat (first | exact Sm.refl _ | refine Sm.fs40 ?_ _ _ (by decide) | refine Sm.fsT ?_ _ _ _ _ rfl (by decide) (by decide))
    · by_cases hlt_c : c < 36
      · first
          | exfalso; omega
          | simp (disch := first | omega | assumption) only [PL_1, P_L_way, P_X10_way, P_X10_needCrossing, P_X9_measuredTo, P_X11_isCrossing, P_X11_way, P_X11_way_19, P_X11_way_20, P_X11_in, P_X11_asked, P_X11_asked_10, P_X11_asked_, P_X11_asked__18, P_X11_asked__, P_X11_asked___26, P_X11_thrown, P_X11_told, ↓reduceIte, ↓forall_eq, ↓hold_ca, ↓hold_cam, ↓hold_cl, ↓hold_se, ↓hold_sem, ↓hold_st, ↓hold_wr, ↓hold_wrm, li0, li1, li2, li3, li4, li5, li6, li7, li8, li10, li20, li30, li35, li36, li60, li72, li100, li572, li2000, li2100, li9999, nI_lt_t, nI_lt_f, nI_le_t, nI_le_f, nI_eq_t, nI_eq_f, nI_eq_neg2, neg_eq_nI2, neg_lt2, neg_le2, nI_lt_neg2, nI_le_neg2, pred_t, pred_f, nI_clamp', vp_t, lt0_t, lt0_le, lt0_lt, lt0_eq, if_true, if_false, ite_true, ite_false, true_and, and_true, false_and, and_false, false_or, or_false, true_or, or_true, eq_self, fs_ne, fs_eq, fs_eq', st12, st13, st21, st23, st31, st32, not_true_eq_false, not_false_eq_true, ↓hold_mf, ↓hold_fd, em, em', en, en', et, et', eg, eg', ed, ed', es, es', eo', ee, ee', ev, ev']
            refine hI.end ?_
            repeat (first | exact Sm.refl _ | refine Sm.fs40 ?_ _ _ (by decide) | refine Sm.fsT ?_ _ _ _ _ rfl (by decide) (by decide))
      · first
          | exfalso; omega
          | simp (disch := first | omega | assumption) only [PL_1, P_L_way, P_X10_way, P_X10_needCrossing, P_X9_measuredTo, P_X11_isCrossing, P_X11_way, P_X11_way_19, P_X11_way_20, P_X11_in, P_X11_asked, P_X11_asked_10, P_X11_asked_, P_X11_asked__18, P_X11_asked__, P_X11_asked___26, P_X11_thrown, P_X11_told, ↓reduceIte, ↓forall_eq, ↓hold_ca, ↓hold_cam, ↓hold_cl, ↓hold_se, ↓hold_sem, ↓hold_st, ↓hold_wr, ↓hold_wrm, li0, li1, li2, li3, li4, li5, li6, li7, li8, li10, li20, li30, li35, li36, li60, li72, li100, li572, li2000, li2100, li9999, nI_lt_t, nI_lt_f, nI_le_t, nI_le_f, nI_eq_t, nI_eq_f, nI_eq_neg2, neg_eq_nI2, neg_lt2, neg_le2, nI_lt_neg2, nI_le_neg2, pred_t, pred_f, nI_clamp', vp_t, lt0_t, lt0_le, lt0_lt, lt0_eq, if_true, if_false, ite_true, ite_false, true_and, and_true, false_and, and_false, false_or, or_false, true_or, or_true, eq_self, fs_ne, fs_eq, fs_eq', st12, st13, st21, st23, st31, st32, not_true_eq_false, not_false_eq_true, ↓hold_mf, ↓hold_fd, em, em', en, en', et, et', eg, eg', ed, ed', es, es', eo', ee, ee', ev, ev']
            refine hI.end ?_
            repeat (first | exact Sm.refl _ | refine Sm.fs40 ?_ _ _ (by decide) | refine Sm.fsT ?_ _ _ _ _ rfl (by decide) (by decide))
  · by_cases hlt_p : p < 36
    · rcases int_cases a2 with hneg_c | ⟨c, hbig_c, rfl⟩
      · first
          | exfalso; omega
          | simp (disch := first | omega | assumption) only [PL_1, P_L_way, P_X10_way, P_X10_needCrossing, P_X9_measuredTo, P_X11_isCrossing, P_X11_way, P_X11_way_19, P_X11_way_20, P_X11_in, P_X11_asked, P_X11_asked_10, P_X11_asked_, P_X11_asked__18, P_X11_asked__, P_X11_asked___26, P_X11_thrown, P_X11_told, ↓reduceIte, ↓forall_eq, ↓hold_ca, ↓hold_cam, ↓hold_cl, ↓hold_se, ↓hold_sem, ↓hold_st, ↓hold_wr, ↓hold_wrm, li0, li1, li2, li3, li4, li5, li6, li7, li8, li10, li20, li30, li35, li36, li60, li72, li100, li572, li2000, li2100, li9999, nI_lt_t, nI_lt_f, nI_le_t, nI_le_f, nI_eq_t, nI_eq_f, nI_eq_neg2, neg_eq_nI2, neg_lt2, neg_le2, nI_lt_neg2, nI_le_neg2, pred_t, pred_f, nI_clamp', vp_t, lt0_t, lt0_le, lt0_lt, lt0_eq, if_true, if_false, ite_true, ite_false, true_and, and_true, false_and, and_false, false_or, or_false, true_or, or_true, eq_self, fs_ne, fs_eq, fs_eq', st12, st13, st21, st23, st31, st32, not_true_eq_false, not_false_eq_true, ↓hold_mf, ↓hold_fd, em, em', en, en', et, et', eg, eg', ed, ed', es, es', eo', ee, ee', ev, ev']
            refine hI.end ?_
            repeat (first | exact Sm.refl _ | refine Sm.fs40 ?_ _ _ (by decide) | refine Sm.fsT ?_ _ _ _ _ rfl (by decide) (by decide))
      · by_cases hlt_c : c < 36
        · have hbar : ∀ q, q < 72 → F 2 0 q = 0 ∨ F 2 0 q = 1 := r0
          simp (disch := first | omega | assumption) only [PL_1, P_L_way, P_X10_way, P_X10_needCrossing, P_X9_measuredTo, P_X11_isCrossing, P_X11_way, P_X11_way_19, P_X11_way_20, P_X11_in, P_X11_asked, P_X11_asked_10, P_X11_asked_, P_X11_asked__18, P_X11_asked__, P_X11_asked___26, P_X11_thrown, P_X11_told, ↓reduceIte, ↓forall_eq, ↓hold_ca, ↓hold_cam, ↓hold_cl, ↓hold_se, ↓hold_sem, ↓hold_st, ↓hold_wr, ↓hold_wrm, li0, li1, li2, li3, li4, li5, li6, li7, li8, li10, li20, li30, li35, li36, li60, li72, li100, li572, li2000, li2100, li9999, nI_lt_t, nI_lt_f, nI_le_t, nI_le_f, nI_eq_t, nI_eq_f, nI_eq_neg2, neg_eq_nI2, neg_lt2, neg_le2, nI_lt_neg2, nI_le_neg2, pred_t, pred_f, nI_clamp', vp_t, lt0_t, lt0_le, lt0_lt, lt0_eq, if_true, if_false, ite_true, ite_false, true_and, and_true, false_and, and_false, false_or, or_false, true_or, or_true, eq_self, fs_ne, fs_eq, fs_eq', st12, st13, st21, st23, st31, st32, not_true_eq_false, not_false_eq_true, ↓hold_mf, ↓hold_fd, em, em', en, en', et, et', eg, eg', ed, ed', es, es', eo', ee, ee', ev, ev']
          refine unhold ?_
          refine mf_cls hbar hlt_p (fun F1 hF1 hy1 => ?_)
          simp (disch := first | omega | assumption) only [PL_1, P_L_way, P_X10_way, P_X10_needCrossing, P_X9_measuredTo, P_X11_isCrossing, P_X11_way, P_X11_way_19, P_X11_way_20, P_X11_in, P_X11_asked, P_X11_asked_10, P_X11_asked_, P_X11_asked__18, P_X11_asked__, P_X11_asked___26, P_X11_thrown, P_X11_told, ↓reduceIte, ↓forall_eq, ↓hold_ca, ↓hold_cam, ↓hold_cl, ↓hold_se, ↓hold_sem, ↓hold_st, ↓hold_wr, ↓hold_wrm, li0, li1, li2, li3, li4, li5, li6, li7, li8, li10, li20, li30, li35, li36, li60, li72, li100, li572, li2000, li2100, li9999, nI_lt_t, nI_lt_f, nI_le_t, nI_le_f, nI_eq_t, nI_eq_f, nI_eq_neg2, neg_eq_nI2, neg_lt2, neg_le2, nI_lt_neg2, nI_le_neg2, pred_t, pred_f, nI_clamp', vp_t, lt0_t, lt0_le, lt0_lt, lt0_eq, if_true, if_false, ite_true, ite_false, true_and, and_true, false_and, and_false, false_or, or_false, true_or, or_true, eq_self, fs_ne, fs_eq, fs_eq', st12, st13, st21, st23, st31, st32, not_true_eq_false, not_false_eq_true, ↓hold_mf, ↓hold_fd, em, em', en, en', et, et', eg, eg', ed, ed', es, es', eo', ee, ee', ev, ev', hy1 c hlt_c, hF1]
          refine unhold ?_
          refine fd_mod (fun q hq => by simp (disch := omega) only [fs_ne, hF1]; exact q1 q hq) hlt_p (fun F2 hF2 hy2 => ?_)
          have hy3 : F2 42 0 c = farN F p c := (hy2 c hlt_c).trans (congrFun (farN_congr (by simp (disch := omega) only [fs_fam, hF1]) p) c)
          simp (disch := first | omega | assumption) only [PL_1, P_L_way, P_X10_way, P_X10_needCrossing, P_X9_measuredTo, P_X11_isCrossing, P_X11_way, P_X11_way_19, P_X11_way_20, P_X11_in, P_X11_asked, P_X11_asked_10, P_X11_asked_, P_X11_asked__18, P_X11_asked__, P_X11_asked___26, P_X11_thrown, P_X11_told, ↓reduceIte, ↓forall_eq, ↓hold_ca, ↓hold_cam, ↓hold_cl, ↓hold_se, ↓hold_sem, ↓hold_st, ↓hold_wr, ↓hold_wrm, li0, li1, li2, li3, li4, li5, li6, li7, li8, li10, li20, li30, li35, li36, li60, li72, li100, li572, li2000, li2100, li9999, nI_lt_t, nI_lt_f, nI_le_t, nI_le_f, nI_eq_t, nI_eq_f, nI_eq_neg2, neg_eq_nI2, neg_lt2, neg_le2, nI_lt_neg2, nI_le_neg2, pred_t, pred_f, nI_clamp', vp_t, lt0_t, lt0_le, lt0_lt, lt0_eq, if_true, if_false, ite_true, ite_false, true_and, and_true, false_and, and_false, false_or, or_false, true_or, or_true, eq_self, fs_ne, fs_eq, fs_eq', st12, st13, st21, st23, st31, st32, not_true_eq_false, not_false_eq_true, ↓hold_mf, ↓hold_fd, em, em', en, en', et, et', eg, eg', ed, ed', es, es', eo', ee, ee', ev, ev', hy3, hF2, hF1]
          refine hI.end (Sm.two (a := 42) (b := 43) ?_ rfl rfl (by decide) (by decide) (by decide) (by decide) hF2)
          repeat (first | exact Sm.two (a := 3) (b := 4) (Sm.refl _) rfl rfl (by decide) (by decide) (by decide) (by decide) hF1 | refine Sm.fs40 ?_ _ _ (by decide) | refine Sm.fsT ?_ _ _ _ _ rfl (by decide) (by decide))
        · first
            | exfalso; omega
            | simp (disch := first | omega | assumption) only [PL_1, P_L_way, P_X10_way, P_X10_needCrossing, P_X9_measuredTo, P_X11_isCrossing, P_X11_way, P_X11_way_19, P_X11_way_20, P_X11_in, P_X11_asked, P_X11_asked_10, P_X11_asked_, P_X11_asked__18, P_X11_asked__, P_X11_asked___26, P_X11_thrown, P_X11_told, ↓reduceIte, ↓forall_eq, ↓hold_ca, ↓hold_cam, ↓hold_cl, ↓hold_se, ↓hold_sem, ↓hold_st, ↓hold_wr, ↓hold_wrm, li0, li1, li2, li3, li4, li5, li6, li7, li8, li10, li20, li30, li35, li36, li60, li72, li100, li572, li2000, li2100, li9999, nI_lt_t, nI_lt_f, nI_le_t, nI_le_f, nI_eq_t, nI_eq_f, nI_eq_neg2, neg_eq_nI2, neg_lt2, neg_le2, nI_lt_neg2, nI_le_neg2, pred_t, pred_f, nI_clamp', vp_t, lt0_t, lt0_le, lt0_lt, lt0_eq, if_true, if_false, ite_true, ite_false, true_and, and_true, false_and, and_false, false_or, or_false, true_or, or_true, eq_self, fs_ne, fs_eq, fs_eq', st12, st13, st21, st23, st31, st32, not_true_eq_false, not_false_eq_true, ↓hold_mf, ↓hold_fd, em, em', en, en', et, et', eg, eg', ed, ed', es, es', eo', ee, ee', ev, ev']
              refine hI.end ?_
              repeat (first | exact Sm.refl _ | refine Sm.fs40 ?_ _ _ (by decide) | refine Sm.fsT ?_ _ _ _ _ rfl (by decide) (by decide))
    · rcases int_cases a2 with hneg_c | ⟨c, hbig_c, rfl⟩
      · first
          | exfalso; omega
          | simp (disch := first | omega | assumption) only [PL_1, P_L_way, P_X10_way, P_X10_needCrossing, P_X9_measuredTo, P_X11_isCrossing, P_X11_way, P_X11_way_19, P_X11_way_20, P_X11_in, P_X11_asked, P_X11_asked_10, P_X11_asked_, P_X11_asked__18, P_X11_asked__, P_X11_asked___26, P_X11_thrown, P_X11_told, ↓reduceIte, ↓forall_eq, ↓hold_ca, ↓hold_cam, ↓hold_cl, ↓hold_se, ↓hold_sem, ↓hold_st, ↓hold_wr, ↓hold_wrm, li0, li1, li2, li3, li4, li5, li6, li7, li8, li10, li20, li30, li35, li36, li60, li72, li100, li572, li2000, li2100, li9999, nI_lt_t, nI_lt_f, nI_le_t, nI_le_f, nI_eq_t, nI_eq_f, nI_eq_neg2, neg_eq_nI2, neg_lt2, neg_le2, nI_lt_neg2, nI_le_neg2, pred_t, pred_f, nI_clamp', vp_t, lt0_t, lt0_le, lt0_lt, lt0_eq, if_true, if_false, ite_true, ite_false, true_and, and_true, false_and, and_false, false_or, or_false, true_or, or_true, eq_self, fs_ne, fs_eq, fs_eq', st12, st13, st21, st23, st31, st32, not_true_eq_false, not_false_eq_true, ↓hold_mf, ↓hold_fd, em, em', en, en', et, et', eg, eg', ed, ed', es, es', eo', ee, ee', ev, ev']
            refine hI.end ?_
            repeat (first | exact Sm.refl _ | refine Sm.fs40 ?_ _ _ (by decide) | refine Sm.fsT ?_ _ _ _ _ rfl (by decide) (by decide))
      · by_cases hlt_c : c < 36
        · first
            | exfalso; omega
            | simp (disch := first | omega | assumption) only [PL_1, P_L_way, P_X10_way, P_X10_needCrossing, P_X9_measuredTo, P_X11_isCrossing, P_X11_way, P_X11_way_19, P_X11_way_20, P_X11_in, P_X11_asked, P_X11_asked_10, P_X11_asked_, P_X11_asked__18, P_X11_asked__, P_X11_asked___26, P_X11_thrown, P_X11_told, ↓reduceIte, ↓forall_eq, ↓hold_ca, ↓hold_cam, ↓hold_cl, ↓hold_se, ↓hold_sem, ↓hold_st, ↓hold_wr, ↓hold_wrm, li0, li1, li2, li3, li4, li5, li6, li7, li8, li10, li20, li30, li35, li36, li60, li72, li100, li572, li2000, li2100, li9999, nI_lt_t, nI_lt_f, nI_le_t, nI_le_f, nI_eq_t, nI_eq_f, nI_eq_neg2, neg_eq_nI2, neg_lt2, neg_le2, nI_lt_neg2, nI_le_neg2, pred_t, pred_f, nI_clamp', vp_t, lt0_t, lt0_le, lt0_lt, lt0_eq, if_true, if_false, ite_true, ite_false, true_and, and_true, false_and, and_false, false_or, or_false, true_or, or_true, eq_self, fs_ne, fs_eq, fs_eq', st12, st13, st21, st23, st31, st32, not_true_eq_false, not_false_eq_true, ↓hold_mf, ↓hold_fd, em, em', en, en', et, et', eg, eg', ed, ed', es, es', eo', ee, ee', ev, ev']
              refine hI.end ?_
              repeat (first | exact Sm.refl _ | refine Sm.fs40 ?_ _ _ (by decide) | refine Sm.fsT ?_ _ _ _ _ rfl (by decide) (by decide))
        · first
            | exfalso; omega
            | simp (disch := first | omega | assumption) only [PL_1, P_L_way, P_X10_way, P_X10_needCrossing, P_X9_measuredTo, P_X11_isCrossing, P_X11_way, P_X11_way_19, P_X11_way_20, P_X11_in, P_X11_asked, P_X11_asked_10, P_X11_asked_, P_X11_asked__18, P_X11_asked__, P_X11_asked___26, P_X11_thrown, P_X11_told, ↓reduceIte, ↓forall_eq, ↓hold_ca, ↓hold_cam, ↓hold_cl, ↓hold_se, ↓hold_sem, ↓hold_st, ↓hold_wr, ↓hold_wrm, li0, li1, li2, li3, li4, li5, li6, li7, li8, li10, li20, li30, li35, li36, li60, li72, li100, li572, li2000, li2100, li9999, nI_lt_t, nI_lt_f, nI_le_t, nI_le_f, nI_eq_t, nI_eq_f, nI_eq_neg2, neg_eq_nI2, neg_lt2, neg_le2, nI_lt_neg2, nI_le_neg2, pred_t, pred_f, nI_clamp', vp_t, lt0_t, lt0_le, lt0_lt, lt0_eq, if_true, if_false, ite_true, ite_false, true_and, and_true, false_and, and_false, false_or, or_false, true_or, or_true, eq_self, fs_ne, fs_eq, fs_eq', st12, st13, st21, st23, st31, st32, not_true_eq_false, not_false_eq_true, ↓hold_mf, ↓hold_fd, em, em', en, en', et, et', eg, eg', ed, ed', es, es', eo', ee, ee', ev, ev']
              refine hI.end ?_
              repeat (first | exact Sm.refl _ | refine Sm.fs40 ?_ _ _ (by decide) | refine Sm.fsT ?_ _ _ _ _ rfl (by decide) (by decide))
