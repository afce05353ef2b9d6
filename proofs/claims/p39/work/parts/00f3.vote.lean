theorem c_log_eq {k t : Nat} {F F' : GF} (h : c_log k t F) (h0 : F' 0 0 2 = F 0 0 2) (h38 : F' 38 0 0 = F 38 0 0) (h13 : F' 40 0 13 = F 40 0 13) (h48 : F' 48 = F 48) (h49 : F' 49 = F 49) (h50 : F' 50 = F 50) (h39 : F' 39 = F 39) (h33 : ∀ q, F' 33 q 1 = F 33 q 1) : c_log k t F' := by
  unfold c_log
  rw [h0, h38, h13, h48, h49, h50, h39]
  obtain ⟨n, h1, h2, h3, h4, h5, h6⟩ := h
  exact ⟨n, h1, h2, h3, h4, fun p hp => (h33 p).trans (h5 p hp), h6⟩
theorem b_seal_void {F F' : GF} {e p v : Nat} (h : b_seal F) (henv : b_env F) (h16 : F 16 0 3 = nI v) (hv : v ≤ 60) (he : e < v) (hp : p < 20) (he17 : F 17 0 e = nI p) (he19 : F 19 0 e = 0) (n16 : F' 16 0 3 = F 16 0 3) (n17 : ∀ j, F' 17 0 j = F 17 0 j) (n13 : ∀ j, F' 13 0 j = F 13 0 j) (n19 : ∀ j, j ≠ e → F' 19 0 j = F 19 0 j) (n19e : ¬ F' 19 0 e = 0) (n15 : ∀ q, q ≠ p → F' 15 0 q = F 15 0 q) : b_seal F' := by
  have back : ∀ j, sealed F' j → j ≠ e ∧ sealed F j := by
    intro j hj
    have hje : j ≠ e := fun q => by subst q; exact n19e hj.2
    exact ⟨hje, by rw [← n16]; exact hj.1, by rw [← n19 j hje]; exact hj.2⟩
  have hse : sealed F e := ⟨by rw [h16]; exact nI_lt he (by omega), he19⟩
  intro j hj hs
  obtain ⟨hje, hsj⟩ := back j hs
  obtain ⟨h1, h2, h3⟩ := h j hj hsj
  obtain ⟨⟨p', a1, a2⟩, -⟩ := henv.2 j hj
  have hpp : p' ≠ p := by
    intro q
    subst q
    exact hje ((h e (by omega) hse).2.2 j hj hsj (a2.trans he17.symm))
  rw [n17, n13]
  refine ⟨h1, ?_, fun e' he' hs' q => ?_⟩
  · rw [a2, nI_clamp' (by omega)] at h2 ⊢
    rw [n15 p' hpp]
    exact h2
  · rw [n17] at q
    exact h3 e' he' (back e' hs').2 q
theorem b_seal_none {F F' : GF} {p v : Nat} (h : b_seal F) (henv : b_env F) (h16 : F 16 0 3 = nI v) (hv : v ≤ 60) (hno : ∀ i, i < v → ¬ (F 17 0 i = nI p ∧ F 19 0 i = 0)) (n16 : F' 16 0 3 = F 16 0 3) (n17 : ∀ j, F' 17 0 j = F 17 0 j) (n13 : ∀ j, F' 13 0 j = F 13 0 j) (n19 : ∀ j, F' 19 0 j = F 19 0 j) (n15 : ∀ q, q ≠ p → F' 15 0 q = F 15 0 q) : b_seal F' := by
  have back : ∀ j, sealed F' j → sealed F j := fun j hj => ⟨by rw [← n16]; exact hj.1, by rw [← n19]; exact hj.2⟩
  intro j hj hs
  have hsj := back j hs
  obtain ⟨h1, h2, h3⟩ := h j hj hsj
  obtain ⟨⟨p', a1, a2⟩, -⟩ := henv.2 j hj
  have hjv : j < v := by
    have := hsj.1
    rw [h16] at this
    exact (nI_lt_iff (by omega) (by omega)).mp this
  have hpp : p' ≠ p := by
    intro q
    subst q
    exact hno j hjv ⟨a2, hsj.2⟩
  rw [n17, n13]
  refine ⟨h1, ?_, fun e' he' hs' q => ?_⟩
  · rw [a2, nI_clamp' (by omega)] at h2 ⊢
    rw [n15 p' hpp]
    exact h2
  · rw [n17] at q
    exact h3 e' he' (back e' hs') q
/-- an envelope more, sealed -/
theorem b_seal_add {F F' : GF} {p v s : Nat} (h : b_seal F) (henv : b_env F) (h16 : F 16 0 3 = nI v) (hv : v < 60) (hp : p < 20) (hs : s < 5) (hon : F 13 0 p = nI s) (hun : F 15 0 p = 0) (hno : ∀ i, i < v → F 17 0 i = nI p → ¬ F' 19 0 i = 0) (hle : ∀ i, i < v → F' 19 0 i = 0 → F 19 0 i = 0) (n16 : F' 16 0 3 = nI (v + 1)) (n17 : ∀ j, j ≠ v → F' 17 0 j = F 17 0 j) (n17v : F' 17 0 v = nI p) (n13 : ∀ j, F' 13 0 j = F 13 0 j) (n15 : ∀ q, F' 15 0 q = F 15 0 q) : b_seal F' := by
  have lt : ∀ j, j < 60 → sealed F' j → j ≤ v := by
    intro j hj q
    have := q.1
    rw [n16] at this
    have := (nI_lt_iff (by omega) (by omega)).mp this
    omega
  have back : ∀ j, j < v → sealed F' j → sealed F j := fun j hj q => ⟨by rw [h16]; exact nI_lt hj (by omega), hle j hj q.2⟩
  intro j hj hsj
  have hjv := lt j hj hsj
  by_cases e : j = v
  · subst e
    rw [n17v, nI_clamp' (by omega), n13, n15]
    refine ⟨⟨s, hs, hon⟩, hun, fun e' he' hs' q => ?_⟩
    by_cases e2 : e' = j
    · exact e2
    · have hlt : e' < j := by have := lt e' he' hs'; omega
      rw [n17 e' e2] at q
      exact absurd hs'.2 (hno e' hlt q)
  · have hlt : j < v := by omega
    obtain ⟨h1, h2, h3⟩ := h j hj (back j hlt hsj)
    rw [n17 j e, n13, n15]
    refine ⟨h1, h2, fun e' he' hs' q => ?_⟩
    by_cases e2 : e' = v
    · subst e2
      rw [n17v] at q
      exact absurd hsj.2 (hno j hlt q.symm)
    · rw [n17 e' e2] at q
      exact h3 e' he' (back e' (by have := lt e' he' hs'; omega) hs') q
theorem ca_cls {F : GF} {p s z : Nat} {b : Int32} {K : GF → Prop} (hp : p < 20) (hs : s < 5) (h13 : F 13 0 p = nI s) (h28 : F 28 s 1 = nI z) (hz : z < 20) (hK : K (fs (fs (fs F 29 s z b) 28 s 1 (nI (z + 1))) 15 0 p 1)) : P_X2_castFor F (nI p) b K := by
  unfold P_X2_castFor P_X5_stationFor P_X1_put
  simp (disch := first | omega | assumption) only [li0, li1, li2, li3, li4, li5, li6, li7, li8, li10, li20, li30, li35, li36, li60, li72, li100, li572, li2000, li2100, li9999, nI_lt_t, nI_lt_f, nI_le_t, nI_le_f, nI_eq_t, nI_eq_f, nI_eq_neg2, neg_eq_nI2, neg_lt2, neg_le2, nI_lt_neg2, nI_le_neg2, pred_t, pred_f, nI_clamp', vp_t, lt0_t, lt0_le, lt0_lt, lt0_eq, if_true, if_false, ite_true, ite_false, true_and, and_true, false_and, and_false, false_or, or_false, true_or, or_true, eq_self, forall_eq, fs_ne, fs_eq, fs_eq', st12, st13, st21, st23, st31, st32, not_true_eq_false, not_false_eq_true, h13, h28, nI_add]
  exact hK
theorem ca_mod {F : GF} {p s z : Nat} {b : Int32} {K : Int32 → GF → Prop} (hp : p < 20) (hs : s < 5) (h52 : F 52 0 p = nI s) (h59 : F 59 0 s = nI z) (hz : z < 20) (hK : K (nI (z + 1)) (fs (fs (fs F 58 0 (20 * s + z) b) 59 0 s (nI (z + 1))) 54 0 p 1)) : P_X11_casts F (nI p) b K := by
  unfold P_X11_casts
  simp (disch := first | omega | assumption) only [li0, li1, li2, li3, li4, li5, li6, li7, li8, li10, li20, li30, li35, li36, li60, li72, li100, li572, li2000, li2100, li9999, nI_lt_t, nI_lt_f, nI_le_t, nI_le_f, nI_eq_t, nI_eq_f, nI_eq_neg2, neg_eq_nI2, neg_lt2, neg_le2, nI_lt_neg2, nI_le_neg2, pred_t, pred_f, nI_clamp', vp_t, lt0_t, lt0_le, lt0_lt, lt0_eq, if_true, if_false, ite_true, ite_false, true_and, and_true, false_and, and_false, false_or, or_false, true_or, or_true, eq_self, forall_eq, fs_ne, fs_eq, fs_eq', st12, st13, st21, st23, st31, st32, not_true_eq_false, not_false_eq_true, h52, h59, nI_add, nI_mul]
  exact hK
/-- a ballot more in a box -/
theorem box_more {F F' : GF} {p s z b : Nat} (hp : p < 20) (hs : s < 5) (hz : z < 20) (hb : b ≤ 5) (h28 : F 28 s 1 = nI z) (hun : F 15 0 p = 0) (q9 : t_box F) (r7 : b_box F) (r8 : b_vot F) (n28 : ∀ i j, F' 28 i j = if i = s ∧ j = 1 then nI (z + 1) else F 28 i j) (n59 : ∀ i, F' 59 0 i = if i = s then nI (z + 1) else F 59 0 i) (n29 : ∀ i j, F' 29 i j = if i = s ∧ j = z then nI b else F 29 i j) (n58 : ∀ j, F' 58 0 j = if j = 20 * s + z then nI b else F 58 0 j) (n62 : F' 62 = F 62) (n61 : F' 61 = F 61) (n30 : F' 30 = F 30) (n63 : F' 63 = F 63) (n15 : ∀ q, q ≠ p → F' 15 0 q = F 15 0 q) (n15p : F' 15 0 p = 1) : t_box F' ∧ b_box F' ∧ b_vot F' := by
  have hvo : voters F' 20 = voters F 20 + 1 := voters_vote hun (by rw [n15p]; decide) 20 n15 hp
  refine ⟨fun i hi => ?_, fun i hi => ?_, fun i hi => ?_⟩
  · obtain ⟨a1, a2, a3, a4⟩ := q9 i hi
    refine ⟨?_, ?_, fun j hj => ?_, fun c hc => ?_⟩
    · rw [n59, n28]
      by_cases e : i = s
      · rw [if_pos e, if_pos ⟨e, rfl⟩]
      · rw [if_neg e, if_neg (fun q => e q.1)]
        exact a1
    · rw [n62, n28, if_neg (fun q => absurd q.2 (by decide))]
      exact a2
    · rw [n58, n29]
      by_cases e : i = s ∧ j = z
      · rw [if_pos e, if_pos (by obtain ⟨e1, e2⟩ := e; subst e1 e2; rfl)]
      · rw [if_neg e, if_neg (by omega)]
        exact a3 j hj
    · rw [n61, n30]
      exact a4 c hc
  · obtain ⟨⟨c, b1, b2⟩, b3, b4⟩ := r7 i hi
    refine ⟨⟨c, b1, ?_⟩, ?_, fun j hj => ?_⟩
    · rw [n28, if_neg (fun q => absurd q.2 (by decide))]
      exact b2
    · rw [n63, n28, if_neg (fun q => absurd q.2 (by decide))]
      exact b3
    · rw [n29]
      by_cases e : i = s ∧ j = z
      · rw [if_pos e]
        exact ⟨b, hb, rfl⟩
      · rw [if_neg e]
        exact b4 j hj
  · obtain ⟨y, c1, c2⟩ := r8 i hi
    rw [n28, hvo]
    by_cases e : i = s
    · subst e
      rw [if_pos ⟨rfl, rfl⟩]
      have : y = z := (nI_eq_iff (by have := voters_le (F := F) 20; omega) (by omega)).mp (c2.symm.trans h28)
      exact ⟨z + 1, by omega, rfl⟩
    · rw [if_neg (fun q => e q.1)]
      exact ⟨y, by omega, c2⟩
theorem c_book_of {k b' v' S : Nat} {F' : GF} (n21 : F' 21 0 4 = nI b') (n16 : F' 16 0 3 = nI v') (hv : v' ≤ 60) (hS : seals F' v' ≤ S) (hle : b' + S ≤ k + v') : c_book k F' := ⟨b', v', n21, n16, hv, by omega⟩
theorem seals_voided {F F' : GF} {x v : Nat} (hx : x < v) (h1 : F 19 0 x = 0) (h2 : ¬ F' 19 0 x = 0) (n19 : ∀ j, j ≠ x → F' 19 0 j = F 19 0 j) : seals F' v ≤ seals F v - 1 := by
  have := seals_void h1 h2 v n19 hx
  omega
theorem seals_kept {F F' : GF} {v : Nat} (n19 : ∀ j, j < v → F' 19 0 j = F 19 0 j) : seals F' v ≤ seals F v := Nat.le_of_eq (seals_cong v n19)
theorem seals_add {F' : GF} {v S : Nat} (h : seals F' v ≤ S) : seals F' (v + 1) ≤ S + 1 := by
  show seals F' v + (if F' 19 0 v = 0 then 1 else 0) ≤ S + 1
  split <;> omega
set_option maxHeartbeats 1000000 in
set_option maxRecDepth 20000 in
theorem m6 {k : Nat} {F : GF} (hk : k < 512) (h : Inv k F) (a1 a2 a3 : Int32) : PL_6 a1 a2 a3 (Inv (k + 1)) F := by
  have hI := h
  obtain ⟨⟨q0, q1, q2, q3, q4, q5, q6, q7, q8, q9, q10, q11⟩, ⟨r0, r1, r2, r3, r4, r5, r6, r7, r8, r9, r10, r11, r12, r13, r14⟩, cb, lg⟩ := h
  have R1 := r1
  have R2 := r2
  have R3 := r3
  have R4 := r4
  obtain ⟨m, hm, em, hmc⟩ := r1
  have em' : F 40 0 6 = nI m := q2.1.trans em
  obtain ⟨n, hn, en⟩ := r2
  have en' : F 40 0 9 = nI n := q4.1.trans en
  obtain ⟨t, g, d, s, e, ht, et, hg, eg, hd, ed, hs, es, he, ee, hem, hg1, hg2, hg3⟩ := r3
  have et' : F 40 0 0 = nI t := q0.trans et
  have eg' : F 40 0 14 = nI g := q5.1.trans eg
  have ed' : F 40 0 15 = nI d := q5.2.1.trans ed
  have es' : F 40 0 16 = nI s := q5.2.2.1.trans es
  have eo' : F 40 0 17 = F 10 0 3 := q5.2.2.2.1
  have ee' : F 40 0 19 = nI e := q5.2.2.2.2.trans ee
  obtain ⟨⟨v, hv, ev⟩, hev⟩ := r4
  have ev' : F 40 0 26 = nI v := q8.1.trans ev
  have hlog := lg t et ht
  obtain ⟨N, hN, eN⟩ := hlog.n (by omega)
  obtain ⟨-, eM, hst, hla⟩ := hlog.stays eN (by omega) (by omega)
  rcases int_cases a1 with hneg_p | ⟨p, hbig_p, rfl⟩
  · first
      | exfalso; omega
      | simp (disch := first | omega | assumption) only [PL_6, P_L_die, P_L_die_15, P_L_law_693, P_X10_die, P_X11_die, P_X11_die_25, P_X11_die_26, P_X10_personAt, P_X10_needPerson, P_X10_needAlive, P_X10_voidEnvelopeOf, P_X11_isPerson, P_X11_voids, P_X11_voids_29, P_X11_in, P_X11_asked, P_X11_asked_10, P_X11_asked_, P_X11_asked__18, P_X11_asked__, P_X11_asked___26, P_X11_thrown, P_X11_told, ↓reduceIte, ↓forall_eq, ↓hold_ca, ↓hold_cam, ↓hold_se, ↓hold_sem, ↓hold_wr, ↓hold_wrm, li0, li1, li2, li3, li4, li5, li6, li7, li8, li10, li20, li30, li35, li36, li60, li72, li100, li572, li2000, li2100, li9999, nI_lt_t, nI_lt_f, nI_le_t, nI_le_f, nI_eq_t, nI_eq_f, nI_eq_neg2, neg_eq_nI2, neg_lt2, neg_le2, nI_lt_neg2, nI_le_neg2, pred_t, pred_f, nI_clamp', vp_t, lt0_t, lt0_le, lt0_lt, lt0_eq, if_true, if_false, ite_true, ite_false, true_and, and_true, false_and, and_false, false_or, or_false, true_or, or_true, eq_self, fs_ne, fs_eq, fs_eq', st12, st13, st21, st23, st31, st32, not_true_eq_false, not_false_eq_true, em, em', en, en', et, et', eg, eg', ed, ed', es, es', eo', ee, ee', ev, ev']
        refine hI.end ?_
        repeat (first | exact Sm.refl _ | refine Sm.fs40 ?_ _ _ (by decide) | refine Sm.fsT ?_ _ _ _ _ rfl (by decide) (by decide))
  · by_cases hlt_p : p < n
    · by_cases al : F 33 p 2 = nI 0
      · have hb : p < 20 := by omega
        have cbo := cb
        obtain ⟨b, v', hb21, hb16, hb60, hbk⟩ := cb
        obtain rfl : v' = v := (nI_eq_iff (by omega) (by omega)).mp (hb16.symm.trans ev)
        have hb42 : F 40 0 42 = nI b := q11.1.trans hb21
        have hsl := seals_le (F := F) v'
        have alm : F 47 0 p = nI 0 := ((q4.2 p hb).2).trans al
        simp (disch := first | omega | assumption) only [PL_6, P_L_die, P_L_die_15, P_L_law_693, P_X10_die, P_X11_die, P_X11_die_25, P_X11_die_26, P_X10_personAt, P_X10_needPerson, P_X10_needAlive, P_X10_voidEnvelopeOf, P_X11_isPerson, P_X11_voids, P_X11_voids_29, P_X11_in, P_X11_asked, P_X11_asked_10, P_X11_asked_, P_X11_asked__18, P_X11_asked__, P_X11_asked___26, P_X11_thrown, P_X11_told, ↓reduceIte, ↓forall_eq, ↓hold_ca, ↓hold_cam, ↓hold_se, ↓hold_sem, ↓hold_wr, ↓hold_wrm, li0, li1, li2, li3, li4, li5, li6, li7, li8, li10, li20, li30, li35, li36, li60, li72, li100, li572, li2000, li2100, li9999, nI_lt_t, nI_lt_f, nI_le_t, nI_le_f, nI_eq_t, nI_eq_f, nI_eq_neg2, neg_eq_nI2, neg_lt2, neg_le2, nI_lt_neg2, nI_le_neg2, pred_t, pred_f, nI_clamp', vp_t, lt0_t, lt0_le, lt0_lt, lt0_eq, if_true, if_false, ite_true, ite_false, true_and, and_true, false_and, and_false, false_or, or_false, true_or, or_true, eq_self, fs_ne, fs_eq, fs_eq', st12, st13, st21, st23, st31, st32, not_true_eq_false, not_false_eq_true, em, em', en, en', et, et', eg, eg', ed, ed', es, es', eo', ee, ee', ev, ev', al]
        rcases seal_cases (p := p) ev hv r5 with hno | ⟨x, hex, hee, hun⟩
        · try refine unhold ?_
          refine se_cls (v := v') (r := -1) ev hv (Or.inl ⟨rfl, hno⟩) ?_
          have hnoM : ∀ i, i < v' → ¬ (F 55 0 i = nI p ∧ F 57 0 i = 0) := fun i hi => by rw [(q8.2 i (by omega)).1, (q8.2 i (by omega)).2.2]; exact hno i hi
          simp (disch := first | omega | assumption) only [PL_6, P_L_die, P_L_die_15, P_L_law_693, P_X10_die, P_X11_die, P_X11_die_25, P_X11_die_26, P_X10_personAt, P_X10_needPerson, P_X10_needAlive, P_X10_voidEnvelopeOf, P_X11_isPerson, P_X11_voids, P_X11_voids_29, P_X11_in, P_X11_asked, P_X11_asked_10, P_X11_asked_, P_X11_asked__18, P_X11_asked__, P_X11_asked___26, P_X11_thrown, P_X11_told, ↓reduceIte, ↓forall_eq, ↓hold_ca, ↓hold_cam, ↓hold_se, ↓hold_sem, ↓hold_wr, ↓hold_wrm, li0, li1, li2, li3, li4, li5, li6, li7, li8, li10, li20, li30, li35, li36, li60, li72, li100, li572, li2000, li2100, li9999, nI_lt_t, nI_lt_f, nI_le_t, nI_le_f, nI_eq_t, nI_eq_f, nI_eq_neg2, neg_eq_nI2, neg_lt2, neg_le2, nI_lt_neg2, nI_le_neg2, pred_t, pred_f, nI_clamp', vp_t, lt0_t, lt0_le, lt0_lt, lt0_eq, if_true, if_false, ite_true, ite_false, true_and, and_true, false_and, and_false, false_or, or_false, true_or, or_true, eq_self, fs_ne, fs_eq, fs_eq', st12, st13, st21, st23, st31, st32, not_true_eq_false, not_false_eq_true, em, em', en, en', et, et', eg, eg', ed, ed', es, es', eo', ee, ee', ev, ev', al, alm]
          try refine unhold ?_
          refine se_mod (v := v') (r := -1) ev' hv (Or.inl ⟨rfl, hnoM⟩) ?_
          simp (disch := first | omega | assumption) only [PL_6, P_L_die, P_L_die_15, P_L_law_693, P_X10_die, P_X11_die, P_X11_die_25, P_X11_die_26, P_X10_personAt, P_X10_needPerson, P_X10_needAlive, P_X10_voidEnvelopeOf, P_X11_isPerson, P_X11_voids, P_X11_voids_29, P_X11_in, P_X11_asked, P_X11_asked_10, P_X11_asked_, P_X11_asked__18, P_X11_asked__, P_X11_asked___26, P_X11_thrown, P_X11_told, ↓reduceIte, ↓forall_eq, ↓hold_ca, ↓hold_cam, ↓hold_se, ↓hold_sem, ↓hold_wr, ↓hold_wrm, li0, li1, li2, li3, li4, li5, li6, li7, li8, li10, li20, li30, li35, li36, li60, li72, li100, li572, li2000, li2100, li9999, nI_lt_t, nI_lt_f, nI_le_t, nI_le_f, nI_eq_t, nI_eq_f, nI_eq_neg2, neg_eq_nI2, neg_lt2, neg_le2, nI_lt_neg2, nI_le_neg2, pred_t, pred_f, nI_clamp', vp_t, lt0_t, lt0_le, lt0_lt, lt0_eq, if_true, if_false, ite_true, ite_false, true_and, and_true, false_and, and_false, false_or, or_false, true_or, or_true, eq_self, fs_ne, fs_eq, fs_eq', st12, st13, st21, st23, st31, st32, not_true_eq_false, not_false_eq_true, em, em', en, en', et, et', eg, eg', ed, ed', es, es', eo', ee, ee', ev, ev', al, alm]
          refine ⟨⟨q0, q1, q2, q3, ?_, q5, q6, q7, q8, q9, q10, q11⟩, ⟨r0, R1, R2, R3, R4, r5, r6, r7, b_vot.fam (F := F) rfl rfl r8, r9, r10, r11, r12, r13, r14⟩, c_book_mono (c_book.fam (F := F) rfl rfl rfl cbo), fun t2 h1 h2 => c_log_mono (c_log_eq (lg t2 h1 h2) rfl rfl rfl rfl rfl rfl rfl (fun q => by simp (disch := omega) only [fs_ne]))⟩
          · refine ⟨q4.1, fun q hq => ?_⟩
            by_cases e : q = p
            · subst e
              refine ⟨?_, ?_⟩
              · simp (disch := omega) only [fs_ne]
                exact (q4.2 q hq).1
              · simp (disch := omega) only [fs_ne, fs_eq]
            · refine ⟨?_, ?_⟩
              · simp (disch := omega) only [fs_ne]
                exact (q4.2 q hq).1
              · simp (disch := omega) only [fs_ne]
                exact (q4.2 q hq).2
        · obtain ⟨he17, he19⟩ := hee
          have he55 : F 55 0 x = nI p := (q8.2 x (by omega)).1.trans he17
          have he57 : F 57 0 x = 0 := (q8.2 x (by omega)).2.2.trans he19
          have hunM : ∀ i, i < v' → F 55 0 i = nI p ∧ F 57 0 i = 0 → i = x := fun i hi q => hun i hi ⟨(q8.2 i (by omega)).1.symm.trans q.1, (q8.2 i (by omega)).2.2.symm.trans q.2⟩
          have hsv : seals F v' ≥ 1 := by
            have := seals_void (F := F) (F' := fs F 19 0 x 1) he19 (by rw [fs_eq]; decide) v' (fun j hj => by rw [fs_ne (by omega)]) hex
            omega
          try refine unhold ?_
          refine se_cls (v := v') (r := nI x) ev hv (Or.inr ⟨x, hex, rfl, ⟨he17, he19⟩, hun⟩) ?_
          simp (disch := first | omega | assumption) only [PL_6, P_L_die, P_L_die_15, P_L_law_693, P_X10_die, P_X11_die, P_X11_die_25, P_X11_die_26, P_X10_personAt, P_X10_needPerson, P_X10_needAlive, P_X10_voidEnvelopeOf, P_X11_isPerson, P_X11_voids, P_X11_voids_29, P_X11_in, P_X11_asked, P_X11_asked_10, P_X11_asked_, P_X11_asked__18, P_X11_asked__, P_X11_asked___26, P_X11_thrown, P_X11_told, ↓reduceIte, ↓forall_eq, ↓hold_ca, ↓hold_cam, ↓hold_se, ↓hold_sem, ↓hold_wr, ↓hold_wrm, li0, li1, li2, li3, li4, li5, li6, li7, li8, li10, li20, li30, li35, li36, li60, li72, li100, li572, li2000, li2100, li9999, nI_lt_t, nI_lt_f, nI_le_t, nI_le_f, nI_eq_t, nI_eq_f, nI_eq_neg2, neg_eq_nI2, neg_lt2, neg_le2, nI_lt_neg2, nI_le_neg2, pred_t, pred_f, nI_clamp', vp_t, lt0_t, lt0_le, lt0_lt, lt0_eq, if_true, if_false, ite_true, ite_false, true_and, and_true, false_and, and_false, false_or, or_false, true_or, or_true, eq_self, fs_ne, fs_eq, fs_eq', st12, st13, st21, st23, st31, st32, not_true_eq_false, not_false_eq_true, em, em', en, en', et, et', eg, eg', ed, ed', es, es', eo', ee, ee', ev, ev']
          try refine unhold ?_
          refine wr_cls (b := b) (by simp (disch := first | omega | assumption) only [PL_6, P_L_die, P_L_die_15, P_L_law_693, P_X10_die, P_X11_die, P_X11_die_25, P_X11_die_26, P_X10_personAt, P_X10_needPerson, P_X10_needAlive, P_X10_voidEnvelopeOf, P_X11_isPerson, P_X11_voids, P_X11_voids_29, P_X11_in, P_X11_asked, P_X11_asked_10, P_X11_asked_, P_X11_asked__18, P_X11_asked__, P_X11_asked___26, P_X11_thrown, P_X11_told, ↓reduceIte, ↓forall_eq, ↓hold_ca, ↓hold_cam, ↓hold_se, ↓hold_sem, ↓hold_wr, ↓hold_wrm, li0, li1, li2, li3, li4, li5, li6, li7, li8, li10, li20, li30, li35, li36, li60, li72, li100, li572, li2000, li2100, li9999, nI_lt_t, nI_lt_f, nI_le_t, nI_le_f, nI_eq_t, nI_eq_f, nI_eq_neg2, neg_eq_nI2, neg_lt2, neg_le2, nI_lt_neg2, nI_le_neg2, pred_t, pred_f, nI_clamp', vp_t, lt0_t, lt0_le, lt0_lt, lt0_eq, if_true, if_false, ite_true, ite_false, true_and, and_true, false_and, and_false, false_or, or_false, true_or, or_true, eq_self, fs_ne, fs_eq, fs_eq', st12, st13, st21, st23, st31, st32, not_true_eq_false, not_false_eq_true, hb21]) (by omega) ?_
          simp (disch := first | omega | assumption) only [PL_6, P_L_die, P_L_die_15, P_L_law_693, P_X10_die, P_X11_die, P_X11_die_25, P_X11_die_26, P_X10_personAt, P_X10_needPerson, P_X10_needAlive, P_X10_voidEnvelopeOf, P_X11_isPerson, P_X11_voids, P_X11_voids_29, P_X11_in, P_X11_asked, P_X11_asked_10, P_X11_asked_, P_X11_asked__18, P_X11_asked__, P_X11_asked___26, P_X11_thrown, P_X11_told, ↓reduceIte, ↓forall_eq, ↓hold_ca, ↓hold_cam, ↓hold_se, ↓hold_sem, ↓hold_wr, ↓hold_wrm, li0, li1, li2, li3, li4, li5, li6, li7, li8, li10, li20, li30, li35, li36, li60, li72, li100, li572, li2000, li2100, li9999, nI_lt_t, nI_lt_f, nI_le_t, nI_le_f, nI_eq_t, nI_eq_f, nI_eq_neg2, neg_eq_nI2, neg_lt2, neg_le2, nI_lt_neg2, nI_le_neg2, pred_t, pred_f, nI_clamp', vp_t, lt0_t, lt0_le, lt0_lt, lt0_eq, if_true, if_false, ite_true, ite_false, true_and, and_true, false_and, and_false, false_or, or_false, true_or, or_true, eq_self, fs_ne, fs_eq, fs_eq', st12, st13, st21, st23, st31, st32, not_true_eq_false, not_false_eq_true, em, em', en, en', et, et', eg, eg', ed, ed', es, es', eo', ee, ee', ev, ev', al, alm, nar120]
          try refine unhold ?_
          refine se_mod (v := v') (r := nI x) ev' hv (Or.inr ⟨x, hex, rfl, ⟨he55, he57⟩, hunM⟩) ?_
          simp (disch := first | omega | assumption) only [PL_6, P_L_die, P_L_die_15, P_L_law_693, P_X10_die, P_X11_die, P_X11_die_25, P_X11_die_26, P_X10_personAt, P_X10_needPerson, P_X10_needAlive, P_X10_voidEnvelopeOf, P_X11_isPerson, P_X11_voids, P_X11_voids_29, P_X11_in, P_X11_asked, P_X11_asked_10, P_X11_asked_, P_X11_asked__18, P_X11_asked__, P_X11_asked___26, P_X11_thrown, P_X11_told, ↓reduceIte, ↓forall_eq, ↓hold_ca, ↓hold_cam, ↓hold_se, ↓hold_sem, ↓hold_wr, ↓hold_wrm, li0, li1, li2, li3, li4, li5, li6, li7, li8, li10, li20, li30, li35, li36, li60, li72, li100, li572, li2000, li2100, li9999, nI_lt_t, nI_lt_f, nI_le_t, nI_le_f, nI_eq_t, nI_eq_f, nI_eq_neg2, neg_eq_nI2, neg_lt2, neg_le2, nI_lt_neg2, nI_le_neg2, pred_t, pred_f, nI_clamp', vp_t, lt0_t, lt0_le, lt0_lt, lt0_eq, if_true, if_false, ite_true, ite_false, true_and, and_true, false_and, and_false, false_or, or_false, true_or, or_true, eq_self, fs_ne, fs_eq, fs_eq', st12, st13, st21, st23, st31, st32, not_true_eq_false, not_false_eq_true, em, em', en, en', et, et', eg, eg', ed, ed', es, es', eo', ee, ee', ev, ev']
          try refine unhold ?_
          refine wr_mod (b := b) (by simp (disch := first | omega | assumption) only [PL_6, P_L_die, P_L_die_15, P_L_law_693, P_X10_die, P_X11_die, P_X11_die_25, P_X11_die_26, P_X10_personAt, P_X10_needPerson, P_X10_needAlive, P_X10_voidEnvelopeOf, P_X11_isPerson, P_X11_voids, P_X11_voids_29, P_X11_in, P_X11_asked, P_X11_asked_10, P_X11_asked_, P_X11_asked__18, P_X11_asked__, P_X11_asked___26, P_X11_thrown, P_X11_told, ↓reduceIte, ↓forall_eq, ↓hold_ca, ↓hold_cam, ↓hold_se, ↓hold_sem, ↓hold_wr, ↓hold_wrm, li0, li1, li2, li3, li4, li5, li6, li7, li8, li10, li20, li30, li35, li36, li60, li72, li100, li572, li2000, li2100, li9999, nI_lt_t, nI_lt_f, nI_le_t, nI_le_f, nI_eq_t, nI_eq_f, nI_eq_neg2, neg_eq_nI2, neg_lt2, neg_le2, nI_lt_neg2, nI_le_neg2, pred_t, pred_f, nI_clamp', vp_t, lt0_t, lt0_le, lt0_lt, lt0_eq, if_true, if_false, ite_true, ite_false, true_and, and_true, false_and, and_false, false_or, or_false, true_or, or_true, eq_self, fs_ne, fs_eq, fs_eq', st12, st13, st21, st23, st31, st32, not_true_eq_false, not_false_eq_true, hb42]) (by omega) ?_
          simp (disch := first | omega | assumption) only [PL_6, P_L_die, P_L_die_15, P_L_law_693, P_X10_die, P_X11_die, P_X11_die_25, P_X11_die_26, P_X10_personAt, P_X10_needPerson, P_X10_needAlive, P_X10_voidEnvelopeOf, P_X11_isPerson, P_X11_voids, P_X11_voids_29, P_X11_in, P_X11_asked, P_X11_asked_10, P_X11_asked_, P_X11_asked__18, P_X11_asked__, P_X11_asked___26, P_X11_thrown, P_X11_told, ↓reduceIte, ↓forall_eq, ↓hold_ca, ↓hold_cam, ↓hold_se, ↓hold_sem, ↓hold_wr, ↓hold_wrm, li0, li1, li2, li3, li4, li5, li6, li7, li8, li10, li20, li30, li35, li36, li60, li72, li100, li572, li2000, li2100, li9999, nI_lt_t, nI_lt_f, nI_le_t, nI_le_f, nI_eq_t, nI_eq_f, nI_eq_neg2, neg_eq_nI2, neg_lt2, neg_le2, nI_lt_neg2, nI_le_neg2, pred_t, pred_f, nI_clamp', vp_t, lt0_t, lt0_le, lt0_lt, lt0_eq, if_true, if_false, ite_true, ite_false, true_and, and_true, false_and, and_false, false_or, or_false, true_or, or_true, eq_self, fs_ne, fs_eq, fs_eq', st12, st13, st21, st23, st31, st32, not_true_eq_false, not_false_eq_true, em, em', en, en', et, et', eg, eg', ed, ed', es, es', eo', ee, ee', ev, ev']
          refine ⟨⟨q0, q1, q2, q3, ?_, q5, q6, q7, ?_, q9, q10, ?_⟩, ⟨r0, R1, R2, R3, R4, ?_, r6, r7, b_vot.fam (F := F) rfl rfl r8, r9, r10, ?_, r12, r13, r14⟩, ?_, fun t2 h1 h2 => c_log_mono (c_log_eq (lg t2 h1 h2) rfl rfl rfl rfl rfl rfl rfl (fun q => by simp (disch := omega) only [fs_ne]))⟩
          · refine ⟨q4.1, fun q hq => ?_⟩
            by_cases e : q = p
            · subst e
              refine ⟨?_, ?_⟩
              · simp (disch := omega) only [fs_ne]
                exact (q4.2 q hq).1
              · simp (disch := omega) only [fs_ne, fs_eq]
            · refine ⟨?_, ?_⟩
              · simp (disch := omega) only [fs_ne]
                exact (q4.2 q hq).1
              · simp (disch := omega) only [fs_ne]
                exact (q4.2 q hq).2
          · refine ⟨q8.1, fun j hj => ⟨(q8.2 j hj).1, (q8.2 j hj).2.1, ?_⟩⟩
            by_cases e : j = x
            · subst e
              simp (disch := omega) only [fs_ne, fs_eq]
            · simp (disch := omega) only [fs_ne]
              exact (q8.2 j hj).2.2
          · exact And.left (book_more (F := F) (b := b) (v := t) (c := 120) (p := p) (by omega) (by omega) (by decide) (by omega) q11 r11 (by simp (disch := omega) only [fs_ne, fs_eq]) (by simp (disch := omega) only [fs_ne, fs_eq]) (by intro j; by_cases e : j = b; (subst e; simp (disch := omega) only [fs_ne, fs_eq, eq_self, if_true]; try rfl); (simp (disch := omega) only [fs_ne, if_neg e])) (by intro j; by_cases e : j = b; (subst e; simp (disch := omega) only [fs_ne, fs_eq, eq_self, if_true]; try rfl); (simp (disch := omega) only [fs_ne, if_neg e])) (by intro j; by_cases e : j = b; (subst e; simp (disch := omega) only [fs_ne, fs_eq, eq_self, if_true]; try rfl); (simp (disch := omega) only [fs_ne, if_neg e])) (by intro j; by_cases e : j = b; (subst e; simp (disch := omega) only [fs_ne, fs_eq, eq_self, if_true]; try rfl); (simp (disch := omega) only [fs_ne, if_neg e])) (by intro j; by_cases e : j = b; (subst e; simp (disch := omega) only [fs_ne, fs_eq, eq_self, if_true]; try rfl); (simp (disch := omega) only [fs_ne, if_neg e])) (by intro j; by_cases e : j = b; (subst e; simp (disch := omega) only [fs_ne, fs_eq, eq_self, if_true]; try rfl); (simp (disch := omega) only [fs_ne, if_neg e])))
          · refine b_seal_void (p := p) (e := x) (v := v') r5 R4 ev hv hex hb he17 he19 rfl (fun _ => rfl) (fun _ => rfl) (fun j hj => by simp (disch := omega) only [fs_ne]) (by simp (disch := omega) only [fs_ne, fs_eq]; decide) (fun q hq => by first | rfl | simp (disch := omega) only [fs_ne])
          · exact And.right (book_more (F := F) (b := b) (v := t) (c := 120) (p := p) (by omega) (by omega) (by decide) (by omega) q11 r11 (by simp (disch := omega) only [fs_ne, fs_eq]) (by simp (disch := omega) only [fs_ne, fs_eq]) (by intro j; by_cases e : j = b; (subst e; simp (disch := omega) only [fs_ne, fs_eq, eq_self, if_true]; try rfl); (simp (disch := omega) only [fs_ne, if_neg e])) (by intro j; by_cases e : j = b; (subst e; simp (disch := omega) only [fs_ne, fs_eq, eq_self, if_true]; try rfl); (simp (disch := omega) only [fs_ne, if_neg e])) (by intro j; by_cases e : j = b; (subst e; simp (disch := omega) only [fs_ne, fs_eq, eq_self, if_true]; try rfl); (simp (disch := omega) only [fs_ne, if_neg e])) (by intro j; by_cases e : j = b; (subst e; simp (disch := omega) only [fs_ne, fs_eq, eq_self, if_true]; try rfl); (simp (disch := omega) only [fs_ne, if_neg e])) (by intro j; by_cases e : j = b; (subst e; simp (disch := omega) only [fs_ne, fs_eq, eq_self, if_true]; try rfl); (simp (disch := omega) only [fs_ne, if_neg e])) (by intro j; by_cases e : j = b; (subst e; simp (disch := omega) only [fs_ne, fs_eq, eq_self, if_true]; try rfl); (simp (disch := omega) only [fs_ne, if_neg e])))
          · refine c_book_of (b' := b + 1) (v' := v') (S := seals F v' - 1) (by simp (disch := omega) only [fs_ne, fs_eq]) ev hv (seals_voided hex he19 (by simp (disch := omega) only [fs_ne, fs_eq]; decide) (fun j hj => by simp (disch := omega) only [fs_ne])) (by omega)
      · have alm : ¬ F 47 0 p = nI 0 := by rw [(q4.2 p (by omega)).2]; exact al
        simp (disch := first | omega | assumption) only [PL_6, P_L_die, P_L_die_15, P_L_law_693, P_X10_die, P_X11_die, P_X11_die_25, P_X11_die_26, P_X10_personAt, P_X10_needPerson, P_X10_needAlive, P_X10_voidEnvelopeOf, P_X11_isPerson, P_X11_voids, P_X11_voids_29, P_X11_in, P_X11_asked, P_X11_asked_10, P_X11_asked_, P_X11_asked__18, P_X11_asked__, P_X11_asked___26, P_X11_thrown, P_X11_told, ↓reduceIte, ↓forall_eq, ↓hold_ca, ↓hold_cam, ↓hold_se, ↓hold_sem, ↓hold_wr, ↓hold_wrm, li0, li1, li2, li3, li4, li5, li6, li7, li8, li10, li20, li30, li35, li36, li60, li72, li100, li572, li2000, li2100, li9999, nI_lt_t, nI_lt_f, nI_le_t, nI_le_f, nI_eq_t, nI_eq_f, nI_eq_neg2, neg_eq_nI2, neg_lt2, neg_le2, nI_lt_neg2, nI_le_neg2, pred_t, pred_f, nI_clamp', vp_t, lt0_t, lt0_le, lt0_lt, lt0_eq, if_true, if_false, ite_true, ite_false, true_and, and_true, false_and, and_false, false_or, or_false, true_or, or_true, eq_self, fs_ne, fs_eq, fs_eq', st12, st13, st21, st23, st31, st32, not_true_eq_false, not_false_eq_true, em, em', en, en', et, et', eg, eg', ed, ed', es, es', eo', ee, ee', ev, ev', al, alm]
        refine hI.end ?_
        repeat (first | exact Sm.refl _ | refine Sm.fs40 ?_ _ _ (by decide) | refine Sm.fsT ?_ _ _ _ _ rfl (by decide) (by decide))
    · first
        | exfalso; omega
        | simp (disch := first | omega | assumption) only [PL_6, P_L_die, P_L_die_15, P_L_law_693, P_X10_die, P_X11_die, P_X11_die_25, P_X11_die_26, P_X10_personAt, P_X10_needPerson, P_X10_needAlive, P_X10_voidEnvelopeOf, P_X11_isPerson, P_X11_voids, P_X11_voids_29, P_X11_in, P_X11_asked, P_X11_asked_10, P_X11_asked_, P_X11_asked__18, P_X11_asked__, P_X11_asked___26, P_X11_thrown, P_X11_told, ↓reduceIte, ↓forall_eq, ↓hold_ca, ↓hold_cam, ↓hold_se, ↓hold_sem, ↓hold_wr, ↓hold_wrm, li0, li1, li2, li3, li4, li5, li6, li7, li8, li10, li20, li30, li35, li36, li60, li72, li100, li572, li2000, li2100, li9999, nI_lt_t, nI_lt_f, nI_le_t, nI_le_f, nI_eq_t, nI_eq_f, nI_eq_neg2, neg_eq_nI2, neg_lt2, neg_le2, nI_lt_neg2, nI_le_neg2, pred_t, pred_f, nI_clamp', vp_t, lt0_t, lt0_le, lt0_lt, lt0_eq, if_true, if_false, ite_true, ite_false, true_and, and_true, false_and, and_false, false_or, or_false, true_or, or_true, eq_self, fs_ne, fs_eq, fs_eq', st12, st13, st21, st23, st31, st32, not_true_eq_false, not_false_eq_true, em, em', en, en', et, et', eg, eg', ed, ed', es, es', eo', ee, ee', ev, ev']
          refine hI.end ?_
          repeat (first | exact Sm.refl _ | refine Sm.fs40 ?_ _ _ (by decide) | refine Sm.fsT ?_ _ _ _ _ rfl (by decide) (by decide))
theorem seals_cong_z {F F' : GF} : ∀ n, (∀ j, j < n → (F' 19 0 j = 0 ↔ F 19 0 j = 0)) → seals F' n = seals F n := by
  intro n
  induction n with
  | zero => intro _; rfl
  | succ n ih =>
    intro h
    unfold seals
    rw [ih (fun j hj => h j (Nat.lt_succ_of_lt hj))]
    have := h n (Nat.lt_succ_self n)
    by_cases e : F 19 0 n = 0
    · rw [if_pos e, if_pos (this.mpr e)]
    · rw [if_neg e, if_neg (fun z => e (this.mp z))]
theorem seals_voided_lt {F F' : GF} {x v : Nat} (hx : x < v) (h1 : F 19 0 x = 0) (h2 : ¬ F' 19 0 x = 0) (n19 : ∀ j, j < v → j ≠ x → F' 19 0 j = F 19 0 j) : seals F' v ≤ seals F v - 1 := by
  have e1 : seals F' v = seals (fs F 19 0 x 1) v := by
    apply seals_cong_z v
    intro j hj
    by_cases e : j = x
    · subst e
      rw [fs_eq]
      exact ⟨fun z => absurd z h2, fun z => absurd z (by decide)⟩
    · rw [fs_ne (by omega), n19 j hj e]
  have := seals_void (F := F) (F' := fs F 19 0 x 1) h1 (by rw [fs_eq]; decide) v (fun j hj => by rw [fs_ne (by omega)]) hx
  omega
set_option maxHeartbeats 1000000 in
set_option maxRecDepth 20000 in
theorem m16 {k : Nat} {F : GF} (hk : k < 512) (h : Inv k F) (a1 a2 a3 : Int32) : PL_16 a1 a2 a3 (Inv (k + 1)) F := by
  have hI := h
  obtain ⟨⟨q0, q1, q2, q3, q4, q5, q6, q7, q8, q9, q10, q11⟩, ⟨r0, r1, r2, r3, r4, r5, r6, r7, r8, r9, r10, r11, r12, r13, r14⟩, cb, lg⟩ := h
  have R1 := r1
  have R2 := r2
  have R3 := r3
  have R4 := r4
  obtain ⟨m, hm, em, hmc⟩ := r1
  have em' : F 40 0 6 = nI m := q2.1.trans em
  obtain ⟨n, hn, en⟩ := r2
  have en' : F 40 0 9 = nI n := q4.1.trans en
  obtain ⟨t, g, d, s, e, ht, et, hg, eg, hd, ed, hs, es, he, ee, hem, hg1, hg2, hg3⟩ := r3
  have et' : F 40 0 0 = nI t := q0.trans et
  have eg' : F 40 0 14 = nI g := q5.1.trans eg
  have ed' : F 40 0 15 = nI d := q5.2.1.trans ed
  have es' : F 40 0 16 = nI s := q5.2.2.1.trans es
  have eo' : F 40 0 17 = F 10 0 3 := q5.2.2.2.1
  have ee' : F 40 0 19 = nI e := q5.2.2.2.2.trans ee
  obtain ⟨⟨v, hv, ev⟩, hev⟩ := r4
  have ev' : F 40 0 26 = nI v := q8.1.trans ev
  have hlog := lg t et ht
  obtain ⟨N, hN, eN⟩ := hlog.n (by omega)
  obtain ⟨-, eM, hst, hla⟩ := hlog.stays eN (by omega) (by omega)
  rcases int_cases a2 with hneg_c | ⟨c, hbig_c, rfl⟩
  · rcases int_cases a1 with hneg_p | ⟨p, hbig_p, rfl⟩
    · first
        | exfalso; omega
        | simp (disch := first | omega | assumption) only [PL_16, P_L_early, P_X10_early, P_X11_early, P_X11_early_47, P_X11_early_48, P_X11_canVote, P_X10_personAt, P_X10_needPerson, P_X10_needRange, P_X10_needStage, P_X10_needAlive, P_X10_needOnRoll, P_X5_stationFor, P_X10_voidEnvelopeOf, P_X11_isPerson, P_X11_voids, P_X11_voids_29, P_X11_in, P_X11_asked, P_X11_asked_10, P_X11_asked_, P_X11_asked__18, P_X11_asked__, P_X11_asked___26, P_X11_thrown, P_X11_told, ↓reduceIte, ↓forall_eq, ↓hold_ca, ↓hold_cam, ↓hold_se, ↓hold_sem, ↓hold_wr, ↓hold_wrm, li0, li1, li2, li3, li4, li5, li6, li7, li8, li10, li20, li30, li35, li36, li60, li72, li100, li572, li2000, li2100, li9999, nI_lt_t, nI_lt_f, nI_le_t, nI_le_f, nI_eq_t, nI_eq_f, nI_eq_neg2, neg_eq_nI2, neg_lt2, neg_le2, nI_lt_neg2, nI_le_neg2, pred_t, pred_f, nI_clamp', vp_t, lt0_t, lt0_le, lt0_lt, lt0_eq, if_true, if_false, ite_true, ite_false, true_and, and_true, false_and, and_false, false_or, or_false, true_or, or_true, eq_self, fs_ne, fs_eq, fs_eq', st12, st13, st21, st23, st31, st32, not_true_eq_false, not_false_eq_true, em, em', en, en', et, et', eg, eg', ed, ed', es, es', eo', ee, ee', ev, ev']
          refine hI.end ?_
          repeat (first | exact Sm.refl _ | refine Sm.fs40 ?_ _ _ (by decide) | refine Sm.fsT ?_ _ _ _ _ rfl (by decide) (by decide))
    · by_cases hlt_p : p < n
      · have hb : p < 20 := by omega
        by_cases g2 : g = 2
        · by_cases al : F 33 p 2 = nI 0
          · have alm : F 47 0 p = nI 0 := ((q4.2 p hb).2).trans al
            rcases r6 p hb with hx1 | ⟨so, hso, hon⟩
            · have hx2 : F 52 0 p = -1 := (q7.1 p hb).1.trans hx1
              simp (disch := first | omega | assumption) only [PL_16, P_L_early, P_X10_early, P_X11_early, P_X11_early_47, P_X11_early_48, P_X11_canVote, P_X10_personAt, P_X10_needPerson, P_X10_needRange, P_X10_needStage, P_X10_needAlive, P_X10_needOnRoll, P_X5_stationFor, P_X10_voidEnvelopeOf, P_X11_isPerson, P_X11_voids, P_X11_voids_29, P_X11_in, P_X11_asked, P_X11_asked_10, P_X11_asked_, P_X11_asked__18, P_X11_asked__, P_X11_asked___26, P_X11_thrown, P_X11_told, ↓reduceIte, ↓forall_eq, ↓hold_ca, ↓hold_cam, ↓hold_se, ↓hold_sem, ↓hold_wr, ↓hold_wrm, li0, li1, li2, li3, li4, li5, li6, li7, li8, li10, li20, li30, li35, li36, li60, li72, li100, li572, li2000, li2100, li9999, nI_lt_t, nI_lt_f, nI_le_t, nI_le_f, nI_eq_t, nI_eq_f, nI_eq_neg2, neg_eq_nI2, neg_lt2, neg_le2, nI_lt_neg2, nI_le_neg2, pred_t, pred_f, nI_clamp', vp_t, lt0_t, lt0_le, lt0_lt, lt0_eq, if_true, if_false, ite_true, ite_false, true_and, and_true, false_and, and_false, false_or, or_false, true_or, or_true, eq_self, fs_ne, fs_eq, fs_eq', st12, st13, st21, st23, st31, st32, not_true_eq_false, not_false_eq_true, em, em', en, en', et, et', eg, eg', ed, ed', es, es', eo', ee, ee', ev, ev', g2, hx1, hx2, al, alm]
              refine hI.end ?_
              repeat (first | exact Sm.refl _ | refine Sm.fs40 ?_ _ _ (by decide) | refine Sm.fsT ?_ _ _ _ _ rfl (by decide) (by decide))
            · have hx1 := hon
              have hx2 : F 52 0 p = nI so := (q7.1 p hb).1.trans hon
              by_cases hv60 : v < 60
              · simp (disch := first | omega | assumption) only [PL_16, P_L_early, P_X10_early, P_X11_early, P_X11_early_47, P_X11_early_48, P_X11_canVote, P_X10_personAt, P_X10_needPerson, P_X10_needRange, P_X10_needStage, P_X10_needAlive, P_X10_needOnRoll, P_X5_stationFor, P_X10_voidEnvelopeOf, P_X11_isPerson, P_X11_voids, P_X11_voids_29, P_X11_in, P_X11_asked, P_X11_asked_10, P_X11_asked_, P_X11_asked__18, P_X11_asked__, P_X11_asked___26, P_X11_thrown, P_X11_told, ↓reduceIte, ↓forall_eq, ↓hold_ca, ↓hold_cam, ↓hold_se, ↓hold_sem, ↓hold_wr, ↓hold_wrm, li0, li1, li2, li3, li4, li5, li6, li7, li8, li10, li20, li30, li35, li36, li60, li72, li100, li572, li2000, li2100, li9999, nI_lt_t, nI_lt_f, nI_le_t, nI_le_f, nI_eq_t, nI_eq_f, nI_eq_neg2, neg_eq_nI2, neg_lt2, neg_le2, nI_lt_neg2, nI_le_neg2, pred_t, pred_f, nI_clamp', vp_t, lt0_t, lt0_le, lt0_lt, lt0_eq, if_true, if_false, ite_true, ite_false, true_and, and_true, false_and, and_false, false_or, or_false, true_or, or_true, eq_self, fs_ne, fs_eq, fs_eq', st12, st13, st21, st23, st31, st32, not_true_eq_false, not_false_eq_true, em, em', en, en', et, et', eg, eg', ed, ed', es, es', eo', ee, ee', ev, ev', hx1, hx2, al, alm]
                refine hI.end ?_
                repeat (first | exact Sm.refl _ | refine Sm.fs40 ?_ _ _ (by decide) | refine Sm.fsT ?_ _ _ _ _ rfl (by decide) (by decide))
              · simp (disch := first | omega | assumption) only [PL_16, P_L_early, P_X10_early, P_X11_early, P_X11_early_47, P_X11_early_48, P_X11_canVote, P_X10_personAt, P_X10_needPerson, P_X10_needRange, P_X10_needStage, P_X10_needAlive, P_X10_needOnRoll, P_X5_stationFor, P_X10_voidEnvelopeOf, P_X11_isPerson, P_X11_voids, P_X11_voids_29, P_X11_in, P_X11_asked, P_X11_asked_10, P_X11_asked_, P_X11_asked__18, P_X11_asked__, P_X11_asked___26, P_X11_thrown, P_X11_told, ↓reduceIte, ↓forall_eq, ↓hold_ca, ↓hold_cam, ↓hold_se, ↓hold_sem, ↓hold_wr, ↓hold_wrm, li0, li1, li2, li3, li4, li5, li6, li7, li8, li10, li20, li30, li35, li36, li60, li72, li100, li572, li2000, li2100, li9999, nI_lt_t, nI_lt_f, nI_le_t, nI_le_f, nI_eq_t, nI_eq_f, nI_eq_neg2, neg_eq_nI2, neg_lt2, neg_le2, nI_lt_neg2, nI_le_neg2, pred_t, pred_f, nI_clamp', vp_t, lt0_t, lt0_le, lt0_lt, lt0_eq, if_true, if_false, ite_true, ite_false, true_and, and_true, false_and, and_false, false_or, or_false, true_or, or_true, eq_self, fs_ne, fs_eq, fs_eq', st12, st13, st21, st23, st31, st32, not_true_eq_false, not_false_eq_true, em, em', en, en', et, et', eg, eg', ed, ed', es, es', eo', ee, ee', ev, ev', g2, hx1, hx2, al, alm]
                refine hI.end ?_
                repeat (first | exact Sm.refl _ | refine Sm.fs40 ?_ _ _ (by decide) | refine Sm.fsT ?_ _ _ _ _ rfl (by decide) (by decide))
          · have alm : ¬ F 47 0 p = nI 0 := by rw [(q4.2 p hb).2]; exact al
            rcases r6 p hb with hx1 | ⟨so, hso, hon⟩
            · have hx2 : F 52 0 p = -1 := (q7.1 p hb).1.trans hx1
              simp (disch := first | omega | assumption) only [PL_16, P_L_early, P_X10_early, P_X11_early, P_X11_early_47, P_X11_early_48, P_X11_canVote, P_X10_personAt, P_X10_needPerson, P_X10_needRange, P_X10_needStage, P_X10_needAlive, P_X10_needOnRoll, P_X5_stationFor, P_X10_voidEnvelopeOf, P_X11_isPerson, P_X11_voids, P_X11_voids_29, P_X11_in, P_X11_asked, P_X11_asked_10, P_X11_asked_, P_X11_asked__18, P_X11_asked__, P_X11_asked___26, P_X11_thrown, P_X11_told, ↓reduceIte, ↓forall_eq, ↓hold_ca, ↓hold_cam, ↓hold_se, ↓hold_sem, ↓hold_wr, ↓hold_wrm, li0, li1, li2, li3, li4, li5, li6, li7, li8, li10, li20, li30, li35, li36, li60, li72, li100, li572, li2000, li2100, li9999, nI_lt_t, nI_lt_f, nI_le_t, nI_le_f, nI_eq_t, nI_eq_f, nI_eq_neg2, neg_eq_nI2, neg_lt2, neg_le2, nI_lt_neg2, nI_le_neg2, pred_t, pred_f, nI_clamp', vp_t, lt0_t, lt0_le, lt0_lt, lt0_eq, if_true, if_false, ite_true, ite_false, true_and, and_true, false_and, and_false, false_or, or_false, true_or, or_true, eq_self, fs_ne, fs_eq, fs_eq', st12, st13, st21, st23, st31, st32, not_true_eq_false, not_false_eq_true, em, em', en, en', et, et', eg, eg', ed, ed', es, es', eo', ee, ee', ev, ev', g2, hx1, hx2, al, alm]
              refine hI.end ?_
              repeat (first | exact Sm.refl _ | refine Sm.fs40 ?_ _ _ (by decide) | refine Sm.fsT ?_ _ _ _ _ rfl (by decide) (by decide))
            · have hx1 := hon
              have hx2 : F 52 0 p = nI so := (q7.1 p hb).1.trans hon
              simp (disch := first | omega | assumption) only [PL_16, P_L_early, P_X10_early, P_X11_early, P_X11_early_47, P_X11_early_48, P_X11_canVote, P_X10_personAt, P_X10_needPerson, P_X10_needRange, P_X10_needStage, P_X10_needAlive, P_X10_needOnRoll, P_X5_stationFor, P_X10_voidEnvelopeOf, P_X11_isPerson, P_X11_voids, P_X11_voids_29, P_X11_in, P_X11_asked, P_X11_asked_10, P_X11_asked_, P_X11_asked__18, P_X11_asked__, P_X11_asked___26, P_X11_thrown, P_X11_told, ↓reduceIte, ↓forall_eq, ↓hold_ca, ↓hold_cam, ↓hold_se, ↓hold_sem, ↓hold_wr, ↓hold_wrm, li0, li1, li2, li3, li4, li5, li6, li7, li8, li10, li20, li30, li35, li36, li60, li72, li100, li572, li2000, li2100, li9999, nI_lt_t, nI_lt_f, nI_le_t, nI_le_f, nI_eq_t, nI_eq_f, nI_eq_neg2, neg_eq_nI2, neg_lt2, neg_le2, nI_lt_neg2, nI_le_neg2, pred_t, pred_f, nI_clamp', vp_t, lt0_t, lt0_le, lt0_lt, lt0_eq, if_true, if_false, ite_true, ite_false, true_and, and_true, false_and, and_false, false_or, or_false, true_or, or_true, eq_self, fs_ne, fs_eq, fs_eq', st12, st13, st21, st23, st31, st32, not_true_eq_false, not_false_eq_true, em, em', en, en', et, et', eg, eg', ed, ed', es, es', eo', ee, ee', ev, ev', g2, hx1, hx2, al, alm]
              refine hI.end ?_
              repeat (first | exact Sm.refl _ | refine Sm.fs40 ?_ _ _ (by decide) | refine Sm.fsT ?_ _ _ _ _ rfl (by decide) (by decide))
        · simp (disch := first | omega | assumption) only [PL_16, P_L_early, P_X10_early, P_X11_early, P_X11_early_47, P_X11_early_48, P_X11_canVote, P_X10_personAt, P_X10_needPerson, P_X10_needRange, P_X10_needStage, P_X10_needAlive, P_X10_needOnRoll, P_X5_stationFor, P_X10_voidEnvelopeOf, P_X11_isPerson, P_X11_voids, P_X11_voids_29, P_X11_in, P_X11_asked, P_X11_asked_10, P_X11_asked_, P_X11_asked__18, P_X11_asked__, P_X11_asked___26, P_X11_thrown, P_X11_told, ↓reduceIte, ↓forall_eq, ↓hold_ca, ↓hold_cam, ↓hold_se, ↓hold_sem, ↓hold_wr, ↓hold_wrm, li0, li1, li2, li3, li4, li5, li6, li7, li8, li10, li20, li30, li35, li36, li60, li72, li100, li572, li2000, li2100, li9999, nI_lt_t, nI_lt_f, nI_le_t, nI_le_f, nI_eq_t, nI_eq_f, nI_eq_neg2, neg_eq_nI2, neg_lt2, neg_le2, nI_lt_neg2, nI_le_neg2, pred_t, pred_f, nI_clamp', vp_t, lt0_t, lt0_le, lt0_lt, lt0_eq, if_true, if_false, ite_true, ite_false, true_and, and_true, false_and, and_false, false_or, or_false, true_or, or_true, eq_self, fs_ne, fs_eq, fs_eq', st12, st13, st21, st23, st31, st32, not_true_eq_false, not_false_eq_true, em, em', en, en', et, et', eg, eg', ed, ed', es, es', eo', ee, ee', ev, ev']
          refine hI.end ?_
          repeat (first | exact Sm.refl _ | refine Sm.fs40 ?_ _ _ (by decide) | refine Sm.fsT ?_ _ _ _ _ rfl (by decide) (by decide))
      · first
          | exfalso; omega
          | simp (disch := first | omega | assumption) only [PL_16, P_L_early, P_X10_early, P_X11_early, P_X11_early_47, P_X11_early_48, P_X11_canVote, P_X10_personAt, P_X10_needPerson, P_X10_needRange, P_X10_needStage, P_X10_needAlive, P_X10_needOnRoll, P_X5_stationFor, P_X10_voidEnvelopeOf, P_X11_isPerson, P_X11_voids, P_X11_voids_29, P_X11_in, P_X11_asked, P_X11_asked_10, P_X11_asked_, P_X11_asked__18, P_X11_asked__, P_X11_asked___26, P_X11_thrown, P_X11_told, ↓reduceIte, ↓forall_eq, ↓hold_ca, ↓hold_cam, ↓hold_se, ↓hold_sem, ↓hold_wr, ↓hold_wrm, li0, li1, li2, li3, li4, li5, li6, li7, li8, li10, li20, li30, li35, li36, li60, li72, li100, li572, li2000, li2100, li9999, nI_lt_t, nI_lt_f, nI_le_t, nI_le_f, nI_eq_t, nI_eq_f, nI_eq_neg2, neg_eq_nI2, neg_lt2, neg_le2, nI_lt_neg2, nI_le_neg2, pred_t, pred_f, nI_clamp', vp_t, lt0_t, lt0_le, lt0_lt, lt0_eq, if_true, if_false, ite_true, ite_false, true_and, and_true, false_and, and_false, false_or, or_false, true_or, or_true, eq_self, fs_ne, fs_eq, fs_eq', st12, st13, st21, st23, st31, st32, not_true_eq_false, not_false_eq_true, em, em', en, en', et, et', eg, eg', ed, ed', es, es', eo', ee, ee', ev, ev']
            refine hI.end ?_
            repeat (first | exact Sm.refl _ | refine Sm.fs40 ?_ _ _ (by decide) | refine Sm.fsT ?_ _ _ _ _ rfl (by decide) (by decide))
  · by_cases hlt_c : c < 6
    · rcases int_cases a1 with hneg_p | ⟨p, hbig_p, rfl⟩
      · first
          | exfalso; omega
          | simp (disch := first | omega | assumption) only [PL_16, P_L_early, P_X10_early, P_X11_early, P_X11_early_47, P_X11_early_48, P_X11_canVote, P_X10_personAt, P_X10_needPerson, P_X10_needRange, P_X10_needStage, P_X10_needAlive, P_X10_needOnRoll, P_X5_stationFor, P_X10_voidEnvelopeOf, P_X11_isPerson, P_X11_voids, P_X11_voids_29, P_X11_in, P_X11_asked, P_X11_asked_10, P_X11_asked_, P_X11_asked__18, P_X11_asked__, P_X11_asked___26, P_X11_thrown, P_X11_told, ↓reduceIte, ↓forall_eq, ↓hold_ca, ↓hold_cam, ↓hold_se, ↓hold_sem, ↓hold_wr, ↓hold_wrm, li0, li1, li2, li3, li4, li5, li6, li7, li8, li10, li20, li30, li35, li36, li60, li72, li100, li572, li2000, li2100, li9999, nI_lt_t, nI_lt_f, nI_le_t, nI_le_f, nI_eq_t, nI_eq_f, nI_eq_neg2, neg_eq_nI2, neg_lt2, neg_le2, nI_lt_neg2, nI_le_neg2, pred_t, pred_f, nI_clamp', vp_t, lt0_t, lt0_le, lt0_lt, lt0_eq, if_true, if_false, ite_true, ite_false, true_and, and_true, false_and, and_false, false_or, or_false, true_or, or_true, eq_self, fs_ne, fs_eq, fs_eq', st12, st13, st21, st23, st31, st32, not_true_eq_false, not_false_eq_true, em, em', en, en', et, et', eg, eg', ed, ed', es, es', eo', ee, ee', ev, ev']
            refine hI.end ?_
            repeat (first | exact Sm.refl _ | refine Sm.fs40 ?_ _ _ (by decide) | refine Sm.fsT ?_ _ _ _ _ rfl (by decide) (by decide))
      · by_cases hlt_p : p < n
        · have hb : p < 20 := by omega
          by_cases g2 : g = 2
          · by_cases al : F 33 p 2 = nI 0
            · have alm : F 47 0 p = nI 0 := ((q4.2 p hb).2).trans al
              rcases r6 p hb with hx1 | ⟨so, hso, hon⟩
              · have hx2 : F 52 0 p = -1 := (q7.1 p hb).1.trans hx1
                simp (disch := first | omega | assumption) only [PL_16, P_L_early, P_X10_early, P_X11_early, P_X11_early_47, P_X11_early_48, P_X11_canVote, P_X10_personAt, P_X10_needPerson, P_X10_needRange, P_X10_needStage, P_X10_needAlive, P_X10_needOnRoll, P_X5_stationFor, P_X10_voidEnvelopeOf, P_X11_isPerson, P_X11_voids, P_X11_voids_29, P_X11_in, P_X11_asked, P_X11_asked_10, P_X11_asked_, P_X11_asked__18, P_X11_asked__, P_X11_asked___26, P_X11_thrown, P_X11_told, ↓reduceIte, ↓forall_eq, ↓hold_ca, ↓hold_cam, ↓hold_se, ↓hold_sem, ↓hold_wr, ↓hold_wrm, li0, li1, li2, li3, li4, li5, li6, li7, li8, li10, li20, li30, li35, li36, li60, li72, li100, li572, li2000, li2100, li9999, nI_lt_t, nI_lt_f, nI_le_t, nI_le_f, nI_eq_t, nI_eq_f, nI_eq_neg2, neg_eq_nI2, neg_lt2, neg_le2, nI_lt_neg2, nI_le_neg2, pred_t, pred_f, nI_clamp', vp_t, lt0_t, lt0_le, lt0_lt, lt0_eq, if_true, if_false, ite_true, ite_false, true_and, and_true, false_and, and_false, false_or, or_false, true_or, or_true, eq_self, fs_ne, fs_eq, fs_eq', st12, st13, st21, st23, st31, st32, not_true_eq_false, not_false_eq_true, em, em', en, en', et, et', eg, eg', ed, ed', es, es', eo', ee, ee', ev, ev', g2, hx1, hx2, al, alm]
                refine hI.end ?_
                repeat (first | exact Sm.refl _ | refine Sm.fs40 ?_ _ _ (by decide) | refine Sm.fsT ?_ _ _ _ _ rfl (by decide) (by decide))
              · have hx1 := hon
                have hx2 : F 52 0 p = nI so := (q7.1 p hb).1.trans hon
                by_cases hv60 : v < 60
                · have hun0 : F 15 0 p = 0 := r14 (Or.inr (by rw [eg, g2]; rfl)) p hb
                  have cbo := cb
                  obtain ⟨b, v', hb21, hb16, hb60, hbk⟩ := cb
                  obtain rfl : v' = v := (nI_eq_iff (by omega) (by omega)).mp (hb16.symm.trans ev)
                  have hb42 : F 40 0 42 = nI b := q11.1.trans hb21
                  have hsl := seals_le (F := F) v'
                  have q2s : F 10 0 0 = nI 2 := by rw [eg, g2]
                  simp (disch := first | omega | assumption) only [PL_16, P_L_early, P_X10_early, P_X11_early, P_X11_early_47, P_X11_early_48, P_X11_canVote, P_X10_personAt, P_X10_needPerson, P_X10_needRange, P_X10_needStage, P_X10_needAlive, P_X10_needOnRoll, P_X5_stationFor, P_X10_voidEnvelopeOf, P_X11_isPerson, P_X11_voids, P_X11_voids_29, P_X11_in, P_X11_asked, P_X11_asked_10, P_X11_asked_, P_X11_asked__18, P_X11_asked__, P_X11_asked___26, P_X11_thrown, P_X11_told, ↓reduceIte, ↓forall_eq, ↓hold_ca, ↓hold_cam, ↓hold_se, ↓hold_sem, ↓hold_wr, ↓hold_wrm, li0, li1, li2, li3, li4, li5, li6, li7, li8, li10, li20, li30, li35, li36, li60, li72, li100, li572, li2000, li2100, li9999, nI_lt_t, nI_lt_f, nI_le_t, nI_le_f, nI_eq_t, nI_eq_f, nI_eq_neg2, neg_eq_nI2, neg_lt2, neg_le2, nI_lt_neg2, nI_le_neg2, pred_t, pred_f, nI_clamp', vp_t, lt0_t, lt0_le, lt0_lt, lt0_eq, if_true, if_false, ite_true, ite_false, true_and, and_true, false_and, and_false, false_or, or_false, true_or, or_true, eq_self, fs_ne, fs_eq, fs_eq', st12, st13, st21, st23, st31, st32, not_true_eq_false, not_false_eq_true, em, em', en, en', et, et', eg, eg', ed, ed', es, es', eo', ee, ee', ev, ev', q2s, hx1, hx2, al, alm]
                  rcases seal_cases (p := p) ev hv r5 with hno | ⟨x, hex, hee, hun⟩
                  · try refine unhold ?_
                    refine se_cls (v := v') (r := -1) ev hv (Or.inl ⟨rfl, hno⟩) ?_
                    have hnoM : ∀ i, i < v' → ¬ (F 55 0 i = nI p ∧ F 57 0 i = 0) := fun i hi => by rw [(q8.2 i (by omega)).1, (q8.2 i (by omega)).2.2]; exact hno i hi
                    simp (disch := first | omega | assumption) only [PL_16, P_L_early, P_X10_early, P_X11_early, P_X11_early_47, P_X11_early_48, P_X11_canVote, P_X10_personAt, P_X10_needPerson, P_X10_needRange, P_X10_needStage, P_X10_needAlive, P_X10_needOnRoll, P_X5_stationFor, P_X10_voidEnvelopeOf, P_X11_isPerson, P_X11_voids, P_X11_voids_29, P_X11_in, P_X11_asked, P_X11_asked_10, P_X11_asked_, P_X11_asked__18, P_X11_asked__, P_X11_asked___26, P_X11_thrown, P_X11_told, ↓reduceIte, ↓forall_eq, ↓hold_ca, ↓hold_cam, ↓hold_se, ↓hold_sem, ↓hold_wr, ↓hold_wrm, li0, li1, li2, li3, li4, li5, li6, li7, li8, li10, li20, li30, li35, li36, li60, li72, li100, li572, li2000, li2100, li9999, nI_lt_t, nI_lt_f, nI_le_t, nI_le_f, nI_eq_t, nI_eq_f, nI_eq_neg2, neg_eq_nI2, neg_lt2, neg_le2, nI_lt_neg2, nI_le_neg2, pred_t, pred_f, nI_clamp', vp_t, lt0_t, lt0_le, lt0_lt, lt0_eq, if_true, if_false, ite_true, ite_false, true_and, and_true, false_and, and_false, false_or, or_false, true_or, or_true, eq_self, fs_ne, fs_eq, fs_eq', st12, st13, st21, st23, st31, st32, not_true_eq_false, not_false_eq_true, em, em', en, en', et, et', eg, eg', ed, ed', es, es', eo', ee, ee', ev, ev']
                    try refine unhold ?_
                    refine wr_cls (b := b) (by simp (disch := first | omega | assumption) only [PL_16, P_L_early, P_X10_early, P_X11_early, P_X11_early_47, P_X11_early_48, P_X11_canVote, P_X10_personAt, P_X10_needPerson, P_X10_needRange, P_X10_needStage, P_X10_needAlive, P_X10_needOnRoll, P_X5_stationFor, P_X10_voidEnvelopeOf, P_X11_isPerson, P_X11_voids, P_X11_voids_29, P_X11_in, P_X11_asked, P_X11_asked_10, P_X11_asked_, P_X11_asked__18, P_X11_asked__, P_X11_asked___26, P_X11_thrown, P_X11_told, ↓reduceIte, ↓forall_eq, ↓hold_ca, ↓hold_cam, ↓hold_se, ↓hold_sem, ↓hold_wr, ↓hold_wrm, li0, li1, li2, li3, li4, li5, li6, li7, li8, li10, li20, li30, li35, li36, li60, li72, li100, li572, li2000, li2100, li9999, nI_lt_t, nI_lt_f, nI_le_t, nI_le_f, nI_eq_t, nI_eq_f, nI_eq_neg2, neg_eq_nI2, neg_lt2, neg_le2, nI_lt_neg2, nI_le_neg2, pred_t, pred_f, nI_clamp', vp_t, lt0_t, lt0_le, lt0_lt, lt0_eq, if_true, if_false, ite_true, ite_false, true_and, and_true, false_and, and_false, false_or, or_false, true_or, or_true, eq_self, fs_ne, fs_eq, fs_eq', st12, st13, st21, st23, st31, st32, not_true_eq_false, not_false_eq_true, hb21]) (by omega) ?_
                    simp (disch := first | omega | assumption) only [PL_16, P_L_early, P_X10_early, P_X11_early, P_X11_early_47, P_X11_early_48, P_X11_canVote, P_X10_personAt, P_X10_needPerson, P_X10_needRange, P_X10_needStage, P_X10_needAlive, P_X10_needOnRoll, P_X5_stationFor, P_X10_voidEnvelopeOf, P_X11_isPerson, P_X11_voids, P_X11_voids_29, P_X11_in, P_X11_asked, P_X11_asked_10, P_X11_asked_, P_X11_asked__18, P_X11_asked__, P_X11_asked___26, P_X11_thrown, P_X11_told, ↓reduceIte, ↓forall_eq, ↓hold_ca, ↓hold_cam, ↓hold_se, ↓hold_sem, ↓hold_wr, ↓hold_wrm, li0, li1, li2, li3, li4, li5, li6, li7, li8, li10, li20, li30, li35, li36, li60, li72, li100, li572, li2000, li2100, li9999, nI_lt_t, nI_lt_f, nI_le_t, nI_le_f, nI_eq_t, nI_eq_f, nI_eq_neg2, neg_eq_nI2, neg_lt2, neg_le2, nI_lt_neg2, nI_le_neg2, pred_t, pred_f, nI_clamp', vp_t, lt0_t, lt0_le, lt0_lt, lt0_eq, if_true, if_false, ite_true, ite_false, true_and, and_true, false_and, and_false, false_or, or_false, true_or, or_true, eq_self, fs_ne, fs_eq, fs_eq', st12, st13, st21, st23, st31, st32, not_true_eq_false, not_false_eq_true, em, em', en, en', et, et', eg, eg', ed, ed', es, es', eo', ee, ee', ev, ev', nar101, nI_add, nI_sub]
                    unfold P_X3_add
                    simp (disch := first | omega | assumption) only [PL_16, P_L_early, P_X10_early, P_X11_early, P_X11_early_47, P_X11_early_48, P_X11_canVote, P_X10_personAt, P_X10_needPerson, P_X10_needRange, P_X10_needStage, P_X10_needAlive, P_X10_needOnRoll, P_X5_stationFor, P_X10_voidEnvelopeOf, P_X11_isPerson, P_X11_voids, P_X11_voids_29, P_X11_in, P_X11_asked, P_X11_asked_10, P_X11_asked_, P_X11_asked__18, P_X11_asked__, P_X11_asked___26, P_X11_thrown, P_X11_told, ↓reduceIte, ↓forall_eq, ↓hold_ca, ↓hold_cam, ↓hold_se, ↓hold_sem, ↓hold_wr, ↓hold_wrm, li0, li1, li2, li3, li4, li5, li6, li7, li8, li10, li20, li30, li35, li36, li60, li72, li100, li572, li2000, li2100, li9999, nI_lt_t, nI_lt_f, nI_le_t, nI_le_f, nI_eq_t, nI_eq_f, nI_eq_neg2, neg_eq_nI2, neg_lt2, neg_le2, nI_lt_neg2, nI_le_neg2, pred_t, pred_f, nI_clamp', vp_t, lt0_t, lt0_le, lt0_lt, lt0_eq, if_true, if_false, ite_true, ite_false, true_and, and_true, false_and, and_false, false_or, or_false, true_or, or_true, eq_self, fs_ne, fs_eq, fs_eq', st12, st13, st21, st23, st31, st32, not_true_eq_false, not_false_eq_true, em, em', en, en', et, et', eg, eg', ed, ed', es, es', eo', ee, ee', ev, ev', q2s, hx1, hx2, al, alm, nI_add, nI_sub]
                    try refine unhold ?_
                    refine se_mod (v := v') (r := -1) ev' hv (Or.inl ⟨rfl, hnoM⟩) ?_
                    simp (disch := first | omega | assumption) only [PL_16, P_L_early, P_X10_early, P_X11_early, P_X11_early_47, P_X11_early_48, P_X11_canVote, P_X10_personAt, P_X10_needPerson, P_X10_needRange, P_X10_needStage, P_X10_needAlive, P_X10_needOnRoll, P_X5_stationFor, P_X10_voidEnvelopeOf, P_X11_isPerson, P_X11_voids, P_X11_voids_29, P_X11_in, P_X11_asked, P_X11_asked_10, P_X11_asked_, P_X11_asked__18, P_X11_asked__, P_X11_asked___26, P_X11_thrown, P_X11_told, ↓reduceIte, ↓forall_eq, ↓hold_ca, ↓hold_cam, ↓hold_se, ↓hold_sem, ↓hold_wr, ↓hold_wrm, li0, li1, li2, li3, li4, li5, li6, li7, li8, li10, li20, li30, li35, li36, li60, li72, li100, li572, li2000, li2100, li9999, nI_lt_t, nI_lt_f, nI_le_t, nI_le_f, nI_eq_t, nI_eq_f, nI_eq_neg2, neg_eq_nI2, neg_lt2, neg_le2, nI_lt_neg2, nI_le_neg2, pred_t, pred_f, nI_clamp', vp_t, lt0_t, lt0_le, lt0_lt, lt0_eq, if_true, if_false, ite_true, ite_false, true_and, and_true, false_and, and_false, false_or, or_false, true_or, or_true, eq_self, fs_ne, fs_eq, fs_eq', st12, st13, st21, st23, st31, st32, not_true_eq_false, not_false_eq_true, em, em', en, en', et, et', eg, eg', ed, ed', es, es', eo', ee, ee', ev, ev', nI_add, nI_sub]
                    try refine unhold ?_
                    refine wr_mod (b := b) (by simp (disch := first | omega | assumption) only [PL_16, P_L_early, P_X10_early, P_X11_early, P_X11_early_47, P_X11_early_48, P_X11_canVote, P_X10_personAt, P_X10_needPerson, P_X10_needRange, P_X10_needStage, P_X10_needAlive, P_X10_needOnRoll, P_X5_stationFor, P_X10_voidEnvelopeOf, P_X11_isPerson, P_X11_voids, P_X11_voids_29, P_X11_in, P_X11_asked, P_X11_asked_10, P_X11_asked_, P_X11_asked__18, P_X11_asked__, P_X11_asked___26, P_X11_thrown, P_X11_told, ↓reduceIte, ↓forall_eq, ↓hold_ca, ↓hold_cam, ↓hold_se, ↓hold_sem, ↓hold_wr, ↓hold_wrm, li0, li1, li2, li3, li4, li5, li6, li7, li8, li10, li20, li30, li35, li36, li60, li72, li100, li572, li2000, li2100, li9999, nI_lt_t, nI_lt_f, nI_le_t, nI_le_f, nI_eq_t, nI_eq_f, nI_eq_neg2, neg_eq_nI2, neg_lt2, neg_le2, nI_lt_neg2, nI_le_neg2, pred_t, pred_f, nI_clamp', vp_t, lt0_t, lt0_le, lt0_lt, lt0_eq, if_true, if_false, ite_true, ite_false, true_and, and_true, false_and, and_false, false_or, or_false, true_or, or_true, eq_self, fs_ne, fs_eq, fs_eq', st12, st13, st21, st23, st31, st32, not_true_eq_false, not_false_eq_true, hb42]) (by omega) ?_
                    simp (disch := first | omega | assumption) only [PL_16, P_L_early, P_X10_early, P_X11_early, P_X11_early_47, P_X11_early_48, P_X11_canVote, P_X10_personAt, P_X10_needPerson, P_X10_needRange, P_X10_needStage, P_X10_needAlive, P_X10_needOnRoll, P_X5_stationFor, P_X10_voidEnvelopeOf, P_X11_isPerson, P_X11_voids, P_X11_voids_29, P_X11_in, P_X11_asked, P_X11_asked_10, P_X11_asked_, P_X11_asked__18, P_X11_asked__, P_X11_asked___26, P_X11_thrown, P_X11_told, ↓reduceIte, ↓forall_eq, ↓hold_ca, ↓hold_cam, ↓hold_se, ↓hold_sem, ↓hold_wr, ↓hold_wrm, li0, li1, li2, li3, li4, li5, li6, li7, li8, li10, li20, li30, li35, li36, li60, li72, li100, li572, li2000, li2100, li9999, nI_lt_t, nI_lt_f, nI_le_t, nI_le_f, nI_eq_t, nI_eq_f, nI_eq_neg2, neg_eq_nI2, neg_lt2, neg_le2, nI_lt_neg2, nI_le_neg2, pred_t, pred_f, nI_clamp', vp_t, lt0_t, lt0_le, lt0_lt, lt0_eq, if_true, if_false, ite_true, ite_false, true_and, and_true, false_and, and_false, false_or, or_false, true_or, or_true, eq_self, fs_ne, fs_eq, fs_eq', st12, st13, st21, st23, st31, st32, not_true_eq_false, not_false_eq_true, em, em', en, en', et, et', eg, eg', ed, ed', es, es', eo', ee, ee', ev, ev', nI_add, nI_sub]
                    refine ⟨⟨q0, q1, q2, q3, q4, q5, q6, q7, ?_, q9, q10, ?_⟩, ⟨r0, R1, R2, R3, ?_, ?_, r6, r7, b_vot.fam (F := F) rfl rfl r8, r9, r10, ?_, r12, r13, r14⟩, ?_, fun t2 h1 h2 => c_log_mono (lg t2 h1 h2)⟩
                    · refine ⟨by simp (disch := omega) only [fs_ne, fs_eq], fun j hj => ?_⟩
                      by_cases e : j = v'
                      · subst e
                        refine ⟨?_, ?_, ?_⟩ <;> simp (disch := omega) only [fs_ne, fs_eq]
                      · obtain ⟨h1, h2, h3⟩ := q8.2 j hj
                        refine ⟨?_, ?_, ?_⟩
                        · simp (disch := omega) only [fs_ne]
                          exact h1
                        · simp (disch := omega) only [fs_ne]
                          exact h2
                        · simp (disch := omega) only [fs_ne]
                          exact h3
                    · exact And.left (book_more (F := F) (b := b) (v := t) (c := 101) (p := p) (by omega) (by omega) (by decide) (by omega) q11 r11 (by simp (disch := omega) only [fs_ne, fs_eq]) (by simp (disch := omega) only [fs_ne, fs_eq]) (by intro j; by_cases e : j = b; (subst e; simp (disch := omega) only [fs_ne, fs_eq, eq_self, if_true]; try rfl); (simp (disch := omega) only [fs_ne, if_neg e])) (by intro j; by_cases e : j = b; (subst e; simp (disch := omega) only [fs_ne, fs_eq, eq_self, if_true]; try rfl); (simp (disch := omega) only [fs_ne, if_neg e])) (by intro j; by_cases e : j = b; (subst e; simp (disch := omega) only [fs_ne, fs_eq, eq_self, if_true]; try rfl); (simp (disch := omega) only [fs_ne, if_neg e])) (by intro j; by_cases e : j = b; (subst e; simp (disch := omega) only [fs_ne, fs_eq, eq_self, if_true]; try rfl); (simp (disch := omega) only [fs_ne, if_neg e])) (by intro j; by_cases e : j = b; (subst e; simp (disch := omega) only [fs_ne, fs_eq, eq_self, if_true]; try rfl); (simp (disch := omega) only [fs_ne, if_neg e])) (by intro j; by_cases e : j = b; (subst e; simp (disch := omega) only [fs_ne, fs_eq, eq_self, if_true]; try rfl); (simp (disch := omega) only [fs_ne, if_neg e])))
                    · refine ⟨⟨v' + 1, by omega, by simp (disch := omega) only [fs_ne, fs_eq]⟩, fun j hj => ?_⟩
                      by_cases e : j = v'
                      · subst e
                        refine ⟨⟨p, hb, ?_⟩, ⟨c, by omega, ?_⟩⟩ <;> simp (disch := omega) only [fs_ne, fs_eq]
                      · obtain ⟨⟨p', h1, h2⟩, ⟨b', h3, h4⟩⟩ := hev j hj
                        refine ⟨⟨p', h1, ?_⟩, ⟨b', h3, ?_⟩⟩
                        · simp (disch := omega) only [fs_ne]
                          exact h2
                        · simp (disch := omega) only [fs_ne]
                          exact h4
                    · refine b_seal_add (p := p) (v := v') (s := so) r5 R4 ev hv60 hb hso hon hun0 ?_ ?_ (by simp (disch := omega) only [fs_ne, fs_eq]) (fun j hj => by simp (disch := omega) only [fs_ne]) (by simp (disch := omega) only [fs_ne, fs_eq]) (fun _ => rfl) (fun _ => rfl)
                      · intro i hi q
                        simp (disch := omega) only [fs_ne]
                        exact fun z => hno i hi ⟨q, z⟩
                      · intro i hi q
                        simp (disch := omega) only [fs_ne] at q
                        exact q
                    · exact And.right (book_more (F := F) (b := b) (v := t) (c := 101) (p := p) (by omega) (by omega) (by decide) (by omega) q11 r11 (by simp (disch := omega) only [fs_ne, fs_eq]) (by simp (disch := omega) only [fs_ne, fs_eq]) (by intro j; by_cases e : j = b; (subst e; simp (disch := omega) only [fs_ne, fs_eq, eq_self, if_true]; try rfl); (simp (disch := omega) only [fs_ne, if_neg e])) (by intro j; by_cases e : j = b; (subst e; simp (disch := omega) only [fs_ne, fs_eq, eq_self, if_true]; try rfl); (simp (disch := omega) only [fs_ne, if_neg e])) (by intro j; by_cases e : j = b; (subst e; simp (disch := omega) only [fs_ne, fs_eq, eq_self, if_true]; try rfl); (simp (disch := omega) only [fs_ne, if_neg e])) (by intro j; by_cases e : j = b; (subst e; simp (disch := omega) only [fs_ne, fs_eq, eq_self, if_true]; try rfl); (simp (disch := omega) only [fs_ne, if_neg e])) (by intro j; by_cases e : j = b; (subst e; simp (disch := omega) only [fs_ne, fs_eq, eq_self, if_true]; try rfl); (simp (disch := omega) only [fs_ne, if_neg e])) (by intro j; by_cases e : j = b; (subst e; simp (disch := omega) only [fs_ne, fs_eq, eq_self, if_true]; try rfl); (simp (disch := omega) only [fs_ne, if_neg e])))
                    · refine c_book_of (b' := b + 1) (v' := v' + 1) (S := seals F v' + 1) (by simp (disch := omega) only [fs_ne, fs_eq]) (by simp (disch := omega) only [fs_ne, fs_eq]) (by omega) (seals_add (seals_kept (fun j hj => by simp (disch := omega) only [fs_ne]))) (by omega)
                  · obtain ⟨he17, he19⟩ := hee
                    have he55 : F 55 0 x = nI p := (q8.2 x (by omega)).1.trans he17
                    have he57 : F 57 0 x = 0 := (q8.2 x (by omega)).2.2.trans he19
                    have hunM : ∀ i, i < v' → F 55 0 i = nI p ∧ F 57 0 i = 0 → i = x := fun i hi q => hun i hi ⟨(q8.2 i (by omega)).1.symm.trans q.1, (q8.2 i (by omega)).2.2.symm.trans q.2⟩
                    have hsv : seals F v' ≥ 1 := by
                      have := seals_void (F := F) (F' := fs F 19 0 x 1) he19 (by rw [fs_eq]; decide) v' (fun j hj => by rw [fs_ne (by omega)]) hex
                      omega
                    try refine unhold ?_
                    refine se_cls (v := v') (r := nI x) ev hv (Or.inr ⟨x, hex, rfl, ⟨he17, he19⟩, hun⟩) ?_
                    simp (disch := first | omega | assumption) only [PL_16, P_L_early, P_X10_early, P_X11_early, P_X11_early_47, P_X11_early_48, P_X11_canVote, P_X10_personAt, P_X10_needPerson, P_X10_needRange, P_X10_needStage, P_X10_needAlive, P_X10_needOnRoll, P_X5_stationFor, P_X10_voidEnvelopeOf, P_X11_isPerson, P_X11_voids, P_X11_voids_29, P_X11_in, P_X11_asked, P_X11_asked_10, P_X11_asked_, P_X11_asked__18, P_X11_asked__, P_X11_asked___26, P_X11_thrown, P_X11_told, ↓reduceIte, ↓forall_eq, ↓hold_ca, ↓hold_cam, ↓hold_se, ↓hold_sem, ↓hold_wr, ↓hold_wrm, li0, li1, li2, li3, li4, li5, li6, li7, li8, li10, li20, li30, li35, li36, li60, li72, li100, li572, li2000, li2100, li9999, nI_lt_t, nI_lt_f, nI_le_t, nI_le_f, nI_eq_t, nI_eq_f, nI_eq_neg2, neg_eq_nI2, neg_lt2, neg_le2, nI_lt_neg2, nI_le_neg2, pred_t, pred_f, nI_clamp', vp_t, lt0_t, lt0_le, lt0_lt, lt0_eq, if_true, if_false, ite_true, ite_false, true_and, and_true, false_and, and_false, false_or, or_false, true_or, or_true, eq_self, fs_ne, fs_eq, fs_eq', st12, st13, st21, st23, st31, st32, not_true_eq_false, not_false_eq_true, em, em', en, en', et, et', eg, eg', ed, ed', es, es', eo', ee, ee', ev, ev']
                    try refine unhold ?_
                    refine wr_cls (b := b) (by simp (disch := first | omega | assumption) only [PL_16, P_L_early, P_X10_early, P_X11_early, P_X11_early_47, P_X11_early_48, P_X11_canVote, P_X10_personAt, P_X10_needPerson, P_X10_needRange, P_X10_needStage, P_X10_needAlive, P_X10_needOnRoll, P_X5_stationFor, P_X10_voidEnvelopeOf, P_X11_isPerson, P_X11_voids, P_X11_voids_29, P_X11_in, P_X11_asked, P_X11_asked_10, P_X11_asked_, P_X11_asked__18, P_X11_asked__, P_X11_asked___26, P_X11_thrown, P_X11_told, ↓reduceIte, ↓forall_eq, ↓hold_ca, ↓hold_cam, ↓hold_se, ↓hold_sem, ↓hold_wr, ↓hold_wrm, li0, li1, li2, li3, li4, li5, li6, li7, li8, li10, li20, li30, li35, li36, li60, li72, li100, li572, li2000, li2100, li9999, nI_lt_t, nI_lt_f, nI_le_t, nI_le_f, nI_eq_t, nI_eq_f, nI_eq_neg2, neg_eq_nI2, neg_lt2, neg_le2, nI_lt_neg2, nI_le_neg2, pred_t, pred_f, nI_clamp', vp_t, lt0_t, lt0_le, lt0_lt, lt0_eq, if_true, if_false, ite_true, ite_false, true_and, and_true, false_and, and_false, false_or, or_false, true_or, or_true, eq_self, fs_ne, fs_eq, fs_eq', st12, st13, st21, st23, st31, st32, not_true_eq_false, not_false_eq_true, hb21]) (by omega) ?_
                    simp (disch := first | omega | assumption) only [PL_16, P_L_early, P_X10_early, P_X11_early, P_X11_early_47, P_X11_early_48, P_X11_canVote, P_X10_personAt, P_X10_needPerson, P_X10_needRange, P_X10_needStage, P_X10_needAlive, P_X10_needOnRoll, P_X5_stationFor, P_X10_voidEnvelopeOf, P_X11_isPerson, P_X11_voids, P_X11_voids_29, P_X11_in, P_X11_asked, P_X11_asked_10, P_X11_asked_, P_X11_asked__18, P_X11_asked__, P_X11_asked___26, P_X11_thrown, P_X11_told, ↓reduceIte, ↓forall_eq, ↓hold_ca, ↓hold_cam, ↓hold_se, ↓hold_sem, ↓hold_wr, ↓hold_wrm, li0, li1, li2, li3, li4, li5, li6, li7, li8, li10, li20, li30, li35, li36, li60, li72, li100, li572, li2000, li2100, li9999, nI_lt_t, nI_lt_f, nI_le_t, nI_le_f, nI_eq_t, nI_eq_f, nI_eq_neg2, neg_eq_nI2, neg_lt2, neg_le2, nI_lt_neg2, nI_le_neg2, pred_t, pred_f, nI_clamp', vp_t, lt0_t, lt0_le, lt0_lt, lt0_eq, if_true, if_false, ite_true, ite_false, true_and, and_true, false_and, and_false, false_or, or_false, true_or, or_true, eq_self, fs_ne, fs_eq, fs_eq', st12, st13, st21, st23, st31, st32, not_true_eq_false, not_false_eq_true, em, em', en, en', et, et', eg, eg', ed, ed', es, es', eo', ee, ee', ev, ev', nar120]
                    try refine unhold ?_
                    refine wr_cls (b := b + 1) (by simp (disch := first | omega | assumption) only [PL_16, P_L_early, P_X10_early, P_X11_early, P_X11_early_47, P_X11_early_48, P_X11_canVote, P_X10_personAt, P_X10_needPerson, P_X10_needRange, P_X10_needStage, P_X10_needAlive, P_X10_needOnRoll, P_X5_stationFor, P_X10_voidEnvelopeOf, P_X11_isPerson, P_X11_voids, P_X11_voids_29, P_X11_in, P_X11_asked, P_X11_asked_10, P_X11_asked_, P_X11_asked__18, P_X11_asked__, P_X11_asked___26, P_X11_thrown, P_X11_told, ↓reduceIte, ↓forall_eq, ↓hold_ca, ↓hold_cam, ↓hold_se, ↓hold_sem, ↓hold_wr, ↓hold_wrm, li0, li1, li2, li3, li4, li5, li6, li7, li8, li10, li20, li30, li35, li36, li60, li72, li100, li572, li2000, li2100, li9999, nI_lt_t, nI_lt_f, nI_le_t, nI_le_f, nI_eq_t, nI_eq_f, nI_eq_neg2, neg_eq_nI2, neg_lt2, neg_le2, nI_lt_neg2, nI_le_neg2, pred_t, pred_f, nI_clamp', vp_t, lt0_t, lt0_le, lt0_lt, lt0_eq, if_true, if_false, ite_true, ite_false, true_and, and_true, false_and, and_false, false_or, or_false, true_or, or_true, eq_self, fs_ne, fs_eq, fs_eq', st12, st13, st21, st23, st31, st32, not_true_eq_false, not_false_eq_true, hb21]) (by omega) ?_
                    simp (disch := first | omega | assumption) only [PL_16, P_L_early, P_X10_early, P_X11_early, P_X11_early_47, P_X11_early_48, P_X11_canVote, P_X10_personAt, P_X10_needPerson, P_X10_needRange, P_X10_needStage, P_X10_needAlive, P_X10_needOnRoll, P_X5_stationFor, P_X10_voidEnvelopeOf, P_X11_isPerson, P_X11_voids, P_X11_voids_29, P_X11_in, P_X11_asked, P_X11_asked_10, P_X11_asked_, P_X11_asked__18, P_X11_asked__, P_X11_asked___26, P_X11_thrown, P_X11_told, ↓reduceIte, ↓forall_eq, ↓hold_ca, ↓hold_cam, ↓hold_se, ↓hold_sem, ↓hold_wr, ↓hold_wrm, li0, li1, li2, li3, li4, li5, li6, li7, li8, li10, li20, li30, li35, li36, li60, li72, li100, li572, li2000, li2100, li9999, nI_lt_t, nI_lt_f, nI_le_t, nI_le_f, nI_eq_t, nI_eq_f, nI_eq_neg2, neg_eq_nI2, neg_lt2, neg_le2, nI_lt_neg2, nI_le_neg2, pred_t, pred_f, nI_clamp', vp_t, lt0_t, lt0_le, lt0_lt, lt0_eq, if_true, if_false, ite_true, ite_false, true_and, and_true, false_and, and_false, false_or, or_false, true_or, or_true, eq_self, fs_ne, fs_eq, fs_eq', st12, st13, st21, st23, st31, st32, not_true_eq_false, not_false_eq_true, em, em', en, en', et, et', eg, eg', ed, ed', es, es', eo', ee, ee', ev, ev', nar101, nI_add, nI_sub]
                    unfold P_X3_add
                    simp (disch := first | omega | assumption) only [PL_16, P_L_early, P_X10_early, P_X11_early, P_X11_early_47, P_X11_early_48, P_X11_canVote, P_X10_personAt, P_X10_needPerson, P_X10_needRange, P_X10_needStage, P_X10_needAlive, P_X10_needOnRoll, P_X5_stationFor, P_X10_voidEnvelopeOf, P_X11_isPerson, P_X11_voids, P_X11_voids_29, P_X11_in, P_X11_asked, P_X11_asked_10, P_X11_asked_, P_X11_asked__18, P_X11_asked__, P_X11_asked___26, P_X11_thrown, P_X11_told, ↓reduceIte, ↓forall_eq, ↓hold_ca, ↓hold_cam, ↓hold_se, ↓hold_sem, ↓hold_wr, ↓hold_wrm, li0, li1, li2, li3, li4, li5, li6, li7, li8, li10, li20, li30, li35, li36, li60, li72, li100, li572, li2000, li2100, li9999, nI_lt_t, nI_lt_f, nI_le_t, nI_le_f, nI_eq_t, nI_eq_f, nI_eq_neg2, neg_eq_nI2, neg_lt2, neg_le2, nI_lt_neg2, nI_le_neg2, pred_t, pred_f, nI_clamp', vp_t, lt0_t, lt0_le, lt0_lt, lt0_eq, if_true, if_false, ite_true, ite_false, true_and, and_true, false_and, and_false, false_or, or_false, true_or, or_true, eq_self, fs_ne, fs_eq, fs_eq', st12, st13, st21, st23, st31, st32, not_true_eq_false, not_false_eq_true, em, em', en, en', et, et', eg, eg', ed, ed', es, es', eo', ee, ee', ev, ev', q2s, hx1, hx2, al, alm, nI_add, nI_sub]
                    try refine unhold ?_
                    refine se_mod (v := v') (r := nI x) ev' hv (Or.inr ⟨x, hex, rfl, ⟨he55, he57⟩, hunM⟩) ?_
                    simp (disch := first | omega | assumption) only [PL_16, P_L_early, P_X10_early, P_X11_early, P_X11_early_47, P_X11_early_48, P_X11_canVote, P_X10_personAt, P_X10_needPerson, P_X10_needRange, P_X10_needStage, P_X10_needAlive, P_X10_needOnRoll, P_X5_stationFor, P_X10_voidEnvelopeOf, P_X11_isPerson, P_X11_voids, P_X11_voids_29, P_X11_in, P_X11_asked, P_X11_asked_10, P_X11_asked_, P_X11_asked__18, P_X11_asked__, P_X11_asked___26, P_X11_thrown, P_X11_told, ↓reduceIte, ↓forall_eq, ↓hold_ca, ↓hold_cam, ↓hold_se, ↓hold_sem, ↓hold_wr, ↓hold_wrm, li0, li1, li2, li3, li4, li5, li6, li7, li8, li10, li20, li30, li35, li36, li60, li72, li100, li572, li2000, li2100, li9999, nI_lt_t, nI_lt_f, nI_le_t, nI_le_f, nI_eq_t, nI_eq_f, nI_eq_neg2, neg_eq_nI2, neg_lt2, neg_le2, nI_lt_neg2, nI_le_neg2, pred_t, pred_f, nI_clamp', vp_t, lt0_t, lt0_le, lt0_lt, lt0_eq, if_true, if_false, ite_true, ite_false, true_and, and_true, false_and, and_false, false_or, or_false, true_or, or_true, eq_self, fs_ne, fs_eq, fs_eq', st12, st13, st21, st23, st31, st32, not_true_eq_false, not_false_eq_true, em, em', en, en', et, et', eg, eg', ed, ed', es, es', eo', ee, ee', ev, ev']
                    try refine unhold ?_
                    refine wr_mod (b := b) (by simp (disch := first | omega | assumption) only [PL_16, P_L_early, P_X10_early, P_X11_early, P_X11_early_47, P_X11_early_48, P_X11_canVote, P_X10_personAt, P_X10_needPerson, P_X10_needRange, P_X10_needStage, P_X10_needAlive, P_X10_needOnRoll, P_X5_stationFor, P_X10_voidEnvelopeOf, P_X11_isPerson, P_X11_voids, P_X11_voids_29, P_X11_in, P_X11_asked, P_X11_asked_10, P_X11_asked_, P_X11_asked__18, P_X11_asked__, P_X11_asked___26, P_X11_thrown, P_X11_told, ↓reduceIte, ↓forall_eq, ↓hold_ca, ↓hold_cam, ↓hold_se, ↓hold_sem, ↓hold_wr, ↓hold_wrm, li0, li1, li2, li3, li4, li5, li6, li7, li8, li10, li20, li30, li35, li36, li60, li72, li100, li572, li2000, li2100, li9999, nI_lt_t, nI_lt_f, nI_le_t, nI_le_f, nI_eq_t, nI_eq_f, nI_eq_neg2, neg_eq_nI2, neg_lt2, neg_le2, nI_lt_neg2, nI_le_neg2, pred_t, pred_f, nI_clamp', vp_t, lt0_t, lt0_le, lt0_lt, lt0_eq, if_true, if_false, ite_true, ite_false, true_and, and_true, false_and, and_false, false_or, or_false, true_or, or_true, eq_self, fs_ne, fs_eq, fs_eq', st12, st13, st21, st23, st31, st32, not_true_eq_false, not_false_eq_true, hb42]) (by omega) ?_
                    simp (disch := first | omega | assumption) only [PL_16, P_L_early, P_X10_early, P_X11_early, P_X11_early_47, P_X11_early_48, P_X11_canVote, P_X10_personAt, P_X10_needPerson, P_X10_needRange, P_X10_needStage, P_X10_needAlive, P_X10_needOnRoll, P_X5_stationFor, P_X10_voidEnvelopeOf, P_X11_isPerson, P_X11_voids, P_X11_voids_29, P_X11_in, P_X11_asked, P_X11_asked_10, P_X11_asked_, P_X11_asked__18, P_X11_asked__, P_X11_asked___26, P_X11_thrown, P_X11_told, ↓reduceIte, ↓forall_eq, ↓hold_ca, ↓hold_cam, ↓hold_se, ↓hold_sem, ↓hold_wr, ↓hold_wrm, li0, li1, li2, li3, li4, li5, li6, li7, li8, li10, li20, li30, li35, li36, li60, li72, li100, li572, li2000, li2100, li9999, nI_lt_t, nI_lt_f, nI_le_t, nI_le_f, nI_eq_t, nI_eq_f, nI_eq_neg2, neg_eq_nI2, neg_lt2, neg_le2, nI_lt_neg2, nI_le_neg2, pred_t, pred_f, nI_clamp', vp_t, lt0_t, lt0_le, lt0_lt, lt0_eq, if_true, if_false, ite_true, ite_false, true_and, and_true, false_and, and_false, false_or, or_false, true_or, or_true, eq_self, fs_ne, fs_eq, fs_eq', st12, st13, st21, st23, st31, st32, not_true_eq_false, not_false_eq_true, em, em', en, en', et, et', eg, eg', ed, ed', es, es', eo', ee, ee', ev, ev', nI_add, nI_sub]
                    try refine unhold ?_
                    refine wr_mod (b := b + 1) (by simp (disch := first | omega | assumption) only [PL_16, P_L_early, P_X10_early, P_X11_early, P_X11_early_47, P_X11_early_48, P_X11_canVote, P_X10_personAt, P_X10_needPerson, P_X10_needRange, P_X10_needStage, P_X10_needAlive, P_X10_needOnRoll, P_X5_stationFor, P_X10_voidEnvelopeOf, P_X11_isPerson, P_X11_voids, P_X11_voids_29, P_X11_in, P_X11_asked, P_X11_asked_10, P_X11_asked_, P_X11_asked__18, P_X11_asked__, P_X11_asked___26, P_X11_thrown, P_X11_told, ↓reduceIte, ↓forall_eq, ↓hold_ca, ↓hold_cam, ↓hold_se, ↓hold_sem, ↓hold_wr, ↓hold_wrm, li0, li1, li2, li3, li4, li5, li6, li7, li8, li10, li20, li30, li35, li36, li60, li72, li100, li572, li2000, li2100, li9999, nI_lt_t, nI_lt_f, nI_le_t, nI_le_f, nI_eq_t, nI_eq_f, nI_eq_neg2, neg_eq_nI2, neg_lt2, neg_le2, nI_lt_neg2, nI_le_neg2, pred_t, pred_f, nI_clamp', vp_t, lt0_t, lt0_le, lt0_lt, lt0_eq, if_true, if_false, ite_true, ite_false, true_and, and_true, false_and, and_false, false_or, or_false, true_or, or_true, eq_self, fs_ne, fs_eq, fs_eq', st12, st13, st21, st23, st31, st32, not_true_eq_false, not_false_eq_true, hb42]) (by omega) ?_
                    simp (disch := first | omega | assumption) only [PL_16, P_L_early, P_X10_early, P_X11_early, P_X11_early_47, P_X11_early_48, P_X11_canVote, P_X10_personAt, P_X10_needPerson, P_X10_needRange, P_X10_needStage, P_X10_needAlive, P_X10_needOnRoll, P_X5_stationFor, P_X10_voidEnvelopeOf, P_X11_isPerson, P_X11_voids, P_X11_voids_29, P_X11_in, P_X11_asked, P_X11_asked_10, P_X11_asked_, P_X11_asked__18, P_X11_asked__, P_X11_asked___26, P_X11_thrown, P_X11_told, ↓reduceIte, ↓forall_eq, ↓hold_ca, ↓hold_cam, ↓hold_se, ↓hold_sem, ↓hold_wr, ↓hold_wrm, li0, li1, li2, li3, li4, li5, li6, li7, li8, li10, li20, li30, li35, li36, li60, li72, li100, li572, li2000, li2100, li9999, nI_lt_t, nI_lt_f, nI_le_t, nI_le_f, nI_eq_t, nI_eq_f, nI_eq_neg2, neg_eq_nI2, neg_lt2, neg_le2, nI_lt_neg2, nI_le_neg2, pred_t, pred_f, nI_clamp', vp_t, lt0_t, lt0_le, lt0_lt, lt0_eq, if_true, if_false, ite_true, ite_false, true_and, and_true, false_and, and_false, false_or, or_false, true_or, or_true, eq_self, fs_ne, fs_eq, fs_eq', st12, st13, st21, st23, st31, st32, not_true_eq_false, not_false_eq_true, em, em', en, en', et, et', eg, eg', ed, ed', es, es', eo', ee, ee', ev, ev', nI_add, nI_sub]
                    refine ⟨⟨q0, q1, q2, q3, q4, q5, q6, q7, ?_, q9, q10, ?_⟩, ⟨r0, R1, R2, R3, ?_, ?_, r6, r7, b_vot.fam (F := F) rfl rfl r8, r9, r10, ?_, r12, r13, r14⟩, ?_, fun t2 h1 h2 => c_log_mono (lg t2 h1 h2)⟩
                    · refine ⟨by simp (disch := omega) only [fs_ne, fs_eq], fun j hj => ?_⟩
                      by_cases e : j = v'
                      · subst e
                        refine ⟨?_, ?_, ?_⟩ <;> simp (disch := omega) only [fs_ne, fs_eq]
                      · obtain ⟨h1, h2, h3⟩ := q8.2 j hj
                        refine ⟨?_, ?_, ?_⟩
                        · simp (disch := omega) only [fs_ne]
                          exact h1
                        · simp (disch := omega) only [fs_ne]
                          exact h2
                        · by_cases e2 : j = x
                          · subst e2
                            simp (disch := omega) only [fs_ne, fs_eq]
                          · simp (disch := omega) only [fs_ne]
                            exact h3
                    · exact And.left (book_more2 (F := F) (b := b) (v := t) (c := 120) (p := p) (v2 := t) (c2 := 101) (p2 := p) (by omega) (by omega) (by decide) (by omega) (by omega) (by decide) (by omega) q11 r11 (by simp (disch := omega) only [fs_ne, fs_eq]) (by simp (disch := omega) only [fs_ne, fs_eq]) (by intro j; by_cases e : j = b + 1; (subst e; simp (disch := omega) only [fs_ne, fs_eq, eq_self, if_true]; try rfl); (by_cases e2 : j = b; (subst e2; simp (disch := omega) only [fs_ne, fs_eq, eq_self, if_true, if_neg e]; try rfl); (simp (disch := omega) only [fs_ne, if_neg e, if_neg e2]))) (by intro j; by_cases e : j = b + 1; (subst e; simp (disch := omega) only [fs_ne, fs_eq, eq_self, if_true]; try rfl); (by_cases e2 : j = b; (subst e2; simp (disch := omega) only [fs_ne, fs_eq, eq_self, if_true, if_neg e]; try rfl); (simp (disch := omega) only [fs_ne, if_neg e, if_neg e2]))) (by intro j; by_cases e : j = b + 1; (subst e; simp (disch := omega) only [fs_ne, fs_eq, eq_self, if_true]; try rfl); (by_cases e2 : j = b; (subst e2; simp (disch := omega) only [fs_ne, fs_eq, eq_self, if_true, if_neg e]; try rfl); (simp (disch := omega) only [fs_ne, if_neg e, if_neg e2]))) (by intro j; by_cases e : j = b + 1; (subst e; simp (disch := omega) only [fs_ne, fs_eq, eq_self, if_true]; try rfl); (by_cases e2 : j = b; (subst e2; simp (disch := omega) only [fs_ne, fs_eq, eq_self, if_true, if_neg e]; try rfl); (simp (disch := omega) only [fs_ne, if_neg e, if_neg e2]))) (by intro j; by_cases e : j = b + 1; (subst e; simp (disch := omega) only [fs_ne, fs_eq, eq_self, if_true]; try rfl); (by_cases e2 : j = b; (subst e2; simp (disch := omega) only [fs_ne, fs_eq, eq_self, if_true, if_neg e]; try rfl); (simp (disch := omega) only [fs_ne, if_neg e, if_neg e2]))) (by intro j; by_cases e : j = b + 1; (subst e; simp (disch := omega) only [fs_ne, fs_eq, eq_self, if_true]; try rfl); (by_cases e2 : j = b; (subst e2; simp (disch := omega) only [fs_ne, fs_eq, eq_self, if_true, if_neg e]; try rfl); (simp (disch := omega) only [fs_ne, if_neg e, if_neg e2]))))
                    · refine ⟨⟨v' + 1, by omega, by simp (disch := omega) only [fs_ne, fs_eq]⟩, fun j hj => ?_⟩
                      by_cases e : j = v'
                      · subst e
                        refine ⟨⟨p, hb, ?_⟩, ⟨c, by omega, ?_⟩⟩ <;> simp (disch := omega) only [fs_ne, fs_eq]
                      · obtain ⟨⟨p', h1, h2⟩, ⟨b', h3, h4⟩⟩ := hev j hj
                        refine ⟨⟨p', h1, ?_⟩, ⟨b', h3, ?_⟩⟩
                        · simp (disch := omega) only [fs_ne]
                          exact h2
                        · simp (disch := omega) only [fs_ne]
                          exact h4
                    · refine b_seal_add (p := p) (v := v') (s := so) r5 R4 ev hv60 hb hso hon hun0 ?_ ?_ (by simp (disch := omega) only [fs_ne, fs_eq]) (fun j hj => by simp (disch := omega) only [fs_ne]) (by simp (disch := omega) only [fs_ne, fs_eq]) (fun _ => rfl) (fun _ => rfl)
                      · intro i hi q
                        by_cases e : i = x
                        · subst e
                          simp (disch := omega) only [fs_ne, fs_eq]
                          decide
                        · simp (disch := omega) only [fs_ne]
                          exact fun z => e (hun i hi ⟨q, z⟩)
                      · intro i hi q
                        by_cases e : i = x
                        · subst e
                          exact he19
                        · simp (disch := omega) only [fs_ne] at q
                          exact q
                    · exact And.right (book_more2 (F := F) (b := b) (v := t) (c := 120) (p := p) (v2 := t) (c2 := 101) (p2 := p) (by omega) (by omega) (by decide) (by omega) (by omega) (by decide) (by omega) q11 r11 (by simp (disch := omega) only [fs_ne, fs_eq]) (by simp (disch := omega) only [fs_ne, fs_eq]) (by intro j; by_cases e : j = b + 1; (subst e; simp (disch := omega) only [fs_ne, fs_eq, eq_self, if_true]; try rfl); (by_cases e2 : j = b; (subst e2; simp (disch := omega) only [fs_ne, fs_eq, eq_self, if_true, if_neg e]; try rfl); (simp (disch := omega) only [fs_ne, if_neg e, if_neg e2]))) (by intro j; by_cases e : j = b + 1; (subst e; simp (disch := omega) only [fs_ne, fs_eq, eq_self, if_true]; try rfl); (by_cases e2 : j = b; (subst e2; simp (disch := omega) only [fs_ne, fs_eq, eq_self, if_true, if_neg e]; try rfl); (simp (disch := omega) only [fs_ne, if_neg e, if_neg e2]))) (by intro j; by_cases e : j = b + 1; (subst e; simp (disch := omega) only [fs_ne, fs_eq, eq_self, if_true]; try rfl); (by_cases e2 : j = b; (subst e2; simp (disch := omega) only [fs_ne, fs_eq, eq_self, if_true, if_neg e]; try rfl); (simp (disch := omega) only [fs_ne, if_neg e, if_neg e2]))) (by intro j; by_cases e : j = b + 1; (subst e; simp (disch := omega) only [fs_ne, fs_eq, eq_self, if_true]; try rfl); (by_cases e2 : j = b; (subst e2; simp (disch := omega) only [fs_ne, fs_eq, eq_self, if_true, if_neg e]; try rfl); (simp (disch := omega) only [fs_ne, if_neg e, if_neg e2]))) (by intro j; by_cases e : j = b + 1; (subst e; simp (disch := omega) only [fs_ne, fs_eq, eq_self, if_true]; try rfl); (by_cases e2 : j = b; (subst e2; simp (disch := omega) only [fs_ne, fs_eq, eq_self, if_true, if_neg e]; try rfl); (simp (disch := omega) only [fs_ne, if_neg e, if_neg e2]))) (by intro j; by_cases e : j = b + 1; (subst e; simp (disch := omega) only [fs_ne, fs_eq, eq_self, if_true]; try rfl); (by_cases e2 : j = b; (subst e2; simp (disch := omega) only [fs_ne, fs_eq, eq_self, if_true, if_neg e]; try rfl); (simp (disch := omega) only [fs_ne, if_neg e, if_neg e2]))))
                    · refine c_book_of (b' := b + 2) (v' := v' + 1) (S := seals F v' - 1 + 1) (by simp (disch := omega) only [fs_ne, fs_eq]) (by simp (disch := omega) only [fs_ne, fs_eq]) (by omega) (seals_add ?_) (by omega)
                      exact seals_voided_lt hex he19 (by simp (disch := omega) only [fs_ne, fs_eq]; decide) (fun j hj hj2 => by simp (disch := omega) only [fs_ne])
                · simp (disch := first | omega | assumption) only [PL_16, P_L_early, P_X10_early, P_X11_early, P_X11_early_47, P_X11_early_48, P_X11_canVote, P_X10_personAt, P_X10_needPerson, P_X10_needRange, P_X10_needStage, P_X10_needAlive, P_X10_needOnRoll, P_X5_stationFor, P_X10_voidEnvelopeOf, P_X11_isPerson, P_X11_voids, P_X11_voids_29, P_X11_in, P_X11_asked, P_X11_asked_10, P_X11_asked_, P_X11_asked__18, P_X11_asked__, P_X11_asked___26, P_X11_thrown, P_X11_told, ↓reduceIte, ↓forall_eq, ↓hold_ca, ↓hold_cam, ↓hold_se, ↓hold_sem, ↓hold_wr, ↓hold_wrm, li0, li1, li2, li3, li4, li5, li6, li7, li8, li10, li20, li30, li35, li36, li60, li72, li100, li572, li2000, li2100, li9999, nI_lt_t, nI_lt_f, nI_le_t, nI_le_f, nI_eq_t, nI_eq_f, nI_eq_neg2, neg_eq_nI2, neg_lt2, neg_le2, nI_lt_neg2, nI_le_neg2, pred_t, pred_f, nI_clamp', vp_t, lt0_t, lt0_le, lt0_lt, lt0_eq, if_true, if_false, ite_true, ite_false, true_and, and_true, false_and, and_false, false_or, or_false, true_or, or_true, eq_self, fs_ne, fs_eq, fs_eq', st12, st13, st21, st23, st31, st32, not_true_eq_false, not_false_eq_true, em, em', en, en', et, et', eg, eg', ed, ed', es, es', eo', ee, ee', ev, ev', g2, hx1, hx2, al, alm]
                  refine hI.end ?_
                  repeat (first | exact Sm.refl _ | refine Sm.fs40 ?_ _ _ (by decide) | refine Sm.fsT ?_ _ _ _ _ rfl (by decide) (by decide))
            · have alm : ¬ F 47 0 p = nI 0 := by rw [(q4.2 p hb).2]; exact al
              rcases r6 p hb with hx1 | ⟨so, hso, hon⟩
              · have hx2 : F 52 0 p = -1 := (q7.1 p hb).1.trans hx1
                simp (disch := first | omega | assumption) only [PL_16, P_L_early, P_X10_early, P_X11_early, P_X11_early_47, P_X11_early_48, P_X11_canVote, P_X10_personAt, P_X10_needPerson, P_X10_needRange, P_X10_needStage, P_X10_needAlive, P_X10_needOnRoll, P_X5_stationFor, P_X10_voidEnvelopeOf, P_X11_isPerson, P_X11_voids, P_X11_voids_29, P_X11_in, P_X11_asked, P_X11_asked_10, P_X11_asked_, P_X11_asked__18, P_X11_asked__, P_X11_asked___26, P_X11_thrown, P_X11_told, ↓reduceIte, ↓forall_eq, ↓hold_ca, ↓hold_cam, ↓hold_se, ↓hold_sem, ↓hold_wr, ↓hold_wrm, li0, li1, li2, li3, li4, li5, li6, li7, li8, li10, li20, li30, li35, li36, li60, li72, li100, li572, li2000, li2100, li9999, nI_lt_t, nI_lt_f, nI_le_t, nI_le_f, nI_eq_t, nI_eq_f, nI_eq_neg2, neg_eq_nI2, neg_lt2, neg_le2, nI_lt_neg2, nI_le_neg2, pred_t, pred_f, nI_clamp', vp_t, lt0_t, lt0_le, lt0_lt, lt0_eq, if_true, if_false, ite_true, ite_false, true_and, and_true, false_and, and_false, false_or, or_false, true_or, or_true, eq_self, fs_ne, fs_eq, fs_eq', st12, st13, st21, st23, st31, st32, not_true_eq_false, not_false_eq_true, em, em', en, en', et, et', eg, eg', ed, ed', es, es', eo', ee, ee', ev, ev', g2, hx1, hx2, al, alm]
                refine hI.end ?_
                repeat (first | exact Sm.refl _ | refine Sm.fs40 ?_ _ _ (by decide) | refine Sm.fsT ?_ _ _ _ _ rfl (by decide) (by decide))
              · have hx1 := hon
                have hx2 : F 52 0 p = nI so := (q7.1 p hb).1.trans hon
                simp (disch := first | omega | assumption) only [PL_16, P_L_early, P_X10_early, P_X11_early, P_X11_early_47, P_X11_early_48, P_X11_canVote, P_X10_personAt, P_X10_needPerson, P_X10_needRange, P_X10_needStage, P_X10_needAlive, P_X10_needOnRoll, P_X5_stationFor, P_X10_voidEnvelopeOf, P_X11_isPerson, P_X11_voids, P_X11_voids_29, P_X11_in, P_X11_asked, P_X11_asked_10, P_X11_asked_, P_X11_asked__18, P_X11_asked__, P_X11_asked___26, P_X11_thrown, P_X11_told, ↓reduceIte, ↓forall_eq, ↓hold_ca, ↓hold_cam, ↓hold_se, ↓hold_sem, ↓hold_wr, ↓hold_wrm, li0, li1, li2, li3, li4, li5, li6, li7, li8, li10, li20, li30, li35, li36, li60, li72, li100, li572, li2000, li2100, li9999, nI_lt_t, nI_lt_f, nI_le_t, nI_le_f, nI_eq_t, nI_eq_f, nI_eq_neg2, neg_eq_nI2, neg_lt2, neg_le2, nI_lt_neg2, nI_le_neg2, pred_t, pred_f, nI_clamp', vp_t, lt0_t, lt0_le, lt0_lt, lt0_eq, if_true, if_false, ite_true, ite_false, true_and, and_true, false_and, and_false, false_or, or_false, true_or, or_true, eq_self, fs_ne, fs_eq, fs_eq', st12, st13, st21, st23, st31, st32, not_true_eq_false, not_false_eq_true, em, em', en, en', et, et', eg, eg', ed, ed', es, es', eo', ee, ee', ev, ev', g2, hx1, hx2, al, alm]
                refine hI.end ?_
                repeat (first | exact Sm.refl _ | refine Sm.fs40 ?_ _ _ (by decide) | refine Sm.fsT ?_ _ _ _ _ rfl (by decide) (by decide))
          · simp (disch := first | omega | assumption) only [PL_16, P_L_early, P_X10_early, P_X11_early, P_X11_early_47, P_X11_early_48, P_X11_canVote, P_X10_personAt, P_X10_needPerson, P_X10_needRange, P_X10_needStage, P_X10_needAlive, P_X10_needOnRoll, P_X5_stationFor, P_X10_voidEnvelopeOf, P_X11_isPerson, P_X11_voids, P_X11_voids_29, P_X11_in, P_X11_asked, P_X11_asked_10, P_X11_asked_, P_X11_asked__18, P_X11_asked__, P_X11_asked___26, P_X11_thrown, P_X11_told, ↓reduceIte, ↓forall_eq, ↓hold_ca, ↓hold_cam, ↓hold_se, ↓hold_sem, ↓hold_wr, ↓hold_wrm, li0, li1, li2, li3, li4, li5, li6, li7, li8, li10, li20, li30, li35, li36, li60, li72, li100, li572, li2000, li2100, li9999, nI_lt_t, nI_lt_f, nI_le_t, nI_le_f, nI_eq_t, nI_eq_f, nI_eq_neg2, neg_eq_nI2, neg_lt2, neg_le2, nI_lt_neg2, nI_le_neg2, pred_t, pred_f, nI_clamp', vp_t, lt0_t, lt0_le, lt0_lt, lt0_eq, if_true, if_false, ite_true, ite_false, true_and, and_true, false_and, and_false, false_or, or_false, true_or, or_true, eq_self, fs_ne, fs_eq, fs_eq', st12, st13, st21, st23, st31, st32, not_true_eq_false, not_false_eq_true, em, em', en, en', et, et', eg, eg', ed, ed', es, es', eo', ee, ee', ev, ev']
            refine hI.end ?_
            repeat (first | exact Sm.refl _ | refine Sm.fs40 ?_ _ _ (by decide) | refine Sm.fsT ?_ _ _ _ _ rfl (by decide) (by decide))
        · first
            | exfalso; omega
            | simp (disch := first | omega | assumption) only [PL_16, P_L_early, P_X10_early, P_X11_early, P_X11_early_47, P_X11_early_48, P_X11_canVote, P_X10_personAt, P_X10_needPerson, P_X10_needRange, P_X10_needStage, P_X10_needAlive, P_X10_needOnRoll, P_X5_stationFor, P_X10_voidEnvelopeOf, P_X11_isPerson, P_X11_voids, P_X11_voids_29, P_X11_in, P_X11_asked, P_X11_asked_10, P_X11_asked_, P_X11_asked__18, P_X11_asked__, P_X11_asked___26, P_X11_thrown, P_X11_told, ↓reduceIte, ↓forall_eq, ↓hold_ca, ↓hold_cam, ↓hold_se, ↓hold_sem, ↓hold_wr, ↓hold_wrm, li0, li1, li2, li3, li4, li5, li6, li7, li8, li10, li20, li30, li35, li36, li60, li72, li100, li572, li2000, li2100, li9999, nI_lt_t, nI_lt_f, nI_le_t, nI_le_f, nI_eq_t, nI_eq_f, nI_eq_neg2, neg_eq_nI2, neg_lt2, neg_le2, nI_lt_neg2, nI_le_neg2, pred_t, pred_f, nI_clamp', vp_t, lt0_t, lt0_le, lt0_lt, lt0_eq, if_true, if_false, ite_true, ite_false, true_and, and_true, false_and, and_false, false_or, or_false, true_or, or_true, eq_self, fs_ne, fs_eq, fs_eq', st12, st13, st21, st23, st31, st32, not_true_eq_false, not_false_eq_true, em, em', en, en', et, et', eg, eg', ed, ed', es, es', eo', ee, ee', ev, ev']
              refine hI.end ?_
              repeat (first | exact Sm.refl _ | refine Sm.fs40 ?_ _ _ (by decide) | refine Sm.fsT ?_ _ _ _ _ rfl (by decide) (by decide))
    · rcases int_cases a1 with hneg_p | ⟨p, hbig_p, rfl⟩
      · first
          | exfalso; omega
          | simp (disch := first | omega | assumption) only [PL_16, P_L_early, P_X10_early, P_X11_early, P_X11_early_47, P_X11_early_48, P_X11_canVote, P_X10_personAt, P_X10_needPerson, P_X10_needRange, P_X10_needStage, P_X10_needAlive, P_X10_needOnRoll, P_X5_stationFor, P_X10_voidEnvelopeOf, P_X11_isPerson, P_X11_voids, P_X11_voids_29, P_X11_in, P_X11_asked, P_X11_asked_10, P_X11_asked_, P_X11_asked__18, P_X11_asked__, P_X11_asked___26, P_X11_thrown, P_X11_told, ↓reduceIte, ↓forall_eq, ↓hold_ca, ↓hold_cam, ↓hold_se, ↓hold_sem, ↓hold_wr, ↓hold_wrm, li0, li1, li2, li3, li4, li5, li6, li7, li8, li10, li20, li30, li35, li36, li60, li72, li100, li572, li2000, li2100, li9999, nI_lt_t, nI_lt_f, nI_le_t, nI_le_f, nI_eq_t, nI_eq_f, nI_eq_neg2, neg_eq_nI2, neg_lt2, neg_le2, nI_lt_neg2, nI_le_neg2, pred_t, pred_f, nI_clamp', vp_t, lt0_t, lt0_le, lt0_lt, lt0_eq, if_true, if_false, ite_true, ite_false, true_and, and_true, false_and, and_false, false_or, or_false, true_or, or_true, eq_self, fs_ne, fs_eq, fs_eq', st12, st13, st21, st23, st31, st32, not_true_eq_false, not_false_eq_true, em, em', en, en', et, et', eg, eg', ed, ed', es, es', eo', ee, ee', ev, ev']
            refine hI.end ?_
            repeat (first | exact Sm.refl _ | refine Sm.fs40 ?_ _ _ (by decide) | refine Sm.fsT ?_ _ _ _ _ rfl (by decide) (by decide))
      · by_cases hlt_p : p < n
        · have hb : p < 20 := by omega
          by_cases g2 : g = 2
          · by_cases al : F 33 p 2 = nI 0
            · have alm : F 47 0 p = nI 0 := ((q4.2 p hb).2).trans al
              rcases r6 p hb with hx1 | ⟨so, hso, hon⟩
              · have hx2 : F 52 0 p = -1 := (q7.1 p hb).1.trans hx1
                simp (disch := first | omega | assumption) only [PL_16, P_L_early, P_X10_early, P_X11_early, P_X11_early_47, P_X11_early_48, P_X11_canVote, P_X10_personAt, P_X10_needPerson, P_X10_needRange, P_X10_needStage, P_X10_needAlive, P_X10_needOnRoll, P_X5_stationFor, P_X10_voidEnvelopeOf, P_X11_isPerson, P_X11_voids, P_X11_voids_29, P_X11_in, P_X11_asked, P_X11_asked_10, P_X11_asked_, P_X11_asked__18, P_X11_asked__, P_X11_asked___26, P_X11_thrown, P_X11_told, ↓reduceIte, ↓forall_eq, ↓hold_ca, ↓hold_cam, ↓hold_se, ↓hold_sem, ↓hold_wr, ↓hold_wrm, li0, li1, li2, li3, li4, li5, li6, li7, li8, li10, li20, li30, li35, li36, li60, li72, li100, li572, li2000, li2100, li9999, nI_lt_t, nI_lt_f, nI_le_t, nI_le_f, nI_eq_t, nI_eq_f, nI_eq_neg2, neg_eq_nI2, neg_lt2, neg_le2, nI_lt_neg2, nI_le_neg2, pred_t, pred_f, nI_clamp', vp_t, lt0_t, lt0_le, lt0_lt, lt0_eq, if_true, if_false, ite_true, ite_false, true_and, and_true, false_and, and_false, false_or, or_false, true_or, or_true, eq_self, fs_ne, fs_eq, fs_eq', st12, st13, st21, st23, st31, st32, not_true_eq_false, not_false_eq_true, em, em', en, en', et, et', eg, eg', ed, ed', es, es', eo', ee, ee', ev, ev', g2, hx1, hx2, al, alm]
                refine hI.end ?_
                repeat (first | exact Sm.refl _ | refine Sm.fs40 ?_ _ _ (by decide) | refine Sm.fsT ?_ _ _ _ _ rfl (by decide) (by decide))
              · have hx1 := hon
                have hx2 : F 52 0 p = nI so := (q7.1 p hb).1.trans hon
                by_cases hv60 : v < 60
                · simp (disch := first | omega | assumption) only [PL_16, P_L_early, P_X10_early, P_X11_early, P_X11_early_47, P_X11_early_48, P_X11_canVote, P_X10_personAt, P_X10_needPerson, P_X10_needRange, P_X10_needStage, P_X10_needAlive, P_X10_needOnRoll, P_X5_stationFor, P_X10_voidEnvelopeOf, P_X11_isPerson, P_X11_voids, P_X11_voids_29, P_X11_in, P_X11_asked, P_X11_asked_10, P_X11_asked_, P_X11_asked__18, P_X11_asked__, P_X11_asked___26, P_X11_thrown, P_X11_told, ↓reduceIte, ↓forall_eq, ↓hold_ca, ↓hold_cam, ↓hold_se, ↓hold_sem, ↓hold_wr, ↓hold_wrm, li0, li1, li2, li3, li4, li5, li6, li7, li8, li10, li20, li30, li35, li36, li60, li72, li100, li572, li2000, li2100, li9999, nI_lt_t, nI_lt_f, nI_le_t, nI_le_f, nI_eq_t, nI_eq_f, nI_eq_neg2, neg_eq_nI2, neg_lt2, neg_le2, nI_lt_neg2, nI_le_neg2, pred_t, pred_f, nI_clamp', vp_t, lt0_t, lt0_le, lt0_lt, lt0_eq, if_true, if_false, ite_true, ite_false, true_and, and_true, false_and, and_false, false_or, or_false, true_or, or_true, eq_self, fs_ne, fs_eq, fs_eq', st12, st13, st21, st23, st31, st32, not_true_eq_false, not_false_eq_true, em, em', en, en', et, et', eg, eg', ed, ed', es, es', eo', ee, ee', ev, ev', hx1, hx2, al, alm]
                  refine hI.end ?_
                  repeat (first | exact Sm.refl _ | refine Sm.fs40 ?_ _ _ (by decide) | refine Sm.fsT ?_ _ _ _ _ rfl (by decide) (by decide))
                · simp (disch := first | omega | assumption) only [PL_16, P_L_early, P_X10_early, P_X11_early, P_X11_early_47, P_X11_early_48, P_X11_canVote, P_X10_personAt, P_X10_needPerson, P_X10_needRange, P_X10_needStage, P_X10_needAlive, P_X10_needOnRoll, P_X5_stationFor, P_X10_voidEnvelopeOf, P_X11_isPerson, P_X11_voids, P_X11_voids_29, P_X11_in, P_X11_asked, P_X11_asked_10, P_X11_asked_, P_X11_asked__18, P_X11_asked__, P_X11_asked___26, P_X11_thrown, P_X11_told, ↓reduceIte, ↓forall_eq, ↓hold_ca, ↓hold_cam, ↓hold_se, ↓hold_sem, ↓hold_wr, ↓hold_wrm, li0, li1, li2, li3, li4, li5, li6, li7, li8, li10, li20, li30, li35, li36, li60, li72, li100, li572, li2000, li2100, li9999, nI_lt_t, nI_lt_f, nI_le_t, nI_le_f, nI_eq_t, nI_eq_f, nI_eq_neg2, neg_eq_nI2, neg_lt2, neg_le2, nI_lt_neg2, nI_le_neg2, pred_t, pred_f, nI_clamp', vp_t, lt0_t, lt0_le, lt0_lt, lt0_eq, if_true, if_false, ite_true, ite_false, true_and, and_true, false_and, and_false, false_or, or_false, true_or, or_true, eq_self, fs_ne, fs_eq, fs_eq', st12, st13, st21, st23, st31, st32, not_true_eq_false, not_false_eq_true, em, em', en, en', et, et', eg, eg', ed, ed', es, es', eo', ee, ee', ev, ev', g2, hx1, hx2, al, alm]
                  refine hI.end ?_
                  repeat (first | exact Sm.refl _ | refine Sm.fs40 ?_ _ _ (by decide) | refine Sm.fsT ?_ _ _ _ _ rfl (by decide) (by decide))
            · have alm : ¬ F 47 0 p = nI 0 := by rw [(q4.2 p hb).2]; exact al
              rcases r6 p hb with hx1 | ⟨so, hso, hon⟩
              · have hx2 : F 52 0 p = -1 := (q7.1 p hb).1.trans hx1
                simp (disch := first | omega | assumption) only [PL_16, P_L_early, P_X10_early, P_X11_early, P_X11_early_47, P_X11_early_48, P_X11_canVote, P_X10_personAt, P_X10_needPerson, P_X10_needRange, P_X10_needStage, P_X10_needAlive, P_X10_needOnRoll, P_X5_stationFor, P_X10_voidEnvelopeOf, P_X11_isPerson, P_X11_voids, P_X11_voids_29, P_X11_in, P_X11_asked, P_X11_asked_10, P_X11_asked_, P_X11_asked__18, P_X11_asked__, P_X11_asked___26, P_X11_thrown, P_X11_told, ↓reduceIte, ↓forall_eq, ↓hold_ca, ↓hold_cam, ↓hold_se, ↓hold_sem, ↓hold_wr, ↓hold_wrm, li0, li1, li2, li3, li4, li5, li6, li7, li8, li10, li20, li30, li35, li36, li60, li72, li100, li572, li2000, li2100, li9999, nI_lt_t, nI_lt_f, nI_le_t, nI_le_f, nI_eq_t, nI_eq_f, nI_eq_neg2, neg_eq_nI2, neg_lt2, neg_le2, nI_lt_neg2, nI_le_neg2, pred_t, pred_f, nI_clamp', vp_t, lt0_t, lt0_le, lt0_lt, lt0_eq, if_true, if_false, ite_true, ite_false, true_and, and_true, false_and, and_false, false_or, or_false, true_or, or_true, eq_self, fs_ne, fs_eq, fs_eq', st12, st13, st21, st23, st31, st32, not_true_eq_false, not_false_eq_true, em, em', en, en', et, et', eg, eg', ed, ed', es, es', eo', ee, ee', ev, ev', g2, hx1, hx2, al, alm]
                refine hI.end ?_
                repeat (first | exact Sm.refl _ | refine Sm.fs40 ?_ _ _ (by decide) | refine Sm.fsT ?_ _ _ _ _ rfl (by decide) (by decide))
              · have hx1 := hon
                have hx2 : F 52 0 p = nI so := (q7.1 p hb).1.trans hon
                simp (disch := first | omega | assumption) only [PL_16, P_L_early, P_X10_early, P_X11_early, P_X11_early_47, P_X11_early_48, P_X11_canVote, P_X10_personAt, P_X10_needPerson, P_X10_needRange, P_X10_needStage, P_X10_needAlive, P_X10_needOnRoll, P_X5_stationFor, P_X10_voidEnvelopeOf, P_X11_isPerson, P_X11_voids, P_X11_voids_29, P_X11_in, P_X11_asked, P_X11_asked_10, P_X11_asked_, P_X11_asked__18, P_X11_asked__, P_X11_asked___26, P_X11_thrown, P_X11_told, ↓reduceIte, ↓forall_eq, ↓hold_ca, ↓hold_cam, ↓hold_se, ↓hold_sem, ↓hold_wr, ↓hold_wrm, li0, li1, li2, li3, li4, li5, li6, li7, li8, li10, li20, li30, li35, li36, li60, li72, li100, li572, li2000, li2100, li9999, nI_lt_t, nI_lt_f, nI_le_t, nI_le_f, nI_eq_t, nI_eq_f, nI_eq_neg2, neg_eq_nI2, neg_lt2, neg_le2, nI_lt_neg2, nI_le_neg2, pred_t, pred_f, nI_clamp', vp_t, lt0_t, lt0_le, lt0_lt, lt0_eq, if_true, if_false, ite_true, ite_false, true_and, and_true, false_and, and_false, false_or, or_false, true_or, or_true, eq_self, fs_ne, fs_eq, fs_eq', st12, st13, st21, st23, st31, st32, not_true_eq_false, not_false_eq_true, em, em', en, en', et, et', eg, eg', ed, ed', es, es', eo', ee, ee', ev, ev', g2, hx1, hx2, al, alm]
                refine hI.end ?_
                repeat (first | exact Sm.refl _ | refine Sm.fs40 ?_ _ _ (by decide) | refine Sm.fsT ?_ _ _ _ _ rfl (by decide) (by decide))
          · simp (disch := first | omega | assumption) only [PL_16, P_L_early, P_X10_early, P_X11_early, P_X11_early_47, P_X11_early_48, P_X11_canVote, P_X10_personAt, P_X10_needPerson, P_X10_needRange, P_X10_needStage, P_X10_needAlive, P_X10_needOnRoll, P_X5_stationFor, P_X10_voidEnvelopeOf, P_X11_isPerson, P_X11_voids, P_X11_voids_29, P_X11_in, P_X11_asked, P_X11_asked_10, P_X11_asked_, P_X11_asked__18, P_X11_asked__, P_X11_asked___26, P_X11_thrown, P_X11_told, ↓reduceIte, ↓forall_eq, ↓hold_ca, ↓hold_cam, ↓hold_se, ↓hold_sem, ↓hold_wr, ↓hold_wrm, li0, li1, li2, li3, li4, li5, li6, li7, li8, li10, li20, li30, li35, li36, li60, li72, li100, li572, li2000, li2100, li9999, nI_lt_t, nI_lt_f, nI_le_t, nI_le_f, nI_eq_t, nI_eq_f, nI_eq_neg2, neg_eq_nI2, neg_lt2, neg_le2, nI_lt_neg2, nI_le_neg2, pred_t, pred_f, nI_clamp', vp_t, lt0_t, lt0_le, lt0_lt, lt0_eq, if_true, if_false, ite_true, ite_false, true_and, and_true, false_and, and_false, false_or, or_false, true_or, or_true, eq_self, fs_ne, fs_eq, fs_eq', st12, st13, st21, st23, st31, st32, not_true_eq_false, not_false_eq_true, em, em', en, en', et, et', eg, eg', ed, ed', es, es', eo', ee, ee', ev, ev']
            refine hI.end ?_
            repeat (first | exact Sm.refl _ | refine Sm.fs40 ?_ _ _ (by decide) | refine Sm.fsT ?_ _ _ _ _ rfl (by decide) (by decide))
        · first
            | exfalso; omega
            | simp (disch := first | omega | assumption) only [PL_16, P_L_early, P_X10_early, P_X11_early, P_X11_early_47, P_X11_early_48, P_X11_canVote, P_X10_personAt, P_X10_needPerson, P_X10_needRange, P_X10_needStage, P_X10_needAlive, P_X10_needOnRoll, P_X5_stationFor, P_X10_voidEnvelopeOf, P_X11_isPerson, P_X11_voids, P_X11_voids_29, P_X11_in, P_X11_asked, P_X11_asked_10, P_X11_asked_, P_X11_asked__18, P_X11_asked__, P_X11_asked___26, P_X11_thrown, P_X11_told, ↓reduceIte, ↓forall_eq, ↓hold_ca, ↓hold_cam, ↓hold_se, ↓hold_sem, ↓hold_wr, ↓hold_wrm, li0, li1, li2, li3, li4, li5, li6, li7, li8, li10, li20, li30, li35, li36, li60, li72, li100, li572, li2000, li2100, li9999, nI_lt_t, nI_lt_f, nI_le_t, nI_le_f, nI_eq_t, nI_eq_f, nI_eq_neg2, neg_eq_nI2, neg_lt2, neg_le2, nI_lt_neg2, nI_le_neg2, pred_t, pred_f, nI_clamp', vp_t, lt0_t, lt0_le, lt0_lt, lt0_eq, if_true, if_false, ite_true, ite_false, true_and, and_true, false_and, and_false, false_or, or_false, true_or, or_true, eq_self, fs_ne, fs_eq, fs_eq', st12, st13, st21, st23, st31, st32, not_true_eq_false, not_false_eq_true, em, em', en, en', et, et', eg, eg', ed, ed', es, es', eo', ee, ee', ev, ev']
              refine hI.end ?_
              repeat (first | exact Sm.refl _ | refine Sm.fs40 ?_ _ _ (by decide) | refine Sm.fsT ?_ _ _ _ _ rfl (by decide) (by decide))
