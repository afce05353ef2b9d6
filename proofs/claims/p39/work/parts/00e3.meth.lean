set_option maxHeartbeats 1000000 in
set_option maxRecDepth 20000 in
theorem m3 {k : Nat} {F : GF} (h : Inv k F) (a1 a2 a3 : Int32) : PL_3 a1 a2 a3 (Inv (k + 1)) F := by
  have hI := h
  obtain ⟨⟨q0, q1, q2, q3, q4, q5, q6, q7, q8, q9, q10, q11⟩, ⟨r0, r1, r2, r3, r4, r5, r6, r7, r8, r9, r10, r11, r12, r13, r14⟩, cb, lg⟩ := h
  have R1 := r1
  have R2 := r2
  have R3 := r3
  have R4 := r4
  obtain ⟨m, hm, em, hmc⟩ := r1
  have em' : F 40 0 6 = nI m := q2.1.trans em
  obtain ⟨n, hn, en⟩ := r2
  have en' : F 40 0 9 = nI n := q4.1.trans en
  obtain ⟨t, g, d, s, e, ht, et, hg, eg, hd, ed, hs, es, he, ee, hem, hg1, hg2, hg3⟩ := r3
  have et' : F 40 0 0 = nI t := q0.trans et
  have eg' : F 40 0 14 = nI g := q5.1.trans eg
  have ed' : F 40 0 15 = nI d := q5.2.1.trans ed
  have es' : F 40 0 16 = nI s := q5.2.2.1.trans es
  have eo' : F 40 0 17 = F 10 0 3 := q5.2.2.2.1
  have ee' : F 40 0 19 = nI e := q5.2.2.2.2.trans ee
  obtain ⟨⟨v, hv, ev⟩, hev⟩ := r4
  have ev' : F 40 0 26 = nI v := q8.1.trans ev
  rcases int_cases a1 with hneg_p | ⟨p, hbig_p, rfl⟩
  · rcases int_cases a2 with hneg_c | ⟨c, hbig_c, rfl⟩
    · first
        | exfalso; omega
        | simp (disch := first | omega | assumption) only [PL_3, P_L_setSeats, P_X10_setSeats, P_X11_setSeats, P_X10_needStation, P_X11_isStation, P_X10_needRange, P_X11_in, P_X11_asked, P_X11_asked_10, P_X11_asked_, P_X11_asked__18, P_X11_asked__, P_X11_asked___26, P_X11_thrown, P_X11_told, ↓reduceIte, ↓forall_eq, li0, li1, li2, li3, li4, li5, li6, li7, li8, li10, li20, li30, li35, li36, li60, li72, li100, li572, li2000, li2100, li9999, nI_lt_t, nI_lt_f, nI_le_t, nI_le_f, nI_eq_t, nI_eq_f, nI_eq_neg2, neg_eq_nI2, neg_lt2, neg_le2, nI_lt_neg2, nI_le_neg2, pred_t, pred_f, nI_clamp', vp_t, lt0_t, lt0_le, lt0_lt, lt0_eq, if_true, if_false, ite_true, ite_false, true_and, and_true, false_and, and_false, false_or, or_false, true_or, or_true, eq_self, fs_ne, fs_eq, fs_eq', st12, st13, st21, st23, st31, st32, not_true_eq_false, not_false_eq_true, em, em', en, en', et, et', eg, eg', ed, ed', es, es', eo', ee, ee', ev, ev']
          refine hI.end ?_
          repeat (first | exact Sm.refl _ | refine Sm.fs40 ?_ _ _ (by decide) | refine Sm.fsT ?_ _ _ _ _ rfl (by decide) (by decide))
    · by_cases hlt_c : c < 21
      · first
          | exfalso; omega
          | simp (disch := first | omega | assumption) only [PL_3, P_L_setSeats, P_X10_setSeats, P_X11_setSeats, P_X10_needStation, P_X11_isStation, P_X10_needRange, P_X11_in, P_X11_asked, P_X11_asked_10, P_X11_asked_, P_X11_asked__18, P_X11_asked__, P_X11_asked___26, P_X11_thrown, P_X11_told, ↓reduceIte, ↓forall_eq, li0, li1, li2, li3, li4, li5, li6, li7, li8, li10, li20, li30, li35, li36, li60, li72, li100, li572, li2000, li2100, li9999, nI_lt_t, nI_lt_f, nI_le_t, nI_le_f, nI_eq_t, nI_eq_f, nI_eq_neg2, neg_eq_nI2, neg_lt2, neg_le2, nI_lt_neg2, nI_le_neg2, pred_t, pred_f, nI_clamp', vp_t, lt0_t, lt0_le, lt0_lt, lt0_eq, if_true, if_false, ite_true, ite_false, true_and, and_true, false_and, and_false, false_or, or_false, true_or, or_true, eq_self, fs_ne, fs_eq, fs_eq', st12, st13, st21, st23, st31, st32, not_true_eq_false, not_false_eq_true, em, em', en, en', et, et', eg, eg', ed, ed', es, es', eo', ee, ee', ev, ev']
            refine hI.end ?_
            repeat (first | exact Sm.refl _ | refine Sm.fs40 ?_ _ _ (by decide) | refine Sm.fsT ?_ _ _ _ _ rfl (by decide) (by decide))
      · first
          | exfalso; omega
          | simp (disch := first | omega | assumption) only [PL_3, P_L_setSeats, P_X10_setSeats, P_X11_setSeats, P_X10_needStation, P_X11_isStation, P_X10_needRange, P_X11_in, P_X11_asked, P_X11_asked_10, P_X11_asked_, P_X11_asked__18, P_X11_asked__, P_X11_asked___26, P_X11_thrown, P_X11_told, ↓reduceIte, ↓forall_eq, li0, li1, li2, li3, li4, li5, li6, li7, li8, li10, li20, li30, li35, li36, li60, li72, li100, li572, li2000, li2100, li9999, nI_lt_t, nI_lt_f, nI_le_t, nI_le_f, nI_eq_t, nI_eq_f, nI_eq_neg2, neg_eq_nI2, neg_lt2, neg_le2, nI_lt_neg2, nI_le_neg2, pred_t, pred_f, nI_clamp', vp_t, lt0_t, lt0_le, lt0_lt, lt0_eq, if_true, if_false, ite_true, ite_false, true_and, and_true, false_and, and_false, false_or, or_false, true_or, or_true, eq_self, fs_ne, fs_eq, fs_eq', st12, st13, st21, st23, st31, st32, not_true_eq_false, not_false_eq_true, em, em', en, en', et, et', eg, eg', ed, ed', es, es', eo', ee, ee', ev, ev']
            refine hI.end ?_
            repeat (first | exact Sm.refl _ | refine Sm.fs40 ?_ _ _ (by decide) | refine Sm.fsT ?_ _ _ _ _ rfl (by decide) (by decide))
  · by_cases hlt_p : p < m
    · have hb : p < 5 := by omega
      rcases int_cases a2 with hneg_c | ⟨c, hbig_c, rfl⟩
      · first
          | exfalso; omega
          | simp (disch := first | omega | assumption) only [PL_3, P_L_setSeats, P_X10_setSeats, P_X11_setSeats, P_X10_needStation, P_X11_isStation, P_X10_needRange, P_X11_in, P_X11_asked, P_X11_asked_10, P_X11_asked_, P_X11_asked__18, P_X11_asked__, P_X11_asked___26, P_X11_thrown, P_X11_told, ↓reduceIte, ↓forall_eq, li0, li1, li2, li3, li4, li5, li6, li7, li8, li10, li20, li30, li35, li36, li60, li72, li100, li572, li2000, li2100, li9999, nI_lt_t, nI_lt_f, nI_le_t, nI_le_f, nI_eq_t, nI_eq_f, nI_eq_neg2, neg_eq_nI2, neg_lt2, neg_le2, nI_lt_neg2, nI_le_neg2, pred_t, pred_f, nI_clamp', vp_t, lt0_t, lt0_le, lt0_lt, lt0_eq, if_true, if_false, ite_true, ite_false, true_and, and_true, false_and, and_false, false_or, or_false, true_or, or_true, eq_self, fs_ne, fs_eq, fs_eq', st12, st13, st21, st23, st31, st32, not_true_eq_false, not_false_eq_true, em, em', en, en', et, et', eg, eg', ed, ed', es, es', eo', ee, ee', ev, ev']
            refine hI.end ?_
            repeat (first | exact Sm.refl _ | refine Sm.fs40 ?_ _ _ (by decide) | refine Sm.fsT ?_ _ _ _ _ rfl (by decide) (by decide))
      · by_cases hlt_c : c < 21
        · first
            | exfalso; omega
            | simp (disch := first | omega | assumption) only [PL_3, P_L_setSeats, P_X10_setSeats, P_X11_setSeats, P_X10_needStation, P_X11_isStation, P_X10_needRange, P_X11_in, P_X11_asked, P_X11_asked_10, P_X11_asked_, P_X11_asked__18, P_X11_asked__, P_X11_asked___26, P_X11_thrown, P_X11_told, ↓reduceIte, ↓forall_eq, li0, li1, li2, li3, li4, li5, li6, li7, li8, li10, li20, li30, li35, li36, li60, li72, li100, li572, li2000, li2100, li9999, nI_lt_t, nI_lt_f, nI_le_t, nI_le_f, nI_eq_t, nI_eq_f, nI_eq_neg2, neg_eq_nI2, neg_lt2, neg_le2, nI_lt_neg2, nI_le_neg2, pred_t, pred_f, nI_clamp', vp_t, lt0_t, lt0_le, lt0_lt, lt0_eq, if_true, if_false, ite_true, ite_false, true_and, and_true, false_and, and_false, false_or, or_false, true_or, or_true, eq_self, fs_ne, fs_eq, fs_eq', st12, st13, st21, st23, st31, st32, not_true_eq_false, not_false_eq_true, em, em', en, en', et, et', eg, eg', ed, ed', es, es', eo', ee, ee', ev, ev', (q2.2 p hb).2]
              exact i3 hI hb _ _ _
        · first
            | exfalso; omega
            | simp (disch := first | omega | assumption) only [PL_3, P_L_setSeats, P_X10_setSeats, P_X11_setSeats, P_X10_needStation, P_X11_isStation, P_X10_needRange, P_X11_in, P_X11_asked, P_X11_asked_10, P_X11_asked_, P_X11_asked__18, P_X11_asked__, P_X11_asked___26, P_X11_thrown, P_X11_told, ↓reduceIte, ↓forall_eq, li0, li1, li2, li3, li4, li5, li6, li7, li8, li10, li20, li30, li35, li36, li60, li72, li100, li572, li2000, li2100, li9999, nI_lt_t, nI_lt_f, nI_le_t, nI_le_f, nI_eq_t, nI_eq_f, nI_eq_neg2, neg_eq_nI2, neg_lt2, neg_le2, nI_lt_neg2, nI_le_neg2, pred_t, pred_f, nI_clamp', vp_t, lt0_t, lt0_le, lt0_lt, lt0_eq, if_true, if_false, ite_true, ite_false, true_and, and_true, false_and, and_false, false_or, or_false, true_or, or_true, eq_self, fs_ne, fs_eq, fs_eq', st12, st13, st21, st23, st31, st32, not_true_eq_false, not_false_eq_true, em, em', en, en', et, et', eg, eg', ed, ed', es, es', eo', ee, ee', ev, ev']
              refine hI.end ?_
              repeat (first | exact Sm.refl _ | refine Sm.fs40 ?_ _ _ (by decide) | refine Sm.fsT ?_ _ _ _ _ rfl (by decide) (by decide))
    · rcases int_cases a2 with hneg_c | ⟨c, hbig_c, rfl⟩
      · first
          | exfalso; omega
          | simp (disch := first | omega | assumption) only [PL_3, P_L_setSeats, P_X10_setSeats, P_X11_setSeats, P_X10_needStation, P_X11_isStation, P_X10_needRange, P_X11_in, P_X11_asked, P_X11_asked_10, P_X11_asked_, P_X11_asked__18, P_X11_asked__, P_X11_asked___26, P_X11_thrown, P_X11_told, ↓reduceIte, ↓forall_eq, li0, li1, li2, li3, li4, li5, li6, li7, li8, li10, li20, li30, li35, li36, li60, li72, li100, li572, li2000, li2100, li9999, nI_lt_t, nI_lt_f, nI_le_t, nI_le_f, nI_eq_t, nI_eq_f, nI_eq_neg2, neg_eq_nI2, neg_lt2, neg_le2, nI_lt_neg2, nI_le_neg2, pred_t, pred_f, nI_clamp', vp_t, lt0_t, lt0_le, lt0_lt, lt0_eq, if_true, if_false, ite_true, ite_false, true_and, and_true, false_and, and_false, false_or, or_false, true_or, or_true, eq_self, fs_ne, fs_eq, fs_eq', st12, st13, st21, st23, st31, st32, not_true_eq_false, not_false_eq_true, em, em', en, en', et, et', eg, eg', ed, ed', es, es', eo', ee, ee', ev, ev']
            refine hI.end ?_
            repeat (first | exact Sm.refl _ | refine Sm.fs40 ?_ _ _ (by decide) | refine Sm.fsT ?_ _ _ _ _ rfl (by decide) (by decide))
      · by_cases hlt_c : c < 21
        · first
            | exfalso; omega
            | simp (disch := first | omega | assumption) only [PL_3, P_L_setSeats, P_X10_setSeats, P_X11_setSeats, P_X10_needStation, P_X11_isStation, P_X10_needRange, P_X11_in, P_X11_asked, P_X11_asked_10, P_X11_asked_, P_X11_asked__18, P_X11_asked__, P_X11_asked___26, P_X11_thrown, P_X11_told, ↓reduceIte, ↓forall_eq, li0, li1, li2, li3, li4, li5, li6, li7, li8, li10, li20, li30, li35, li36, li60, li72, li100, li572, li2000, li2100, li9999, nI_lt_t, nI_lt_f, nI_le_t, nI_le_f, nI_eq_t, nI_eq_f, nI_eq_neg2, neg_eq_nI2, neg_lt2, neg_le2, nI_lt_neg2, nI_le_neg2, pred_t, pred_f, nI_clamp', vp_t, lt0_t, lt0_le, lt0_lt, lt0_eq, if_true, if_false, ite_true, ite_false, true_and, and_true, false_and, and_false, false_or, or_false, true_or, or_true, eq_self, fs_ne, fs_eq, fs_eq', st12, st13, st21, st23, st31, st32, not_true_eq_false, not_false_eq_true, em, em', en, en', et, et', eg, eg', ed, ed', es, es', eo', ee, ee', ev, ev']
              refine hI.end ?_
              repeat (first | exact Sm.refl _ | refine Sm.fs40 ?_ _ _ (by decide) | refine Sm.fsT ?_ _ _ _ _ rfl (by decide) (by decide))
        · first
            | exfalso; omega
            | simp (disch := first | omega | assumption) only [PL_3, P_L_setSeats, P_X10_setSeats, P_X11_setSeats, P_X10_needStation, P_X11_isStation, P_X10_needRange, P_X11_in, P_X11_asked, P_X11_asked_10, P_X11_asked_, P_X11_asked__18, P_X11_asked__, P_X11_asked___26, P_X11_thrown, P_X11_told, ↓reduceIte, ↓forall_eq, li0, li1, li2, li3, li4, li5, li6, li7, li8, li10, li20, li30, li35, li36, li60, li72, li100, li572, li2000, li2100, li9999, nI_lt_t, nI_lt_f, nI_le_t, nI_le_f, nI_eq_t, nI_eq_f, nI_eq_neg2, neg_eq_nI2, neg_lt2, neg_le2, nI_lt_neg2, nI_le_neg2, pred_t, pred_f, nI_clamp', vp_t, lt0_t, lt0_le, lt0_lt, lt0_eq, if_true, if_false, ite_true, ite_false, true_and, and_true, false_and, and_false, false_or, or_false, true_or, or_true, eq_self, fs_ne, fs_eq, fs_eq', st12, st13, st21, st23, st31, st32, not_true_eq_false, not_false_eq_true, em, em', en, en', et, et', eg, eg', ed, ed', es, es', eo', ee, ee', ev, ev']
              refine hI.end ?_
              repeat (first | exact Sm.refl _ | refine Sm.fs40 ?_ _ _ (by decide) | refine Sm.fsT ?_ _ _ _ _ rfl (by decide) (by decide))
set_option maxHeartbeats 1000000 in
set_option maxRecDepth 20000 in
theorem m9 {k : Nat} {F : GF} (h : Inv k F) (a1 a2 a3 : Int32) : PL_9 a1 a2 a3 (Inv (k + 1)) F := by
  have hI := h
  obtain ⟨⟨q0, q1, q2, q3, q4, q5, q6, q7, q8, q9, q10, q11⟩, ⟨r0, r1, r2, r3, r4, r5, r6, r7, r8, r9, r10, r11, r12, r13, r14⟩, cb, lg⟩ := h
  have R1 := r1
  have R2 := r2
  have R3 := r3
  have R4 := r4
  obtain ⟨m, hm, em, hmc⟩ := r1
  have em' : F 40 0 6 = nI m := q2.1.trans em
  obtain ⟨n, hn, en⟩ := r2
  have en' : F 40 0 9 = nI n := q4.1.trans en
  obtain ⟨t, g, d, s, e, ht, et, hg, eg, hd, ed, hs, es, he, ee, hem, hg1, hg2, hg3⟩ := r3
  have et' : F 40 0 0 = nI t := q0.trans et
  have eg' : F 40 0 14 = nI g := q5.1.trans eg
  have ed' : F 40 0 15 = nI d := q5.2.1.trans ed
  have es' : F 40 0 16 = nI s := q5.2.2.1.trans es
  have eo' : F 40 0 17 = F 10 0 3 := q5.2.2.2.1
  have ee' : F 40 0 19 = nI e := q5.2.2.2.2.trans ee
  obtain ⟨⟨v, hv, ev⟩, hev⟩ := r4
  have ev' : F 40 0 26 = nI v := q8.1.trans ev
  by_cases g1 : g = 1
  · by_cases g2 : g = 2
    · rcases int_cases a1 with hneg_p | ⟨p, hbig_p, rfl⟩
      · rcases int_cases a2 with hneg_c | ⟨c, hbig_c, rfl⟩
        · first
            | exfalso; omega
            | simp (disch := first | omega | assumption) only [PL_9, P_L_seed, P_X10_seed, P_X11_seed, P_X10_needParty, P_X10_needRange, P_X10_seed_44, P_X11_seed_33, P_X11_seed_38, P_X11_in, P_X11_asked, P_X11_asked_10, P_X11_asked_, P_X11_asked__18, P_X11_asked__, P_X11_asked___26, P_X11_thrown, P_X11_told, ↓reduceIte, ↓forall_eq, li0, li1, li2, li3, li4, li5, li6, li7, li8, li10, li20, li30, li35, li36, li60, li72, li100, li572, li2000, li2100, li9999, nI_lt_t, nI_lt_f, nI_le_t, nI_le_f, nI_eq_t, nI_eq_f, nI_eq_neg2, neg_eq_nI2, neg_lt2, neg_le2, nI_lt_neg2, nI_le_neg2, pred_t, pred_f, nI_clamp', vp_t, lt0_t, lt0_le, lt0_lt, lt0_eq, if_true, if_false, ite_true, ite_false, true_and, and_true, false_and, and_false, false_or, or_false, true_or, or_true, eq_self, fs_ne, fs_eq, fs_eq', st12, st13, st21, st23, st31, st32, not_true_eq_false, not_false_eq_true, em, em', en, en', et, et', eg, eg', ed, ed', es, es', eo', ee, ee', ev, ev']
              refine hI.end ?_
              repeat (first | exact Sm.refl _ | refine Sm.fs40 ?_ _ _ (by decide) | refine Sm.fsT ?_ _ _ _ _ rfl (by decide) (by decide))
        · by_cases hlt_c : c < 10000
          · first
              | exfalso; omega
              | simp (disch := first | omega | assumption) only [PL_9, P_L_seed, P_X10_seed, P_X11_seed, P_X10_needParty, P_X10_needRange, P_X10_seed_44, P_X11_seed_33, P_X11_seed_38, P_X11_in, P_X11_asked, P_X11_asked_10, P_X11_asked_, P_X11_asked__18, P_X11_asked__, P_X11_asked___26, P_X11_thrown, P_X11_told, ↓reduceIte, ↓forall_eq, li0, li1, li2, li3, li4, li5, li6, li7, li8, li10, li20, li30, li35, li36, li60, li72, li100, li572, li2000, li2100, li9999, nI_lt_t, nI_lt_f, nI_le_t, nI_le_f, nI_eq_t, nI_eq_f, nI_eq_neg2, neg_eq_nI2, neg_lt2, neg_le2, nI_lt_neg2, nI_le_neg2, pred_t, pred_f, nI_clamp', vp_t, lt0_t, lt0_le, lt0_lt, lt0_eq, if_true, if_false, ite_true, ite_false, true_and, and_true, false_and, and_false, false_or, or_false, true_or, or_true, eq_self, fs_ne, fs_eq, fs_eq', st12, st13, st21, st23, st31, st32, not_true_eq_false, not_false_eq_true, em, em', en, en', et, et', eg, eg', ed, ed', es, es', eo', ee, ee', ev, ev']
                refine hI.end ?_
                repeat (first | exact Sm.refl _ | refine Sm.fs40 ?_ _ _ (by decide) | refine Sm.fsT ?_ _ _ _ _ rfl (by decide) (by decide))
          · first
              | exfalso; omega
              | simp (disch := first | omega | assumption) only [PL_9, P_L_seed, P_X10_seed, P_X11_seed, P_X10_needParty, P_X10_needRange, P_X10_seed_44, P_X11_seed_33, P_X11_seed_38, P_X11_in, P_X11_asked, P_X11_asked_10, P_X11_asked_, P_X11_asked__18, P_X11_asked__, P_X11_asked___26, P_X11_thrown, P_X11_told, ↓reduceIte, ↓forall_eq, li0, li1, li2, li3, li4, li5, li6, li7, li8, li10, li20, li30, li35, li36, li60, li72, li100, li572, li2000, li2100, li9999, nI_lt_t, nI_lt_f, nI_le_t, nI_le_f, nI_eq_t, nI_eq_f, nI_eq_neg2, neg_eq_nI2, neg_lt2, neg_le2, nI_lt_neg2, nI_le_neg2, pred_t, pred_f, nI_clamp', vp_t, lt0_t, lt0_le, lt0_lt, lt0_eq, if_true, if_false, ite_true, ite_false, true_and, and_true, false_and, and_false, false_or, or_false, true_or, or_true, eq_self, fs_ne, fs_eq, fs_eq', st12, st13, st21, st23, st31, st32, not_true_eq_false, not_false_eq_true, em, em', en, en', et, et', eg, eg', ed, ed', es, es', eo', ee, ee', ev, ev']
                refine hI.end ?_
                repeat (first | exact Sm.refl _ | refine Sm.fs40 ?_ _ _ (by decide) | refine Sm.fsT ?_ _ _ _ _ rfl (by decide) (by decide))
      · by_cases hlt_p : p < 5
        · rcases int_cases a2 with hneg_c | ⟨c, hbig_c, rfl⟩
          · first
              | exfalso; omega
              | simp (disch := first | omega | assumption) only [PL_9, P_L_seed, P_X10_seed, P_X11_seed, P_X10_needParty, P_X10_needRange, P_X10_seed_44, P_X11_seed_33, P_X11_seed_38, P_X11_in, P_X11_asked, P_X11_asked_10, P_X11_asked_, P_X11_asked__18, P_X11_asked__, P_X11_asked___26, P_X11_thrown, P_X11_told, ↓reduceIte, ↓forall_eq, li0, li1, li2, li3, li4, li5, li6, li7, li8, li10, li20, li30, li35, li36, li60, li72, li100, li572, li2000, li2100, li9999, nI_lt_t, nI_lt_f, nI_le_t, nI_le_f, nI_eq_t, nI_eq_f, nI_eq_neg2, neg_eq_nI2, neg_lt2, neg_le2, nI_lt_neg2, nI_le_neg2, pred_t, pred_f, nI_clamp', vp_t, lt0_t, lt0_le, lt0_lt, lt0_eq, if_true, if_false, ite_true, ite_false, true_and, and_true, false_and, and_false, false_or, or_false, true_or, or_true, eq_self, fs_ne, fs_eq, fs_eq', st12, st13, st21, st23, st31, st32, not_true_eq_false, not_false_eq_true, em, em', en, en', et, et', eg, eg', ed, ed', es, es', eo', ee, ee', ev, ev']
                refine hI.end ?_
                repeat (first | exact Sm.refl _ | refine Sm.fs40 ?_ _ _ (by decide) | refine Sm.fsT ?_ _ _ _ _ rfl (by decide) (by decide))
          · by_cases hlt_c : c < 10000
            · first
                | exfalso; omega
                | simp (disch := first | omega | assumption) only [PL_9, P_L_seed, P_X10_seed, P_X11_seed, P_X10_needParty, P_X10_needRange, P_X10_seed_44, P_X11_seed_33, P_X11_seed_38, P_X11_in, P_X11_asked, P_X11_asked_10, P_X11_asked_, P_X11_asked__18, P_X11_asked__, P_X11_asked___26, P_X11_thrown, P_X11_told, ↓reduceIte, ↓forall_eq, li0, li1, li2, li3, li4, li5, li6, li7, li8, li10, li20, li30, li35, li36, li60, li72, li100, li572, li2000, li2100, li9999, nI_lt_t, nI_lt_f, nI_le_t, nI_le_f, nI_eq_t, nI_eq_f, nI_eq_neg2, neg_eq_nI2, neg_lt2, neg_le2, nI_lt_neg2, nI_le_neg2, pred_t, pred_f, nI_clamp', vp_t, lt0_t, lt0_le, lt0_lt, lt0_eq, if_true, if_false, ite_true, ite_false, true_and, and_true, false_and, and_false, false_or, or_false, true_or, or_true, eq_self, fs_ne, fs_eq, fs_eq', st12, st13, st21, st23, st31, st32, not_true_eq_false, not_false_eq_true, em, em', en, en', et, et', eg, eg', ed, ed', es, es', eo', ee, ee', ev, ev', q6 p hlt_p]
                  exact i9 hI hlt_p (by omega) _ _
            · first
                | exfalso; omega
                | simp (disch := first | omega | assumption) only [PL_9, P_L_seed, P_X10_seed, P_X11_seed, P_X10_needParty, P_X10_needRange, P_X10_seed_44, P_X11_seed_33, P_X11_seed_38, P_X11_in, P_X11_asked, P_X11_asked_10, P_X11_asked_, P_X11_asked__18, P_X11_asked__, P_X11_asked___26, P_X11_thrown, P_X11_told, ↓reduceIte, ↓forall_eq, li0, li1, li2, li3, li4, li5, li6, li7, li8, li10, li20, li30, li35, li36, li60, li72, li100, li572, li2000, li2100, li9999, nI_lt_t, nI_lt_f, nI_le_t, nI_le_f, nI_eq_t, nI_eq_f, nI_eq_neg2, neg_eq_nI2, neg_lt2, neg_le2, nI_lt_neg2, nI_le_neg2, pred_t, pred_f, nI_clamp', vp_t, lt0_t, lt0_le, lt0_lt, lt0_eq, if_true, if_false, ite_true, ite_false, true_and, and_true, false_and, and_false, false_or, or_false, true_or, or_true, eq_self, fs_ne, fs_eq, fs_eq', st12, st13, st21, st23, st31, st32, not_true_eq_false, not_false_eq_true, em, em', en, en', et, et', eg, eg', ed, ed', es, es', eo', ee, ee', ev, ev']
                  refine hI.end ?_
                  repeat (first | exact Sm.refl _ | refine Sm.fs40 ?_ _ _ (by decide) | refine Sm.fsT ?_ _ _ _ _ rfl (by decide) (by decide))
        · rcases int_cases a2 with hneg_c | ⟨c, hbig_c, rfl⟩
          · first
              | exfalso; omega
              | simp (disch := first | omega | assumption) only [PL_9, P_L_seed, P_X10_seed, P_X11_seed, P_X10_needParty, P_X10_needRange, P_X10_seed_44, P_X11_seed_33, P_X11_seed_38, P_X11_in, P_X11_asked, P_X11_asked_10, P_X11_asked_, P_X11_asked__18, P_X11_asked__, P_X11_asked___26, P_X11_thrown, P_X11_told, ↓reduceIte, ↓forall_eq, li0, li1, li2, li3, li4, li5, li6, li7, li8, li10, li20, li30, li35, li36, li60, li72, li100, li572, li2000, li2100, li9999, nI_lt_t, nI_lt_f, nI_le_t, nI_le_f, nI_eq_t, nI_eq_f, nI_eq_neg2, neg_eq_nI2, neg_lt2, neg_le2, nI_lt_neg2, nI_le_neg2, pred_t, pred_f, nI_clamp', vp_t, lt0_t, lt0_le, lt0_lt, lt0_eq, if_true, if_false, ite_true, ite_false, true_and, and_true, false_and, and_false, false_or, or_false, true_or, or_true, eq_self, fs_ne, fs_eq, fs_eq', st12, st13, st21, st23, st31, st32, not_true_eq_false, not_false_eq_true, em, em', en, en', et, et', eg, eg', ed, ed', es, es', eo', ee, ee', ev, ev']
                refine hI.end ?_
                repeat (first | exact Sm.refl _ | refine Sm.fs40 ?_ _ _ (by decide) | refine Sm.fsT ?_ _ _ _ _ rfl (by decide) (by decide))
          · by_cases hlt_c : c < 10000
            · first
                | exfalso; omega
                | simp (disch := first | omega | assumption) only [PL_9, P_L_seed, P_X10_seed, P_X11_seed, P_X10_needParty, P_X10_needRange, P_X10_seed_44, P_X11_seed_33, P_X11_seed_38, P_X11_in, P_X11_asked, P_X11_asked_10, P_X11_asked_, P_X11_asked__18, P_X11_asked__, P_X11_asked___26, P_X11_thrown, P_X11_told, ↓reduceIte, ↓forall_eq, li0, li1, li2, li3, li4, li5, li6, li7, li8, li10, li20, li30, li35, li36, li60, li72, li100, li572, li2000, li2100, li9999, nI_lt_t, nI_lt_f, nI_le_t, nI_le_f, nI_eq_t, nI_eq_f, nI_eq_neg2, neg_eq_nI2, neg_lt2, neg_le2, nI_lt_neg2, nI_le_neg2, pred_t, pred_f, nI_clamp', vp_t, lt0_t, lt0_le, lt0_lt, lt0_eq, if_true, if_false, ite_true, ite_false, true_and, and_true, false_and, and_false, false_or, or_false, true_or, or_true, eq_self, fs_ne, fs_eq, fs_eq', st12, st13, st21, st23, st31, st32, not_true_eq_false, not_false_eq_true, em, em', en, en', et, et', eg, eg', ed, ed', es, es', eo', ee, ee', ev, ev']
                  refine hI.end ?_
                  repeat (first | exact Sm.refl _ | refine Sm.fs40 ?_ _ _ (by decide) | refine Sm.fsT ?_ _ _ _ _ rfl (by decide) (by decide))
            · first
                | exfalso; omega
                | simp (disch := first | omega | assumption) only [PL_9, P_L_seed, P_X10_seed, P_X11_seed, P_X10_needParty, P_X10_needRange, P_X10_seed_44, P_X11_seed_33, P_X11_seed_38, P_X11_in, P_X11_asked, P_X11_asked_10, P_X11_asked_, P_X11_asked__18, P_X11_asked__, P_X11_asked___26, P_X11_thrown, P_X11_told, ↓reduceIte, ↓forall_eq, li0, li1, li2, li3, li4, li5, li6, li7, li8, li10, li20, li30, li35, li36, li60, li72, li100, li572, li2000, li2100, li9999, nI_lt_t, nI_lt_f, nI_le_t, nI_le_f, nI_eq_t, nI_eq_f, nI_eq_neg2, neg_eq_nI2, neg_lt2, neg_le2, nI_lt_neg2, nI_le_neg2, pred_t, pred_f, nI_clamp', vp_t, lt0_t, lt0_le, lt0_lt, lt0_eq, if_true, if_false, ite_true, ite_false, true_and, and_true, false_and, and_false, false_or, or_false, true_or, or_true, eq_self, fs_ne, fs_eq, fs_eq', st12, st13, st21, st23, st31, st32, not_true_eq_false, not_false_eq_true, em, em', en, en', et, et', eg, eg', ed, ed', es, es', eo', ee, ee', ev, ev']
                  refine hI.end ?_
                  repeat (first | exact Sm.refl _ | refine Sm.fs40 ?_ _ _ (by decide) | refine Sm.fsT ?_ _ _ _ _ rfl (by decide) (by decide))
    · rcases int_cases a1 with hneg_p | ⟨p, hbig_p, rfl⟩
      · rcases int_cases a2 with hneg_c | ⟨c, hbig_c, rfl⟩
        · first
            | exfalso; omega
            | simp (disch := first | omega | assumption) only [PL_9, P_L_seed, P_X10_seed, P_X11_seed, P_X10_needParty, P_X10_needRange, P_X10_seed_44, P_X11_seed_33, P_X11_seed_38, P_X11_in, P_X11_asked, P_X11_asked_10, P_X11_asked_, P_X11_asked__18, P_X11_asked__, P_X11_asked___26, P_X11_thrown, P_X11_told, ↓reduceIte, ↓forall_eq, li0, li1, li2, li3, li4, li5, li6, li7, li8, li10, li20, li30, li35, li36, li60, li72, li100, li572, li2000, li2100, li9999, nI_lt_t, nI_lt_f, nI_le_t, nI_le_f, nI_eq_t, nI_eq_f, nI_eq_neg2, neg_eq_nI2, neg_lt2, neg_le2, nI_lt_neg2, nI_le_neg2, pred_t, pred_f, nI_clamp', vp_t, lt0_t, lt0_le, lt0_lt, lt0_eq, if_true, if_false, ite_true, ite_false, true_and, and_true, false_and, and_false, false_or, or_false, true_or, or_true, eq_self, fs_ne, fs_eq, fs_eq', st12, st13, st21, st23, st31, st32, not_true_eq_false, not_false_eq_true, em, em', en, en', et, et', eg, eg', ed, ed', es, es', eo', ee, ee', ev, ev']
              refine hI.end ?_
              repeat (first | exact Sm.refl _ | refine Sm.fs40 ?_ _ _ (by decide) | refine Sm.fsT ?_ _ _ _ _ rfl (by decide) (by decide))
        · by_cases hlt_c : c < 10000
          · first
              | exfalso; omega
              | simp (disch := first | omega | assumption) only [PL_9, P_L_seed, P_X10_seed, P_X11_seed, P_X10_needParty, P_X10_needRange, P_X10_seed_44, P_X11_seed_33, P_X11_seed_38, P_X11_in, P_X11_asked, P_X11_asked_10, P_X11_asked_, P_X11_asked__18, P_X11_asked__, P_X11_asked___26, P_X11_thrown, P_X11_told, ↓reduceIte, ↓forall_eq, li0, li1, li2, li3, li4, li5, li6, li7, li8, li10, li20, li30, li35, li36, li60, li72, li100, li572, li2000, li2100, li9999, nI_lt_t, nI_lt_f, nI_le_t, nI_le_f, nI_eq_t, nI_eq_f, nI_eq_neg2, neg_eq_nI2, neg_lt2, neg_le2, nI_lt_neg2, nI_le_neg2, pred_t, pred_f, nI_clamp', vp_t, lt0_t, lt0_le, lt0_lt, lt0_eq, if_true, if_false, ite_true, ite_false, true_and, and_true, false_and, and_false, false_or, or_false, true_or, or_true, eq_self, fs_ne, fs_eq, fs_eq', st12, st13, st21, st23, st31, st32, not_true_eq_false, not_false_eq_true, em, em', en, en', et, et', eg, eg', ed, ed', es, es', eo', ee, ee', ev, ev']
                refine hI.end ?_
                repeat (first | exact Sm.refl _ | refine Sm.fs40 ?_ _ _ (by decide) | refine Sm.fsT ?_ _ _ _ _ rfl (by decide) (by decide))
          · first
              | exfalso; omega
              | simp (disch := first | omega | assumption) only [PL_9, P_L_seed, P_X10_seed, P_X11_seed, P_X10_needParty, P_X10_needRange, P_X10_seed_44, P_X11_seed_33, P_X11_seed_38, P_X11_in, P_X11_asked, P_X11_asked_10, P_X11_asked_, P_X11_asked__18, P_X11_asked__, P_X11_asked___26, P_X11_thrown, P_X11_told, ↓reduceIte, ↓forall_eq, li0, li1, li2, li3, li4, li5, li6, li7, li8, li10, li20, li30, li35, li36, li60, li72, li100, li572, li2000, li2100, li9999, nI_lt_t, nI_lt_f, nI_le_t, nI_le_f, nI_eq_t, nI_eq_f, nI_eq_neg2, neg_eq_nI2, neg_lt2, neg_le2, nI_lt_neg2, nI_le_neg2, pred_t, pred_f, nI_clamp', vp_t, lt0_t, lt0_le, lt0_lt, lt0_eq, if_true, if_false, ite_true, ite_false, true_and, and_true, false_and, and_false, false_or, or_false, true_or, or_true, eq_self, fs_ne, fs_eq, fs_eq', st12, st13, st21, st23, st31, st32, not_true_eq_false, not_false_eq_true, em, em', en, en', et, et', eg, eg', ed, ed', es, es', eo', ee, ee', ev, ev']
                refine hI.end ?_
                repeat (first | exact Sm.refl _ | refine Sm.fs40 ?_ _ _ (by decide) | refine Sm.fsT ?_ _ _ _ _ rfl (by decide) (by decide))
      · by_cases hlt_p : p < 5
        · rcases int_cases a2 with hneg_c | ⟨c, hbig_c, rfl⟩
          · first
              | exfalso; omega
              | simp (disch := first | omega | assumption) only [PL_9, P_L_seed, P_X10_seed, P_X11_seed, P_X10_needParty, P_X10_needRange, P_X10_seed_44, P_X11_seed_33, P_X11_seed_38, P_X11_in, P_X11_asked, P_X11_asked_10, P_X11_asked_, P_X11_asked__18, P_X11_asked__, P_X11_asked___26, P_X11_thrown, P_X11_told, ↓reduceIte, ↓forall_eq, li0, li1, li2, li3, li4, li5, li6, li7, li8, li10, li20, li30, li35, li36, li60, li72, li100, li572, li2000, li2100, li9999, nI_lt_t, nI_lt_f, nI_le_t, nI_le_f, nI_eq_t, nI_eq_f, nI_eq_neg2, neg_eq_nI2, neg_lt2, neg_le2, nI_lt_neg2, nI_le_neg2, pred_t, pred_f, nI_clamp', vp_t, lt0_t, lt0_le, lt0_lt, lt0_eq, if_true, if_false, ite_true, ite_false, true_and, and_true, false_and, and_false, false_or, or_false, true_or, or_true, eq_self, fs_ne, fs_eq, fs_eq', st12, st13, st21, st23, st31, st32, not_true_eq_false, not_false_eq_true, em, em', en, en', et, et', eg, eg', ed, ed', es, es', eo', ee, ee', ev, ev']
                refine hI.end ?_
                repeat (first | exact Sm.refl _ | refine Sm.fs40 ?_ _ _ (by decide) | refine Sm.fsT ?_ _ _ _ _ rfl (by decide) (by decide))
          · by_cases hlt_c : c < 10000
            · first
                | exfalso; omega
                | simp (disch := first | omega | assumption) only [PL_9, P_L_seed, P_X10_seed, P_X11_seed, P_X10_needParty, P_X10_needRange, P_X10_seed_44, P_X11_seed_33, P_X11_seed_38, P_X11_in, P_X11_asked, P_X11_asked_10, P_X11_asked_, P_X11_asked__18, P_X11_asked__, P_X11_asked___26, P_X11_thrown, P_X11_told, ↓reduceIte, ↓forall_eq, li0, li1, li2, li3, li4, li5, li6, li7, li8, li10, li20, li30, li35, li36, li60, li72, li100, li572, li2000, li2100, li9999, nI_lt_t, nI_lt_f, nI_le_t, nI_le_f, nI_eq_t, nI_eq_f, nI_eq_neg2, neg_eq_nI2, neg_lt2, neg_le2, nI_lt_neg2, nI_le_neg2, pred_t, pred_f, nI_clamp', vp_t, lt0_t, lt0_le, lt0_lt, lt0_eq, if_true, if_false, ite_true, ite_false, true_and, and_true, false_and, and_false, false_or, or_false, true_or, or_true, eq_self, fs_ne, fs_eq, fs_eq', st12, st13, st21, st23, st31, st32, not_true_eq_false, not_false_eq_true, em, em', en, en', et, et', eg, eg', ed, ed', es, es', eo', ee, ee', ev, ev', q6 p hlt_p]
                  exact i9 hI hlt_p (by omega) _ _
            · first
                | exfalso; omega
                | simp (disch := first | omega | assumption) only [PL_9, P_L_seed, P_X10_seed, P_X11_seed, P_X10_needParty, P_X10_needRange, P_X10_seed_44, P_X11_seed_33, P_X11_seed_38, P_X11_in, P_X11_asked, P_X11_asked_10, P_X11_asked_, P_X11_asked__18, P_X11_asked__, P_X11_asked___26, P_X11_thrown, P_X11_told, ↓reduceIte, ↓forall_eq, li0, li1, li2, li3, li4, li5, li6, li7, li8, li10, li20, li30, li35, li36, li60, li72, li100, li572, li2000, li2100, li9999, nI_lt_t, nI_lt_f, nI_le_t, nI_le_f, nI_eq_t, nI_eq_f, nI_eq_neg2, neg_eq_nI2, neg_lt2, neg_le2, nI_lt_neg2, nI_le_neg2, pred_t, pred_f, nI_clamp', vp_t, lt0_t, lt0_le, lt0_lt, lt0_eq, if_true, if_false, ite_true, ite_false, true_and, and_true, false_and, and_false, false_or, or_false, true_or, or_true, eq_self, fs_ne, fs_eq, fs_eq', st12, st13, st21, st23, st31, st32, not_true_eq_false, not_false_eq_true, em, em', en, en', et, et', eg, eg', ed, ed', es, es', eo', ee, ee', ev, ev']
                  refine hI.end ?_
                  repeat (first | exact Sm.refl _ | refine Sm.fs40 ?_ _ _ (by decide) | refine Sm.fsT ?_ _ _ _ _ rfl (by decide) (by decide))
        · rcases int_cases a2 with hneg_c | ⟨c, hbig_c, rfl⟩
          · first
              | exfalso; omega
              | simp (disch := first | omega | assumption) only [PL_9, P_L_seed, P_X10_seed, P_X11_seed, P_X10_needParty, P_X10_needRange, P_X10_seed_44, P_X11_seed_33, P_X11_seed_38, P_X11_in, P_X11_asked, P_X11_asked_10, P_X11_asked_, P_X11_asked__18, P_X11_asked__, P_X11_asked___26, P_X11_thrown, P_X11_told, ↓reduceIte, ↓forall_eq, li0, li1, li2, li3, li4, li5, li6, li7, li8, li10, li20, li30, li35, li36, li60, li72, li100, li572, li2000, li2100, li9999, nI_lt_t, nI_lt_f, nI_le_t, nI_le_f, nI_eq_t, nI_eq_f, nI_eq_neg2, neg_eq_nI2, neg_lt2, neg_le2, nI_lt_neg2, nI_le_neg2, pred_t, pred_f, nI_clamp', vp_t, lt0_t, lt0_le, lt0_lt, lt0_eq, if_true, if_false, ite_true, ite_false, true_and, and_true, false_and, and_false, false_or, or_false, true_or, or_true, eq_self, fs_ne, fs_eq, fs_eq', st12, st13, st21, st23, st31, st32, not_true_eq_false, not_false_eq_true, em, em', en, en', et, et', eg, eg', ed, ed', es, es', eo', ee, ee', ev, ev']
                refine hI.end ?_
                repeat (first | exact Sm.refl _ | refine Sm.fs40 ?_ _ _ (by decide) | refine Sm.fsT ?_ _ _ _ _ rfl (by decide) (by decide))
          · by_cases hlt_c : c < 10000
            · first
                | exfalso; omega
                | simp (disch := first | omega | assumption) only [PL_9, P_L_seed, P_X10_seed, P_X11_seed, P_X10_needParty, P_X10_needRange, P_X10_seed_44, P_X11_seed_33, P_X11_seed_38, P_X11_in, P_X11_asked, P_X11_asked_10, P_X11_asked_, P_X11_asked__18, P_X11_asked__, P_X11_asked___26, P_X11_thrown, P_X11_told, ↓reduceIte, ↓forall_eq, li0, li1, li2, li3, li4, li5, li6, li7, li8, li10, li20, li30, li35, li36, li60, li72, li100, li572, li2000, li2100, li9999, nI_lt_t, nI_lt_f, nI_le_t, nI_le_f, nI_eq_t, nI_eq_f, nI_eq_neg2, neg_eq_nI2, neg_lt2, neg_le2, nI_lt_neg2, nI_le_neg2, pred_t, pred_f, nI_clamp', vp_t, lt0_t, lt0_le, lt0_lt, lt0_eq, if_true, if_false, ite_true, ite_false, true_and, and_true, false_and, and_false, false_or, or_false, true_or, or_true, eq_self, fs_ne, fs_eq, fs_eq', st12, st13, st21, st23, st31, st32, not_true_eq_false, not_false_eq_true, em, em', en, en', et, et', eg, eg', ed, ed', es, es', eo', ee, ee', ev, ev']
                  refine hI.end ?_
                  repeat (first | exact Sm.refl _ | refine Sm.fs40 ?_ _ _ (by decide) | refine Sm.fsT ?_ _ _ _ _ rfl (by decide) (by decide))
            · first
                | exfalso; omega
                | simp (disch := first | omega | assumption) only [PL_9, P_L_seed, P_X10_seed, P_X11_seed, P_X10_needParty, P_X10_needRange, P_X10_seed_44, P_X11_seed_33, P_X11_seed_38, P_X11_in, P_X11_asked, P_X11_asked_10, P_X11_asked_, P_X11_asked__18, P_X11_asked__, P_X11_asked___26, P_X11_thrown, P_X11_told, ↓reduceIte, ↓forall_eq, li0, li1, li2, li3, li4, li5, li6, li7, li8, li10, li20, li30, li35, li36, li60, li72, li100, li572, li2000, li2100, li9999, nI_lt_t, nI_lt_f, nI_le_t, nI_le_f, nI_eq_t, nI_eq_f, nI_eq_neg2, neg_eq_nI2, neg_lt2, neg_le2, nI_lt_neg2, nI_le_neg2, pred_t, pred_f, nI_clamp', vp_t, lt0_t, lt0_le, lt0_lt, lt0_eq, if_true, if_false, ite_true, ite_false, true_and, and_true, false_and, and_false, false_or, or_false, true_or, or_true, eq_self, fs_ne, fs_eq, fs_eq', st12, st13, st21, st23, st31, st32, not_true_eq_false, not_false_eq_true, em, em', en, en', et, et', eg, eg', ed, ed', es, es', eo', ee, ee', ev, ev']
                  refine hI.end ?_
                  repeat (first | exact Sm.refl _ | refine Sm.fs40 ?_ _ _ (by decide) | refine Sm.fsT ?_ _ _ _ _ rfl (by decide) (by decide))
  · by_cases g2 : g = 2
    · rcases int_cases a1 with hneg_p | ⟨p, hbig_p, rfl⟩
      · rcases int_cases a2 with hneg_c | ⟨c, hbig_c, rfl⟩
        · first
            | exfalso; omega
            | simp (disch := first | omega | assumption) only [PL_9, P_L_seed, P_X10_seed, P_X11_seed, P_X10_needParty, P_X10_needRange, P_X10_seed_44, P_X11_seed_33, P_X11_seed_38, P_X11_in, P_X11_asked, P_X11_asked_10, P_X11_asked_, P_X11_asked__18, P_X11_asked__, P_X11_asked___26, P_X11_thrown, P_X11_told, ↓reduceIte, ↓forall_eq, li0, li1, li2, li3, li4, li5, li6, li7, li8, li10, li20, li30, li35, li36, li60, li72, li100, li572, li2000, li2100, li9999, nI_lt_t, nI_lt_f, nI_le_t, nI_le_f, nI_eq_t, nI_eq_f, nI_eq_neg2, neg_eq_nI2, neg_lt2, neg_le2, nI_lt_neg2, nI_le_neg2, pred_t, pred_f, nI_clamp', vp_t, lt0_t, lt0_le, lt0_lt, lt0_eq, if_true, if_false, ite_true, ite_false, true_and, and_true, false_and, and_false, false_or, or_false, true_or, or_true, eq_self, fs_ne, fs_eq, fs_eq', st12, st13, st21, st23, st31, st32, not_true_eq_false, not_false_eq_true, em, em', en, en', et, et', eg, eg', ed, ed', es, es', eo', ee, ee', ev, ev']
              refine hI.end ?_
              repeat (first | exact Sm.refl _ | refine Sm.fs40 ?_ _ _ (by decide) | refine Sm.fsT ?_ _ _ _ _ rfl (by decide) (by decide))
        · by_cases hlt_c : c < 10000
          · first
              | exfalso; omega
              | simp (disch := first | omega | assumption) only [PL_9, P_L_seed, P_X10_seed, P_X11_seed, P_X10_needParty, P_X10_needRange, P_X10_seed_44, P_X11_seed_33, P_X11_seed_38, P_X11_in, P_X11_asked, P_X11_asked_10, P_X11_asked_, P_X11_asked__18, P_X11_asked__, P_X11_asked___26, P_X11_thrown, P_X11_told, ↓reduceIte, ↓forall_eq, li0, li1, li2, li3, li4, li5, li6, li7, li8, li10, li20, li30, li35, li36, li60, li72, li100, li572, li2000, li2100, li9999, nI_lt_t, nI_lt_f, nI_le_t, nI_le_f, nI_eq_t, nI_eq_f, nI_eq_neg2, neg_eq_nI2, neg_lt2, neg_le2, nI_lt_neg2, nI_le_neg2, pred_t, pred_f, nI_clamp', vp_t, lt0_t, lt0_le, lt0_lt, lt0_eq, if_true, if_false, ite_true, ite_false, true_and, and_true, false_and, and_false, false_or, or_false, true_or, or_true, eq_self, fs_ne, fs_eq, fs_eq', st12, st13, st21, st23, st31, st32, not_true_eq_false, not_false_eq_true, em, em', en, en', et, et', eg, eg', ed, ed', es, es', eo', ee, ee', ev, ev']
                refine hI.end ?_
                repeat (first | exact Sm.refl _ | refine Sm.fs40 ?_ _ _ (by decide) | refine Sm.fsT ?_ _ _ _ _ rfl (by decide) (by decide))
          · first
              | exfalso; omega
              | simp (disch := first | omega | assumption) only [PL_9, P_L_seed, P_X10_seed, P_X11_seed, P_X10_needParty, P_X10_needRange, P_X10_seed_44, P_X11_seed_33, P_X11_seed_38, P_X11_in, P_X11_asked, P_X11_asked_10, P_X11_asked_, P_X11_asked__18, P_X11_asked__, P_X11_asked___26, P_X11_thrown, P_X11_told, ↓reduceIte, ↓forall_eq, li0, li1, li2, li3, li4, li5, li6, li7, li8, li10, li20, li30, li35, li36, li60, li72, li100, li572, li2000, li2100, li9999, nI_lt_t, nI_lt_f, nI_le_t, nI_le_f, nI_eq_t, nI_eq_f, nI_eq_neg2, neg_eq_nI2, neg_lt2, neg_le2, nI_lt_neg2, nI_le_neg2, pred_t, pred_f, nI_clamp', vp_t, lt0_t, lt0_le, lt0_lt, lt0_eq, if_true, if_false, ite_true, ite_false, true_and, and_true, false_and, and_false, false_or, or_false, true_or, or_true, eq_self, fs_ne, fs_eq, fs_eq', st12, st13, st21, st23, st31, st32, not_true_eq_false, not_false_eq_true, em, em', en, en', et, et', eg, eg', ed, ed', es, es', eo', ee, ee', ev, ev']
                refine hI.end ?_
                repeat (first | exact Sm.refl _ | refine Sm.fs40 ?_ _ _ (by decide) | refine Sm.fsT ?_ _ _ _ _ rfl (by decide) (by decide))
      · by_cases hlt_p : p < 5
        · rcases int_cases a2 with hneg_c | ⟨c, hbig_c, rfl⟩
          · first
              | exfalso; omega
              | simp (disch := first | omega | assumption) only [PL_9, P_L_seed, P_X10_seed, P_X11_seed, P_X10_needParty, P_X10_needRange, P_X10_seed_44, P_X11_seed_33, P_X11_seed_38, P_X11_in, P_X11_asked, P_X11_asked_10, P_X11_asked_, P_X11_asked__18, P_X11_asked__, P_X11_asked___26, P_X11_thrown, P_X11_told, ↓reduceIte, ↓forall_eq, li0, li1, li2, li3, li4, li5, li6, li7, li8, li10, li20, li30, li35, li36, li60, li72, li100, li572, li2000, li2100, li9999, nI_lt_t, nI_lt_f, nI_le_t, nI_le_f, nI_eq_t, nI_eq_f, nI_eq_neg2, neg_eq_nI2, neg_lt2, neg_le2, nI_lt_neg2, nI_le_neg2, pred_t, pred_f, nI_clamp', vp_t, lt0_t, lt0_le, lt0_lt, lt0_eq, if_true, if_false, ite_true, ite_false, true_and, and_true, false_and, and_false, false_or, or_false, true_or, or_true, eq_self, fs_ne, fs_eq, fs_eq', st12, st13, st21, st23, st31, st32, not_true_eq_false, not_false_eq_true, em, em', en, en', et, et', eg, eg', ed, ed', es, es', eo', ee, ee', ev, ev']
                refine hI.end ?_
                repeat (first | exact Sm.refl _ | refine Sm.fs40 ?_ _ _ (by decide) | refine Sm.fsT ?_ _ _ _ _ rfl (by decide) (by decide))
          · by_cases hlt_c : c < 10000
            · first
                | exfalso; omega
                | simp (disch := first | omega | assumption) only [PL_9, P_L_seed, P_X10_seed, P_X11_seed, P_X10_needParty, P_X10_needRange, P_X10_seed_44, P_X11_seed_33, P_X11_seed_38, P_X11_in, P_X11_asked, P_X11_asked_10, P_X11_asked_, P_X11_asked__18, P_X11_asked__, P_X11_asked___26, P_X11_thrown, P_X11_told, ↓reduceIte, ↓forall_eq, li0, li1, li2, li3, li4, li5, li6, li7, li8, li10, li20, li30, li35, li36, li60, li72, li100, li572, li2000, li2100, li9999, nI_lt_t, nI_lt_f, nI_le_t, nI_le_f, nI_eq_t, nI_eq_f, nI_eq_neg2, neg_eq_nI2, neg_lt2, neg_le2, nI_lt_neg2, nI_le_neg2, pred_t, pred_f, nI_clamp', vp_t, lt0_t, lt0_le, lt0_lt, lt0_eq, if_true, if_false, ite_true, ite_false, true_and, and_true, false_and, and_false, false_or, or_false, true_or, or_true, eq_self, fs_ne, fs_eq, fs_eq', st12, st13, st21, st23, st31, st32, not_true_eq_false, not_false_eq_true, em, em', en, en', et, et', eg, eg', ed, ed', es, es', eo', ee, ee', ev, ev', q6 p hlt_p]
                  exact i9 hI hlt_p (by omega) _ _
            · first
                | exfalso; omega
                | simp (disch := first | omega | assumption) only [PL_9, P_L_seed, P_X10_seed, P_X11_seed, P_X10_needParty, P_X10_needRange, P_X10_seed_44, P_X11_seed_33, P_X11_seed_38, P_X11_in, P_X11_asked, P_X11_asked_10, P_X11_asked_, P_X11_asked__18, P_X11_asked__, P_X11_asked___26, P_X11_thrown, P_X11_told, ↓reduceIte, ↓forall_eq, li0, li1, li2, li3, li4, li5, li6, li7, li8, li10, li20, li30, li35, li36, li60, li72, li100, li572, li2000, li2100, li9999, nI_lt_t, nI_lt_f, nI_le_t, nI_le_f, nI_eq_t, nI_eq_f, nI_eq_neg2, neg_eq_nI2, neg_lt2, neg_le2, nI_lt_neg2, nI_le_neg2, pred_t, pred_f, nI_clamp', vp_t, lt0_t, lt0_le, lt0_lt, lt0_eq, if_true, if_false, ite_true, ite_false, true_and, and_true, false_and, and_false, false_or, or_false, true_or, or_true, eq_self, fs_ne, fs_eq, fs_eq', st12, st13, st21, st23, st31, st32, not_true_eq_false, not_false_eq_true, em, em', en, en', et, et', eg, eg', ed, ed', es, es', eo', ee, ee', ev, ev']
                  refine hI.end ?_
                  repeat (first | exact Sm.refl _ | refine Sm.fs40 ?_ _ _ (by decide) | refine Sm.fsT ?_ _ _ _ _ rfl (by decide) (by decide))
        · rcases int_cases a2 with hneg_c | ⟨c, hbig_c, rfl⟩
          · first
              | exfalso; omega
              | simp (disch := first | omega | assumption) only [PL_9, P_L_seed, P_X10_seed, P_X11_seed, P_X10_needParty, P_X10_needRange, P_X10_seed_44, P_X11_seed_33, P_X11_seed_38, P_X11_in, P_X11_asked, P_X11_asked_10, P_X11_asked_, P_X11_asked__18, P_X11_asked__, P_X11_asked___26, P_X11_thrown, P_X11_told, ↓reduceIte, ↓forall_eq, li0, li1, li2, li3, li4, li5, li6, li7, li8, li10, li20, li30, li35, li36, li60, li72, li100, li572, li2000, li2100, li9999, nI_lt_t, nI_lt_f, nI_le_t, nI_le_f, nI_eq_t, nI_eq_f, nI_eq_neg2, neg_eq_nI2, neg_lt2, neg_le2, nI_lt_neg2, nI_le_neg2, pred_t, pred_f, nI_clamp', vp_t, lt0_t, lt0_le, lt0_lt, lt0_eq, if_true, if_false, ite_true, ite_false, true_and, and_true, false_and, and_false, false_or, or_false, true_or, or_true, eq_self, fs_ne, fs_eq, fs_eq', st12, st13, st21, st23, st31, st32, not_true_eq_false, not_false_eq_true, em, em', en, en', et, et', eg, eg', ed, ed', es, es', eo', ee, ee', ev, ev']
                refine hI.end ?_
                repeat (first | exact Sm.refl _ | refine Sm.fs40 ?_ _ _ (by decide) | refine Sm.fsT ?_ _ _ _ _ rfl (by decide) (by decide))
          · by_cases hlt_c : c < 10000
            · first
                | exfalso; omega
                | simp (disch := first | omega | assumption) only [PL_9, P_L_seed, P_X10_seed, P_X11_seed, P_X10_needParty, P_X10_needRange, P_X10_seed_44, P_X11_seed_33, P_X11_seed_38, P_X11_in, P_X11_asked, P_X11_asked_10, P_X11_asked_, P_X11_asked__18, P_X11_asked__, P_X11_asked___26, P_X11_thrown, P_X11_told, ↓reduceIte, ↓forall_eq, li0, li1, li2, li3, li4, li5, li6, li7, li8, li10, li20, li30, li35, li36, li60, li72, li100, li572, li2000, li2100, li9999, nI_lt_t, nI_lt_f, nI_le_t, nI_le_f, nI_eq_t, nI_eq_f, nI_eq_neg2, neg_eq_nI2, neg_lt2, neg_le2, nI_lt_neg2, nI_le_neg2, pred_t, pred_f, nI_clamp', vp_t, lt0_t, lt0_le, lt0_lt, lt0_eq, if_true, if_false, ite_true, ite_false, true_and, and_true, false_and, and_false, false_or, or_false, true_or, or_true, eq_self, fs_ne, fs_eq, fs_eq', st12, st13, st21, st23, st31, st32, not_true_eq_false, not_false_eq_true, em, em', en, en', et, et', eg, eg', ed, ed', es, es', eo', ee, ee', ev, ev']
                  refine hI.end ?_
                  repeat (first | exact Sm.refl _ | refine Sm.fs40 ?_ _ _ (by decide) | refine Sm.fsT ?_ _ _ _ _ rfl (by decide) (by decide))
            · first
                | exfalso; omega
                | simp (disch := first | omega | assumption) only [PL_9, P_L_seed, P_X10_seed, P_X11_seed, P_X10_needParty, P_X10_needRange, P_X10_seed_44, P_X11_seed_33, P_X11_seed_38, P_X11_in, P_X11_asked, P_X11_asked_10, P_X11_asked_, P_X11_asked__18, P_X11_asked__, P_X11_asked___26, P_X11_thrown, P_X11_told, ↓reduceIte, ↓forall_eq, li0, li1, li2, li3, li4, li5, li6, li7, li8, li10, li20, li30, li35, li36, li60, li72, li100, li572, li2000, li2100, li9999, nI_lt_t, nI_lt_f, nI_le_t, nI_le_f, nI_eq_t, nI_eq_f, nI_eq_neg2, neg_eq_nI2, neg_lt2, neg_le2, nI_lt_neg2, nI_le_neg2, pred_t, pred_f, nI_clamp', vp_t, lt0_t, lt0_le, lt0_lt, lt0_eq, if_true, if_false, ite_true, ite_false, true_and, and_true, false_and, and_false, false_or, or_false, true_or, or_true, eq_self, fs_ne, fs_eq, fs_eq', st12, st13, st21, st23, st31, st32, not_true_eq_false, not_false_eq_true, em, em', en, en', et, et', eg, eg', ed, ed', es, es', eo', ee, ee', ev, ev']
                  refine hI.end ?_
                  repeat (first | exact Sm.refl _ | refine Sm.fs40 ?_ _ _ (by decide) | refine Sm.fsT ?_ _ _ _ _ rfl (by decide) (by decide))
    · rcases int_cases a1 with hneg_p | ⟨p, hbig_p, rfl⟩
      · rcases int_cases a2 with hneg_c | ⟨c, hbig_c, rfl⟩
        · first
            | exfalso; omega
            | simp (disch := first | omega | assumption) only [PL_9, P_L_seed, P_X10_seed, P_X11_seed, P_X10_needParty, P_X10_needRange, P_X10_seed_44, P_X11_seed_33, P_X11_seed_38, P_X11_in, P_X11_asked, P_X11_asked_10, P_X11_asked_, P_X11_asked__18, P_X11_asked__, P_X11_asked___26, P_X11_thrown, P_X11_told, ↓reduceIte, ↓forall_eq, li0, li1, li2, li3, li4, li5, li6, li7, li8, li10, li20, li30, li35, li36, li60, li72, li100, li572, li2000, li2100, li9999, nI_lt_t, nI_lt_f, nI_le_t, nI_le_f, nI_eq_t, nI_eq_f, nI_eq_neg2, neg_eq_nI2, neg_lt2, neg_le2, nI_lt_neg2, nI_le_neg2, pred_t, pred_f, nI_clamp', vp_t, lt0_t, lt0_le, lt0_lt, lt0_eq, if_true, if_false, ite_true, ite_false, true_and, and_true, false_and, and_false, false_or, or_false, true_or, or_true, eq_self, fs_ne, fs_eq, fs_eq', st12, st13, st21, st23, st31, st32, not_true_eq_false, not_false_eq_true, em, em', en, en', et, et', eg, eg', ed, ed', es, es', eo', ee, ee', ev, ev']
              refine hI.end ?_
              repeat (first | exact Sm.refl _ | refine Sm.fs40 ?_ _ _ (by decide) | refine Sm.fsT ?_ _ _ _ _ rfl (by decide) (by decide))
        · by_cases hlt_c : c < 10000
          · first
              | exfalso; omega
              | simp (disch := first | omega | assumption) only [PL_9, P_L_seed, P_X10_seed, P_X11_seed, P_X10_needParty, P_X10_needRange, P_X10_seed_44, P_X11_seed_33, P_X11_seed_38, P_X11_in, P_X11_asked, P_X11_asked_10, P_X11_asked_, P_X11_asked__18, P_X11_asked__, P_X11_asked___26, P_X11_thrown, P_X11_told, ↓reduceIte, ↓forall_eq, li0, li1, li2, li3, li4, li5, li6, li7, li8, li10, li20, li30, li35, li36, li60, li72, li100, li572, li2000, li2100, li9999, nI_lt_t, nI_lt_f, nI_le_t, nI_le_f, nI_eq_t, nI_eq_f, nI_eq_neg2, neg_eq_nI2, neg_lt2, neg_le2, nI_lt_neg2, nI_le_neg2, pred_t, pred_f, nI_clamp', vp_t, lt0_t, lt0_le, lt0_lt, lt0_eq, if_true, if_false, ite_true, ite_false, true_and, and_true, false_and, and_false, false_or, or_false, true_or, or_true, eq_self, fs_ne, fs_eq, fs_eq', st12, st13, st21, st23, st31, st32, not_true_eq_false, not_false_eq_true, em, em', en, en', et, et', eg, eg', ed, ed', es, es', eo', ee, ee', ev, ev']
                refine hI.end ?_
                repeat (first | exact Sm.refl _ | refine Sm.fs40 ?_ _ _ (by decide) | refine Sm.fsT ?_ _ _ _ _ rfl (by decide) (by decide))
          · first
              | exfalso; omega
              | simp (disch := first | omega | assumption) only [PL_9, P_L_seed, P_X10_seed, P_X11_seed, P_X10_needParty, P_X10_needRange, P_X10_seed_44, P_X11_seed_33, P_X11_seed_38, P_X11_in, P_X11_asked, P_X11_asked_10, P_X11_asked_, P_X11_asked__18, P_X11_asked__, P_X11_asked___26, P_X11_thrown, P_X11_told, ↓reduceIte, ↓forall_eq, li0, li1, li2, li3, li4, li5, li6, li7, li8, li10, li20, li30, li35, li36, li60, li72, li100, li572, li2000, li2100, li9999, nI_lt_t, nI_lt_f, nI_le_t, nI_le_f, nI_eq_t, nI_eq_f, nI_eq_neg2, neg_eq_nI2, neg_lt2, neg_le2, nI_lt_neg2, nI_le_neg2, pred_t, pred_f, nI_clamp', vp_t, lt0_t, lt0_le, lt0_lt, lt0_eq, if_true, if_false, ite_true, ite_false, true_and, and_true, false_and, and_false, false_or, or_false, true_or, or_true, eq_self, fs_ne, fs_eq, fs_eq', st12, st13, st21, st23, st31, st32, not_true_eq_false, not_false_eq_true, em, em', en, en', et, et', eg, eg', ed, ed', es, es', eo', ee, ee', ev, ev']
                refine hI.end ?_
                repeat (first | exact Sm.refl _ | refine Sm.fs40 ?_ _ _ (by decide) | refine Sm.fsT ?_ _ _ _ _ rfl (by decide) (by decide))
      · by_cases hlt_p : p < 5
        · rcases int_cases a2 with hneg_c | ⟨c, hbig_c, rfl⟩
          · first
              | exfalso; omega
              | simp (disch := first | omega | assumption) only [PL_9, P_L_seed, P_X10_seed, P_X11_seed, P_X10_needParty, P_X10_needRange, P_X10_seed_44, P_X11_seed_33, P_X11_seed_38, P_X11_in, P_X11_asked, P_X11_asked_10, P_X11_asked_, P_X11_asked__18, P_X11_asked__, P_X11_asked___26, P_X11_thrown, P_X11_told, ↓reduceIte, ↓forall_eq, li0, li1, li2, li3, li4, li5, li6, li7, li8, li10, li20, li30, li35, li36, li60, li72, li100, li572, li2000, li2100, li9999, nI_lt_t, nI_lt_f, nI_le_t, nI_le_f, nI_eq_t, nI_eq_f, nI_eq_neg2, neg_eq_nI2, neg_lt2, neg_le2, nI_lt_neg2, nI_le_neg2, pred_t, pred_f, nI_clamp', vp_t, lt0_t, lt0_le, lt0_lt, lt0_eq, if_true, if_false, ite_true, ite_false, true_and, and_true, false_and, and_false, false_or, or_false, true_or, or_true, eq_self, fs_ne, fs_eq, fs_eq', st12, st13, st21, st23, st31, st32, not_true_eq_false, not_false_eq_true, em, em', en, en', et, et', eg, eg', ed, ed', es, es', eo', ee, ee', ev, ev']
                refine hI.end ?_
                repeat (first | exact Sm.refl _ | refine Sm.fs40 ?_ _ _ (by decide) | refine Sm.fsT ?_ _ _ _ _ rfl (by decide) (by decide))
          · by_cases hlt_c : c < 10000
            · first
                | exfalso; omega
                | simp (disch := first | omega | assumption) only [PL_9, P_L_seed, P_X10_seed, P_X11_seed, P_X10_needParty, P_X10_needRange, P_X10_seed_44, P_X11_seed_33, P_X11_seed_38, P_X11_in, P_X11_asked, P_X11_asked_10, P_X11_asked_, P_X11_asked__18, P_X11_asked__, P_X11_asked___26, P_X11_thrown, P_X11_told, ↓reduceIte, ↓forall_eq, li0, li1, li2, li3, li4, li5, li6, li7, li8, li10, li20, li30, li35, li36, li60, li72, li100, li572, li2000, li2100, li9999, nI_lt_t, nI_lt_f, nI_le_t, nI_le_f, nI_eq_t, nI_eq_f, nI_eq_neg2, neg_eq_nI2, neg_lt2, neg_le2, nI_lt_neg2, nI_le_neg2, pred_t, pred_f, nI_clamp', vp_t, lt0_t, lt0_le, lt0_lt, lt0_eq, if_true, if_false, ite_true, ite_false, true_and, and_true, false_and, and_false, false_or, or_false, true_or, or_true, eq_self, fs_ne, fs_eq, fs_eq', st12, st13, st21, st23, st31, st32, not_true_eq_false, not_false_eq_true, em, em', en, en', et, et', eg, eg', ed, ed', es, es', eo', ee, ee', ev, ev']
                  refine hI.end ?_
                  repeat (first | exact Sm.refl _ | refine Sm.fs40 ?_ _ _ (by decide) | refine Sm.fsT ?_ _ _ _ _ rfl (by decide) (by decide))
            · first
                | exfalso; omega
                | simp (disch := first | omega | assumption) only [PL_9, P_L_seed, P_X10_seed, P_X11_seed, P_X10_needParty, P_X10_needRange, P_X10_seed_44, P_X11_seed_33, P_X11_seed_38, P_X11_in, P_X11_asked, P_X11_asked_10, P_X11_asked_, P_X11_asked__18, P_X11_asked__, P_X11_asked___26, P_X11_thrown, P_X11_told, ↓reduceIte, ↓forall_eq, li0, li1, li2, li3, li4, li5, li6, li7, li8, li10, li20, li30, li35, li36, li60, li72, li100, li572, li2000, li2100, li9999, nI_lt_t, nI_lt_f, nI_le_t, nI_le_f, nI_eq_t, nI_eq_f, nI_eq_neg2, neg_eq_nI2, neg_lt2, neg_le2, nI_lt_neg2, nI_le_neg2, pred_t, pred_f, nI_clamp', vp_t, lt0_t, lt0_le, lt0_lt, lt0_eq, if_true, if_false, ite_true, ite_false, true_and, and_true, false_and, and_false, false_or, or_false, true_or, or_true, eq_self, fs_ne, fs_eq, fs_eq', st12, st13, st21, st23, st31, st32, not_true_eq_false, not_false_eq_true, em, em', en, en', et, et', eg, eg', ed, ed', es, es', eo', ee, ee', ev, ev']
                  refine hI.end ?_
                  repeat (first | exact Sm.refl _ | refine Sm.fs40 ?_ _ _ (by decide) | refine Sm.fsT ?_ _ _ _ _ rfl (by decide) (by decide))
        · rcases int_cases a2 with hneg_c | ⟨c, hbig_c, rfl⟩
          · first
              | exfalso; omega
              | simp (disch := first | omega | assumption) only [PL_9, P_L_seed, P_X10_seed, P_X11_seed, P_X10_needParty, P_X10_needRange, P_X10_seed_44, P_X11_seed_33, P_X11_seed_38, P_X11_in, P_X11_asked, P_X11_asked_10, P_X11_asked_, P_X11_asked__18, P_X11_asked__, P_X11_asked___26, P_X11_thrown, P_X11_told, ↓reduceIte, ↓forall_eq, li0, li1, li2, li3, li4, li5, li6, li7, li8, li10, li20, li30, li35, li36, li60, li72, li100, li572, li2000, li2100, li9999, nI_lt_t, nI_lt_f, nI_le_t, nI_le_f, nI_eq_t, nI_eq_f, nI_eq_neg2, neg_eq_nI2, neg_lt2, neg_le2, nI_lt_neg2, nI_le_neg2, pred_t, pred_f, nI_clamp', vp_t, lt0_t, lt0_le, lt0_lt, lt0_eq, if_true, if_false, ite_true, ite_false, true_and, and_true, false_and, and_false, false_or, or_false, true_or, or_true, eq_self, fs_ne, fs_eq, fs_eq', st12, st13, st21, st23, st31, st32, not_true_eq_false, not_false_eq_true, em, em', en, en', et, et', eg, eg', ed, ed', es, es', eo', ee, ee', ev, ev']
                refine hI.end ?_
                repeat (first | exact Sm.refl _ | refine Sm.fs40 ?_ _ _ (by decide) | refine Sm.fsT ?_ _ _ _ _ rfl (by decide) (by decide))
          · by_cases hlt_c : c < 10000
            · first
                | exfalso; omega
                | simp (disch := first | omega | assumption) only [PL_9, P_L_seed, P_X10_seed, P_X11_seed, P_X10_needParty, P_X10_needRange, P_X10_seed_44, P_X11_seed_33, P_X11_seed_38, P_X11_in, P_X11_asked, P_X11_asked_10, P_X11_asked_, P_X11_asked__18, P_X11_asked__, P_X11_asked___26, P_X11_thrown, P_X11_told, ↓reduceIte, ↓forall_eq, li0, li1, li2, li3, li4, li5, li6, li7, li8, li10, li20, li30, li35, li36, li60, li72, li100, li572, li2000, li2100, li9999, nI_lt_t, nI_lt_f, nI_le_t, nI_le_f, nI_eq_t, nI_eq_f, nI_eq_neg2, neg_eq_nI2, neg_lt2, neg_le2, nI_lt_neg2, nI_le_neg2, pred_t, pred_f, nI_clamp', vp_t, lt0_t, lt0_le, lt0_lt, lt0_eq, if_true, if_false, ite_true, ite_false, true_and, and_true, false_and, and_false, false_or, or_false, true_or, or_true, eq_self, fs_ne, fs_eq, fs_eq', st12, st13, st21, st23, st31, st32, not_true_eq_false, not_false_eq_true, em, em', en, en', et, et', eg, eg', ed, ed', es, es', eo', ee, ee', ev, ev']
                  refine hI.end ?_
                  repeat (first | exact Sm.refl _ | refine Sm.fs40 ?_ _ _ (by decide) | refine Sm.fsT ?_ _ _ _ _ rfl (by decide) (by decide))
            · first
                | exfalso; omega
                | simp (disch := first | omega | assumption) only [PL_9, P_L_seed, P_X10_seed, P_X11_seed, P_X10_needParty, P_X10_needRange, P_X10_seed_44, P_X11_seed_33, P_X11_seed_38, P_X11_in, P_X11_asked, P_X11_asked_10, P_X11_asked_, P_X11_asked__18, P_X11_asked__, P_X11_asked___26, P_X11_thrown, P_X11_told, ↓reduceIte, ↓forall_eq, li0, li1, li2, li3, li4, li5, li6, li7, li8, li10, li20, li30, li35, li36, li60, li72, li100, li572, li2000, li2100, li9999, nI_lt_t, nI_lt_f, nI_le_t, nI_le_f, nI_eq_t, nI_eq_f, nI_eq_neg2, neg_eq_nI2, neg_lt2, neg_le2, nI_lt_neg2, nI_le_neg2, pred_t, pred_f, nI_clamp', vp_t, lt0_t, lt0_le, lt0_lt, lt0_eq, if_true, if_false, ite_true, ite_false, true_and, and_true, false_and, and_false, false_or, or_false, true_or, or_true, eq_self, fs_ne, fs_eq, fs_eq', st12, st13, st21, st23, st31, st32, not_true_eq_false, not_false_eq_true, em, em', en, en', et, et', eg, eg', ed, ed', es, es', eo', ee, ee', ev, ev']
                  refine hI.end ?_
                  repeat (first | exact Sm.refl _ | refine Sm.fs40 ?_ _ _ (by decide) | refine Sm.fsT ?_ _ _ _ _ rfl (by decide) (by decide))
set_option maxHeartbeats 1000000 in
set_option maxRecDepth 20000 in
theorem m23 {k : Nat} {F : GF} (h : Inv k F) (a1 a2 a3 : Int32) : PL_23 a1 a2 a3 (Inv (k + 1)) F := by
  have hI := h
  obtain ⟨⟨q0, q1, q2, q3, q4, q5, q6, q7, q8, q9, q10, q11⟩, ⟨r0, r1, r2, r3, r4, r5, r6, r7, r8, r9, r10, r11, r12, r13, r14⟩, cb, lg⟩ := h
  have R1 := r1
  have R2 := r2
  have R3 := r3
  have R4 := r4
  obtain ⟨m, hm, em, hmc⟩ := r1
  have em' : F 40 0 6 = nI m := q2.1.trans em
  obtain ⟨n, hn, en⟩ := r2
  have en' : F 40 0 9 = nI n := q4.1.trans en
  obtain ⟨t, g, d, s, e, ht, et, hg, eg, hd, ed, hs, es, he, ee, hem, hg1, hg2, hg3⟩ := r3
  have et' : F 40 0 0 = nI t := q0.trans et
  have eg' : F 40 0 14 = nI g := q5.1.trans eg
  have ed' : F 40 0 15 = nI d := q5.2.1.trans ed
  have es' : F 40 0 16 = nI s := q5.2.2.1.trans es
  have eo' : F 40 0 17 = F 10 0 3 := q5.2.2.2.1
  have ee' : F 40 0 19 = nI e := q5.2.2.2.2.trans ee
  obtain ⟨⟨v, hv, ev⟩, hev⟩ := r4
  have ev' : F 40 0 26 = nI v := q8.1.trans ev
  rcases int_cases a1 with hneg_p | ⟨p, hbig_p, rfl⟩
  · rcases int_cases a2 with hneg_c | ⟨c, hbig_c, rfl⟩
    · first
        | exfalso; omega
        | first
            | exfalso; omega
            | simp (disch := first | omega | assumption) only [PL_23, P_L_setSlip, P_X10_setSlip, P_X11_setSlip, P_X10_needClerk, P_X10_needRange, P_X11_setSlip_21, P_X11_setSlip_26, P_X11_in, P_X11_asked, P_X11_asked_10, P_X11_asked_, P_X11_asked__18, P_X11_asked__, P_X11_asked___26, P_X11_thrown, P_X11_told, ↓reduceIte, ↓forall_eq, li0, li1, li2, li3, li4, li5, li6, li7, li8, li10, li20, li30, li35, li36, li60, li72, li100, li572, li2000, li2100, li9999, nI_lt_t, nI_lt_f, nI_le_t, nI_le_f, nI_eq_t, nI_eq_f, nI_eq_neg2, neg_eq_nI2, neg_lt2, neg_le2, nI_lt_neg2, nI_le_neg2, pred_t, pred_f, nI_clamp', vp_t, lt0_t, lt0_le, lt0_lt, lt0_eq, if_true, if_false, ite_true, ite_false, true_and, and_true, false_and, and_false, false_or, or_false, true_or, or_true, eq_self, fs_ne, fs_eq, fs_eq', st12, st13, st21, st23, st31, st32, not_true_eq_false, not_false_eq_true, em, em', en, en', et, et', eg, eg', ed, ed', es, es', eo', ee, ee', ev, ev']
              refine hI.end ?_
              repeat (first | exact Sm.refl _ | refine Sm.fs40 ?_ _ _ (by decide) | refine Sm.fsT ?_ _ _ _ _ rfl (by decide) (by decide))
    · by_cases hlt_c : c < 21
      · by_cases c1 : c = 1
        · first
            | exfalso; omega
            | simp (disch := first | omega | assumption) only [PL_23, P_L_setSlip, P_X10_setSlip, P_X11_setSlip, P_X10_needClerk, P_X10_needRange, P_X11_setSlip_21, P_X11_setSlip_26, P_X11_in, P_X11_asked, P_X11_asked_10, P_X11_asked_, P_X11_asked__18, P_X11_asked__, P_X11_asked___26, P_X11_thrown, P_X11_told, ↓reduceIte, ↓forall_eq, li0, li1, li2, li3, li4, li5, li6, li7, li8, li10, li20, li30, li35, li36, li60, li72, li100, li572, li2000, li2100, li9999, nI_lt_t, nI_lt_f, nI_le_t, nI_le_f, nI_eq_t, nI_eq_f, nI_eq_neg2, neg_eq_nI2, neg_lt2, neg_le2, nI_lt_neg2, nI_le_neg2, pred_t, pred_f, nI_clamp', vp_t, lt0_t, lt0_le, lt0_lt, lt0_eq, if_true, if_false, ite_true, ite_false, true_and, and_true, false_and, and_false, false_or, or_false, true_or, or_true, eq_self, fs_ne, fs_eq, fs_eq', st12, st13, st21, st23, st31, st32, not_true_eq_false, not_false_eq_true, em, em', en, en', et, et', eg, eg', ed, ed', es, es', eo', ee, ee', ev, ev']
              refine hI.end ?_
              repeat (first | exact Sm.refl _ | refine Sm.fs40 ?_ _ _ (by decide) | refine Sm.fsT ?_ _ _ _ _ rfl (by decide) (by decide))
        · by_cases c0 : c = 0
          · first
              | exfalso; omega
              | simp (disch := first | omega | assumption) only [PL_23, P_L_setSlip, P_X10_setSlip, P_X11_setSlip, P_X10_needClerk, P_X10_needRange, P_X11_setSlip_21, P_X11_setSlip_26, P_X11_in, P_X11_asked, P_X11_asked_10, P_X11_asked_, P_X11_asked__18, P_X11_asked__, P_X11_asked___26, P_X11_thrown, P_X11_told, ↓reduceIte, ↓forall_eq, li0, li1, li2, li3, li4, li5, li6, li7, li8, li10, li20, li30, li35, li36, li60, li72, li100, li572, li2000, li2100, li9999, nI_lt_t, nI_lt_f, nI_le_t, nI_le_f, nI_eq_t, nI_eq_f, nI_eq_neg2, neg_eq_nI2, neg_lt2, neg_le2, nI_lt_neg2, nI_le_neg2, pred_t, pred_f, nI_clamp', vp_t, lt0_t, lt0_le, lt0_lt, lt0_eq, if_true, if_false, ite_true, ite_false, true_and, and_true, false_and, and_false, false_or, or_false, true_or, or_true, eq_self, fs_ne, fs_eq, fs_eq', st12, st13, st21, st23, st31, st32, not_true_eq_false, not_false_eq_true, em, em', en, en', et, et', eg, eg', ed, ed', es, es', eo', ee, ee', ev, ev']
                refine hI.end ?_
                repeat (first | exact Sm.refl _ | refine Sm.fs40 ?_ _ _ (by decide) | refine Sm.fsT ?_ _ _ _ _ rfl (by decide) (by decide))
          · first
              | exfalso; omega
              | simp (disch := first | omega | assumption) only [PL_23, P_L_setSlip, P_X10_setSlip, P_X11_setSlip, P_X10_needClerk, P_X10_needRange, P_X11_setSlip_21, P_X11_setSlip_26, P_X11_in, P_X11_asked, P_X11_asked_10, P_X11_asked_, P_X11_asked__18, P_X11_asked__, P_X11_asked___26, P_X11_thrown, P_X11_told, ↓reduceIte, ↓forall_eq, li0, li1, li2, li3, li4, li5, li6, li7, li8, li10, li20, li30, li35, li36, li60, li72, li100, li572, li2000, li2100, li9999, nI_lt_t, nI_lt_f, nI_le_t, nI_le_f, nI_eq_t, nI_eq_f, nI_eq_neg2, neg_eq_nI2, neg_lt2, neg_le2, nI_lt_neg2, nI_le_neg2, pred_t, pred_f, nI_clamp', vp_t, lt0_t, lt0_le, lt0_lt, lt0_eq, if_true, if_false, ite_true, ite_false, true_and, and_true, false_and, and_false, false_or, or_false, true_or, or_true, eq_self, fs_ne, fs_eq, fs_eq', st12, st13, st21, st23, st31, st32, not_true_eq_false, not_false_eq_true, em, em', en, en', et, et', eg, eg', ed, ed', es, es', eo', ee, ee', ev, ev']
                refine hI.end ?_
                repeat (first | exact Sm.refl _ | refine Sm.fs40 ?_ _ _ (by decide) | refine Sm.fsT ?_ _ _ _ _ rfl (by decide) (by decide))
      · by_cases c1 : c = 1
        · first
            | exfalso; omega
            | simp (disch := first | omega | assumption) only [PL_23, P_L_setSlip, P_X10_setSlip, P_X11_setSlip, P_X10_needClerk, P_X10_needRange, P_X11_setSlip_21, P_X11_setSlip_26, P_X11_in, P_X11_asked, P_X11_asked_10, P_X11_asked_, P_X11_asked__18, P_X11_asked__, P_X11_asked___26, P_X11_thrown, P_X11_told, ↓reduceIte, ↓forall_eq, li0, li1, li2, li3, li4, li5, li6, li7, li8, li10, li20, li30, li35, li36, li60, li72, li100, li572, li2000, li2100, li9999, nI_lt_t, nI_lt_f, nI_le_t, nI_le_f, nI_eq_t, nI_eq_f, nI_eq_neg2, neg_eq_nI2, neg_lt2, neg_le2, nI_lt_neg2, nI_le_neg2, pred_t, pred_f, nI_clamp', vp_t, lt0_t, lt0_le, lt0_lt, lt0_eq, if_true, if_false, ite_true, ite_false, true_and, and_true, false_and, and_false, false_or, or_false, true_or, or_true, eq_self, fs_ne, fs_eq, fs_eq', st12, st13, st21, st23, st31, st32, not_true_eq_false, not_false_eq_true, em, em', en, en', et, et', eg, eg', ed, ed', es, es', eo', ee, ee', ev, ev']
              refine hI.end ?_
              repeat (first | exact Sm.refl _ | refine Sm.fs40 ?_ _ _ (by decide) | refine Sm.fsT ?_ _ _ _ _ rfl (by decide) (by decide))
        · by_cases c0 : c = 0
          · first
              | exfalso; omega
              | simp (disch := first | omega | assumption) only [PL_23, P_L_setSlip, P_X10_setSlip, P_X11_setSlip, P_X10_needClerk, P_X10_needRange, P_X11_setSlip_21, P_X11_setSlip_26, P_X11_in, P_X11_asked, P_X11_asked_10, P_X11_asked_, P_X11_asked__18, P_X11_asked__, P_X11_asked___26, P_X11_thrown, P_X11_told, ↓reduceIte, ↓forall_eq, li0, li1, li2, li3, li4, li5, li6, li7, li8, li10, li20, li30, li35, li36, li60, li72, li100, li572, li2000, li2100, li9999, nI_lt_t, nI_lt_f, nI_le_t, nI_le_f, nI_eq_t, nI_eq_f, nI_eq_neg2, neg_eq_nI2, neg_lt2, neg_le2, nI_lt_neg2, nI_le_neg2, pred_t, pred_f, nI_clamp', vp_t, lt0_t, lt0_le, lt0_lt, lt0_eq, if_true, if_false, ite_true, ite_false, true_and, and_true, false_and, and_false, false_or, or_false, true_or, or_true, eq_self, fs_ne, fs_eq, fs_eq', st12, st13, st21, st23, st31, st32, not_true_eq_false, not_false_eq_true, em, em', en, en', et, et', eg, eg', ed, ed', es, es', eo', ee, ee', ev, ev']
                refine hI.end ?_
                repeat (first | exact Sm.refl _ | refine Sm.fs40 ?_ _ _ (by decide) | refine Sm.fsT ?_ _ _ _ _ rfl (by decide) (by decide))
          · first
              | exfalso; omega
              | simp (disch := first | omega | assumption) only [PL_23, P_L_setSlip, P_X10_setSlip, P_X11_setSlip, P_X10_needClerk, P_X10_needRange, P_X11_setSlip_21, P_X11_setSlip_26, P_X11_in, P_X11_asked, P_X11_asked_10, P_X11_asked_, P_X11_asked__18, P_X11_asked__, P_X11_asked___26, P_X11_thrown, P_X11_told, ↓reduceIte, ↓forall_eq, li0, li1, li2, li3, li4, li5, li6, li7, li8, li10, li20, li30, li35, li36, li60, li72, li100, li572, li2000, li2100, li9999, nI_lt_t, nI_lt_f, nI_le_t, nI_le_f, nI_eq_t, nI_eq_f, nI_eq_neg2, neg_eq_nI2, neg_lt2, neg_le2, nI_lt_neg2, nI_le_neg2, pred_t, pred_f, nI_clamp', vp_t, lt0_t, lt0_le, lt0_lt, lt0_eq, if_true, if_false, ite_true, ite_false, true_and, and_true, false_and, and_false, false_or, or_false, true_or, or_true, eq_self, fs_ne, fs_eq, fs_eq', st12, st13, st21, st23, st31, st32, not_true_eq_false, not_false_eq_true, em, em', en, en', et, et', eg, eg', ed, ed', es, es', eo', ee, ee', ev, ev']
                refine hI.end ?_
                repeat (first | exact Sm.refl _ | refine Sm.fs40 ?_ _ _ (by decide) | refine Sm.fsT ?_ _ _ _ _ rfl (by decide) (by decide))
  · by_cases hlt_p : p < 4
    · rcases int_cases a2 with hneg_c | ⟨c, hbig_c, rfl⟩
      · first
          | exfalso; omega
          | first
              | exfalso; omega
              | simp (disch := first | omega | assumption) only [PL_23, P_L_setSlip, P_X10_setSlip, P_X11_setSlip, P_X10_needClerk, P_X10_needRange, P_X11_setSlip_21, P_X11_setSlip_26, P_X11_in, P_X11_asked, P_X11_asked_10, P_X11_asked_, P_X11_asked__18, P_X11_asked__, P_X11_asked___26, P_X11_thrown, P_X11_told, ↓reduceIte, ↓forall_eq, li0, li1, li2, li3, li4, li5, li6, li7, li8, li10, li20, li30, li35, li36, li60, li72, li100, li572, li2000, li2100, li9999, nI_lt_t, nI_lt_f, nI_le_t, nI_le_f, nI_eq_t, nI_eq_f, nI_eq_neg2, neg_eq_nI2, neg_lt2, neg_le2, nI_lt_neg2, nI_le_neg2, pred_t, pred_f, nI_clamp', vp_t, lt0_t, lt0_le, lt0_lt, lt0_eq, if_true, if_false, ite_true, ite_false, true_and, and_true, false_and, and_false, false_or, or_false, true_or, or_true, eq_self, fs_ne, fs_eq, fs_eq', st12, st13, st21, st23, st31, st32, not_true_eq_false, not_false_eq_true, em, em', en, en', et, et', eg, eg', ed, ed', es, es', eo', ee, ee', ev, ev']
                refine hI.end ?_
                repeat (first | exact Sm.refl _ | refine Sm.fs40 ?_ _ _ (by decide) | refine Sm.fsT ?_ _ _ _ _ rfl (by decide) (by decide))
      · by_cases hlt_c : c < 21
        · by_cases c1 : c = 1
          · first
              | exfalso; omega
              | simp (disch := first | omega | assumption) only [PL_23, P_L_setSlip, P_X10_setSlip, P_X11_setSlip, P_X10_needClerk, P_X10_needRange, P_X11_setSlip_21, P_X11_setSlip_26, P_X11_in, P_X11_asked, P_X11_asked_10, P_X11_asked_, P_X11_asked__18, P_X11_asked__, P_X11_asked___26, P_X11_thrown, P_X11_told, ↓reduceIte, ↓forall_eq, li0, li1, li2, li3, li4, li5, li6, li7, li8, li10, li20, li30, li35, li36, li60, li72, li100, li572, li2000, li2100, li9999, nI_lt_t, nI_lt_f, nI_le_t, nI_le_f, nI_eq_t, nI_eq_f, nI_eq_neg2, neg_eq_nI2, neg_lt2, neg_le2, nI_lt_neg2, nI_le_neg2, pred_t, pred_f, nI_clamp', vp_t, lt0_t, lt0_le, lt0_lt, lt0_eq, if_true, if_false, ite_true, ite_false, true_and, and_true, false_and, and_false, false_or, or_false, true_or, or_true, eq_self, fs_ne, fs_eq, fs_eq', st12, st13, st21, st23, st31, st32, not_true_eq_false, not_false_eq_true, em, em', en, en', et, et', eg, eg', ed, ed', es, es', eo', ee, ee', ev, ev']
                refine hI.end ?_
                repeat (first | exact Sm.refl _ | refine Sm.fs40 ?_ _ _ (by decide) | refine Sm.fsT ?_ _ _ _ _ rfl (by decide) (by decide))
          · by_cases c0 : c = 0
            · first
                | exfalso; omega
                | simp (disch := first | omega | assumption) only [PL_23, P_L_setSlip, P_X10_setSlip, P_X11_setSlip, P_X10_needClerk, P_X10_needRange, P_X11_setSlip_21, P_X11_setSlip_26, P_X11_in, P_X11_asked, P_X11_asked_10, P_X11_asked_, P_X11_asked__18, P_X11_asked__, P_X11_asked___26, P_X11_thrown, P_X11_told, ↓reduceIte, ↓forall_eq, li0, li1, li2, li3, li4, li5, li6, li7, li8, li10, li20, li30, li35, li36, li60, li72, li100, li572, li2000, li2100, li9999, nI_lt_t, nI_lt_f, nI_le_t, nI_le_f, nI_eq_t, nI_eq_f, nI_eq_neg2, neg_eq_nI2, neg_lt2, neg_le2, nI_lt_neg2, nI_le_neg2, pred_t, pred_f, nI_clamp', vp_t, lt0_t, lt0_le, lt0_lt, lt0_eq, if_true, if_false, ite_true, ite_false, true_and, and_true, false_and, and_false, false_or, or_false, true_or, or_true, eq_self, fs_ne, fs_eq, fs_eq', st12, st13, st21, st23, st31, st32, not_true_eq_false, not_false_eq_true, em, em', en, en', et, et', eg, eg', ed, ed', es, es', eo', ee, ee', ev, ev', q3 p hlt_p]
                  exact i23 hI hlt_p _ _ _
            · first
                | exfalso; omega
                | simp (disch := first | omega | assumption) only [PL_23, P_L_setSlip, P_X10_setSlip, P_X11_setSlip, P_X10_needClerk, P_X10_needRange, P_X11_setSlip_21, P_X11_setSlip_26, P_X11_in, P_X11_asked, P_X11_asked_10, P_X11_asked_, P_X11_asked__18, P_X11_asked__, P_X11_asked___26, P_X11_thrown, P_X11_told, ↓reduceIte, ↓forall_eq, li0, li1, li2, li3, li4, li5, li6, li7, li8, li10, li20, li30, li35, li36, li60, li72, li100, li572, li2000, li2100, li9999, nI_lt_t, nI_lt_f, nI_le_t, nI_le_f, nI_eq_t, nI_eq_f, nI_eq_neg2, neg_eq_nI2, neg_lt2, neg_le2, nI_lt_neg2, nI_le_neg2, pred_t, pred_f, nI_clamp', vp_t, lt0_t, lt0_le, lt0_lt, lt0_eq, if_true, if_false, ite_true, ite_false, true_and, and_true, false_and, and_false, false_or, or_false, true_or, or_true, eq_self, fs_ne, fs_eq, fs_eq', st12, st13, st21, st23, st31, st32, not_true_eq_false, not_false_eq_true, em, em', en, en', et, et', eg, eg', ed, ed', es, es', eo', ee, ee', ev, ev', q3 p hlt_p]
                  exact i23 hI hlt_p _ _ _
        · by_cases c1 : c = 1
          · first
              | exfalso; omega
              | simp (disch := first | omega | assumption) only [PL_23, P_L_setSlip, P_X10_setSlip, P_X11_setSlip, P_X10_needClerk, P_X10_needRange, P_X11_setSlip_21, P_X11_setSlip_26, P_X11_in, P_X11_asked, P_X11_asked_10, P_X11_asked_, P_X11_asked__18, P_X11_asked__, P_X11_asked___26, P_X11_thrown, P_X11_told, ↓reduceIte, ↓forall_eq, li0, li1, li2, li3, li4, li5, li6, li7, li8, li10, li20, li30, li35, li36, li60, li72, li100, li572, li2000, li2100, li9999, nI_lt_t, nI_lt_f, nI_le_t, nI_le_f, nI_eq_t, nI_eq_f, nI_eq_neg2, neg_eq_nI2, neg_lt2, neg_le2, nI_lt_neg2, nI_le_neg2, pred_t, pred_f, nI_clamp', vp_t, lt0_t, lt0_le, lt0_lt, lt0_eq, if_true, if_false, ite_true, ite_false, true_and, and_true, false_and, and_false, false_or, or_false, true_or, or_true, eq_self, fs_ne, fs_eq, fs_eq', st12, st13, st21, st23, st31, st32, not_true_eq_false, not_false_eq_true, em, em', en, en', et, et', eg, eg', ed, ed', es, es', eo', ee, ee', ev, ev']
                refine hI.end ?_
                repeat (first | exact Sm.refl _ | refine Sm.fs40 ?_ _ _ (by decide) | refine Sm.fsT ?_ _ _ _ _ rfl (by decide) (by decide))
          · by_cases c0 : c = 0
            · first
                | exfalso; omega
                | simp (disch := first | omega | assumption) only [PL_23, P_L_setSlip, P_X10_setSlip, P_X11_setSlip, P_X10_needClerk, P_X10_needRange, P_X11_setSlip_21, P_X11_setSlip_26, P_X11_in, P_X11_asked, P_X11_asked_10, P_X11_asked_, P_X11_asked__18, P_X11_asked__, P_X11_asked___26, P_X11_thrown, P_X11_told, ↓reduceIte, ↓forall_eq, li0, li1, li2, li3, li4, li5, li6, li7, li8, li10, li20, li30, li35, li36, li60, li72, li100, li572, li2000, li2100, li9999, nI_lt_t, nI_lt_f, nI_le_t, nI_le_f, nI_eq_t, nI_eq_f, nI_eq_neg2, neg_eq_nI2, neg_lt2, neg_le2, nI_lt_neg2, nI_le_neg2, pred_t, pred_f, nI_clamp', vp_t, lt0_t, lt0_le, lt0_lt, lt0_eq, if_true, if_false, ite_true, ite_false, true_and, and_true, false_and, and_false, false_or, or_false, true_or, or_true, eq_self, fs_ne, fs_eq, fs_eq', st12, st13, st21, st23, st31, st32, not_true_eq_false, not_false_eq_true, em, em', en, en', et, et', eg, eg', ed, ed', es, es', eo', ee, ee', ev, ev']
                  refine hI.end ?_
                  repeat (first | exact Sm.refl _ | refine Sm.fs40 ?_ _ _ (by decide) | refine Sm.fsT ?_ _ _ _ _ rfl (by decide) (by decide))
            · first
                | exfalso; omega
                | simp (disch := first | omega | assumption) only [PL_23, P_L_setSlip, P_X10_setSlip, P_X11_setSlip, P_X10_needClerk, P_X10_needRange, P_X11_setSlip_21, P_X11_setSlip_26, P_X11_in, P_X11_asked, P_X11_asked_10, P_X11_asked_, P_X11_asked__18, P_X11_asked__, P_X11_asked___26, P_X11_thrown, P_X11_told, ↓reduceIte, ↓forall_eq, li0, li1, li2, li3, li4, li5, li6, li7, li8, li10, li20, li30, li35, li36, li60, li72, li100, li572, li2000, li2100, li9999, nI_lt_t, nI_lt_f, nI_le_t, nI_le_f, nI_eq_t, nI_eq_f, nI_eq_neg2, neg_eq_nI2, neg_lt2, neg_le2, nI_lt_neg2, nI_le_neg2, pred_t, pred_f, nI_clamp', vp_t, lt0_t, lt0_le, lt0_lt, lt0_eq, if_true, if_false, ite_true, ite_false, true_and, and_true, false_and, and_false, false_or, or_false, true_or, or_true, eq_self, fs_ne, fs_eq, fs_eq', st12, st13, st21, st23, st31, st32, not_true_eq_false, not_false_eq_true, em, em', en, en', et, et', eg, eg', ed, ed', es, es', eo', ee, ee', ev, ev']
                  refine hI.end ?_
                  repeat (first | exact Sm.refl _ | refine Sm.fs40 ?_ _ _ (by decide) | refine Sm.fsT ?_ _ _ _ _ rfl (by decide) (by decide))
    · rcases int_cases a2 with hneg_c | ⟨c, hbig_c, rfl⟩
      · first
          | exfalso; omega
          | first
              | exfalso; omega
              | simp (disch := first | omega | assumption) only [PL_23, P_L_setSlip, P_X10_setSlip, P_X11_setSlip, P_X10_needClerk, P_X10_needRange, P_X11_setSlip_21, P_X11_setSlip_26, P_X11_in, P_X11_asked, P_X11_asked_10, P_X11_asked_, P_X11_asked__18, P_X11_asked__, P_X11_asked___26, P_X11_thrown, P_X11_told, ↓reduceIte, ↓forall_eq, li0, li1, li2, li3, li4, li5, li6, li7, li8, li10, li20, li30, li35, li36, li60, li72, li100, li572, li2000, li2100, li9999, nI_lt_t, nI_lt_f, nI_le_t, nI_le_f, nI_eq_t, nI_eq_f, nI_eq_neg2, neg_eq_nI2, neg_lt2, neg_le2, nI_lt_neg2, nI_le_neg2, pred_t, pred_f, nI_clamp', vp_t, lt0_t, lt0_le, lt0_lt, lt0_eq, if_true, if_false, ite_true, ite_false, true_and, and_true, false_and, and_false, false_or, or_false, true_or, or_true, eq_self, fs_ne, fs_eq, fs_eq', st12, st13, st21, st23, st31, st32, not_true_eq_false, not_false_eq_true, em, em', en, en', et, et', eg, eg', ed, ed', es, es', eo', ee, ee', ev, ev']
                refine hI.end ?_
                repeat (first | exact Sm.refl _ | refine Sm.fs40 ?_ _ _ (by decide) | refine Sm.fsT ?_ _ _ _ _ rfl (by decide) (by decide))
      · by_cases hlt_c : c < 21
        · by_cases c1 : c = 1
          · first
              | exfalso; omega
              | simp (disch := first | omega | assumption) only [PL_23, P_L_setSlip, P_X10_setSlip, P_X11_setSlip, P_X10_needClerk, P_X10_needRange, P_X11_setSlip_21, P_X11_setSlip_26, P_X11_in, P_X11_asked, P_X11_asked_10, P_X11_asked_, P_X11_asked__18, P_X11_asked__, P_X11_asked___26, P_X11_thrown, P_X11_told, ↓reduceIte, ↓forall_eq, li0, li1, li2, li3, li4, li5, li6, li7, li8, li10, li20, li30, li35, li36, li60, li72, li100, li572, li2000, li2100, li9999, nI_lt_t, nI_lt_f, nI_le_t, nI_le_f, nI_eq_t, nI_eq_f, nI_eq_neg2, neg_eq_nI2, neg_lt2, neg_le2, nI_lt_neg2, nI_le_neg2, pred_t, pred_f, nI_clamp', vp_t, lt0_t, lt0_le, lt0_lt, lt0_eq, if_true, if_false, ite_true, ite_false, true_and, and_true, false_and, and_false, false_or, or_false, true_or, or_true, eq_self, fs_ne, fs_eq, fs_eq', st12, st13, st21, st23, st31, st32, not_true_eq_false, not_false_eq_true, em, em', en, en', et, et', eg, eg', ed, ed', es, es', eo', ee, ee', ev, ev']
                refine hI.end ?_
                repeat (first | exact Sm.refl _ | refine Sm.fs40 ?_ _ _ (by decide) | refine Sm.fsT ?_ _ _ _ _ rfl (by decide) (by decide))
          · by_cases c0 : c = 0
            · first
                | exfalso; omega
                | simp (disch := first | omega | assumption) only [PL_23, P_L_setSlip, P_X10_setSlip, P_X11_setSlip, P_X10_needClerk, P_X10_needRange, P_X11_setSlip_21, P_X11_setSlip_26, P_X11_in, P_X11_asked, P_X11_asked_10, P_X11_asked_, P_X11_asked__18, P_X11_asked__, P_X11_asked___26, P_X11_thrown, P_X11_told, ↓reduceIte, ↓forall_eq, li0, li1, li2, li3, li4, li5, li6, li7, li8, li10, li20, li30, li35, li36, li60, li72, li100, li572, li2000, li2100, li9999, nI_lt_t, nI_lt_f, nI_le_t, nI_le_f, nI_eq_t, nI_eq_f, nI_eq_neg2, neg_eq_nI2, neg_lt2, neg_le2, nI_lt_neg2, nI_le_neg2, pred_t, pred_f, nI_clamp', vp_t, lt0_t, lt0_le, lt0_lt, lt0_eq, if_true, if_false, ite_true, ite_false, true_and, and_true, false_and, and_false, false_or, or_false, true_or, or_true, eq_self, fs_ne, fs_eq, fs_eq', st12, st13, st21, st23, st31, st32, not_true_eq_false, not_false_eq_true, em, em', en, en', et, et', eg, eg', ed, ed', es, es', eo', ee, ee', ev, ev']
                  refine hI.end ?_
                  repeat (first | exact Sm.refl _ | refine Sm.fs40 ?_ _ _ (by decide) | refine Sm.fsT ?_ _ _ _ _ rfl (by decide) (by decide))
            · first
                | exfalso; omega
                | simp (disch := first | omega | assumption) only [PL_23, P_L_setSlip, P_X10_setSlip, P_X11_setSlip, P_X10_needClerk, P_X10_needRange, P_X11_setSlip_21, P_X11_setSlip_26, P_X11_in, P_X11_asked, P_X11_asked_10, P_X11_asked_, P_X11_asked__18, P_X11_asked__, P_X11_asked___26, P_X11_thrown, P_X11_told, ↓reduceIte, ↓forall_eq, li0, li1, li2, li3, li4, li5, li6, li7, li8, li10, li20, li30, li35, li36, li60, li72, li100, li572, li2000, li2100, li9999, nI_lt_t, nI_lt_f, nI_le_t, nI_le_f, nI_eq_t, nI_eq_f, nI_eq_neg2, neg_eq_nI2, neg_lt2, neg_le2, nI_lt_neg2, nI_le_neg2, pred_t, pred_f, nI_clamp', vp_t, lt0_t, lt0_le, lt0_lt, lt0_eq, if_true, if_false, ite_true, ite_false, true_and, and_true, false_and, and_false, false_or, or_false, true_or, or_true, eq_self, fs_ne, fs_eq, fs_eq', st12, st13, st21, st23, st31, st32, not_true_eq_false, not_false_eq_true, em, em', en, en', et, et', eg, eg', ed, ed', es, es', eo', ee, ee', ev, ev']
                  refine hI.end ?_
                  repeat (first | exact Sm.refl _ | refine Sm.fs40 ?_ _ _ (by decide) | refine Sm.fsT ?_ _ _ _ _ rfl (by decide) (by decide))
        · by_cases c1 : c = 1
          · first
              | exfalso; omega
              | simp (disch := first | omega | assumption) only [PL_23, P_L_setSlip, P_X10_setSlip, P_X11_setSlip, P_X10_needClerk, P_X10_needRange, P_X11_setSlip_21, P_X11_setSlip_26, P_X11_in, P_X11_asked, P_X11_asked_10, P_X11_asked_, P_X11_asked__18, P_X11_asked__, P_X11_asked___26, P_X11_thrown, P_X11_told, ↓reduceIte, ↓forall_eq, li0, li1, li2, li3, li4, li5, li6, li7, li8, li10, li20, li30, li35, li36, li60, li72, li100, li572, li2000, li2100, li9999, nI_lt_t, nI_lt_f, nI_le_t, nI_le_f, nI_eq_t, nI_eq_f, nI_eq_neg2, neg_eq_nI2, neg_lt2, neg_le2, nI_lt_neg2, nI_le_neg2, pred_t, pred_f, nI_clamp', vp_t, lt0_t, lt0_le, lt0_lt, lt0_eq, if_true, if_false, ite_true, ite_false, true_and, and_true, false_and, and_false, false_or, or_false, true_or, or_true, eq_self, fs_ne, fs_eq, fs_eq', st12, st13, st21, st23, st31, st32, not_true_eq_false, not_false_eq_true, em, em', en, en', et, et', eg, eg', ed, ed', es, es', eo', ee, ee', ev, ev']
                refine hI.end ?_
                repeat (first | exact Sm.refl _ | refine Sm.fs40 ?_ _ _ (by decide) | refine Sm.fsT ?_ _ _ _ _ rfl (by decide) (by decide))
          · by_cases c0 : c = 0
            · first
                | exfalso; omega
                | simp (disch := first | omega | assumption) only [PL_23, P_L_setSlip, P_X10_setSlip, P_X11_setSlip, P_X10_needClerk, P_X10_needRange, P_X11_setSlip_21, P_X11_setSlip_26, P_X11_in, P_X11_asked, P_X11_asked_10, P_X11_asked_, P_X11_asked__18, P_X11_asked__, P_X11_asked___26, P_X11_thrown, P_X11_told, ↓reduceIte, ↓forall_eq, li0, li1, li2, li3, li4, li5, li6, li7, li8, li10, li20, li30, li35, li36, li60, li72, li100, li572, li2000, li2100, li9999, nI_lt_t, nI_lt_f, nI_le_t, nI_le_f, nI_eq_t, nI_eq_f, nI_eq_neg2, neg_eq_nI2, neg_lt2, neg_le2, nI_lt_neg2, nI_le_neg2, pred_t, pred_f, nI_clamp', vp_t, lt0_t, lt0_le, lt0_lt, lt0_eq, if_true, if_false, ite_true, ite_false, true_and, and_true, false_and, and_false, false_or, or_false, true_or, or_true, eq_self, fs_ne, fs_eq, fs_eq', st12, st13, st21, st23, st31, st32, not_true_eq_false, not_false_eq_true, em, em', en, en', et, et', eg, eg', ed, ed', es, es', eo', ee, ee', ev, ev']
                  refine hI.end ?_
                  repeat (first | exact Sm.refl _ | refine Sm.fs40 ?_ _ _ (by decide) | refine Sm.fsT ?_ _ _ _ _ rfl (by decide) (by decide))
            · first
                | exfalso; omega
                | simp (disch := first | omega | assumption) only [PL_23, P_L_setSlip, P_X10_setSlip, P_X11_setSlip, P_X10_needClerk, P_X10_needRange, P_X11_setSlip_21, P_X11_setSlip_26, P_X11_in, P_X11_asked, P_X11_asked_10, P_X11_asked_, P_X11_asked__18, P_X11_asked__, P_X11_asked___26, P_X11_thrown, P_X11_told, ↓reduceIte, ↓forall_eq, li0, li1, li2, li3, li4, li5, li6, li7, li8, li10, li20, li30, li35, li36, li60, li72, li100, li572, li2000, li2100, li9999, nI_lt_t, nI_lt_f, nI_le_t, nI_le_f, nI_eq_t, nI_eq_f, nI_eq_neg2, neg_eq_nI2, neg_lt2, neg_le2, nI_lt_neg2, nI_le_neg2, pred_t, pred_f, nI_clamp', vp_t, lt0_t, lt0_le, lt0_lt, lt0_eq, if_true, if_false, ite_true, ite_false, true_and, and_true, false_and, and_false, false_or, or_false, true_or, or_true, eq_self, fs_ne, fs_eq, fs_eq', st12, st13, st21, st23, st31, st32, not_true_eq_false, not_false_eq_true, em, em', en, en', et, et', eg, eg', ed, ed', es, es', eo', ee, ee', ev, ev']
                  refine hI.end ?_
                  repeat (first | exact Sm.refl _ | refine Sm.fs40 ?_ _ _ (by decide) | refine Sm.fsT ?_ _ _ _ _ rfl (by decide) (by decide))
set_option maxHeartbeats 1000000 in
set_option maxRecDepth 20000 in
theorem m25 {k : Nat} {F : GF} (h : Inv k F) (a1 a2 a3 : Int32) : PL_25 a1 a2 a3 (Inv (k + 1)) F := by
  have hI := h
  obtain ⟨⟨q0, q1, q2, q3, q4, q5, q6, q7, q8, q9, q10, q11⟩, ⟨r0, r1, r2, r3, r4, r5, r6, r7, r8, r9, r10, r11, r12, r13, r14⟩, cb, lg⟩ := h
  have R1 := r1
  have R2 := r2
  have R3 := r3
  have R4 := r4
  obtain ⟨m, hm, em, hmc⟩ := r1
  have em' : F 40 0 6 = nI m := q2.1.trans em
  obtain ⟨n, hn, en⟩ := r2
  have en' : F 40 0 9 = nI n := q4.1.trans en
  obtain ⟨t, g, d, s, e, ht, et, hg, eg, hd, ed, hs, es, he, ee, hem, hg1, hg2, hg3⟩ := r3
  have et' : F 40 0 0 = nI t := q0.trans et
  have eg' : F 40 0 14 = nI g := q5.1.trans eg
  have ed' : F 40 0 15 = nI d := q5.2.1.trans ed
  have es' : F 40 0 16 = nI s := q5.2.2.1.trans es
  have eo' : F 40 0 17 = F 10 0 3 := q5.2.2.2.1
  have ee' : F 40 0 19 = nI e := q5.2.2.2.2.trans ee
  obtain ⟨⟨v, hv, ev⟩, hev⟩ := r4
  have ev' : F 40 0 26 = nI v := q8.1.trans ev
  by_cases g4 : g = 4
  · rcases int_cases a1 with hneg_p | ⟨p, hbig_p, rfl⟩
    · first
        | exfalso; omega
        | simp (disch := first | omega | assumption) only [PL_25, P_L_recount, P_X10_recount, P_X11_recount, P_X10_needStation, P_X11_isStation, P_X10_needStage, P_X1_dropCounts, P_X11_recount_21, P_X11_in, P_X11_asked, P_X11_asked_10, P_X11_asked_, P_X11_asked__18, P_X11_asked__, P_X11_asked___26, P_X11_thrown, P_X11_told, ↓reduceIte, ↓forall_eq, li0, li1, li2, li3, li4, li5, li6, li7, li8, li10, li20, li30, li35, li36, li60, li72, li100, li572, li2000, li2100, li9999, nI_lt_t, nI_lt_f, nI_le_t, nI_le_f, nI_eq_t, nI_eq_f, nI_eq_neg2, neg_eq_nI2, neg_lt2, neg_le2, nI_lt_neg2, nI_le_neg2, pred_t, pred_f, nI_clamp', vp_t, lt0_t, lt0_le, lt0_lt, lt0_eq, if_true, if_false, ite_true, ite_false, true_and, and_true, false_and, and_false, false_or, or_false, true_or, or_true, eq_self, fs_ne, fs_eq, fs_eq', st12, st13, st21, st23, st31, st32, not_true_eq_false, not_false_eq_true, em, em', en, en', et, et', eg, eg', ed, ed', es, es', eo', ee, ee', ev, ev']
          refine hI.end ?_
          repeat (first | exact Sm.refl _ | refine Sm.fs40 ?_ _ _ (by decide) | refine Sm.fsT ?_ _ _ _ _ rfl (by decide) (by decide))
    · by_cases hlt_p : p < m
      · have hb : p < 5 := by omega
        first
          | exfalso; omega
          | simp (disch := first | omega | assumption) only [PL_25, P_L_recount, P_X10_recount, P_X11_recount, P_X10_needStation, P_X11_isStation, P_X10_needStage, P_X1_dropCounts, P_X11_recount_21, P_X11_in, P_X11_asked, P_X11_asked_10, P_X11_asked_, P_X11_asked__18, P_X11_asked__, P_X11_asked___26, P_X11_thrown, P_X11_told, ↓reduceIte, ↓forall_eq, li0, li1, li2, li3, li4, li5, li6, li7, li8, li10, li20, li30, li35, li36, li60, li72, li100, li572, li2000, li2100, li9999, nI_lt_t, nI_lt_f, nI_le_t, nI_le_f, nI_eq_t, nI_eq_f, nI_eq_neg2, neg_eq_nI2, neg_lt2, neg_le2, nI_lt_neg2, nI_le_neg2, pred_t, pred_f, nI_clamp', vp_t, lt0_t, lt0_le, lt0_lt, lt0_eq, if_true, if_false, ite_true, ite_false, true_and, and_true, false_and, and_false, false_or, or_false, true_or, or_true, eq_self, fs_ne, fs_eq, fs_eq', st12, st13, st21, st23, st31, st32, not_true_eq_false, not_false_eq_true, em, em', en, en', et, et', eg, eg', ed, ed', es, es', eo', ee, ee', ev, ev', (q9 p hb).2.1]
            exact i25 hI hb (by rw [eg, g4]; rfl) _ _
      · first
          | exfalso; omega
          | simp (disch := first | omega | assumption) only [PL_25, P_L_recount, P_X10_recount, P_X11_recount, P_X10_needStation, P_X11_isStation, P_X10_needStage, P_X1_dropCounts, P_X11_recount_21, P_X11_in, P_X11_asked, P_X11_asked_10, P_X11_asked_, P_X11_asked__18, P_X11_asked__, P_X11_asked___26, P_X11_thrown, P_X11_told, ↓reduceIte, ↓forall_eq, li0, li1, li2, li3, li4, li5, li6, li7, li8, li10, li20, li30, li35, li36, li60, li72, li100, li572, li2000, li2100, li9999, nI_lt_t, nI_lt_f, nI_le_t, nI_le_f, nI_eq_t, nI_eq_f, nI_eq_neg2, neg_eq_nI2, neg_lt2, neg_le2, nI_lt_neg2, nI_le_neg2, pred_t, pred_f, nI_clamp', vp_t, lt0_t, lt0_le, lt0_lt, lt0_eq, if_true, if_false, ite_true, ite_false, true_and, and_true, false_and, and_false, false_or, or_false, true_or, or_true, eq_self, fs_ne, fs_eq, fs_eq', st12, st13, st21, st23, st31, st32, not_true_eq_false, not_false_eq_true, em, em', en, en', et, et', eg, eg', ed, ed', es, es', eo', ee, ee', ev, ev']
            refine hI.end ?_
            repeat (first | exact Sm.refl _ | refine Sm.fs40 ?_ _ _ (by decide) | refine Sm.fsT ?_ _ _ _ _ rfl (by decide) (by decide))
  · rcases int_cases a1 with hneg_p | ⟨p, hbig_p, rfl⟩
    · first
        | exfalso; omega
        | simp (disch := first | omega | assumption) only [PL_25, P_L_recount, P_X10_recount, P_X11_recount, P_X10_needStation, P_X11_isStation, P_X10_needStage, P_X1_dropCounts, P_X11_recount_21, P_X11_in, P_X11_asked, P_X11_asked_10, P_X11_asked_, P_X11_asked__18, P_X11_asked__, P_X11_asked___26, P_X11_thrown, P_X11_told, ↓reduceIte, ↓forall_eq, li0, li1, li2, li3, li4, li5, li6, li7, li8, li10, li20, li30, li35, li36, li60, li72, li100, li572, li2000, li2100, li9999, nI_lt_t, nI_lt_f, nI_le_t, nI_le_f, nI_eq_t, nI_eq_f, nI_eq_neg2, neg_eq_nI2, neg_lt2, neg_le2, nI_lt_neg2, nI_le_neg2, pred_t, pred_f, nI_clamp', vp_t, lt0_t, lt0_le, lt0_lt, lt0_eq, if_true, if_false, ite_true, ite_false, true_and, and_true, false_and, and_false, false_or, or_false, true_or, or_true, eq_self, fs_ne, fs_eq, fs_eq', st12, st13, st21, st23, st31, st32, not_true_eq_false, not_false_eq_true, em, em', en, en', et, et', eg, eg', ed, ed', es, es', eo', ee, ee', ev, ev']
          refine hI.end ?_
          repeat (first | exact Sm.refl _ | refine Sm.fs40 ?_ _ _ (by decide) | refine Sm.fsT ?_ _ _ _ _ rfl (by decide) (by decide))
    · by_cases hlt_p : p < m
      · have hb : p < 5 := by omega
        first
          | exfalso; omega
          | simp (disch := first | omega | assumption) only [PL_25, P_L_recount, P_X10_recount, P_X11_recount, P_X10_needStation, P_X11_isStation, P_X10_needStage, P_X1_dropCounts, P_X11_recount_21, P_X11_in, P_X11_asked, P_X11_asked_10, P_X11_asked_, P_X11_asked__18, P_X11_asked__, P_X11_asked___26, P_X11_thrown, P_X11_told, ↓reduceIte, ↓forall_eq, li0, li1, li2, li3, li4, li5, li6, li7, li8, li10, li20, li30, li35, li36, li60, li72, li100, li572, li2000, li2100, li9999, nI_lt_t, nI_lt_f, nI_le_t, nI_le_f, nI_eq_t, nI_eq_f, nI_eq_neg2, neg_eq_nI2, neg_lt2, neg_le2, nI_lt_neg2, nI_le_neg2, pred_t, pred_f, nI_clamp', vp_t, lt0_t, lt0_le, lt0_lt, lt0_eq, if_true, if_false, ite_true, ite_false, true_and, and_true, false_and, and_false, false_or, or_false, true_or, or_true, eq_self, fs_ne, fs_eq, fs_eq', st12, st13, st21, st23, st31, st32, not_true_eq_false, not_false_eq_true, em, em', en, en', et, et', eg, eg', ed, ed', es, es', eo', ee, ee', ev, ev']
            refine hI.end ?_
            repeat (first | exact Sm.refl _ | refine Sm.fs40 ?_ _ _ (by decide) | refine Sm.fsT ?_ _ _ _ _ rfl (by decide) (by decide))
      · first
          | exfalso; omega
          | simp (disch := first | omega | assumption) only [PL_25, P_L_recount, P_X10_recount, P_X11_recount, P_X10_needStation, P_X11_isStation, P_X10_needStage, P_X1_dropCounts, P_X11_recount_21, P_X11_in, P_X11_asked, P_X11_asked_10, P_X11_asked_, P_X11_asked__18, P_X11_asked__, P_X11_asked___26, P_X11_thrown, P_X11_told, ↓reduceIte, ↓forall_eq, li0, li1, li2, li3, li4, li5, li6, li7, li8, li10, li20, li30, li35, li36, li60, li72, li100, li572, li2000, li2100, li9999, nI_lt_t, nI_lt_f, nI_le_t, nI_le_f, nI_eq_t, nI_eq_f, nI_eq_neg2, neg_eq_nI2, neg_lt2, neg_le2, nI_lt_neg2, nI_le_neg2, pred_t, pred_f, nI_clamp', vp_t, lt0_t, lt0_le, lt0_lt, lt0_eq, if_true, if_false, ite_true, ite_false, true_and, and_true, false_and, and_false, false_or, or_false, true_or, or_true, eq_self, fs_ne, fs_eq, fs_eq', st12, st13, st21, st23, st31, st32, not_true_eq_false, not_false_eq_true, em, em', en, en', et, et', eg, eg', ed, ed', es, es', eo', ee, ee', ev, ev']
            refine hI.end ?_
            repeat (first | exact Sm.refl _ | refine Sm.fs40 ?_ _ _ (by decide) | refine Sm.fsT ?_ _ _ _ _ rfl (by decide) (by decide))
set_option maxHeartbeats 1000000 in
set_option maxRecDepth 20000 in
theorem m2 {k : Nat} {F : GF} (h : Inv k F) (a1 a2 a3 : Int32) : PL_2 a1 a2 a3 (Inv (k + 1)) F := by
  have hI := h
  obtain ⟨⟨q0, q1, q2, q3, q4, q5, q6, q7, q8, q9, q10, q11⟩, ⟨r0, r1, r2, r3, r4, r5, r6, r7, r8, r9, r10, r11, r12, r13, r14⟩, cb, lg⟩ := h
  have R1 := r1
  have R2 := r2
  have R3 := r3
  have R4 := r4
  obtain ⟨m, hm, em, hmc⟩ := r1
  have em' : F 40 0 6 = nI m := q2.1.trans em
  obtain ⟨n, hn, en⟩ := r2
  have en' : F 40 0 9 = nI n := q4.1.trans en
  obtain ⟨t, g, d, s, e, ht, et, hg, eg, hd, ed, hs, es, he, ee, hem, hg1, hg2, hg3⟩ := r3
  have et' : F 40 0 0 = nI t := q0.trans et
  have eg' : F 40 0 14 = nI g := q5.1.trans eg
  have ed' : F 40 0 15 = nI d := q5.2.1.trans ed
  have es' : F 40 0 16 = nI s := q5.2.2.1.trans es
  have eo' : F 40 0 17 = F 10 0 3 := q5.2.2.2.1
  have ee' : F 40 0 19 = nI e := q5.2.2.2.2.trans ee
  obtain ⟨⟨v, hv, ev⟩, hev⟩ := r4
  have ev' : F 40 0 26 = nI v := q8.1.trans ev
  rcases int_cases a1 with hneg_c | ⟨c, hbig_c, rfl⟩
  · rcases int_cases a2 with hneg_u | ⟨u, hbig_u, rfl⟩
    · by_cases hm5 : m < 5
      · first
          | exfalso; omega
          | simp (disch := first | omega | assumption) only [PL_2, P_L_station, P_X10_station, P_X11_station, P_X10_needCrossing, P_X11_isCrossing, P_X10_needRange, P_X7_add, P_X11_station_25, P_X11_in, P_X11_asked, P_X11_asked_10, P_X11_asked_, P_X11_asked__18, P_X11_asked__, P_X11_asked___26, P_X11_thrown, P_X11_told, ↓reduceIte, ↓forall_eq, li0, li1, li2, li3, li4, li5, li6, li7, li8, li10, li20, li30, li35, li36, li60, li72, li100, li572, li2000, li2100, li9999, nI_lt_t, nI_lt_f, nI_le_t, nI_le_f, nI_eq_t, nI_eq_f, nI_eq_neg2, neg_eq_nI2, neg_lt2, neg_le2, nI_lt_neg2, nI_le_neg2, pred_t, pred_f, nI_clamp', vp_t, lt0_t, lt0_le, lt0_lt, lt0_eq, if_true, if_false, ite_true, ite_false, true_and, and_true, false_and, and_false, false_or, or_false, true_or, or_true, eq_self, fs_ne, fs_eq, fs_eq', st12, st13, st21, st23, st31, st32, not_true_eq_false, not_false_eq_true, em, em', en, en', et, et', eg, eg', ed, ed', es, es', eo', ee, ee', ev, ev']
            refine hI.end ?_
            repeat (first | exact Sm.refl _ | refine Sm.fs40 ?_ _ _ (by decide) | refine Sm.fsT ?_ _ _ _ _ rfl (by decide) (by decide))
      · first
          | exfalso; omega
          | simp (disch := first | omega | assumption) only [PL_2, P_L_station, P_X10_station, P_X11_station, P_X10_needCrossing, P_X11_isCrossing, P_X10_needRange, P_X7_add, P_X11_station_25, P_X11_in, P_X11_asked, P_X11_asked_10, P_X11_asked_, P_X11_asked__18, P_X11_asked__, P_X11_asked___26, P_X11_thrown, P_X11_told, ↓reduceIte, ↓forall_eq, li0, li1, li2, li3, li4, li5, li6, li7, li8, li10, li20, li30, li35, li36, li60, li72, li100, li572, li2000, li2100, li9999, nI_lt_t, nI_lt_f, nI_le_t, nI_le_f, nI_eq_t, nI_eq_f, nI_eq_neg2, neg_eq_nI2, neg_lt2, neg_le2, nI_lt_neg2, nI_le_neg2, pred_t, pred_f, nI_clamp', vp_t, lt0_t, lt0_le, lt0_lt, lt0_eq, if_true, if_false, ite_true, ite_false, true_and, and_true, false_and, and_false, false_or, or_false, true_or, or_true, eq_self, fs_ne, fs_eq, fs_eq', st12, st13, st21, st23, st31, st32, not_true_eq_false, not_false_eq_true, em, em', en, en', et, et', eg, eg', ed, ed', es, es', eo', ee, ee', ev, ev']
            refine hI.end ?_
            repeat (first | exact Sm.refl _ | refine Sm.fs40 ?_ _ _ (by decide) | refine Sm.fsT ?_ _ _ _ _ rfl (by decide) (by decide))
    · by_cases hlt_u : u < 21
      · by_cases hm5 : m < 5
        · first
            | exfalso; omega
            | simp (disch := first | omega | assumption) only [PL_2, P_L_station, P_X10_station, P_X11_station, P_X10_needCrossing, P_X11_isCrossing, P_X10_needRange, P_X7_add, P_X11_station_25, P_X11_in, P_X11_asked, P_X11_asked_10, P_X11_asked_, P_X11_asked__18, P_X11_asked__, P_X11_asked___26, P_X11_thrown, P_X11_told, ↓reduceIte, ↓forall_eq, li0, li1, li2, li3, li4, li5, li6, li7, li8, li10, li20, li30, li35, li36, li60, li72, li100, li572, li2000, li2100, li9999, nI_lt_t, nI_lt_f, nI_le_t, nI_le_f, nI_eq_t, nI_eq_f, nI_eq_neg2, neg_eq_nI2, neg_lt2, neg_le2, nI_lt_neg2, nI_le_neg2, pred_t, pred_f, nI_clamp', vp_t, lt0_t, lt0_le, lt0_lt, lt0_eq, if_true, if_false, ite_true, ite_false, true_and, and_true, false_and, and_false, false_or, or_false, true_or, or_true, eq_self, fs_ne, fs_eq, fs_eq', st12, st13, st21, st23, st31, st32, not_true_eq_false, not_false_eq_true, em, em', en, en', et, et', eg, eg', ed, ed', es, es', eo', ee, ee', ev, ev']
              refine hI.end ?_
              repeat (first | exact Sm.refl _ | refine Sm.fs40 ?_ _ _ (by decide) | refine Sm.fsT ?_ _ _ _ _ rfl (by decide) (by decide))
        · first
            | exfalso; omega
            | simp (disch := first | omega | assumption) only [PL_2, P_L_station, P_X10_station, P_X11_station, P_X10_needCrossing, P_X11_isCrossing, P_X10_needRange, P_X7_add, P_X11_station_25, P_X11_in, P_X11_asked, P_X11_asked_10, P_X11_asked_, P_X11_asked__18, P_X11_asked__, P_X11_asked___26, P_X11_thrown, P_X11_told, ↓reduceIte, ↓forall_eq, li0, li1, li2, li3, li4, li5, li6, li7, li8, li10, li20, li30, li35, li36, li60, li72, li100, li572, li2000, li2100, li9999, nI_lt_t, nI_lt_f, nI_le_t, nI_le_f, nI_eq_t, nI_eq_f, nI_eq_neg2, neg_eq_nI2, neg_lt2, neg_le2, nI_lt_neg2, nI_le_neg2, pred_t, pred_f, nI_clamp', vp_t, lt0_t, lt0_le, lt0_lt, lt0_eq, if_true, if_false, ite_true, ite_false, true_and, and_true, false_and, and_false, false_or, or_false, true_or, or_true, eq_self, fs_ne, fs_eq, fs_eq', st12, st13, st21, st23, st31, st32, not_true_eq_false, not_false_eq_true, em, em', en, en', et, et', eg, eg', ed, ed', es, es', eo', ee, ee', ev, ev']
              refine hI.end ?_
              repeat (first | exact Sm.refl _ | refine Sm.fs40 ?_ _ _ (by decide) | refine Sm.fsT ?_ _ _ _ _ rfl (by decide) (by decide))
      · by_cases hm5 : m < 5
        · first
            | exfalso; omega
            | simp (disch := first | omega | assumption) only [PL_2, P_L_station, P_X10_station, P_X11_station, P_X10_needCrossing, P_X11_isCrossing, P_X10_needRange, P_X7_add, P_X11_station_25, P_X11_in, P_X11_asked, P_X11_asked_10, P_X11_asked_, P_X11_asked__18, P_X11_asked__, P_X11_asked___26, P_X11_thrown, P_X11_told, ↓reduceIte, ↓forall_eq, li0, li1, li2, li3, li4, li5, li6, li7, li8, li10, li20, li30, li35, li36, li60, li72, li100, li572, li2000, li2100, li9999, nI_lt_t, nI_lt_f, nI_le_t, nI_le_f, nI_eq_t, nI_eq_f, nI_eq_neg2, neg_eq_nI2, neg_lt2, neg_le2, nI_lt_neg2, nI_le_neg2, pred_t, pred_f, nI_clamp', vp_t, lt0_t, lt0_le, lt0_lt, lt0_eq, if_true, if_false, ite_true, ite_false, true_and, and_true, false_and, and_false, false_or, or_false, true_or, or_true, eq_self, fs_ne, fs_eq, fs_eq', st12, st13, st21, st23, st31, st32, not_true_eq_false, not_false_eq_true, em, em', en, en', et, et', eg, eg', ed, ed', es, es', eo', ee, ee', ev, ev']
              refine hI.end ?_
              repeat (first | exact Sm.refl _ | refine Sm.fs40 ?_ _ _ (by decide) | refine Sm.fsT ?_ _ _ _ _ rfl (by decide) (by decide))
        · first
            | exfalso; omega
            | simp (disch := first | omega | assumption) only [PL_2, P_L_station, P_X10_station, P_X11_station, P_X10_needCrossing, P_X11_isCrossing, P_X10_needRange, P_X7_add, P_X11_station_25, P_X11_in, P_X11_asked, P_X11_asked_10, P_X11_asked_, P_X11_asked__18, P_X11_asked__, P_X11_asked___26, P_X11_thrown, P_X11_told, ↓reduceIte, ↓forall_eq, li0, li1, li2, li3, li4, li5, li6, li7, li8, li10, li20, li30, li35, li36, li60, li72, li100, li572, li2000, li2100, li9999, nI_lt_t, nI_lt_f, nI_le_t, nI_le_f, nI_eq_t, nI_eq_f, nI_eq_neg2, neg_eq_nI2, neg_lt2, neg_le2, nI_lt_neg2, nI_le_neg2, pred_t, pred_f, nI_clamp', vp_t, lt0_t, lt0_le, lt0_lt, lt0_eq, if_true, if_false, ite_true, ite_false, true_and, and_true, false_and, and_false, false_or, or_false, true_or, or_true, eq_self, fs_ne, fs_eq, fs_eq', st12, st13, st21, st23, st31, st32, not_true_eq_false, not_false_eq_true, em, em', en, en', et, et', eg, eg', ed, ed', es, es', eo', ee, ee', ev, ev']
              refine hI.end ?_
              repeat (first | exact Sm.refl _ | refine Sm.fs40 ?_ _ _ (by decide) | refine Sm.fsT ?_ _ _ _ _ rfl (by decide) (by decide))
  · by_cases hlt_c : c < 36
    · rcases int_cases a2 with hneg_u | ⟨u, hbig_u, rfl⟩
      · by_cases hm5 : m < 5
        · first
            | exfalso; omega
            | simp (disch := first | omega | assumption) only [PL_2, P_L_station, P_X10_station, P_X11_station, P_X10_needCrossing, P_X11_isCrossing, P_X10_needRange, P_X7_add, P_X11_station_25, P_X11_in, P_X11_asked, P_X11_asked_10, P_X11_asked_, P_X11_asked__18, P_X11_asked__, P_X11_asked___26, P_X11_thrown, P_X11_told, ↓reduceIte, ↓forall_eq, li0, li1, li2, li3, li4, li5, li6, li7, li8, li10, li20, li30, li35, li36, li60, li72, li100, li572, li2000, li2100, li9999, nI_lt_t, nI_lt_f, nI_le_t, nI_le_f, nI_eq_t, nI_eq_f, nI_eq_neg2, neg_eq_nI2, neg_lt2, neg_le2, nI_lt_neg2, nI_le_neg2, pred_t, pred_f, nI_clamp', vp_t, lt0_t, lt0_le, lt0_lt, lt0_eq, if_true, if_false, ite_true, ite_false, true_and, and_true, false_and, and_false, false_or, or_false, true_or, or_true, eq_self, fs_ne, fs_eq, fs_eq', st12, st13, st21, st23, st31, st32, not_true_eq_false, not_false_eq_true, em, em', en, en', et, et', eg, eg', ed, ed', es, es', eo', ee, ee', ev, ev']
              refine hI.end ?_
              repeat (first | exact Sm.refl _ | refine Sm.fs40 ?_ _ _ (by decide) | refine Sm.fsT ?_ _ _ _ _ rfl (by decide) (by decide))
        · first
            | exfalso; omega
            | simp (disch := first | omega | assumption) only [PL_2, P_L_station, P_X10_station, P_X11_station, P_X10_needCrossing, P_X11_isCrossing, P_X10_needRange, P_X7_add, P_X11_station_25, P_X11_in, P_X11_asked, P_X11_asked_10, P_X11_asked_, P_X11_asked__18, P_X11_asked__, P_X11_asked___26, P_X11_thrown, P_X11_told, ↓reduceIte, ↓forall_eq, li0, li1, li2, li3, li4, li5, li6, li7, li8, li10, li20, li30, li35, li36, li60, li72, li100, li572, li2000, li2100, li9999, nI_lt_t, nI_lt_f, nI_le_t, nI_le_f, nI_eq_t, nI_eq_f, nI_eq_neg2, neg_eq_nI2, neg_lt2, neg_le2, nI_lt_neg2, nI_le_neg2, pred_t, pred_f, nI_clamp', vp_t, lt0_t, lt0_le, lt0_lt, lt0_eq, if_true, if_false, ite_true, ite_false, true_and, and_true, false_and, and_false, false_or, or_false, true_or, or_true, eq_self, fs_ne, fs_eq, fs_eq', st12, st13, st21, st23, st31, st32, not_true_eq_false, not_false_eq_true, em, em', en, en', et, et', eg, eg', ed, ed', es, es', eo', ee, ee', ev, ev']
              refine hI.end ?_
              repeat (first | exact Sm.refl _ | refine Sm.fs40 ?_ _ _ (by decide) | refine Sm.fsT ?_ _ _ _ _ rfl (by decide) (by decide))
      · by_cases hlt_u : u < 21
        · by_cases hm5 : m < 5
          · first
              | exfalso; omega
              | simp (disch := first | omega | assumption) only [PL_2, P_L_station, P_X10_station, P_X11_station, P_X10_needCrossing, P_X11_isCrossing, P_X10_needRange, P_X7_add, P_X11_station_25, P_X11_in, P_X11_asked, P_X11_asked_10, P_X11_asked_, P_X11_asked__18, P_X11_asked__, P_X11_asked___26, P_X11_thrown, P_X11_told, ↓reduceIte, ↓forall_eq, li0, li1, li2, li3, li4, li5, li6, li7, li8, li10, li20, li30, li35, li36, li60, li72, li100, li572, li2000, li2100, li9999, nI_lt_t, nI_lt_f, nI_le_t, nI_le_f, nI_eq_t, nI_eq_f, nI_eq_neg2, neg_eq_nI2, neg_lt2, neg_le2, nI_lt_neg2, nI_le_neg2, pred_t, pred_f, nI_clamp', vp_t, lt0_t, lt0_le, lt0_lt, lt0_eq, if_true, if_false, ite_true, ite_false, true_and, and_true, false_and, and_false, false_or, or_false, true_or, or_true, eq_self, fs_ne, fs_eq, fs_eq', st12, st13, st21, st23, st31, st32, not_true_eq_false, not_false_eq_true, em, em', en, en', et, et', eg, eg', ed, ed', es, es', eo', ee, ee', ev, ev', nI_add, nI_sub]
                exact i2 hI hm5 em em' hlt_c _ _ _
          · first
              | exfalso; omega
              | simp (disch := first | omega | assumption) only [PL_2, P_L_station, P_X10_station, P_X11_station, P_X10_needCrossing, P_X11_isCrossing, P_X10_needRange, P_X7_add, P_X11_station_25, P_X11_in, P_X11_asked, P_X11_asked_10, P_X11_asked_, P_X11_asked__18, P_X11_asked__, P_X11_asked___26, P_X11_thrown, P_X11_told, ↓reduceIte, ↓forall_eq, li0, li1, li2, li3, li4, li5, li6, li7, li8, li10, li20, li30, li35, li36, li60, li72, li100, li572, li2000, li2100, li9999, nI_lt_t, nI_lt_f, nI_le_t, nI_le_f, nI_eq_t, nI_eq_f, nI_eq_neg2, neg_eq_nI2, neg_lt2, neg_le2, nI_lt_neg2, nI_le_neg2, pred_t, pred_f, nI_clamp', vp_t, lt0_t, lt0_le, lt0_lt, lt0_eq, if_true, if_false, ite_true, ite_false, true_and, and_true, false_and, and_false, false_or, or_false, true_or, or_true, eq_self, fs_ne, fs_eq, fs_eq', st12, st13, st21, st23, st31, st32, not_true_eq_false, not_false_eq_true, em, em', en, en', et, et', eg, eg', ed, ed', es, es', eo', ee, ee', ev, ev']
                refine hI.end ?_
                repeat (first | exact Sm.refl _ | refine Sm.fs40 ?_ _ _ (by decide) | refine Sm.fsT ?_ _ _ _ _ rfl (by decide) (by decide))
        · by_cases hm5 : m < 5
          · first
              | exfalso; omega
              | simp (disch := first | omega | assumption) only [PL_2, P_L_station, P_X10_station, P_X11_station, P_X10_needCrossing, P_X11_isCrossing, P_X10_needRange, P_X7_add, P_X11_station_25, P_X11_in, P_X11_asked, P_X11_asked_10, P_X11_asked_, P_X11_asked__18, P_X11_asked__, P_X11_asked___26, P_X11_thrown, P_X11_told, ↓reduceIte, ↓forall_eq, li0, li1, li2, li3, li4, li5, li6, li7, li8, li10, li20, li30, li35, li36, li60, li72, li100, li572, li2000, li2100, li9999, nI_lt_t, nI_lt_f, nI_le_t, nI_le_f, nI_eq_t, nI_eq_f, nI_eq_neg2, neg_eq_nI2, neg_lt2, neg_le2, nI_lt_neg2, nI_le_neg2, pred_t, pred_f, nI_clamp', vp_t, lt0_t, lt0_le, lt0_lt, lt0_eq, if_true, if_false, ite_true, ite_false, true_and, and_true, false_and, and_false, false_or, or_false, true_or, or_true, eq_self, fs_ne, fs_eq, fs_eq', st12, st13, st21, st23, st31, st32, not_true_eq_false, not_false_eq_true, em, em', en, en', et, et', eg, eg', ed, ed', es, es', eo', ee, ee', ev, ev']
                refine hI.end ?_
                repeat (first | exact Sm.refl _ | refine Sm.fs40 ?_ _ _ (by decide) | refine Sm.fsT ?_ _ _ _ _ rfl (by decide) (by decide))
          · first
              | exfalso; omega
              | simp (disch := first | omega | assumption) only [PL_2, P_L_station, P_X10_station, P_X11_station, P_X10_needCrossing, P_X11_isCrossing, P_X10_needRange, P_X7_add, P_X11_station_25, P_X11_in, P_X11_asked, P_X11_asked_10, P_X11_asked_, P_X11_asked__18, P_X11_asked__, P_X11_asked___26, P_X11_thrown, P_X11_told, ↓reduceIte, ↓forall_eq, li0, li1, li2, li3, li4, li5, li6, li7, li8, li10, li20, li30, li35, li36, li60, li72, li100, li572, li2000, li2100, li9999, nI_lt_t, nI_lt_f, nI_le_t, nI_le_f, nI_eq_t, nI_eq_f, nI_eq_neg2, neg_eq_nI2, neg_lt2, neg_le2, nI_lt_neg2, nI_le_neg2, pred_t, pred_f, nI_clamp', vp_t, lt0_t, lt0_le, lt0_lt, lt0_eq, if_true, if_false, ite_true, ite_false, true_and, and_true, false_and, and_false, false_or, or_false, true_or, or_true, eq_self, fs_ne, fs_eq, fs_eq', st12, st13, st21, st23, st31, st32, not_true_eq_false, not_false_eq_true, em, em', en, en', et, et', eg, eg', ed, ed', es, es', eo', ee, ee', ev, ev']
                refine hI.end ?_
                repeat (first | exact Sm.refl _ | refine Sm.fs40 ?_ _ _ (by decide) | refine Sm.fsT ?_ _ _ _ _ rfl (by decide) (by decide))
    · rcases int_cases a2 with hneg_u | ⟨u, hbig_u, rfl⟩
      · by_cases hm5 : m < 5
        · first
            | exfalso; omega
            | simp (disch := first | omega | assumption) only [PL_2, P_L_station, P_X10_station, P_X11_station, P_X10_needCrossing, P_X11_isCrossing, P_X10_needRange, P_X7_add, P_X11_station_25, P_X11_in, P_X11_asked, P_X11_asked_10, P_X11_asked_, P_X11_asked__18, P_X11_asked__, P_X11_asked___26, P_X11_thrown, P_X11_told, ↓reduceIte, ↓forall_eq, li0, li1, li2, li3, li4, li5, li6, li7, li8, li10, li20, li30, li35, li36, li60, li72, li100, li572, li2000, li2100, li9999, nI_lt_t, nI_lt_f, nI_le_t, nI_le_f, nI_eq_t, nI_eq_f, nI_eq_neg2, neg_eq_nI2, neg_lt2, neg_le2, nI_lt_neg2, nI_le_neg2, pred_t, pred_f, nI_clamp', vp_t, lt0_t, lt0_le, lt0_lt, lt0_eq, if_true, if_false, ite_true, ite_false, true_and, and_true, false_and, and_false, false_or, or_false, true_or, or_true, eq_self, fs_ne, fs_eq, fs_eq', st12, st13, st21, st23, st31, st32, not_true_eq_false, not_false_eq_true, em, em', en, en', et, et', eg, eg', ed, ed', es, es', eo', ee, ee', ev, ev']
              refine hI.end ?_
              repeat (first | exact Sm.refl _ | refine Sm.fs40 ?_ _ _ (by decide) | refine Sm.fsT ?_ _ _ _ _ rfl (by decide) (by decide))
        · first
            | exfalso; omega
            | simp (disch := first | omega | assumption) only [PL_2, P_L_station, P_X10_station, P_X11_station, P_X10_needCrossing, P_X11_isCrossing, P_X10_needRange, P_X7_add, P_X11_station_25, P_X11_in, P_X11_asked, P_X11_asked_10, P_X11_asked_, P_X11_asked__18, P_X11_asked__, P_X11_asked___26, P_X11_thrown, P_X11_told, ↓reduceIte, ↓forall_eq, li0, li1, li2, li3, li4, li5, li6, li7, li8, li10, li20, li30, li35, li36, li60, li72, li100, li572, li2000, li2100, li9999, nI_lt_t, nI_lt_f, nI_le_t, nI_le_f, nI_eq_t, nI_eq_f, nI_eq_neg2, neg_eq_nI2, neg_lt2, neg_le2, nI_lt_neg2, nI_le_neg2, pred_t, pred_f, nI_clamp', vp_t, lt0_t, lt0_le, lt0_lt, lt0_eq, if_true, if_false, ite_true, ite_false, true_and, and_true, false_and, and_false, false_or, or_false, true_or, or_true, eq_self, fs_ne, fs_eq, fs_eq', st12, st13, st21, st23, st31, st32, not_true_eq_false, not_false_eq_true, em, em', en, en', et, et', eg, eg', ed, ed', es, es', eo', ee, ee', ev, ev']
              refine hI.end ?_
              repeat (first | exact Sm.refl _ | refine Sm.fs40 ?_ _ _ (by decide) | refine Sm.fsT ?_ _ _ _ _ rfl (by decide) (by decide))
      · by_cases hlt_u : u < 21
        · by_cases hm5 : m < 5
          · first
              | exfalso; omega
              | simp (disch := first | omega | assumption) only [PL_2, P_L_station, P_X10_station, P_X11_station, P_X10_needCrossing, P_X11_isCrossing, P_X10_needRange, P_X7_add, P_X11_station_25, P_X11_in, P_X11_asked, P_X11_asked_10, P_X11_asked_, P_X11_asked__18, P_X11_asked__, P_X11_asked___26, P_X11_thrown, P_X11_told, ↓reduceIte, ↓forall_eq, li0, li1, li2, li3, li4, li5, li6, li7, li8, li10, li20, li30, li35, li36, li60, li72, li100, li572, li2000, li2100, li9999, nI_lt_t, nI_lt_f, nI_le_t, nI_le_f, nI_eq_t, nI_eq_f, nI_eq_neg2, neg_eq_nI2, neg_lt2, neg_le2, nI_lt_neg2, nI_le_neg2, pred_t, pred_f, nI_clamp', vp_t, lt0_t, lt0_le, lt0_lt, lt0_eq, if_true, if_false, ite_true, ite_false, true_and, and_true, false_and, and_false, false_or, or_false, true_or, or_true, eq_self, fs_ne, fs_eq, fs_eq', st12, st13, st21, st23, st31, st32, not_true_eq_false, not_false_eq_true, em, em', en, en', et, et', eg, eg', ed, ed', es, es', eo', ee, ee', ev, ev']
                refine hI.end ?_
                repeat (first | exact Sm.refl _ | refine Sm.fs40 ?_ _ _ (by decide) | refine Sm.fsT ?_ _ _ _ _ rfl (by decide) (by decide))
          · first
              | exfalso; omega
              | simp (disch := first | omega | assumption) only [PL_2, P_L_station, P_X10_station, P_X11_station, P_X10_needCrossing, P_X11_isCrossing, P_X10_needRange, P_X7_add, P_X11_station_25, P_X11_in, P_X11_asked, P_X11_asked_10, P_X11_asked_, P_X11_asked__18, P_X11_asked__, P_X11_asked___26, P_X11_thrown, P_X11_told, ↓reduceIte, ↓forall_eq, li0, li1, li2, li3, li4, li5, li6, li7, li8, li10, li20, li30, li35, li36, li60, li72, li100, li572, li2000, li2100, li9999, nI_lt_t, nI_lt_f, nI_le_t, nI_le_f, nI_eq_t, nI_eq_f, nI_eq_neg2, neg_eq_nI2, neg_lt2, neg_le2, nI_lt_neg2, nI_le_neg2, pred_t, pred_f, nI_clamp', vp_t, lt0_t, lt0_le, lt0_lt, lt0_eq, if_true, if_false, ite_true, ite_false, true_and, and_true, false_and, and_false, false_or, or_false, true_or, or_true, eq_self, fs_ne, fs_eq, fs_eq', st12, st13, st21, st23, st31, st32, not_true_eq_false, not_false_eq_true, em, em', en, en', et, et', eg, eg', ed, ed', es, es', eo', ee, ee', ev, ev']
                refine hI.end ?_
                repeat (first | exact Sm.refl _ | refine Sm.fs40 ?_ _ _ (by decide) | refine Sm.fsT ?_ _ _ _ _ rfl (by decide) (by decide))
        · by_cases hm5 : m < 5
          · first
              | exfalso; omega
              | simp (disch := first | omega | assumption) only [PL_2, P_L_station, P_X10_station, P_X11_station, P_X10_needCrossing, P_X11_isCrossing, P_X10_needRange, P_X7_add, P_X11_station_25, P_X11_in, P_X11_asked, P_X11_asked_10, P_X11_asked_, P_X11_asked__18, P_X11_asked__, P_X11_asked___26, P_X11_thrown, P_X11_told, ↓reduceIte, ↓forall_eq, li0, li1, li2, li3, li4, li5, li6, li7, li8, li10, li20, li30, li35, li36, li60, li72, li100, li572, li2000, li2100, li9999, nI_lt_t, nI_lt_f, nI_le_t, nI_le_f, nI_eq_t, nI_eq_f, nI_eq_neg2, neg_eq_nI2, neg_lt2, neg_le2, nI_lt_neg2, nI_le_neg2, pred_t, pred_f, nI_clamp', vp_t, lt0_t, lt0_le, lt0_lt, lt0_eq, if_true, if_false, ite_true, ite_false, true_and, and_true, false_and, and_false, false_or, or_false, true_or, or_true, eq_self, fs_ne, fs_eq, fs_eq', st12, st13, st21, st23, st31, st32, not_true_eq_false, not_false_eq_true, em, em', en, en', et, et', eg, eg', ed, ed', es, es', eo', ee, ee', ev, ev']
                refine hI.end ?_
                repeat (first | exact Sm.refl _ | refine Sm.fs40 ?_ _ _ (by decide) | refine Sm.fsT ?_ _ _ _ _ rfl (by decide) (by decide))
          · first
              | exfalso; omega
              | simp (disch := first | omega | assumption) only [PL_2, P_L_station, P_X10_station, P_X11_station, P_X10_needCrossing, P_X11_isCrossing, P_X10_needRange, P_X7_add, P_X11_station_25, P_X11_in, P_X11_asked, P_X11_asked_10, P_X11_asked_, P_X11_asked__18, P_X11_asked__, P_X11_asked___26, P_X11_thrown, P_X11_told, ↓reduceIte, ↓forall_eq, li0, li1, li2, li3, li4, li5, li6, li7, li8, li10, li20, li30, li35, li36, li60, li72, li100, li572, li2000, li2100, li9999, nI_lt_t, nI_lt_f, nI_le_t, nI_le_f, nI_eq_t, nI_eq_f, nI_eq_neg2, neg_eq_nI2, neg_lt2, neg_le2, nI_lt_neg2, nI_le_neg2, pred_t, pred_f, nI_clamp', vp_t, lt0_t, lt0_le, lt0_lt, lt0_eq, if_true, if_false, ite_true, ite_false, true_and, and_true, false_and, and_false, false_or, or_false, true_or, or_true, eq_self, fs_ne, fs_eq, fs_eq', st12, st13, st21, st23, st31, st32, not_true_eq_false, not_false_eq_true, em, em', en, en', et, et', eg, eg', ed, ed', es, es', eo', ee, ee', ev, ev']
                refine hI.end ?_
                repeat (first | exact Sm.refl _ | refine Sm.fs40 ?_ _ _ (by decide) | refine Sm.fsT ?_ _ _ _ _ rfl (by decide) (by decide))
set_option maxHeartbeats 1000000 in
set_option maxRecDepth 20000 in
theorem m0 {k : Nat} {F : GF} (h : Inv k F) (a1 a2 a3 : Int32) : PL_0 a1 a2 a3 (Inv (k + 1)) F := by
  have hI := h
  obtain ⟨⟨q0, q1, q2, q3, q4, q5, q6, q7, q8, q9, q10, q11⟩, ⟨r0, r1, r2, r3, r4, r5, r6, r7, r8, r9, r10, r11, r12, r13, r14⟩, cb, lg⟩ := h
  have R1 := r1
  have R2 := r2
  have R3 := r3
  have R4 := r4
  obtain ⟨m, hm, em, hmc⟩ := r1
  have em' : F 40 0 6 = nI m := q2.1.trans em
  obtain ⟨n, hn, en⟩ := r2
  have en' : F 40 0 9 = nI n := q4.1.trans en
  obtain ⟨t, g, d, s, e, ht, et, hg, eg, hd, ed, hs, es, he, ee, hem, hg1, hg2, hg3⟩ := r3
  have et' : F 40 0 0 = nI t := q0.trans et
  have eg' : F 40 0 14 = nI g := q5.1.trans eg
  have ed' : F 40 0 15 = nI d := q5.2.1.trans ed
  have es' : F 40 0 16 = nI s := q5.2.2.1.trans es
  have eo' : F 40 0 17 = F 10 0 3 := q5.2.2.2.1
  have ee' : F 40 0 19 = nI e := q5.2.2.2.2.trans ee
  obtain ⟨⟨v, hv, ev⟩, hev⟩ := r4
  have ev' : F 40 0 26 = nI v := q8.1.trans ev
  by_cases h3 : a3 = nI 0
  · rcases int_cases a1 with hneg_x | ⟨x, hbig_x, rfl⟩
    · rcases int_cases a2 with hneg_y | ⟨y, hbig_y, rfl⟩
      · first
          | exfalso; omega
          | simp (disch := first | omega | assumption) only [PL_0, P_L_law_223, P_L_law_256, P_L_law_290, P_L_bar, P_L_bar_18, P_X10_bar, P_X9_setBarred, P_X10_needCrossing, P_X11_bar, P_X11_bar_18, P_X11_bar_19, P_X11_bar_35, P_X11_bar_51, P_X11_isCrossing, P_X11_in, P_X11_asked, P_X11_asked_10, P_X11_asked_, P_X11_asked__18, P_X11_asked__, P_X11_asked___26, P_X11_thrown, P_X11_told, ↓reduceIte, ↓forall_eq, li0, li1, li2, li3, li4, li5, li6, li7, li8, li10, li20, li30, li35, li36, li60, li72, li100, li572, li2000, li2100, li9999, nI_lt_t, nI_lt_f, nI_le_t, nI_le_f, nI_eq_t, nI_eq_f, nI_eq_neg2, neg_eq_nI2, neg_lt2, neg_le2, nI_lt_neg2, nI_le_neg2, pred_t, pred_f, nI_clamp', vp_t, lt0_t, lt0_le, lt0_lt, lt0_eq, if_true, if_false, ite_true, ite_false, true_and, and_true, false_and, and_false, false_or, or_false, true_or, or_true, eq_self, fs_ne, fs_eq, fs_eq', st12, st13, st21, st23, st31, st32, not_true_eq_false, not_false_eq_true, em, em', en, en', et, et', eg, eg', ed, ed', es, es', eo', ee, ee', ev, ev', h3]
            refine hI.end ?_
            repeat (first | exact Sm.refl _ | refine Sm.fs40 ?_ _ _ (by decide) | refine Sm.fsT ?_ _ _ _ _ rfl (by decide) (by decide))
      · by_cases hlt_y : y < 36
        · first
            | exfalso; omega
            | simp (disch := first | omega | assumption) only [PL_0, P_L_law_223, P_L_law_256, P_L_law_290, P_L_bar, P_L_bar_18, P_X10_bar, P_X9_setBarred, P_X10_needCrossing, P_X11_bar, P_X11_bar_18, P_X11_bar_19, P_X11_bar_35, P_X11_bar_51, P_X11_isCrossing, P_X11_in, P_X11_asked, P_X11_asked_10, P_X11_asked_, P_X11_asked__18, P_X11_asked__, P_X11_asked___26, P_X11_thrown, P_X11_told, ↓reduceIte, ↓forall_eq, li0, li1, li2, li3, li4, li5, li6, li7, li8, li10, li20, li30, li35, li36, li60, li72, li100, li572, li2000, li2100, li9999, nI_lt_t, nI_lt_f, nI_le_t, nI_le_f, nI_eq_t, nI_eq_f, nI_eq_neg2, neg_eq_nI2, neg_lt2, neg_le2, nI_lt_neg2, nI_le_neg2, pred_t, pred_f, nI_clamp', vp_t, lt0_t, lt0_le, lt0_lt, lt0_eq, if_true, if_false, ite_true, ite_false, true_and, and_true, false_and, and_false, false_or, or_false, true_or, or_true, eq_self, fs_ne, fs_eq, fs_eq', st12, st13, st21, st23, st31, st32, not_true_eq_false, not_false_eq_true, em, em', en, en', et, et', eg, eg', ed, ed', es, es', eo', ee, ee', ev, ev', h3]
              refine hI.end ?_
              repeat (first | exact Sm.refl _ | refine Sm.fs40 ?_ _ _ (by decide) | refine Sm.fsT ?_ _ _ _ _ rfl (by decide) (by decide))
        · first
            | exfalso; omega
            | simp (disch := first | omega | assumption) only [PL_0, P_L_law_223, P_L_law_256, P_L_law_290, P_L_bar, P_L_bar_18, P_X10_bar, P_X9_setBarred, P_X10_needCrossing, P_X11_bar, P_X11_bar_18, P_X11_bar_19, P_X11_bar_35, P_X11_bar_51, P_X11_isCrossing, P_X11_in, P_X11_asked, P_X11_asked_10, P_X11_asked_, P_X11_asked__18, P_X11_asked__, P_X11_asked___26, P_X11_thrown, P_X11_told, ↓reduceIte, ↓forall_eq, li0, li1, li2, li3, li4, li5, li6, li7, li8, li10, li20, li30, li35, li36, li60, li72, li100, li572, li2000, li2100, li9999, nI_lt_t, nI_lt_f, nI_le_t, nI_le_f, nI_eq_t, nI_eq_f, nI_eq_neg2, neg_eq_nI2, neg_lt2, neg_le2, nI_lt_neg2, nI_le_neg2, pred_t, pred_f, nI_clamp', vp_t, lt0_t, lt0_le, lt0_lt, lt0_eq, if_true, if_false, ite_true, ite_false, true_and, and_true, false_and, and_false, false_or, or_false, true_or, or_true, eq_self, fs_ne, fs_eq, fs_eq', st12, st13, st21, st23, st31, st32, not_true_eq_false, not_false_eq_true, em, em', en, en', et, et', eg, eg', ed, ed', es, es', eo', ee, ee', ev, ev', h3]
              refine hI.end ?_
              repeat (first | exact Sm.refl _ | refine Sm.fs40 ?_ _ _ (by decide) | refine Sm.fsT ?_ _ _ _ _ rfl (by decide) (by decide))
    · by_cases hlt_x : x < 36
      · rcases int_cases a2 with hneg_y | ⟨y, hbig_y, rfl⟩
        · first
            | exfalso; omega
            | simp (disch := first | omega | assumption) only [PL_0, P_L_law_223, P_L_law_256, P_L_law_290, P_L_bar, P_L_bar_18, P_X10_bar, P_X9_setBarred, P_X10_needCrossing, P_X11_bar, P_X11_bar_18, P_X11_bar_19, P_X11_bar_35, P_X11_bar_51, P_X11_isCrossing, P_X11_in, P_X11_asked, P_X11_asked_10, P_X11_asked_, P_X11_asked__18, P_X11_asked__, P_X11_asked___26, P_X11_thrown, P_X11_told, ↓reduceIte, ↓forall_eq, li0, li1, li2, li3, li4, li5, li6, li7, li8, li10, li20, li30, li35, li36, li60, li72, li100, li572, li2000, li2100, li9999, nI_lt_t, nI_lt_f, nI_le_t, nI_le_f, nI_eq_t, nI_eq_f, nI_eq_neg2, neg_eq_nI2, neg_lt2, neg_le2, nI_lt_neg2, nI_le_neg2, pred_t, pred_f, nI_clamp', vp_t, lt0_t, lt0_le, lt0_lt, lt0_eq, if_true, if_false, ite_true, ite_false, true_and, and_true, false_and, and_false, false_or, or_false, true_or, or_true, eq_self, fs_ne, fs_eq, fs_eq', st12, st13, st21, st23, st31, st32, not_true_eq_false, not_false_eq_true, em, em', en, en', et, et', eg, eg', ed, ed', es, es', eo', ee, ee', ev, ev', h3]
              refine hI.end ?_
              repeat (first | exact Sm.refl _ | refine Sm.fs40 ?_ _ _ (by decide) | refine Sm.fsT ?_ _ _ _ _ rfl (by decide) (by decide))
        · by_cases hlt_y : y < 36
          · rcases st_both hlt_x hlt_y with ⟨s1, s2⟩ | ⟨q, hq, ⟨s1, s2⟩ | ⟨s1, s2⟩⟩
            · simp (disch := first | omega | assumption) only [PL_0, P_L_law_223, P_L_law_256, P_L_law_290, P_L_bar, P_L_bar_18, P_X10_bar, P_X9_setBarred, P_X10_needCrossing, P_X11_bar, P_X11_bar_18, P_X11_bar_19, P_X11_bar_35, P_X11_bar_51, P_X11_isCrossing, P_X11_in, P_X11_asked, P_X11_asked_10, P_X11_asked_, P_X11_asked__18, P_X11_asked__, P_X11_asked___26, P_X11_thrown, P_X11_told, ↓reduceIte, ↓forall_eq, li0, li1, li2, li3, li4, li5, li6, li7, li8, li10, li20, li30, li35, li36, li60, li72, li100, li572, li2000, li2100, li9999, nI_lt_t, nI_lt_f, nI_le_t, nI_le_f, nI_eq_t, nI_eq_f, nI_eq_neg2, neg_eq_nI2, neg_lt2, neg_le2, nI_lt_neg2, nI_le_neg2, pred_t, pred_f, nI_clamp', vp_t, lt0_t, lt0_le, lt0_lt, lt0_eq, if_true, if_false, ite_true, ite_false, true_and, and_true, false_and, and_false, false_or, or_false, true_or, or_true, eq_self, fs_ne, fs_eq, fs_eq', st12, st13, st21, st23, st31, st32, not_true_eq_false, not_false_eq_true, em, em', en, en', et, et', eg, eg', ed, ed', es, es', eo', ee, ee', ev, ev', s1, s2, ↓st_clsE, ↓st_modE, neg_lit, h3]
              refine hI.end ?_
              repeat (first | exact Sm.refl _ | refine Sm.fs40 ?_ _ _ (by decide) | refine Sm.fsT ?_ _ _ _ _ rfl (by decide) (by decide))
            · have hbit := r0 (2 * q) (by omega)
              rcases hbit with hbit | hbit <;>
              · have hbit2 := (q1 q hq).1.trans hbit
                simp (disch := first | omega | assumption) only [PL_0, P_L_law_223, P_L_law_256, P_L_law_290, P_L_bar, P_L_bar_18, P_X10_bar, P_X9_setBarred, P_X10_needCrossing, P_X11_bar, P_X11_bar_18, P_X11_bar_19, P_X11_bar_35, P_X11_bar_51, P_X11_isCrossing, P_X11_in, P_X11_asked, P_X11_asked_10, P_X11_asked_, P_X11_asked__18, P_X11_asked__, P_X11_asked___26, P_X11_thrown, P_X11_told, ↓reduceIte, ↓forall_eq, li0, li1, li2, li3, li4, li5, li6, li7, li8, li10, li20, li30, li35, li36, li60, li72, li100, li572, li2000, li2100, li9999, nI_lt_t, nI_lt_f, nI_le_t, nI_le_f, nI_eq_t, nI_eq_f, nI_eq_neg2, neg_eq_nI2, neg_lt2, neg_le2, nI_lt_neg2, nI_le_neg2, pred_t, pred_f, nI_clamp', vp_t, lt0_t, lt0_le, lt0_lt, lt0_eq, if_true, if_false, ite_true, ite_false, true_and, and_true, false_and, and_false, false_or, or_false, true_or, or_true, eq_self, fs_ne, fs_eq, fs_eq', st12, st13, st21, st23, st31, st32, not_true_eq_false, not_false_eq_true, em, em', en, en', et, et', eg, eg', ed, ed', es, es', eo', ee, ee', ev, ev', s1, s2, ↓st_clsE, ↓st_modE, hbit, hbit2, h3]
                exact i0a hI hq (by decide) _ _
            · have hbit := r0 (2 * q + 1) (by omega)
              rcases hbit with hbit | hbit <;>
              · have hbit2 := (q1 q hq).2.trans hbit
                simp (disch := first | omega | assumption) only [PL_0, P_L_law_223, P_L_law_256, P_L_law_290, P_L_bar, P_L_bar_18, P_X10_bar, P_X9_setBarred, P_X10_needCrossing, P_X11_bar, P_X11_bar_18, P_X11_bar_19, P_X11_bar_35, P_X11_bar_51, P_X11_isCrossing, P_X11_in, P_X11_asked, P_X11_asked_10, P_X11_asked_, P_X11_asked__18, P_X11_asked__, P_X11_asked___26, P_X11_thrown, P_X11_told, ↓reduceIte, ↓forall_eq, li0, li1, li2, li3, li4, li5, li6, li7, li8, li10, li20, li30, li35, li36, li60, li72, li100, li572, li2000, li2100, li9999, nI_lt_t, nI_lt_f, nI_le_t, nI_le_f, nI_eq_t, nI_eq_f, nI_eq_neg2, neg_eq_nI2, neg_lt2, neg_le2, nI_lt_neg2, nI_le_neg2, pred_t, pred_f, nI_clamp', vp_t, lt0_t, lt0_le, lt0_lt, lt0_eq, if_true, if_false, ite_true, ite_false, true_and, and_true, false_and, and_false, false_or, or_false, true_or, or_true, eq_self, fs_ne, fs_eq, fs_eq', st12, st13, st21, st23, st31, st32, not_true_eq_false, not_false_eq_true, em, em', en, en', et, et', eg, eg', ed, ed', es, es', eo', ee, ee', ev, ev', s1, s2, ↓st_clsE, ↓st_modE, hbit, hbit2, h3]
                exact i0b hI hq (by decide) _ _
          · first
              | exfalso; omega
              | simp (disch := first | omega | assumption) only [PL_0, P_L_law_223, P_L_law_256, P_L_law_290, P_L_bar, P_L_bar_18, P_X10_bar, P_X9_setBarred, P_X10_needCrossing, P_X11_bar, P_X11_bar_18, P_X11_bar_19, P_X11_bar_35, P_X11_bar_51, P_X11_isCrossing, P_X11_in, P_X11_asked, P_X11_asked_10, P_X11_asked_, P_X11_asked__18, P_X11_asked__, P_X11_asked___26, P_X11_thrown, P_X11_told, ↓reduceIte, ↓forall_eq, li0, li1, li2, li3, li4, li5, li6, li7, li8, li10, li20, li30, li35, li36, li60, li72, li100, li572, li2000, li2100, li9999, nI_lt_t, nI_lt_f, nI_le_t, nI_le_f, nI_eq_t, nI_eq_f, nI_eq_neg2, neg_eq_nI2, neg_lt2, neg_le2, nI_lt_neg2, nI_le_neg2, pred_t, pred_f, nI_clamp', vp_t, lt0_t, lt0_le, lt0_lt, lt0_eq, if_true, if_false, ite_true, ite_false, true_and, and_true, false_and, and_false, false_or, or_false, true_or, or_true, eq_self, fs_ne, fs_eq, fs_eq', st12, st13, st21, st23, st31, st32, not_true_eq_false, not_false_eq_true, em, em', en, en', et, et', eg, eg', ed, ed', es, es', eo', ee, ee', ev, ev', h3]
                refine hI.end ?_
                repeat (first | exact Sm.refl _ | refine Sm.fs40 ?_ _ _ (by decide) | refine Sm.fsT ?_ _ _ _ _ rfl (by decide) (by decide))
      · rcases int_cases a2 with hneg_y | ⟨y, hbig_y, rfl⟩
        · first
            | exfalso; omega
            | simp (disch := first | omega | assumption) only [PL_0, P_L_law_223, P_L_law_256, P_L_law_290, P_L_bar, P_L_bar_18, P_X10_bar, P_X9_setBarred, P_X10_needCrossing, P_X11_bar, P_X11_bar_18, P_X11_bar_19, P_X11_bar_35, P_X11_bar_51, P_X11_isCrossing, P_X11_in, P_X11_asked, P_X11_asked_10, P_X11_asked_, P_X11_asked__18, P_X11_asked__, P_X11_asked___26, P_X11_thrown, P_X11_told, ↓reduceIte, ↓forall_eq, li0, li1, li2, li3, li4, li5, li6, li7, li8, li10, li20, li30, li35, li36, li60, li72, li100, li572, li2000, li2100, li9999, nI_lt_t, nI_lt_f, nI_le_t, nI_le_f, nI_eq_t, nI_eq_f, nI_eq_neg2, neg_eq_nI2, neg_lt2, neg_le2, nI_lt_neg2, nI_le_neg2, pred_t, pred_f, nI_clamp', vp_t, lt0_t, lt0_le, lt0_lt, lt0_eq, if_true, if_false, ite_true, ite_false, true_and, and_true, false_and, and_false, false_or, or_false, true_or, or_true, eq_self, fs_ne, fs_eq, fs_eq', st12, st13, st21, st23, st31, st32, not_true_eq_false, not_false_eq_true, em, em', en, en', et, et', eg, eg', ed, ed', es, es', eo', ee, ee', ev, ev', h3]
              refine hI.end ?_
              repeat (first | exact Sm.refl _ | refine Sm.fs40 ?_ _ _ (by decide) | refine Sm.fsT ?_ _ _ _ _ rfl (by decide) (by decide))
        · by_cases hlt_y : y < 36
          · first
              | exfalso; omega
              | simp (disch := first | omega | assumption) only [PL_0, P_L_law_223, P_L_law_256, P_L_law_290, P_L_bar, P_L_bar_18, P_X10_bar, P_X9_setBarred, P_X10_needCrossing, P_X11_bar, P_X11_bar_18, P_X11_bar_19, P_X11_bar_35, P_X11_bar_51, P_X11_isCrossing, P_X11_in, P_X11_asked, P_X11_asked_10, P_X11_asked_, P_X11_asked__18, P_X11_asked__, P_X11_asked___26, P_X11_thrown, P_X11_told, ↓reduceIte, ↓forall_eq, li0, li1, li2, li3, li4, li5, li6, li7, li8, li10, li20, li30, li35, li36, li60, li72, li100, li572, li2000, li2100, li9999, nI_lt_t, nI_lt_f, nI_le_t, nI_le_f, nI_eq_t, nI_eq_f, nI_eq_neg2, neg_eq_nI2, neg_lt2, neg_le2, nI_lt_neg2, nI_le_neg2, pred_t, pred_f, nI_clamp', vp_t, lt0_t, lt0_le, lt0_lt, lt0_eq, if_true, if_false, ite_true, ite_false, true_and, and_true, false_and, and_false, false_or, or_false, true_or, or_true, eq_self, fs_ne, fs_eq, fs_eq', st12, st13, st21, st23, st31, st32, not_true_eq_false, not_false_eq_true, em, em', en, en', et, et', eg, eg', ed, ed', es, es', eo', ee, ee', ev, ev', h3]
                refine hI.end ?_
                repeat (first | exact Sm.refl _ | refine Sm.fs40 ?_ _ _ (by decide) | refine Sm.fsT ?_ _ _ _ _ rfl (by decide) (by decide))
          · first
              | exfalso; omega
              | simp (disch := first | omega | assumption) only [PL_0, P_L_law_223, P_L_law_256, P_L_law_290, P_L_bar, P_L_bar_18, P_X10_bar, P_X9_setBarred, P_X10_needCrossing, P_X11_bar, P_X11_bar_18, P_X11_bar_19, P_X11_bar_35, P_X11_bar_51, P_X11_isCrossing, P_X11_in, P_X11_asked, P_X11_asked_10, P_X11_asked_, P_X11_asked__18, P_X11_asked__, P_X11_asked___26, P_X11_thrown, P_X11_told, ↓reduceIte, ↓forall_eq, li0, li1, li2, li3, li4, li5, li6, li7, li8, li10, li20, li30, li35, li36, li60, li72, li100, li572, li2000, li2100, li9999, nI_lt_t, nI_lt_f, nI_le_t, nI_le_f, nI_eq_t, nI_eq_f, nI_eq_neg2, neg_eq_nI2, neg_lt2, neg_le2, nI_lt_neg2, nI_le_neg2, pred_t, pred_f, nI_clamp', vp_t, lt0_t, lt0_le, lt0_lt, lt0_eq, if_true, if_false, ite_true, ite_false, true_and, and_true, false_and, and_false, false_or, or_false, true_or, or_true, eq_self, fs_ne, fs_eq, fs_eq', st12, st13, st21, st23, st31, st32, not_true_eq_false, not_false_eq_true, em, em', en, en', et, et', eg, eg', ed, ed', es, es', eo', ee, ee', ev, ev', h3]
                refine hI.end ?_
                repeat (first | exact Sm.refl _ | refine Sm.fs40 ?_ _ _ (by decide) | refine Sm.fsT ?_ _ _ _ _ rfl (by decide) (by decide))
  · rcases int_cases a1 with hneg_x | ⟨x, hbig_x, rfl⟩
    · rcases int_cases a2 with hneg_y | ⟨y, hbig_y, rfl⟩
      · first
          | exfalso; omega
          | simp (disch := first | omega | assumption) only [PL_0, P_L_law_223, P_L_law_256, P_L_law_290, P_L_bar, P_L_bar_18, P_X10_bar, P_X9_setBarred, P_X10_needCrossing, P_X11_bar, P_X11_bar_18, P_X11_bar_19, P_X11_bar_35, P_X11_bar_51, P_X11_isCrossing, P_X11_in, P_X11_asked, P_X11_asked_10, P_X11_asked_, P_X11_asked__18, P_X11_asked__, P_X11_asked___26, P_X11_thrown, P_X11_told, ↓reduceIte, ↓forall_eq, li0, li1, li2, li3, li4, li5, li6, li7, li8, li10, li20, li30, li35, li36, li60, li72, li100, li572, li2000, li2100, li9999, nI_lt_t, nI_lt_f, nI_le_t, nI_le_f, nI_eq_t, nI_eq_f, nI_eq_neg2, neg_eq_nI2, neg_lt2, neg_le2, nI_lt_neg2, nI_le_neg2, pred_t, pred_f, nI_clamp', vp_t, lt0_t, lt0_le, lt0_lt, lt0_eq, if_true, if_false, ite_true, ite_false, true_and, and_true, false_and, and_false, false_or, or_false, true_or, or_true, eq_self, fs_ne, fs_eq, fs_eq', st12, st13, st21, st23, st31, st32, not_true_eq_false, not_false_eq_true, em, em', en, en', et, et', eg, eg', ed, ed', es, es', eo', ee, ee', ev, ev', h3]
            refine hI.end ?_
            repeat (first | exact Sm.refl _ | refine Sm.fs40 ?_ _ _ (by decide) | refine Sm.fsT ?_ _ _ _ _ rfl (by decide) (by decide))
      · by_cases hlt_y : y < 36
        · first
            | exfalso; omega
            | simp (disch := first | omega | assumption) only [PL_0, P_L_law_223, P_L_law_256, P_L_law_290, P_L_bar, P_L_bar_18, P_X10_bar, P_X9_setBarred, P_X10_needCrossing, P_X11_bar, P_X11_bar_18, P_X11_bar_19, P_X11_bar_35, P_X11_bar_51, P_X11_isCrossing, P_X11_in, P_X11_asked, P_X11_asked_10, P_X11_asked_, P_X11_asked__18, P_X11_asked__, P_X11_asked___26, P_X11_thrown, P_X11_told, ↓reduceIte, ↓forall_eq, li0, li1, li2, li3, li4, li5, li6, li7, li8, li10, li20, li30, li35, li36, li60, li72, li100, li572, li2000, li2100, li9999, nI_lt_t, nI_lt_f, nI_le_t, nI_le_f, nI_eq_t, nI_eq_f, nI_eq_neg2, neg_eq_nI2, neg_lt2, neg_le2, nI_lt_neg2, nI_le_neg2, pred_t, pred_f, nI_clamp', vp_t, lt0_t, lt0_le, lt0_lt, lt0_eq, if_true, if_false, ite_true, ite_false, true_and, and_true, false_and, and_false, false_or, or_false, true_or, or_true, eq_self, fs_ne, fs_eq, fs_eq', st12, st13, st21, st23, st31, st32, not_true_eq_false, not_false_eq_true, em, em', en, en', et, et', eg, eg', ed, ed', es, es', eo', ee, ee', ev, ev', h3]
              refine hI.end ?_
              repeat (first | exact Sm.refl _ | refine Sm.fs40 ?_ _ _ (by decide) | refine Sm.fsT ?_ _ _ _ _ rfl (by decide) (by decide))
        · first
            | exfalso; omega
            | simp (disch := first | omega | assumption) only [PL_0, P_L_law_223, P_L_law_256, P_L_law_290, P_L_bar, P_L_bar_18, P_X10_bar, P_X9_setBarred, P_X10_needCrossing, P_X11_bar, P_X11_bar_18, P_X11_bar_19, P_X11_bar_35, P_X11_bar_51, P_X11_isCrossing, P_X11_in, P_X11_asked, P_X11_asked_10, P_X11_asked_, P_X11_asked__18, P_X11_asked__, P_X11_asked___26, P_X11_thrown, P_X11_told, ↓reduceIte, ↓forall_eq, li0, li1, li2, li3, li4, li5, li6, li7, li8, li10, li20, li30, li35, li36, li60, li72, li100, li572, li2000, li2100, li9999, nI_lt_t, nI_lt_f, nI_le_t, nI_le_f, nI_eq_t, nI_eq_f, nI_eq_neg2, neg_eq_nI2, neg_lt2, neg_le2, nI_lt_neg2, nI_le_neg2, pred_t, pred_f, nI_clamp', vp_t, lt0_t, lt0_le, lt0_lt, lt0_eq, if_true, if_false, ite_true, ite_false, true_and, and_true, false_and, and_false, false_or, or_false, true_or, or_true, eq_self, fs_ne, fs_eq, fs_eq', st12, st13, st21, st23, st31, st32, not_true_eq_false, not_false_eq_true, em, em', en, en', et, et', eg, eg', ed, ed', es, es', eo', ee, ee', ev, ev', h3]
              refine hI.end ?_
              repeat (first | exact Sm.refl _ | refine Sm.fs40 ?_ _ _ (by decide) | refine Sm.fsT ?_ _ _ _ _ rfl (by decide) (by decide))
    · by_cases hlt_x : x < 36
      · rcases int_cases a2 with hneg_y | ⟨y, hbig_y, rfl⟩
        · first
            | exfalso; omega
            | simp (disch := first | omega | assumption) only [PL_0, P_L_law_223, P_L_law_256, P_L_law_290, P_L_bar, P_L_bar_18, P_X10_bar, P_X9_setBarred, P_X10_needCrossing, P_X11_bar, P_X11_bar_18, P_X11_bar_19, P_X11_bar_35, P_X11_bar_51, P_X11_isCrossing, P_X11_in, P_X11_asked, P_X11_asked_10, P_X11_asked_, P_X11_asked__18, P_X11_asked__, P_X11_asked___26, P_X11_thrown, P_X11_told, ↓reduceIte, ↓forall_eq, li0, li1, li2, li3, li4, li5, li6, li7, li8, li10, li20, li30, li35, li36, li60, li72, li100, li572, li2000, li2100, li9999, nI_lt_t, nI_lt_f, nI_le_t, nI_le_f, nI_eq_t, nI_eq_f, nI_eq_neg2, neg_eq_nI2, neg_lt2, neg_le2, nI_lt_neg2, nI_le_neg2, pred_t, pred_f, nI_clamp', vp_t, lt0_t, lt0_le, lt0_lt, lt0_eq, if_true, if_false, ite_true, ite_false, true_and, and_true, false_and, and_false, false_or, or_false, true_or, or_true, eq_self, fs_ne, fs_eq, fs_eq', st12, st13, st21, st23, st31, st32, not_true_eq_false, not_false_eq_true, em, em', en, en', et, et', eg, eg', ed, ed', es, es', eo', ee, ee', ev, ev', h3]
              refine hI.end ?_
              repeat (first | exact Sm.refl _ | refine Sm.fs40 ?_ _ _ (by decide) | refine Sm.fsT ?_ _ _ _ _ rfl (by decide) (by decide))
        · by_cases hlt_y : y < 36
          · rcases st_both hlt_x hlt_y with ⟨s1, s2⟩ | ⟨q, hq, ⟨s1, s2⟩ | ⟨s1, s2⟩⟩
            · simp (disch := first | omega | assumption) only [PL_0, P_L_law_223, P_L_law_256, P_L_law_290, P_L_bar, P_L_bar_18, P_X10_bar, P_X9_setBarred, P_X10_needCrossing, P_X11_bar, P_X11_bar_18, P_X11_bar_19, P_X11_bar_35, P_X11_bar_51, P_X11_isCrossing, P_X11_in, P_X11_asked, P_X11_asked_10, P_X11_asked_, P_X11_asked__18, P_X11_asked__, P_X11_asked___26, P_X11_thrown, P_X11_told, ↓reduceIte, ↓forall_eq, li0, li1, li2, li3, li4, li5, li6, li7, li8, li10, li20, li30, li35, li36, li60, li72, li100, li572, li2000, li2100, li9999, nI_lt_t, nI_lt_f, nI_le_t, nI_le_f, nI_eq_t, nI_eq_f, nI_eq_neg2, neg_eq_nI2, neg_lt2, neg_le2, nI_lt_neg2, nI_le_neg2, pred_t, pred_f, nI_clamp', vp_t, lt0_t, lt0_le, lt0_lt, lt0_eq, if_true, if_false, ite_true, ite_false, true_and, and_true, false_and, and_false, false_or, or_false, true_or, or_true, eq_self, fs_ne, fs_eq, fs_eq', st12, st13, st21, st23, st31, st32, not_true_eq_false, not_false_eq_true, em, em', en, en', et, et', eg, eg', ed, ed', es, es', eo', ee, ee', ev, ev', s1, s2, ↓st_clsE, ↓st_modE, neg_lit, h3]
              refine hI.end ?_
              repeat (first | exact Sm.refl _ | refine Sm.fs40 ?_ _ _ (by decide) | refine Sm.fsT ?_ _ _ _ _ rfl (by decide) (by decide))
            · have hbit := r0 (2 * q) (by omega)
              rcases hbit with hbit | hbit <;>
              · have hbit2 := (q1 q hq).1.trans hbit
                simp (disch := first | omega | assumption) only [PL_0, P_L_law_223, P_L_law_256, P_L_law_290, P_L_bar, P_L_bar_18, P_X10_bar, P_X9_setBarred, P_X10_needCrossing, P_X11_bar, P_X11_bar_18, P_X11_bar_19, P_X11_bar_35, P_X11_bar_51, P_X11_isCrossing, P_X11_in, P_X11_asked, P_X11_asked_10, P_X11_asked_, P_X11_asked__18, P_X11_asked__, P_X11_asked___26, P_X11_thrown, P_X11_told, ↓reduceIte, ↓forall_eq, li0, li1, li2, li3, li4, li5, li6, li7, li8, li10, li20, li30, li35, li36, li60, li72, li100, li572, li2000, li2100, li9999, nI_lt_t, nI_lt_f, nI_le_t, nI_le_f, nI_eq_t, nI_eq_f, nI_eq_neg2, neg_eq_nI2, neg_lt2, neg_le2, nI_lt_neg2, nI_le_neg2, pred_t, pred_f, nI_clamp', vp_t, lt0_t, lt0_le, lt0_lt, lt0_eq, if_true, if_false, ite_true, ite_false, true_and, and_true, false_and, and_false, false_or, or_false, true_or, or_true, eq_self, fs_ne, fs_eq, fs_eq', st12, st13, st21, st23, st31, st32, not_true_eq_false, not_false_eq_true, em, em', en, en', et, et', eg, eg', ed, ed', es, es', eo', ee, ee', ev, ev', s1, s2, ↓st_clsE, ↓st_modE, hbit, hbit2, h3]
                exact i0a hI hq (by decide) _ _
            · have hbit := r0 (2 * q + 1) (by omega)
              rcases hbit with hbit | hbit <;>
              · have hbit2 := (q1 q hq).2.trans hbit
                simp (disch := first | omega | assumption) only [PL_0, P_L_law_223, P_L_law_256, P_L_law_290, P_L_bar, P_L_bar_18, P_X10_bar, P_X9_setBarred, P_X10_needCrossing, P_X11_bar, P_X11_bar_18, P_X11_bar_19, P_X11_bar_35, P_X11_bar_51, P_X11_isCrossing, P_X11_in, P_X11_asked, P_X11_asked_10, P_X11_asked_, P_X11_asked__18, P_X11_asked__, P_X11_asked___26, P_X11_thrown, P_X11_told, ↓reduceIte, ↓forall_eq, li0, li1, li2, li3, li4, li5, li6, li7, li8, li10, li20, li30, li35, li36, li60, li72, li100, li572, li2000, li2100, li9999, nI_lt_t, nI_lt_f, nI_le_t, nI_le_f, nI_eq_t, nI_eq_f, nI_eq_neg2, neg_eq_nI2, neg_lt2, neg_le2, nI_lt_neg2, nI_le_neg2, pred_t, pred_f, nI_clamp', vp_t, lt0_t, lt0_le, lt0_lt, lt0_eq, if_true, if_false, ite_true, ite_false, true_and, and_true, false_and, and_false, false_or, or_false, true_or, or_true, eq_self, fs_ne, fs_eq, fs_eq', st12, st13, st21, st23, st31, st32, not_true_eq_false, not_false_eq_true, em, em', en, en', et, et', eg, eg', ed, ed', es, es', eo', ee, ee', ev, ev', s1, s2, ↓st_clsE, ↓st_modE, hbit, hbit2, h3]
                exact i0b hI hq (by decide) _ _
          · first
              | exfalso; omega
              | simp (disch := first | omega | assumption) only [PL_0, P_L_law_223, P_L_law_256, P_L_law_290, P_L_bar, P_L_bar_18, P_X10_bar, P_X9_setBarred, P_X10_needCrossing, P_X11_bar, P_X11_bar_18, P_X11_bar_19, P_X11_bar_35, P_X11_bar_51, P_X11_isCrossing, P_X11_in, P_X11_asked, P_X11_asked_10, P_X11_asked_, P_X11_asked__18, P_X11_asked__, P_X11_asked___26, P_X11_thrown, P_X11_told, ↓reduceIte, ↓forall_eq, li0, li1, li2, li3, li4, li5, li6, li7, li8, li10, li20, li30, li35, li36, li60, li72, li100, li572, li2000, li2100, li9999, nI_lt_t, nI_lt_f, nI_le_t, nI_le_f, nI_eq_t, nI_eq_f, nI_eq_neg2, neg_eq_nI2, neg_lt2, neg_le2, nI_lt_neg2, nI_le_neg2, pred_t, pred_f, nI_clamp', vp_t, lt0_t, lt0_le, lt0_lt, lt0_eq, if_true, if_false, ite_true, ite_false, true_and, and_true, false_and, and_false, false_or, or_false, true_or, or_true, eq_self, fs_ne, fs_eq, fs_eq', st12, st13, st21, st23, st31, st32, not_true_eq_false, not_false_eq_true, em, em', en, en', et, et', eg, eg', ed, ed', es, es', eo', ee, ee', ev, ev', h3]
                refine hI.end ?_
                repeat (first | exact Sm.refl _ | refine Sm.fs40 ?_ _ _ (by decide) | refine Sm.fsT ?_ _ _ _ _ rfl (by decide) (by decide))
      · rcases int_cases a2 with hneg_y | ⟨y, hbig_y, rfl⟩
        · first
            | exfalso; omega
            | simp (disch := first | omega | assumption) only [PL_0, P_L_law_223, P_L_law_256, P_L_law_290, P_L_bar, P_L_bar_18, P_X10_bar, P_X9_setBarred, P_X10_needCrossing, P_X11_bar, P_X11_bar_18, P_X11_bar_19, P_X11_bar_35, P_X11_bar_51, P_X11_isCrossing, P_X11_in, P_X11_asked, P_X11_asked_10, P_X11_asked_, P_X11_asked__18, P_X11_asked__, P_X11_asked___26, P_X11_thrown, P_X11_told, ↓reduceIte, ↓forall_eq, li0, li1, li2, li3, li4, li5, li6, li7, li8, li10, li20, li30, li35, li36, li60, li72, li100, li572, li2000, li2100, li9999, nI_lt_t, nI_lt_f, nI_le_t, nI_le_f, nI_eq_t, nI_eq_f, nI_eq_neg2, neg_eq_nI2, neg_lt2, neg_le2, nI_lt_neg2, nI_le_neg2, pred_t, pred_f, nI_clamp', vp_t, lt0_t, lt0_le, lt0_lt, lt0_eq, if_true, if_false, ite_true, ite_false, true_and, and_true, false_and, and_false, false_or, or_false, true_or, or_true, eq_self, fs_ne, fs_eq, fs_eq', st12, st13, st21, st23, st31, st32, not_true_eq_false, not_false_eq_true, em, em', en, en', et, et', eg, eg', ed, ed', es, es', eo', ee, ee', ev, ev', h3]
              refine hI.end ?_
              repeat (first | exact Sm.refl _ | refine Sm.fs40 ?_ _ _ (by decide) | refine Sm.fsT ?_ _ _ _ _ rfl (by decide) (by decide))
        · by_cases hlt_y : y < 36
          · first
              | exfalso; omega
              | simp (disch := first | omega | assumption) only [PL_0, P_L_law_223, P_L_law_256, P_L_law_290, P_L_bar, P_L_bar_18, P_X10_bar, P_X9_setBarred, P_X10_needCrossing, P_X11_bar, P_X11_bar_18, P_X11_bar_19, P_X11_bar_35, P_X11_bar_51, P_X11_isCrossing, P_X11_in, P_X11_asked, P_X11_asked_10, P_X11_asked_, P_X11_asked__18, P_X11_asked__, P_X11_asked___26, P_X11_thrown, P_X11_told, ↓reduceIte, ↓forall_eq, li0, li1, li2, li3, li4, li5, li6, li7, li8, li10, li20, li30, li35, li36, li60, li72, li100, li572, li2000, li2100, li9999, nI_lt_t, nI_lt_f, nI_le_t, nI_le_f, nI_eq_t, nI_eq_f, nI_eq_neg2, neg_eq_nI2, neg_lt2, neg_le2, nI_lt_neg2, nI_le_neg2, pred_t, pred_f, nI_clamp', vp_t, lt0_t, lt0_le, lt0_lt, lt0_eq, if_true, if_false, ite_true, ite_false, true_and, and_true, false_and, and_false, false_or, or_false, true_or, or_true, eq_self, fs_ne, fs_eq, fs_eq', st12, st13, st21, st23, st31, st32, not_true_eq_false, not_false_eq_true, em, em', en, en', et, et', eg, eg', ed, ed', es, es', eo', ee, ee', ev, ev', h3]
                refine hI.end ?_
                repeat (first | exact Sm.refl _ | refine Sm.fs40 ?_ _ _ (by decide) | refine Sm.fsT ?_ _ _ _ _ rfl (by decide) (by decide))
          · first
              | exfalso; omega
              | simp (disch := first | omega | assumption) only [PL_0, P_L_law_223, P_L_law_256, P_L_law_290, P_L_bar, P_L_bar_18, P_X10_bar, P_X9_setBarred, P_X10_needCrossing, P_X11_bar, P_X11_bar_18, P_X11_bar_19, P_X11_bar_35, P_X11_bar_51, P_X11_isCrossing, P_X11_in, P_X11_asked, P_X11_asked_10, P_X11_asked_, P_X11_asked__18, P_X11_asked__, P_X11_asked___26, P_X11_thrown, P_X11_told, ↓reduceIte, ↓forall_eq, li0, li1, li2, li3, li4, li5, li6, li7, li8, li10, li20, li30, li35, li36, li60, li72, li100, li572, li2000, li2100, li9999, nI_lt_t, nI_lt_f, nI_le_t, nI_le_f, nI_eq_t, nI_eq_f, nI_eq_neg2, neg_eq_nI2, neg_lt2, neg_le2, nI_lt_neg2, nI_le_neg2, pred_t, pred_f, nI_clamp', vp_t, lt0_t, lt0_le, lt0_lt, lt0_eq, if_true, if_false, ite_true, ite_false, true_and, and_true, false_and, and_false, false_or, or_false, true_or, or_true, eq_self, fs_ne, fs_eq, fs_eq', st12, st13, st21, st23, st31, st32, not_true_eq_false, not_false_eq_true, em, em', en, en', et, et', eg, eg', ed, ed', es, es', eo', ee, ee', ev, ev', h3]
                refine hI.end ?_
                repeat (first | exact Sm.refl _ | refine Sm.fs40 ?_ _ _ (by decide) | refine Sm.fsT ?_ _ _ _ _ rfl (by decide) (by decide))
