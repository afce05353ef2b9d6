def eN (F : GF) : Nat := (F 10 0 4).toNatClampNeg
def sN (F : GF) : Nat := (F 10 0 2).toNatClampNeg
def sdN (F : GF) (p : Nat) : Nat := (F 11 0 p).toNatClampNeg
def uN (F : GF) (k p : Nat) : Nat := (F 32 (8 * k + (F 28 k 5).toNatClampNeg) p).toNatClampNeg
def uB (F : GF) (k p : Nat) : Nat := cntN (F 29 k) (nI p) (F 28 k 1).toNatClampNeg
def VN (F : GF) (p : Nat) : Nat := sumU (fun k => uN F k p) (eN F)
def VB (F : GF) (p : Nat) : Nat := sumU (fun k => uB F k p) (eN F)
def nG (V : Nat → Nat) (s : Nat) : Nat := if V 0 + V 1 + V 2 + V 3 + V 4 = 0 then 0 else s
theorem nG_of {V : Nat → Nat} {s n : Nat} (h : (∃ p, p < 5 ∧ 0 < V p) ∧ n = s ∨ (∀ p, p < 5 → V p = 0) ∧ n = 0) : n = nG V s := by
  unfold nG
  rcases h with ⟨⟨p, h1, h2⟩, rfl⟩ | ⟨h1, rfl⟩
  · rw [if_neg]
    intro z
    have : p = 0 ∨ p = 1 ∨ p = 2 ∨ p = 3 ∨ p = 4 := by omega
    rcases this with rfl | rfl | rfl | rfl | rfl <;> omega
  · rw [if_pos]
    rw [h1 0 (by omega), h1 1 (by omega), h1 2 (by omega), h1 3 (by omega), h1 4 (by omega)]
/-- what both sides come to -/
def RS (V : Nat → Nat) (F : GF) : (Nat → Nat) × Nat × Nat × (Nat → Nat) := gsq V (F 10 0 3) (sumU (sdN F) 5) (nG V (sN F))
def CRes (V : Nat → Nat) (F F2 : GF) : Prop := (∀ f, f ≠ 27 → f ≠ 34 → f ≠ 35 → f ≠ 36 → f ≠ 37 → F2 f = F f) ∧ (∀ p, p < 5 → F2 35 0 p = nI ((RS V F).1 p)) ∧ F2 27 0 4 = nI (nG V (sN F)) ∧ F2 27 0 5 = nI (RS V F).2.2.1 ∧ ∀ j, j < nG V (sN F) → F2 36 0 j = nI ((RS V F).2.2.2 j)
def MRes (V : Nat → Nat) (F F0 F2 : GF) : Prop := (∀ f, f ≠ 65 → f ≠ 66 → f ≠ 67 → f ≠ 40 → F2 f = F0 f) ∧ (∀ j, j ≠ 37 → j ≠ 38 → F2 40 0 j = F0 40 0 j) ∧ (∀ p, p < 5 → F2 65 0 p = nI (V p)) ∧ (∀ p, p < 5 → F2 66 0 p = nI ((RS V F).1 p)) ∧ F2 40 0 37 = nI (nG V (sN F)) ∧ F2 40 0 38 = nI (RS V F).2.2.1 ∧ ∀ j, j < nG V (sN F) → F2 67 0 j = nI ((RS V F).2.2.2 j)
/-- what is known of an election's figures -/
theorem el_facts {k : Nat} {F : GF} (h : Inv k F) : F 10 0 4 = nI (eN F) ∧ eN F ≤ 5 ∧ F 10 0 2 = nI (sN F) ∧ sN F ≤ 30 ∧ (∀ p, p < 5 → F 11 0 p = nI (sdN F p)) ∧ sumU (sdN F) 5 < 100000 ∧ F 40 0 19 = nI (eN F) ∧ F 40 0 16 = nI (sN F) ∧ (∀ p, p < 5 → F 51 0 p = nI (sdN F p)) ∧ F 40 0 17 = F 10 0 3 := by
  obtain ⟨⟨q0, q1, q2, q3, q4, q5, q6, q7, q8, q9, q10, q11⟩, ⟨r0, r1, r2, r3, r4, r5, r6, r7, r8, r9, r10, r11, r12, r13, r14⟩, cb, lg⟩ := h
  obtain ⟨t, g, d, s, e, ht, et, hg, eg, hd, ed, hs, es, he, ee, hem, hg1, hg2, hg3⟩ := r3
  have e1 : eN F = e := by unfold eN; rw [ee, nI_clamp' (by omega)]
  have e2 : sN F = s := by unfold sN; rw [es, nI_clamp' (by omega)]
  have e3 : ∀ p, p < 5 → F 11 0 p = nI (sdN F p) ∧ sdN F p ≤ 9999 := by
    intro p hp
    obtain ⟨v, hv, ev⟩ := r12 p hp
    have : sdN F p = v := by unfold sdN; rw [ev, nI_clamp' (by omega)]
    rw [this]
    exact ⟨ev, hv⟩
  have e4 : sumU (sdN F) 5 ≤ 9999 * 5 := sumU_le 5 (fun i hi => (e3 i hi).2)
  rw [e1, e2]
  exact ⟨ee, he, es, hs, fun p hp => (e3 p hp).1, by omega, q5.2.2.2.2.trans ee, q5.2.2.1.trans es, fun p hp => (q6 p hp).trans (e3 p hp).1, q5.2.2.2.1⟩
theorem num_facts {k : Nat} {F : GF} (h : Inv k F) (h5 : F 10 0 0 = 5) : ∀ i, i < eN F → ∃ w, w < 8 ∧ F 28 i 5 = nI w ∧ F 63 0 i = nI (8 * i + w) ∧ (F 28 i 5).toNatClampNeg = w ∧ ∀ p, p < 6 → F 32 (8 * i + w) p = nI (uN F i p) ∧ uN F i p ≤ 20 ∧ F 60 0 (6 * (8 * i + w) + p) = nI (uN F i p) := by
  intro i hi
  obtain ⟨f1, f2, -⟩ := el_facts h
  obtain ⟨⟨q0, q1, q2, q3, q4, q5, q6, q7, q8, q9, q10, q11⟩, ⟨r0, r1, r2, r3, r4, r5, r6, r7, r8, r9, r10, r11, r12, r13, r14⟩, cb, lg⟩ := h
  have hi5 : i < 5 := by omega
  have hset := r10 h5 i hi5 (by rw [f1]; exact nI_lt hi (by omega))
  rcases (r7 i hi5).2.1 with ⟨x1, -⟩ | ⟨w, hw, x1, x2⟩
  · exact absurd x1 hset
  · have hcl : (F 28 i 5).toNatClampNeg = w := by rw [x1, nI_clamp' (by omega)]
    refine ⟨w, hw, x1, x2, hcl, fun p hp => ?_⟩
    obtain ⟨v, hv, ev⟩ := r9 (8 * i + w) (by omega) p hp
    have hu : uN F i p = v := by unfold uN; rw [hcl, ev, nI_clamp' (by omega)]
    rw [hu]
    exact ⟨ev, hv, (q10 (8 * i + w) (by omega) p hp).trans ev⟩
theorem box_facts {k : Nat} {F : GF} (h : Inv k F) : ∀ i, i < 5 → ∃ z, z ≤ 20 ∧ F 28 i 1 = nI z ∧ F 59 0 i = nI z ∧ (F 28 i 1).toNatClampNeg = z ∧ (∀ x, cntN (fun j => F 58 0 (20 * i + j)) x z = cntN (F 29 i) x z) ∧ ∀ p, uB F i p ≤ 20 := by
  intro i hi
  obtain ⟨⟨q0, q1, q2, q3, q4, q5, q6, q7, q8, q9, q10, q11⟩, ⟨r0, r1, r2, r3, r4, r5, r6, r7, r8, r9, r10, r11, r12, r13, r14⟩, cb, lg⟩ := h
  obtain ⟨z, hz, ez⟩ := r8 i hi
  have hv := voters_le (F := F) 20
  have hcl : (F 28 i 1).toNatClampNeg = z := by rw [ez, nI_clamp' (by omega)]
  refine ⟨z, by omega, ez, (q9 i hi).1.trans ez, hcl, fun x => cntN_congr z (fun j hj => (q9 i hi).2.2.1 j (by omega)), fun p => ?_⟩
  have := cntN_le (b := F 29 i) (x := nI p) z
  unfold uB
  rw [hcl]
  omega
theorem gN_cls {k : Nat} {F : GF} {K : GF → Prop} (h : Inv k F) (h5 : F 10 0 0 = 5) (hK : ∀ F2, CRes (VN F) F F2 → K F2) : P_X10_giveByNumbers F K := by
  obtain ⟨f1, f2, f3, f4, f5, f6, -⟩ := el_facts h
  have hn := num_facts h h5
  refine gbNumbers (V := VN F) (sd := sdN F) f4 f3 rfl f5 f6 (fun q hq => ?_) (fun p hp F1 hF K' hK' => ?_) (fun F1 F2 n hF hn2 hG => ?_)
  · have := sumU_le (u := fun k => uN F k q) (c := 20) (eN F) (fun i hi => by
      obtain ⟨w, -, -, -, -, hx⟩ := hn i hi
      exact (hx q (by omega)).2.1)
    unfold VN
    omega
  · refine nf_cls (e := eN F) (w := fun i => (F 28 i 5).toNatClampNeg) (u := fun i => uN F i p) (by rw [hF 10 (by decide)]; exact f1) f2 (by omega) (fun i hi => ?_) hK'
    obtain ⟨w, hw, x1, -, hcl, hx⟩ := hn i hi
    rw [hF 28 (by decide), hF 32 (by decide), hcl]
    exact ⟨x1, hw, (hx p (by omega)).1⟩
  · have e := nG_of hn2
    subst e
    obtain ⟨g1, g2, g3, g4, g5, g6⟩ := hG
    exact hK F2 ⟨fun f a b c d e => (g1 f a c d e).trans (hF f b), g2, g3, g4, g6⟩
theorem gB_cls {k : Nat} {F : GF} {K : GF → Prop} (h : Inv k F) (hK : ∀ F2, CRes (VB F) F F2 → K F2) : P_X10_giveByBallots F K := by
  obtain ⟨f1, f2, f3, f4, f5, f6, -⟩ := el_facts h
  have hn := box_facts h
  refine gbBallots (V := VB F) (sd := sdN F) f4 f3 rfl f5 f6 (fun q hq => ?_) (fun p hp F1 hF K' hK' => ?_) (fun F1 F2 n hF hn2 hG => ?_)
  · have := sumU_le (u := fun k => uB F k q) (c := 20) (eN F) (fun i hi => by
      obtain ⟨z, -, -, -, -, -, hx⟩ := hn i (by omega)
      exact hx q)
    unfold VB
    omega
  · refine bfs_cls (e := eN F) (z := fun i => (F 28 i 1).toNatClampNeg) (u := fun i => uB F i p) (by rw [hF 10 (by decide)]; exact f1) f2 (fun i hi => ?_) hK'
    obtain ⟨z, hz, x1, -, hcl, -⟩ := hn i (by omega)
    rw [hF 28 (by decide), hF 29 (by decide), hcl]
    refine ⟨x1, hz, ?_⟩
    unfold uB
    rw [hcl]
  · have e := nG_of hn2
    subst e
    obtain ⟨g1, g2, g3, g4, g5, g6⟩ := hG
    exact hK F2 ⟨fun f a b c d e => (g1 f a c d e).trans (hF f b), g2, g3, g4, g6⟩
theorem g_mod {k : Nat} {F F0 : GF} {x1 : Int32} {u : Nat → Nat → Nat} {K : GF → Prop} (h : Inv k F) (hS : Sm F F0) (hu : UM F0 x1 (eN F) u) (hub : ∀ i p, i < eN F → p < 5 → u i p ≤ 20) (hK : ∀ F2, MRes (fun p => sumU (fun i => u i p) (eN F)) F F0 F2 → K F2) : P_X11_gives F0 x1 K := by
  obtain ⟨f1, f2, f3, f4, f5, f6, f7, f8, f9, f10⟩ := el_facts h
  have m : ∀ j, j ≠ 37 → j ≠ 38 → j ≠ 43 → F0 40 0 j = F 40 0 j := hS.2.1
  have h17 : F0 40 0 17 = F 10 0 3 := (m 17 (by decide) (by decide) (by decide)).trans f10
  refine gs_mod (e := eN F) (s := sN F) (u := u) (sd := sdN F) hu hub f2 f4 ((m 19 (by decide) (by decide) (by decide)).trans f7) ((m 16 (by decide) (by decide) (by decide)).trans f8) (fun p hp => by rw [hS.1 51 rfl]; exact f9 p hp) f6 (fun F1 F2 n h1 h2 hn hG => ?_)
  have e := nG_of hn
  subst e
  obtain ⟨g1, g2, g3, g4, g5, g6, g7⟩ := hG
  rw [h17] at g4 g6 g7
  exact hK F2 ⟨fun f a b c d => (g1 f a b c d).trans (h1 f a b d), fun j a b => (g2 j a b).trans (h2 j a b), g3, g4, g5, g6, g7⟩
theorem gN_mod {k : Nat} {F F0 : GF} {K : GF → Prop} (h : Inv k F) (h5 : F 10 0 0 = 5) (hS : Sm F F0) (hK : ∀ F2, MRes (VN F) F F0 F2 → K F2) : P_X11_gives F0 0 K := by
  have hn := num_facts h h5
  obtain ⟨f1, f2, -⟩ := el_facts h
  refine g_mod (u := uN F) h hS (Or.inl ⟨rfl, fun i hi => ?_⟩) (fun i p hi hp => ?_) hK
  · obtain ⟨w, hw, x1, x2, hcl, hx⟩ := hn i hi
    exact ⟨8 * i + w, by omega, by rw [hS.1 63 rfl]; exact x2, fun p hp => by rw [hS.1 60 rfl]; exact (hx p (by omega)).2.2⟩
  · obtain ⟨w, hw, x1, x2, hcl, hx⟩ := hn i hi
    exact (hx p (by omega)).2.1
theorem gB_mod {k : Nat} {F F0 : GF} {K : GF → Prop} (h : Inv k F) (hS : Sm F F0) (hK : ∀ F2, MRes (VB F) F F0 F2 → K F2) : P_X11_gives F0 1 K := by
  have hn := box_facts h
  obtain ⟨f1, f2, -⟩ := el_facts h
  refine g_mod (u := uB F) h hS (Or.inr ⟨rfl, fun i hi => ?_⟩) (fun i p hi hp => ?_) hK
  · obtain ⟨z, hz, x1, x2, hcl, hx, -⟩ := hn i (by omega)
    refine ⟨z, hz, by rw [hS.1 59 rfl]; exact x2, fun p hp => ?_⟩
    rw [hS.1 58 rfl, hx]
    unfold uB
    rw [hcl]
  · obtain ⟨z, hz, x1, x2, hcl, hx, hy⟩ := hn i (by omega)
    exact hy p
theorem CRes.sm {V : Nat → Nat} {F F2 : GF} (h : CRes V F F2) : Sm F F2 := by
  have hf := h.1
  refine ⟨fun f hf2 => hf f (fun e => by subst e; cases hf2) (fun e => by subst e; cases hf2) (fun e => by subst e; cases hf2) (fun e => by subst e; cases hf2) (fun e => by subst e; cases hf2), fun j _ _ _ => by rw [hf 40 (by decide) (by decide) (by decide) (by decide) (by decide)], fun q => ?_⟩
  unfold b_sb
  rw [hf 25 (by decide) (by decide) (by decide) (by decide) (by decide)]
  exact q
theorem MRes.sm {V : Nat → Nat} {F F0 F2 : GF} (h : MRes V F F0 F2) : Sm F0 F2 := by
  have hf := h.1
  refine ⟨fun f hf2 => hf f (fun e => by subst e; cases hf2) (fun e => by subst e; cases hf2) (fun e => by subst e; cases hf2) (fun e => by subst e; cases hf2), fun j a b _ => h.2.1 j a b, fun q => ?_⟩
  unfold b_sb
  rw [hf 25 (by decide) (by decide) (by decide) (by decide)]
  exact q
set_option maxHeartbeats 1000000 in
set_option maxRecDepth 20000 in
theorem m29 {k : Nat} {F : GF} (h : Inv k F) (a1 a2 a3 : Int32) : PL_29 a1 a2 a3 (Inv (k + 1)) F := by
  have hI := h
  obtain ⟨⟨q0, q1, q2, q3, q4, q5, q6, q7, q8, q9, q10, q11⟩, ⟨r0, r1, r2, r3, r4, r5, r6, r7, r8, r9, r10, r11, r12, r13, r14⟩, cb, lg⟩ := h
  have R1 := r1
  have R2 := r2
  have R3 := r3
  have R4 := r4
  obtain ⟨m, hm, em, hmc⟩ := r1
  have em' : F 40 0 6 = nI m := q2.1.trans em
  obtain ⟨n, hn, en⟩ := r2
  have en' : F 40 0 9 = nI n := q4.1.trans en
  obtain ⟨t, g, d, s, e, ht, et, hg, eg, hd, ed, hs, es, he, ee, hem, hg1, hg2, hg3⟩ := r3
  have et' : F 40 0 0 = nI t := q0.trans et
  have eg' : F 40 0 14 = nI g := q5.1.trans eg
  have ed' : F 40 0 15 = nI d := q5.2.1.trans ed
  have es' : F 40 0 16 = nI s := q5.2.2.1.trans es
  have eo' : F 40 0 17 = F 10 0 3 := q5.2.2.2.1
  have ee' : F 40 0 19 = nI e := q5.2.2.2.2.trans ee
  obtain ⟨⟨v, hv, ev⟩, hev⟩ := r4
  have ev' : F 40 0 26 = nI v := q8.1.trans ev
  rcases int_cases a1 with hneg_p | ⟨p, hbig_p, rfl⟩
  · first
      | exfalso; omega
      | simp (disch := first | omega | assumption) only [PL_29, P_L_votes, P_X10_votes, P_X11_votes, P_X10_needParty, P_X11_isParty, P_X11_done, P_X11_done_13, P_X11_in, P_X11_asked, P_X11_asked_10, P_X11_asked_, P_X11_asked__18, P_X11_asked__, P_X11_asked___26, P_X11_thrown, P_X11_told, ↓reduceIte, ↓forall_eq, ↓hold_ca, ↓hold_cam, ↓hold_cl, ↓hold_se, ↓hold_sem, ↓hold_st, ↓hold_wr, ↓hold_wrm, li0, li1, li2, li3, li4, li5, li6, li7, li8, li10, li20, li30, li35, li36, li60, li72, li100, li572, li2000, li2100, li9999, nI_lt_t, nI_lt_f, nI_le_t, nI_le_f, nI_eq_t, nI_eq_f, nI_eq_neg2, neg_eq_nI2, neg_lt2, neg_le2, nI_lt_neg2, nI_le_neg2, pred_t, pred_f, nI_clamp', vp_t, lt0_t, lt0_le, lt0_lt, lt0_eq, if_true, if_false, ite_true, ite_false, true_and, and_true, false_and, and_false, false_or, or_false, true_or, or_true, eq_self, fs_ne, fs_eq, fs_eq', st12, st13, st21, st23, st31, st32, not_true_eq_false, not_false_eq_true, em, em', en, en', et, et', eg, eg', ed, ed', es, es', eo', ee, ee', ev, ev']
        refine hI.end ?_
        repeat (first | exact Sm.refl _ | refine Sm.fs40 ?_ _ _ (by decide) | refine Sm.fsT ?_ _ _ _ _ rfl (by decide) (by decide))
  · by_cases hlt_p : p < 5
    · by_cases g5 : g = 5
      · have h5 : F 10 0 0 = 5 := by rw [eg, g5]; rfl
        obtain ⟨f1, f2, -⟩ := el_facts hI
        have hn := num_facts hI h5
        simp (disch := first | omega | assumption) only [PL_29, P_L_votes, P_X10_votes, P_X11_votes, P_X10_needParty, P_X11_isParty, P_X11_done, P_X11_done_13, P_X11_in, P_X11_asked, P_X11_asked_10, P_X11_asked_, P_X11_asked__18, P_X11_asked__, P_X11_asked___26, P_X11_thrown, P_X11_told, ↓reduceIte, ↓forall_eq, ↓hold_ca, ↓hold_cam, ↓hold_cl, ↓hold_se, ↓hold_sem, ↓hold_st, ↓hold_wr, ↓hold_wrm, li0, li1, li2, li3, li4, li5, li6, li7, li8, li10, li20, li30, li35, li36, li60, li72, li100, li572, li2000, li2100, li9999, nI_lt_t, nI_lt_f, nI_le_t, nI_le_f, nI_eq_t, nI_eq_f, nI_eq_neg2, neg_eq_nI2, neg_lt2, neg_le2, nI_lt_neg2, nI_le_neg2, pred_t, pred_f, nI_clamp', vp_t, lt0_t, lt0_le, lt0_lt, lt0_eq, if_true, if_false, ite_true, ite_false, true_and, and_true, false_and, and_false, false_or, or_false, true_or, or_true, eq_self, fs_ne, fs_eq, fs_eq', st12, st13, st21, st23, st31, st32, not_true_eq_false, not_false_eq_true, em, em', en, en', et, et', eg, eg', ed, ed', es, es', eo', ee, ee', ev, ev']
        refine nf_cls (e := eN F) (w := fun i => (F 28 i 5).toNatClampNeg) (u := fun i => uN F i p) f1 f2 (by omega) (fun i hi => ?_) ?_
        · obtain ⟨w, hw, x1, -, hcl, hx⟩ := hn i hi
          rw [hcl]
          exact ⟨x1, hw, (hx p (by omega)).1⟩
        simp (disch := first | omega | assumption) only [PL_29, P_L_votes, P_X10_votes, P_X11_votes, P_X10_needParty, P_X11_isParty, P_X11_done, P_X11_done_13, P_X11_in, P_X11_asked, P_X11_asked_10, P_X11_asked_, P_X11_asked__18, P_X11_asked__, P_X11_asked___26, P_X11_thrown, P_X11_told, ↓reduceIte, ↓forall_eq, ↓hold_ca, ↓hold_cam, ↓hold_cl, ↓hold_se, ↓hold_sem, ↓hold_st, ↓hold_wr, ↓hold_wrm, li0, li1, li2, li3, li4, li5, li6, li7, li8, li10, li20, li30, li35, li36, li60, li72, li100, li572, li2000, li2100, li9999, nI_lt_t, nI_lt_f, nI_le_t, nI_le_f, nI_eq_t, nI_eq_f, nI_eq_neg2, neg_eq_nI2, neg_lt2, neg_le2, nI_lt_neg2, nI_le_neg2, pred_t, pred_f, nI_clamp', vp_t, lt0_t, lt0_le, lt0_lt, lt0_eq, if_true, if_false, ite_true, ite_false, true_and, and_true, false_and, and_false, false_or, or_false, true_or, or_true, eq_self, fs_ne, fs_eq, fs_eq', st12, st13, st21, st23, st31, st32, not_true_eq_false, not_false_eq_true, em, em', en, en', et, et', eg, eg', ed, ed', es, es', eo', ee, ee', ev, ev']
        refine gN_mod hI h5 (by repeat (first | exact Sm.refl _ | refine Sm.fs40 ?_ _ _ (by decide) | refine Sm.fsT ?_ _ _ _ _ rfl (by decide) (by decide))) (fun F2 hM => ?_)
        obtain ⟨k1, k2, k3, k4, k5, k6, k7⟩ := hM
        have hM : MRes (VN F) F _ F2 := ⟨k1, k2, k3, k4, k5, k6, k7⟩
        have k14 : F2 40 0 14 = nI g := by rw [k2 14 (by decide) (by decide)]; simp (disch := first | omega | assumption) only [PL_29, P_L_votes, P_X10_votes, P_X11_votes, P_X10_needParty, P_X11_isParty, P_X11_done, P_X11_done_13, P_X11_in, P_X11_asked, P_X11_asked_10, P_X11_asked_, P_X11_asked__18, P_X11_asked__, P_X11_asked___26, P_X11_thrown, P_X11_told, ↓reduceIte, ↓forall_eq, ↓hold_ca, ↓hold_cam, ↓hold_cl, ↓hold_se, ↓hold_sem, ↓hold_st, ↓hold_wr, ↓hold_wrm, li0, li1, li2, li3, li4, li5, li6, li7, li8, li10, li20, li30, li35, li36, li60, li72, li100, li572, li2000, li2100, li9999, nI_lt_t, nI_lt_f, nI_le_t, nI_le_f, nI_eq_t, nI_eq_f, nI_eq_neg2, neg_eq_nI2, neg_lt2, neg_le2, nI_lt_neg2, nI_le_neg2, pred_t, pred_f, nI_clamp', vp_t, lt0_t, lt0_le, lt0_lt, lt0_eq, if_true, if_false, ite_true, ite_false, true_and, and_true, false_and, and_false, false_or, or_false, true_or, or_true, eq_self, fs_ne, fs_eq, fs_eq', st12, st13, st21, st23, st31, st32, not_true_eq_false, not_false_eq_true, em, em', en, en', et, et', eg, eg', ed, ed', es, es', eo', ee, ee', ev, ev']
        have k43 : F2 40 0 43 = nI 0 := by rw [k2 43 (by decide) (by decide)]; simp (disch := first | omega | assumption) only [PL_29, P_L_votes, P_X10_votes, P_X11_votes, P_X10_needParty, P_X11_isParty, P_X11_done, P_X11_done_13, P_X11_in, P_X11_asked, P_X11_asked_10, P_X11_asked_, P_X11_asked__18, P_X11_asked__, P_X11_asked___26, P_X11_thrown, P_X11_told, ↓reduceIte, ↓forall_eq, ↓hold_ca, ↓hold_cam, ↓hold_cl, ↓hold_se, ↓hold_sem, ↓hold_st, ↓hold_wr, ↓hold_wrm, li0, li1, li2, li3, li4, li5, li6, li7, li8, li10, li20, li30, li35, li36, li60, li72, li100, li572, li2000, li2100, li9999, nI_lt_t, nI_lt_f, nI_le_t, nI_le_f, nI_eq_t, nI_eq_f, nI_eq_neg2, neg_eq_nI2, neg_lt2, neg_le2, nI_lt_neg2, nI_le_neg2, pred_t, pred_f, nI_clamp', vp_t, lt0_t, lt0_le, lt0_lt, lt0_eq, if_true, if_false, ite_true, ite_false, true_and, and_true, false_and, and_false, false_or, or_false, true_or, or_true, eq_self, fs_ne, fs_eq, fs_eq', st12, st13, st21, st23, st31, st32, not_true_eq_false, not_false_eq_true, em, em', en, en', et, et', eg, eg', ed, ed', es, es', eo', ee, ee', ev, ev']
        have k79 : F2 79 0 0 = nI (sumU (fun i => uN F i p) (eN F)) := by rw [k1 79 (by decide) (by decide) (by decide) (by decide)]; simp (disch := first | omega | assumption) only [PL_29, P_L_votes, P_X10_votes, P_X11_votes, P_X10_needParty, P_X11_isParty, P_X11_done, P_X11_done_13, P_X11_in, P_X11_asked, P_X11_asked_10, P_X11_asked_, P_X11_asked__18, P_X11_asked__, P_X11_asked___26, P_X11_thrown, P_X11_told, ↓reduceIte, ↓forall_eq, ↓hold_ca, ↓hold_cam, ↓hold_cl, ↓hold_se, ↓hold_sem, ↓hold_st, ↓hold_wr, ↓hold_wrm, li0, li1, li2, li3, li4, li5, li6, li7, li8, li10, li20, li30, li35, li36, li60, li72, li100, li572, li2000, li2100, li9999, nI_lt_t, nI_lt_f, nI_le_t, nI_le_f, nI_eq_t, nI_eq_f, nI_eq_neg2, neg_eq_nI2, neg_lt2, neg_le2, nI_lt_neg2, nI_le_neg2, pred_t, pred_f, nI_clamp', vp_t, lt0_t, lt0_le, lt0_lt, lt0_eq, if_true, if_false, ite_true, ite_false, true_and, and_true, false_and, and_false, false_or, or_false, true_or, or_true, eq_self, fs_ne, fs_eq, fs_eq', st12, st13, st21, st23, st31, st32, not_true_eq_false, not_false_eq_true, em, em', en, en', et, et', eg, eg', ed, ed', es, es', eo', ee, ee', ev, ev']
        simp (disch := first | omega | assumption) only [PL_29, P_L_votes, P_X10_votes, P_X11_votes, P_X10_needParty, P_X11_isParty, P_X11_done, P_X11_done_13, P_X11_in, P_X11_asked, P_X11_asked_10, P_X11_asked_, P_X11_asked__18, P_X11_asked__, P_X11_asked___26, P_X11_thrown, P_X11_told, ↓reduceIte, ↓forall_eq, ↓hold_ca, ↓hold_cam, ↓hold_cl, ↓hold_se, ↓hold_sem, ↓hold_st, ↓hold_wr, ↓hold_wrm, li0, li1, li2, li3, li4, li5, li6, li7, li8, li10, li20, li30, li35, li36, li60, li72, li100, li572, li2000, li2100, li9999, nI_lt_t, nI_lt_f, nI_le_t, nI_le_f, nI_eq_t, nI_eq_f, nI_eq_neg2, neg_eq_nI2, neg_lt2, neg_le2, nI_lt_neg2, nI_le_neg2, pred_t, pred_f, nI_clamp', vp_t, lt0_t, lt0_le, lt0_lt, lt0_eq, if_true, if_false, ite_true, ite_false, true_and, and_true, false_and, and_false, false_or, or_false, true_or, or_true, eq_self, fs_ne, fs_eq, fs_eq', st12, st13, st21, st23, st31, st32, not_true_eq_false, not_false_eq_true, em, em', en, en', et, et', eg, eg', ed, ed', es, es', eo', ee, ee', ev, ev', k14, k43, k79, k3 p hlt_p]
        rw [if_pos (show nI (sumU (fun i => uN F i p) (eN F)) = nI (VN F p) from rfl)]
        refine hI.end (Sm.trans ?_ hM.sm)
        repeat (first | exact Sm.refl _ | refine Sm.fs40 ?_ _ _ (by decide) | refine Sm.fsT ?_ _ _ _ _ rfl (by decide) (by decide))
      · simp (disch := first | omega | assumption) only [PL_29, P_L_votes, P_X10_votes, P_X11_votes, P_X10_needParty, P_X11_isParty, P_X11_done, P_X11_done_13, P_X11_in, P_X11_asked, P_X11_asked_10, P_X11_asked_, P_X11_asked__18, P_X11_asked__, P_X11_asked___26, P_X11_thrown, P_X11_told, ↓reduceIte, ↓forall_eq, ↓hold_ca, ↓hold_cam, ↓hold_cl, ↓hold_se, ↓hold_sem, ↓hold_st, ↓hold_wr, ↓hold_wrm, li0, li1, li2, li3, li4, li5, li6, li7, li8, li10, li20, li30, li35, li36, li60, li72, li100, li572, li2000, li2100, li9999, nI_lt_t, nI_lt_f, nI_le_t, nI_le_f, nI_eq_t, nI_eq_f, nI_eq_neg2, neg_eq_nI2, neg_lt2, neg_le2, nI_lt_neg2, nI_le_neg2, pred_t, pred_f, nI_clamp', vp_t, lt0_t, lt0_le, lt0_lt, lt0_eq, if_true, if_false, ite_true, ite_false, true_and, and_true, false_and, and_false, false_or, or_false, true_or, or_true, eq_self, fs_ne, fs_eq, fs_eq', st12, st13, st21, st23, st31, st32, not_true_eq_false, not_false_eq_true, em, em', en, en', et, et', eg, eg', ed, ed', es, es', eo', ee, ee', ev, ev']
        refine hI.end ?_
        repeat (first | exact Sm.refl _ | refine Sm.fs40 ?_ _ _ (by decide) | refine Sm.fsT ?_ _ _ _ _ rfl (by decide) (by decide))
    · first
        | exfalso; omega
        | simp (disch := first | omega | assumption) only [PL_29, P_L_votes, P_X10_votes, P_X11_votes, P_X10_needParty, P_X11_isParty, P_X11_done, P_X11_done_13, P_X11_in, P_X11_asked, P_X11_asked_10, P_X11_asked_, P_X11_asked__18, P_X11_asked__, P_X11_asked___26, P_X11_thrown, P_X11_told, ↓reduceIte, ↓forall_eq, ↓hold_ca, ↓hold_cam, ↓hold_cl, ↓hold_se, ↓hold_sem, ↓hold_st, ↓hold_wr, ↓hold_wrm, li0, li1, li2, li3, li4, li5, li6, li7, li8, li10, li20, li30, li35, li36, li60, li72, li100, li572, li2000, li2100, li9999, nI_lt_t, nI_lt_f, nI_le_t, nI_le_f, nI_eq_t, nI_eq_f, nI_eq_neg2, neg_eq_nI2, neg_lt2, neg_le2, nI_lt_neg2, nI_le_neg2, pred_t, pred_f, nI_clamp', vp_t, lt0_t, lt0_le, lt0_lt, lt0_eq, if_true, if_false, ite_true, ite_false, true_and, and_true, false_and, and_false, false_or, or_false, true_or, or_true, eq_self, fs_ne, fs_eq, fs_eq', st12, st13, st21, st23, st31, st32, not_true_eq_false, not_false_eq_true, em, em', en, en', et, et', eg, eg', ed, ed', es, es', eo', ee, ee', ev, ev']
          refine hI.end ?_
          repeat (first | exact Sm.refl _ | refine Sm.fs40 ?_ _ _ (by decide) | refine Sm.fsT ?_ _ _ _ _ rfl (by decide) (by decide))
set_option maxHeartbeats 1000000 in
set_option maxRecDepth 20000 in
theorem m30 {k : Nat} {F : GF} (h : Inv k F) (a1 a2 a3 : Int32) : PL_30 a1 a2 a3 (Inv (k + 1)) F := by
  have hI := h
  obtain ⟨⟨q0, q1, q2, q3, q4, q5, q6, q7, q8, q9, q10, q11⟩, ⟨r0, r1, r2, r3, r4, r5, r6, r7, r8, r9, r10, r11, r12, r13, r14⟩, cb, lg⟩ := h
  have R1 := r1
  have R2 := r2
  have R3 := r3
  have R4 := r4
  obtain ⟨m, hm, em, hmc⟩ := r1
  have em' : F 40 0 6 = nI m := q2.1.trans em
  obtain ⟨n, hn, en⟩ := r2
  have en' : F 40 0 9 = nI n := q4.1.trans en
  obtain ⟨t, g, d, s, e, ht, et, hg, eg, hd, ed, hs, es, he, ee, hem, hg1, hg2, hg3⟩ := r3
  have et' : F 40 0 0 = nI t := q0.trans et
  have eg' : F 40 0 14 = nI g := q5.1.trans eg
  have ed' : F 40 0 15 = nI d := q5.2.1.trans ed
  have es' : F 40 0 16 = nI s := q5.2.2.1.trans es
  have eo' : F 40 0 17 = F 10 0 3 := q5.2.2.2.1
  have ee' : F 40 0 19 = nI e := q5.2.2.2.2.trans ee
  obtain ⟨⟨v, hv, ev⟩, hev⟩ := r4
  have ev' : F 40 0 26 = nI v := q8.1.trans ev
  rcases int_cases a1 with hneg_p | ⟨p, hbig_p, rfl⟩
  · first
      | exfalso; omega
      | simp (disch := first | omega | assumption) only [PL_30, P_L_seats, P_X10_seats, P_X11_seats, P_X10_needParty, P_X11_isParty, P_X11_done, P_X11_done_13, P_X11_in, P_X11_asked, P_X11_asked_10, P_X11_asked_, P_X11_asked__18, P_X11_asked__, P_X11_asked___26, P_X11_thrown, P_X11_told, ↓reduceIte, ↓forall_eq, ↓hold_ca, ↓hold_cam, ↓hold_cl, ↓hold_se, ↓hold_sem, ↓hold_st, ↓hold_wr, ↓hold_wrm, li0, li1, li2, li3, li4, li5, li6, li7, li8, li10, li20, li30, li35, li36, li60, li72, li100, li572, li2000, li2100, li9999, nI_lt_t, nI_lt_f, nI_le_t, nI_le_f, nI_eq_t, nI_eq_f, nI_eq_neg2, neg_eq_nI2, neg_lt2, neg_le2, nI_lt_neg2, nI_le_neg2, pred_t, pred_f, nI_clamp', vp_t, lt0_t, lt0_le, lt0_lt, lt0_eq, if_true, if_false, ite_true, ite_false, true_and, and_true, false_and, and_false, false_or, or_false, true_or, or_true, eq_self, fs_ne, fs_eq, fs_eq', st12, st13, st21, st23, st31, st32, not_true_eq_false, not_false_eq_true, em, em', en, en', et, et', eg, eg', ed, ed', es, es', eo', ee, ee', ev, ev']
        refine hI.end ?_
        repeat (first | exact Sm.refl _ | refine Sm.fs40 ?_ _ _ (by decide) | refine Sm.fsT ?_ _ _ _ _ rfl (by decide) (by decide))
  · by_cases hlt_p : p < 5
    · by_cases g5 : g = 5
      · have h5 : F 10 0 0 = 5 := by rw [eg, g5]; rfl
        simp (disch := first | omega | assumption) only [PL_30, P_L_seats, P_X10_seats, P_X11_seats, P_X10_needParty, P_X11_isParty, P_X11_done, P_X11_done_13, P_X11_in, P_X11_asked, P_X11_asked_10, P_X11_asked_, P_X11_asked__18, P_X11_asked__, P_X11_asked___26, P_X11_thrown, P_X11_told, ↓reduceIte, ↓forall_eq, ↓hold_ca, ↓hold_cam, ↓hold_cl, ↓hold_se, ↓hold_sem, ↓hold_st, ↓hold_wr, ↓hold_wrm, li0, li1, li2, li3, li4, li5, li6, li7, li8, li10, li20, li30, li35, li36, li60, li72, li100, li572, li2000, li2100, li9999, nI_lt_t, nI_lt_f, nI_le_t, nI_le_f, nI_eq_t, nI_eq_f, nI_eq_neg2, neg_eq_nI2, neg_lt2, neg_le2, nI_lt_neg2, nI_le_neg2, pred_t, pred_f, nI_clamp', vp_t, lt0_t, lt0_le, lt0_lt, lt0_eq, if_true, if_false, ite_true, ite_false, true_and, and_true, false_and, and_false, false_or, or_false, true_or, or_true, eq_self, fs_ne, fs_eq, fs_eq', st12, st13, st21, st23, st31, st32, not_true_eq_false, not_false_eq_true, em, em', en, en', et, et', eg, eg', ed, ed', es, es', eo', ee, ee', ev, ev']
        refine gN_cls hI h5 (fun F1 hC => ?_)
        obtain ⟨c1, c2, c3, c4, c5⟩ := hC
        have hC : CRes (VN F) F F1 := ⟨c1, c2, c3, c4, c5⟩
        have f14 : F1 40 0 14 = nI g := by rw [c1 40 (by decide) (by decide) (by decide) (by decide) (by decide)]; exact eg'
        simp (disch := first | omega | assumption) only [PL_30, P_L_seats, P_X10_seats, P_X11_seats, P_X10_needParty, P_X11_isParty, P_X11_done, P_X11_done_13, P_X11_in, P_X11_asked, P_X11_asked_10, P_X11_asked_, P_X11_asked__18, P_X11_asked__, P_X11_asked___26, P_X11_thrown, P_X11_told, ↓reduceIte, ↓forall_eq, ↓hold_ca, ↓hold_cam, ↓hold_cl, ↓hold_se, ↓hold_sem, ↓hold_st, ↓hold_wr, ↓hold_wrm, li0, li1, li2, li3, li4, li5, li6, li7, li8, li10, li20, li30, li35, li36, li60, li72, li100, li572, li2000, li2100, li9999, nI_lt_t, nI_lt_f, nI_le_t, nI_le_f, nI_eq_t, nI_eq_f, nI_eq_neg2, neg_eq_nI2, neg_lt2, neg_le2, nI_lt_neg2, nI_le_neg2, pred_t, pred_f, nI_clamp', vp_t, lt0_t, lt0_le, lt0_lt, lt0_eq, if_true, if_false, ite_true, ite_false, true_and, and_true, false_and, and_false, false_or, or_false, true_or, or_true, eq_self, fs_ne, fs_eq, fs_eq', st12, st13, st21, st23, st31, st32, not_true_eq_false, not_false_eq_true, em, em', en, en', et, et', eg, eg', ed, ed', es, es', eo', ee, ee', ev, ev', f14, c2 p hlt_p]
        refine gN_mod hI h5 (by repeat (first | exact hC.sm | refine Sm.fs40 ?_ _ _ (by decide) | refine Sm.fsT ?_ _ _ _ _ rfl (by decide) (by decide))) (fun F2 hM => ?_)
        obtain ⟨k1, k2, k3, k4, k5, k6, k7⟩ := hM
        have hM : MRes (VN F) F _ F2 := ⟨k1, k2, k3, k4, k5, k6, k7⟩
        have k14 : F2 40 0 14 = nI g := by rw [k2 14 (by decide) (by decide)]; simp (disch := first | omega | assumption) only [PL_30, P_L_seats, P_X10_seats, P_X11_seats, P_X10_needParty, P_X11_isParty, P_X11_done, P_X11_done_13, P_X11_in, P_X11_asked, P_X11_asked_10, P_X11_asked_, P_X11_asked__18, P_X11_asked__, P_X11_asked___26, P_X11_thrown, P_X11_told, ↓reduceIte, ↓forall_eq, ↓hold_ca, ↓hold_cam, ↓hold_cl, ↓hold_se, ↓hold_sem, ↓hold_st, ↓hold_wr, ↓hold_wrm, li0, li1, li2, li3, li4, li5, li6, li7, li8, li10, li20, li30, li35, li36, li60, li72, li100, li572, li2000, li2100, li9999, nI_lt_t, nI_lt_f, nI_le_t, nI_le_f, nI_eq_t, nI_eq_f, nI_eq_neg2, neg_eq_nI2, neg_lt2, neg_le2, nI_lt_neg2, nI_le_neg2, pred_t, pred_f, nI_clamp', vp_t, lt0_t, lt0_le, lt0_lt, lt0_eq, if_true, if_false, ite_true, ite_false, true_and, and_true, false_and, and_false, false_or, or_false, true_or, or_true, eq_self, fs_ne, fs_eq, fs_eq', st12, st13, st21, st23, st31, st32, not_true_eq_false, not_false_eq_true, f14]
        have k43 : F2 40 0 43 = nI 0 := by rw [k2 43 (by decide) (by decide)]; simp (disch := first | omega | assumption) only [PL_30, P_L_seats, P_X10_seats, P_X11_seats, P_X10_needParty, P_X11_isParty, P_X11_done, P_X11_done_13, P_X11_in, P_X11_asked, P_X11_asked_10, P_X11_asked_, P_X11_asked__18, P_X11_asked__, P_X11_asked___26, P_X11_thrown, P_X11_told, ↓reduceIte, ↓forall_eq, ↓hold_ca, ↓hold_cam, ↓hold_cl, ↓hold_se, ↓hold_sem, ↓hold_st, ↓hold_wr, ↓hold_wrm, li0, li1, li2, li3, li4, li5, li6, li7, li8, li10, li20, li30, li35, li36, li60, li72, li100, li572, li2000, li2100, li9999, nI_lt_t, nI_lt_f, nI_le_t, nI_le_f, nI_eq_t, nI_eq_f, nI_eq_neg2, neg_eq_nI2, neg_lt2, neg_le2, nI_lt_neg2, nI_le_neg2, pred_t, pred_f, nI_clamp', vp_t, lt0_t, lt0_le, lt0_lt, lt0_eq, if_true, if_false, ite_true, ite_false, true_and, and_true, false_and, and_false, false_or, or_false, true_or, or_true, eq_self, fs_ne, fs_eq, fs_eq', st12, st13, st21, st23, st31, st32, not_true_eq_false, not_false_eq_true]
        have k79 : F2 79 0 0 = nI ((RS (VN F) F).1 p) := by rw [k1 79 (by decide) (by decide) (by decide) (by decide)]; simp (disch := first | omega | assumption) only [PL_30, P_L_seats, P_X10_seats, P_X11_seats, P_X10_needParty, P_X11_isParty, P_X11_done, P_X11_done_13, P_X11_in, P_X11_asked, P_X11_asked_10, P_X11_asked_, P_X11_asked__18, P_X11_asked__, P_X11_asked___26, P_X11_thrown, P_X11_told, ↓reduceIte, ↓forall_eq, ↓hold_ca, ↓hold_cam, ↓hold_cl, ↓hold_se, ↓hold_sem, ↓hold_st, ↓hold_wr, ↓hold_wrm, li0, li1, li2, li3, li4, li5, li6, li7, li8, li10, li20, li30, li35, li36, li60, li72, li100, li572, li2000, li2100, li9999, nI_lt_t, nI_lt_f, nI_le_t, nI_le_f, nI_eq_t, nI_eq_f, nI_eq_neg2, neg_eq_nI2, neg_lt2, neg_le2, nI_lt_neg2, nI_le_neg2, pred_t, pred_f, nI_clamp', vp_t, lt0_t, lt0_le, lt0_lt, lt0_eq, if_true, if_false, ite_true, ite_false, true_and, and_true, false_and, and_false, false_or, or_false, true_or, or_true, eq_self, fs_ne, fs_eq, fs_eq', st12, st13, st21, st23, st31, st32, not_true_eq_false, not_false_eq_true]
        simp (disch := first | omega | assumption) only [PL_30, P_L_seats, P_X10_seats, P_X11_seats, P_X10_needParty, P_X11_isParty, P_X11_done, P_X11_done_13, P_X11_in, P_X11_asked, P_X11_asked_10, P_X11_asked_, P_X11_asked__18, P_X11_asked__, P_X11_asked___26, P_X11_thrown, P_X11_told, ↓reduceIte, ↓forall_eq, ↓hold_ca, ↓hold_cam, ↓hold_cl, ↓hold_se, ↓hold_sem, ↓hold_st, ↓hold_wr, ↓hold_wrm, li0, li1, li2, li3, li4, li5, li6, li7, li8, li10, li20, li30, li35, li36, li60, li72, li100, li572, li2000, li2100, li9999, nI_lt_t, nI_lt_f, nI_le_t, nI_le_f, nI_eq_t, nI_eq_f, nI_eq_neg2, neg_eq_nI2, neg_lt2, neg_le2, nI_lt_neg2, nI_le_neg2, pred_t, pred_f, nI_clamp', vp_t, lt0_t, lt0_le, lt0_lt, lt0_eq, if_true, if_false, ite_true, ite_false, true_and, and_true, false_and, and_false, false_or, or_false, true_or, or_true, eq_self, fs_ne, fs_eq, fs_eq', st12, st13, st21, st23, st31, st32, not_true_eq_false, not_false_eq_true, em, em', en, en', et, et', eg, eg', ed, ed', es, es', eo', ee, ee', ev, ev', k14, k43, k79, k4 p hlt_p]
        refine hI.end (Sm.trans ?_ (hM).sm)
        repeat (first | exact hC.sm | refine Sm.fs40 ?_ _ _ (by decide) | refine Sm.fsT ?_ _ _ _ _ rfl (by decide) (by decide))
      · simp (disch := first | omega | assumption) only [PL_30, P_L_seats, P_X10_seats, P_X11_seats, P_X10_needParty, P_X11_isParty, P_X11_done, P_X11_done_13, P_X11_in, P_X11_asked, P_X11_asked_10, P_X11_asked_, P_X11_asked__18, P_X11_asked__, P_X11_asked___26, P_X11_thrown, P_X11_told, ↓reduceIte, ↓forall_eq, ↓hold_ca, ↓hold_cam, ↓hold_cl, ↓hold_se, ↓hold_sem, ↓hold_st, ↓hold_wr, ↓hold_wrm, li0, li1, li2, li3, li4, li5, li6, li7, li8, li10, li20, li30, li35, li36, li60, li72, li100, li572, li2000, li2100, li9999, nI_lt_t, nI_lt_f, nI_le_t, nI_le_f, nI_eq_t, nI_eq_f, nI_eq_neg2, neg_eq_nI2, neg_lt2, neg_le2, nI_lt_neg2, nI_le_neg2, pred_t, pred_f, nI_clamp', vp_t, lt0_t, lt0_le, lt0_lt, lt0_eq, if_true, if_false, ite_true, ite_false, true_and, and_true, false_and, and_false, false_or, or_false, true_or, or_true, eq_self, fs_ne, fs_eq, fs_eq', st12, st13, st21, st23, st31, st32, not_true_eq_false, not_false_eq_true, em, em', en, en', et, et', eg, eg', ed, ed', es, es', eo', ee, ee', ev, ev']
        refine hI.end ?_
        repeat (first | exact Sm.refl _ | refine Sm.fs40 ?_ _ _ (by decide) | refine Sm.fsT ?_ _ _ _ _ rfl (by decide) (by decide))
    · first
        | exfalso; omega
        | simp (disch := first | omega | assumption) only [PL_30, P_L_seats, P_X10_seats, P_X11_seats, P_X10_needParty, P_X11_isParty, P_X11_done, P_X11_done_13, P_X11_in, P_X11_asked, P_X11_asked_10, P_X11_asked_, P_X11_asked__18, P_X11_asked__, P_X11_asked___26, P_X11_thrown, P_X11_told, ↓reduceIte, ↓forall_eq, ↓hold_ca, ↓hold_cam, ↓hold_cl, ↓hold_se, ↓hold_sem, ↓hold_st, ↓hold_wr, ↓hold_wrm, li0, li1, li2, li3, li4, li5, li6, li7, li8, li10, li20, li30, li35, li36, li60, li72, li100, li572, li2000, li2100, li9999, nI_lt_t, nI_lt_f, nI_le_t, nI_le_f, nI_eq_t, nI_eq_f, nI_eq_neg2, neg_eq_nI2, neg_lt2, neg_le2, nI_lt_neg2, nI_le_neg2, pred_t, pred_f, nI_clamp', vp_t, lt0_t, lt0_le, lt0_lt, lt0_eq, if_true, if_false, ite_true, ite_false, true_and, and_true, false_and, and_false, false_or, or_false, true_or, or_true, eq_self, fs_ne, fs_eq, fs_eq', st12, st13, st21, st23, st31, st32, not_true_eq_false, not_false_eq_true, em, em', en, en', et, et', eg, eg', ed, ed', es, es', eo', ee, ee', ev, ev']
          refine hI.end ?_
          repeat (first | exact Sm.refl _ | refine Sm.fs40 ?_ _ _ (by decide) | refine Sm.fsT ?_ _ _ _ _ rfl (by decide) (by decide))
set_option maxHeartbeats 1000000 in
set_option maxRecDepth 20000 in
theorem m31 {k : Nat} {F : GF} (h : Inv k F) (a1 a2 a3 : Int32) : PL_31 a1 a2 a3 (Inv (k + 1)) F := by
  have hI := h
  obtain ⟨⟨q0, q1, q2, q3, q4, q5, q6, q7, q8, q9, q10, q11⟩, ⟨r0, r1, r2, r3, r4, r5, r6, r7, r8, r9, r10, r11, r12, r13, r14⟩, cb, lg⟩ := h
  have R1 := r1
  have R2 := r2
  have R3 := r3
  have R4 := r4
  obtain ⟨m, hm, em, hmc⟩ := r1
  have em' : F 40 0 6 = nI m := q2.1.trans em
  obtain ⟨n, hn, en⟩ := r2
  have en' : F 40 0 9 = nI n := q4.1.trans en
  obtain ⟨t, g, d, s, e, ht, et, hg, eg, hd, ed, hs, es, he, ee, hem, hg1, hg2, hg3⟩ := r3
  have et' : F 40 0 0 = nI t := q0.trans et
  have eg' : F 40 0 14 = nI g := q5.1.trans eg
  have ed' : F 40 0 15 = nI d := q5.2.1.trans ed
  have es' : F 40 0 16 = nI s := q5.2.2.1.trans es
  have eo' : F 40 0 17 = F 10 0 3 := q5.2.2.2.1
  have ee' : F 40 0 19 = nI e := q5.2.2.2.2.trans ee
  obtain ⟨⟨v, hv, ev⟩, hev⟩ := r4
  have ev' : F 40 0 26 = nI v := q8.1.trans ev
  rcases int_cases a1 with hneg_p | ⟨p, hbig_p, rfl⟩
  · simp (disch := first | omega | assumption) only [PL_31, P_L_seatAt, P_X10_seatAt, P_X11_seatAt, P_X11_seatAt_10, P_X6_partyAt, P_X11_done, P_X11_done_13, P_X11_in, P_X11_asked, P_X11_asked_10, P_X11_asked_, P_X11_asked__18, P_X11_asked__, P_X11_asked___26, P_X11_thrown, P_X11_told, ↓reduceIte, ↓forall_eq, ↓hold_ca, ↓hold_cam, ↓hold_cl, ↓hold_se, ↓hold_sem, ↓hold_st, ↓hold_wr, ↓hold_wrm, li0, li1, li2, li3, li4, li5, li6, li7, li8, li10, li20, li30, li35, li36, li60, li72, li100, li572, li2000, li2100, li9999, nI_lt_t, nI_lt_f, nI_le_t, nI_le_f, nI_eq_t, nI_eq_f, nI_eq_neg2, neg_eq_nI2, neg_lt2, neg_le2, nI_lt_neg2, nI_le_neg2, pred_t, pred_f, nI_clamp', vp_t, lt0_t, lt0_le, lt0_lt, lt0_eq, if_true, if_false, ite_true, ite_false, true_and, and_true, false_and, and_false, false_or, or_false, true_or, or_true, eq_self, fs_ne, fs_eq, fs_eq', st12, st13, st21, st23, st31, st32, not_true_eq_false, not_false_eq_true, em, em', en, en', et, et', eg, eg', ed, ed', es, es', eo', ee, ee', ev, ev']
    refine hI.end ?_
    repeat (first | exact Sm.refl _ | refine Sm.fs40 ?_ _ _ (by decide) | refine Sm.fsT ?_ _ _ _ _ rfl (by decide) (by decide))
  · by_cases g5 : g = 5
    · have h5 : F 10 0 0 = 5 := by rw [eg, g5]; rfl
      simp (disch := first | omega | assumption) only [PL_31, P_L_seatAt, P_X10_seatAt, P_X11_seatAt, P_X11_seatAt_10, P_X6_partyAt, P_X11_done, P_X11_done_13, P_X11_in, P_X11_asked, P_X11_asked_10, P_X11_asked_, P_X11_asked__18, P_X11_asked__, P_X11_asked___26, P_X11_thrown, P_X11_told, ↓reduceIte, ↓forall_eq, ↓hold_ca, ↓hold_cam, ↓hold_cl, ↓hold_se, ↓hold_sem, ↓hold_st, ↓hold_wr, ↓hold_wrm, li0, li1, li2, li3, li4, li5, li6, li7, li8, li10, li20, li30, li35, li36, li60, li72, li100, li572, li2000, li2100, li9999, nI_lt_t, nI_lt_f, nI_le_t, nI_le_f, nI_eq_t, nI_eq_f, nI_eq_neg2, neg_eq_nI2, neg_lt2, neg_le2, nI_lt_neg2, nI_le_neg2, pred_t, pred_f, nI_clamp', vp_t, lt0_t, lt0_le, lt0_lt, lt0_eq, if_true, if_false, ite_true, ite_false, true_and, and_true, false_and, and_false, false_or, or_false, true_or, or_true, eq_self, fs_ne, fs_eq, fs_eq', st12, st13, st21, st23, st31, st32, not_true_eq_false, not_false_eq_true, em, em', en, en', et, et', eg, eg', ed, ed', es, es', eo', ee, ee', ev, ev']
      refine gN_cls hI h5 (fun F1 hC => ?_)
      obtain ⟨c1, c2, c3, c4, c5⟩ := hC
      have hC : CRes (VN F) F F1 := ⟨c1, c2, c3, c4, c5⟩
      have f14 : F1 40 0 14 = nI g := by rw [c1 40 (by decide) (by decide) (by decide) (by decide) (by decide)]; exact eg'
      obtain ⟨-, -, -, hs30, -⟩ := el_facts hI
      have hn30 : nG (VN F) (sN F) ≤ 30 := by unfold nG; split <;> omega
      by_cases hpn : p < nG (VN F) (sN F)
      · simp (disch := first | omega | assumption) only [PL_31, P_L_seatAt, P_X10_seatAt, P_X11_seatAt, P_X11_seatAt_10, P_X6_partyAt, P_X11_done, P_X11_done_13, P_X11_in, P_X11_asked, P_X11_asked_10, P_X11_asked_, P_X11_asked__18, P_X11_asked__, P_X11_asked___26, P_X11_thrown, P_X11_told, ↓reduceIte, ↓forall_eq, ↓hold_ca, ↓hold_cam, ↓hold_cl, ↓hold_se, ↓hold_sem, ↓hold_st, ↓hold_wr, ↓hold_wrm, li0, li1, li2, li3, li4, li5, li6, li7, li8, li10, li20, li30, li35, li36, li60, li72, li100, li572, li2000, li2100, li9999, nI_lt_t, nI_lt_f, nI_le_t, nI_le_f, nI_eq_t, nI_eq_f, nI_eq_neg2, neg_eq_nI2, neg_lt2, neg_le2, nI_lt_neg2, nI_le_neg2, pred_t, pred_f, nI_clamp', vp_t, lt0_t, lt0_le, lt0_lt, lt0_eq, if_true, if_false, ite_true, ite_false, true_and, and_true, false_and, and_false, false_or, or_false, true_or, or_true, eq_self, fs_ne, fs_eq, fs_eq', st12, st13, st21, st23, st31, st32, not_true_eq_false, not_false_eq_true, em, em', en, en', et, et', eg, eg', ed, ed', es, es', eo', ee, ee', ev, ev', c3, f14, c5 p hpn]
        refine gN_mod hI h5 (by repeat (first | exact hC.sm | refine Sm.fs40 ?_ _ _ (by decide) | refine Sm.fsT ?_ _ _ _ _ rfl (by decide) (by decide))) (fun F2 hM => ?_)
        obtain ⟨k1, k2, k3, k4, k5, k6, k7⟩ := hM
        have hM : MRes (VN F) F _ F2 := ⟨k1, k2, k3, k4, k5, k6, k7⟩
        have k14 : F2 40 0 14 = nI g := by rw [k2 14 (by decide) (by decide)]; simp (disch := first | omega | assumption) only [PL_31, P_L_seatAt, P_X10_seatAt, P_X11_seatAt, P_X11_seatAt_10, P_X6_partyAt, P_X11_done, P_X11_done_13, P_X11_in, P_X11_asked, P_X11_asked_10, P_X11_asked_, P_X11_asked__18, P_X11_asked__, P_X11_asked___26, P_X11_thrown, P_X11_told, ↓reduceIte, ↓forall_eq, ↓hold_ca, ↓hold_cam, ↓hold_cl, ↓hold_se, ↓hold_sem, ↓hold_st, ↓hold_wr, ↓hold_wrm, li0, li1, li2, li3, li4, li5, li6, li7, li8, li10, li20, li30, li35, li36, li60, li72, li100, li572, li2000, li2100, li9999, nI_lt_t, nI_lt_f, nI_le_t, nI_le_f, nI_eq_t, nI_eq_f, nI_eq_neg2, neg_eq_nI2, neg_lt2, neg_le2, nI_lt_neg2, nI_le_neg2, pred_t, pred_f, nI_clamp', vp_t, lt0_t, lt0_le, lt0_lt, lt0_eq, if_true, if_false, ite_true, ite_false, true_and, and_true, false_and, and_false, false_or, or_false, true_or, or_true, eq_self, fs_ne, fs_eq, fs_eq', st12, st13, st21, st23, st31, st32, not_true_eq_false, not_false_eq_true, f14]
        have k43 : F2 40 0 43 = nI 0 := by rw [k2 43 (by decide) (by decide)]; simp (disch := first | omega | assumption) only [PL_31, P_L_seatAt, P_X10_seatAt, P_X11_seatAt, P_X11_seatAt_10, P_X6_partyAt, P_X11_done, P_X11_done_13, P_X11_in, P_X11_asked, P_X11_asked_10, P_X11_asked_, P_X11_asked__18, P_X11_asked__, P_X11_asked___26, P_X11_thrown, P_X11_told, ↓reduceIte, ↓forall_eq, ↓hold_ca, ↓hold_cam, ↓hold_cl, ↓hold_se, ↓hold_sem, ↓hold_st, ↓hold_wr, ↓hold_wrm, li0, li1, li2, li3, li4, li5, li6, li7, li8, li10, li20, li30, li35, li36, li60, li72, li100, li572, li2000, li2100, li9999, nI_lt_t, nI_lt_f, nI_le_t, nI_le_f, nI_eq_t, nI_eq_f, nI_eq_neg2, neg_eq_nI2, neg_lt2, neg_le2, nI_lt_neg2, nI_le_neg2, pred_t, pred_f, nI_clamp', vp_t, lt0_t, lt0_le, lt0_lt, lt0_eq, if_true, if_false, ite_true, ite_false, true_and, and_true, false_and, and_false, false_or, or_false, true_or, or_true, eq_self, fs_ne, fs_eq, fs_eq', st12, st13, st21, st23, st31, st32, not_true_eq_false, not_false_eq_true]
        have k79 : F2 79 0 0 = nI ((RS (VN F) F).2.2.2 p) := by rw [k1 79 (by decide) (by decide) (by decide) (by decide)]; simp (disch := first | omega | assumption) only [PL_31, P_L_seatAt, P_X10_seatAt, P_X11_seatAt, P_X11_seatAt_10, P_X6_partyAt, P_X11_done, P_X11_done_13, P_X11_in, P_X11_asked, P_X11_asked_10, P_X11_asked_, P_X11_asked__18, P_X11_asked__, P_X11_asked___26, P_X11_thrown, P_X11_told, ↓reduceIte, ↓forall_eq, ↓hold_ca, ↓hold_cam, ↓hold_cl, ↓hold_se, ↓hold_sem, ↓hold_st, ↓hold_wr, ↓hold_wrm, li0, li1, li2, li3, li4, li5, li6, li7, li8, li10, li20, li30, li35, li36, li60, li72, li100, li572, li2000, li2100, li9999, nI_lt_t, nI_lt_f, nI_le_t, nI_le_f, nI_eq_t, nI_eq_f, nI_eq_neg2, neg_eq_nI2, neg_lt2, neg_le2, nI_lt_neg2, nI_le_neg2, pred_t, pred_f, nI_clamp', vp_t, lt0_t, lt0_le, lt0_lt, lt0_eq, if_true, if_false, ite_true, ite_false, true_and, and_true, false_and, and_false, false_or, or_false, true_or, or_true, eq_self, fs_ne, fs_eq, fs_eq', st12, st13, st21, st23, st31, st32, not_true_eq_false, not_false_eq_true]
        simp (disch := first | omega | assumption) only [PL_31, P_L_seatAt, P_X10_seatAt, P_X11_seatAt, P_X11_seatAt_10, P_X6_partyAt, P_X11_done, P_X11_done_13, P_X11_in, P_X11_asked, P_X11_asked_10, P_X11_asked_, P_X11_asked__18, P_X11_asked__, P_X11_asked___26, P_X11_thrown, P_X11_told, ↓reduceIte, ↓forall_eq, ↓hold_ca, ↓hold_cam, ↓hold_cl, ↓hold_se, ↓hold_sem, ↓hold_st, ↓hold_wr, ↓hold_wrm, li0, li1, li2, li3, li4, li5, li6, li7, li8, li10, li20, li30, li35, li36, li60, li72, li100, li572, li2000, li2100, li9999, nI_lt_t, nI_lt_f, nI_le_t, nI_le_f, nI_eq_t, nI_eq_f, nI_eq_neg2, neg_eq_nI2, neg_lt2, neg_le2, nI_lt_neg2, nI_le_neg2, pred_t, pred_f, nI_clamp', vp_t, lt0_t, lt0_le, lt0_lt, lt0_eq, if_true, if_false, ite_true, ite_false, true_and, and_true, false_and, and_false, false_or, or_false, true_or, or_true, eq_self, fs_ne, fs_eq, fs_eq', st12, st13, st21, st23, st31, st32, not_true_eq_false, not_false_eq_true, em, em', en, en', et, et', eg, eg', ed, ed', es, es', eo', ee, ee', ev, ev', k14, k43, k79, k5, k7 p hpn]
        refine hI.end (Sm.trans ?_ (hM).sm)
        repeat (first | exact hC.sm | refine Sm.fs40 ?_ _ _ (by decide) | refine Sm.fsT ?_ _ _ _ _ rfl (by decide) (by decide))
      · simp (disch := first | omega | assumption) only [PL_31, P_L_seatAt, P_X10_seatAt, P_X11_seatAt, P_X11_seatAt_10, P_X6_partyAt, P_X11_done, P_X11_done_13, P_X11_in, P_X11_asked, P_X11_asked_10, P_X11_asked_, P_X11_asked__18, P_X11_asked__, P_X11_asked___26, P_X11_thrown, P_X11_told, ↓reduceIte, ↓forall_eq, ↓hold_ca, ↓hold_cam, ↓hold_cl, ↓hold_se, ↓hold_sem, ↓hold_st, ↓hold_wr, ↓hold_wrm, li0, li1, li2, li3, li4, li5, li6, li7, li8, li10, li20, li30, li35, li36, li60, li72, li100, li572, li2000, li2100, li9999, nI_lt_t, nI_lt_f, nI_le_t, nI_le_f, nI_eq_t, nI_eq_f, nI_eq_neg2, neg_eq_nI2, neg_lt2, neg_le2, nI_lt_neg2, nI_le_neg2, pred_t, pred_f, nI_clamp', vp_t, lt0_t, lt0_le, lt0_lt, lt0_eq, if_true, if_false, ite_true, ite_false, true_and, and_true, false_and, and_false, false_or, or_false, true_or, or_true, eq_self, fs_ne, fs_eq, fs_eq', st12, st13, st21, st23, st31, st32, not_true_eq_false, not_false_eq_true, em, em', en, en', et, et', eg, eg', ed, ed', es, es', eo', ee, ee', ev, ev', c3, f14]
        refine gN_mod hI h5 (by repeat (first | exact hC.sm | refine Sm.fs40 ?_ _ _ (by decide) | refine Sm.fsT ?_ _ _ _ _ rfl (by decide) (by decide))) (fun F2 hM => ?_)
        obtain ⟨k1, k2, k3, k4, k5, k6, k7⟩ := hM
        have hM : MRes (VN F) F _ F2 := ⟨k1, k2, k3, k4, k5, k6, k7⟩
        have k14 : F2 40 0 14 = nI g := by rw [k2 14 (by decide) (by decide)]; simp (disch := first | omega | assumption) only [PL_31, P_L_seatAt, P_X10_seatAt, P_X11_seatAt, P_X11_seatAt_10, P_X6_partyAt, P_X11_done, P_X11_done_13, P_X11_in, P_X11_asked, P_X11_asked_10, P_X11_asked_, P_X11_asked__18, P_X11_asked__, P_X11_asked___26, P_X11_thrown, P_X11_told, ↓reduceIte, ↓forall_eq, ↓hold_ca, ↓hold_cam, ↓hold_cl, ↓hold_se, ↓hold_sem, ↓hold_st, ↓hold_wr, ↓hold_wrm, li0, li1, li2, li3, li4, li5, li6, li7, li8, li10, li20, li30, li35, li36, li60, li72, li100, li572, li2000, li2100, li9999, nI_lt_t, nI_lt_f, nI_le_t, nI_le_f, nI_eq_t, nI_eq_f, nI_eq_neg2, neg_eq_nI2, neg_lt2, neg_le2, nI_lt_neg2, nI_le_neg2, pred_t, pred_f, nI_clamp', vp_t, lt0_t, lt0_le, lt0_lt, lt0_eq, if_true, if_false, ite_true, ite_false, true_and, and_true, false_and, and_false, false_or, or_false, true_or, or_true, eq_self, fs_ne, fs_eq, fs_eq', st12, st13, st21, st23, st31, st32, not_true_eq_false, not_false_eq_true, f14]
        have k43 : F2 40 0 43 = nI 0 := by rw [k2 43 (by decide) (by decide)]; simp (disch := first | omega | assumption) only [PL_31, P_L_seatAt, P_X10_seatAt, P_X11_seatAt, P_X11_seatAt_10, P_X6_partyAt, P_X11_done, P_X11_done_13, P_X11_in, P_X11_asked, P_X11_asked_10, P_X11_asked_, P_X11_asked__18, P_X11_asked__, P_X11_asked___26, P_X11_thrown, P_X11_told, ↓reduceIte, ↓forall_eq, ↓hold_ca, ↓hold_cam, ↓hold_cl, ↓hold_se, ↓hold_sem, ↓hold_st, ↓hold_wr, ↓hold_wrm, li0, li1, li2, li3, li4, li5, li6, li7, li8, li10, li20, li30, li35, li36, li60, li72, li100, li572, li2000, li2100, li9999, nI_lt_t, nI_lt_f, nI_le_t, nI_le_f, nI_eq_t, nI_eq_f, nI_eq_neg2, neg_eq_nI2, neg_lt2, neg_le2, nI_lt_neg2, nI_le_neg2, pred_t, pred_f, nI_clamp', vp_t, lt0_t, lt0_le, lt0_lt, lt0_eq, if_true, if_false, ite_true, ite_false, true_and, and_true, false_and, and_false, false_or, or_false, true_or, or_true, eq_self, fs_ne, fs_eq, fs_eq', st12, st13, st21, st23, st31, st32, not_true_eq_false, not_false_eq_true]
        have k79 : F2 79 0 0 = -1 := by rw [k1 79 (by decide) (by decide) (by decide) (by decide)]; simp (disch := first | omega | assumption) only [PL_31, P_L_seatAt, P_X10_seatAt, P_X11_seatAt, P_X11_seatAt_10, P_X6_partyAt, P_X11_done, P_X11_done_13, P_X11_in, P_X11_asked, P_X11_asked_10, P_X11_asked_, P_X11_asked__18, P_X11_asked__, P_X11_asked___26, P_X11_thrown, P_X11_told, ↓reduceIte, ↓forall_eq, ↓hold_ca, ↓hold_cam, ↓hold_cl, ↓hold_se, ↓hold_sem, ↓hold_st, ↓hold_wr, ↓hold_wrm, li0, li1, li2, li3, li4, li5, li6, li7, li8, li10, li20, li30, li35, li36, li60, li72, li100, li572, li2000, li2100, li9999, nI_lt_t, nI_lt_f, nI_le_t, nI_le_f, nI_eq_t, nI_eq_f, nI_eq_neg2, neg_eq_nI2, neg_lt2, neg_le2, nI_lt_neg2, nI_le_neg2, pred_t, pred_f, nI_clamp', vp_t, lt0_t, lt0_le, lt0_lt, lt0_eq, if_true, if_false, ite_true, ite_false, true_and, and_true, false_and, and_false, false_or, or_false, true_or, or_true, eq_self, fs_ne, fs_eq, fs_eq', st12, st13, st21, st23, st31, st32, not_true_eq_false, not_false_eq_true, neg_lit]
        simp (disch := first | omega | assumption) only [PL_31, P_L_seatAt, P_X10_seatAt, P_X11_seatAt, P_X11_seatAt_10, P_X6_partyAt, P_X11_done, P_X11_done_13, P_X11_in, P_X11_asked, P_X11_asked_10, P_X11_asked_, P_X11_asked__18, P_X11_asked__, P_X11_asked___26, P_X11_thrown, P_X11_told, ↓reduceIte, ↓forall_eq, ↓hold_ca, ↓hold_cam, ↓hold_cl, ↓hold_se, ↓hold_sem, ↓hold_st, ↓hold_wr, ↓hold_wrm, li0, li1, li2, li3, li4, li5, li6, li7, li8, li10, li20, li30, li35, li36, li60, li72, li100, li572, li2000, li2100, li9999, nI_lt_t, nI_lt_f, nI_le_t, nI_le_f, nI_eq_t, nI_eq_f, nI_eq_neg2, neg_eq_nI2, neg_lt2, neg_le2, nI_lt_neg2, nI_le_neg2, pred_t, pred_f, nI_clamp', vp_t, lt0_t, lt0_le, lt0_lt, lt0_eq, if_true, if_false, ite_true, ite_false, true_and, and_true, false_and, and_false, false_or, or_false, true_or, or_true, eq_self, fs_ne, fs_eq, fs_eq', st12, st13, st21, st23, st31, st32, not_true_eq_false, not_false_eq_true, em, em', en, en', et, et', eg, eg', ed, ed', es, es', eo', ee, ee', ev, ev', k14, k43, k79, k5]
        refine hI.end (Sm.trans ?_ (hM).sm)
        repeat (first | exact hC.sm | refine Sm.fs40 ?_ _ _ (by decide) | refine Sm.fsT ?_ _ _ _ _ rfl (by decide) (by decide))
    · simp (disch := first | omega | assumption) only [PL_31, P_L_seatAt, P_X10_seatAt, P_X11_seatAt, P_X11_seatAt_10, P_X6_partyAt, P_X11_done, P_X11_done_13, P_X11_in, P_X11_asked, P_X11_asked_10, P_X11_asked_, P_X11_asked__18, P_X11_asked__, P_X11_asked___26, P_X11_thrown, P_X11_told, ↓reduceIte, ↓forall_eq, ↓hold_ca, ↓hold_cam, ↓hold_cl, ↓hold_se, ↓hold_sem, ↓hold_st, ↓hold_wr, ↓hold_wrm, li0, li1, li2, li3, li4, li5, li6, li7, li8, li10, li20, li30, li35, li36, li60, li72, li100, li572, li2000, li2100, li9999, nI_lt_t, nI_lt_f, nI_le_t, nI_le_f, nI_eq_t, nI_eq_f, nI_eq_neg2, neg_eq_nI2, neg_lt2, neg_le2, nI_lt_neg2, nI_le_neg2, pred_t, pred_f, nI_clamp', vp_t, lt0_t, lt0_le, lt0_lt, lt0_eq, if_true, if_false, ite_true, ite_false, true_and, and_true, false_and, and_false, false_or, or_false, true_or, or_true, eq_self, fs_ne, fs_eq, fs_eq', st12, st13, st21, st23, st31, st32, not_true_eq_false, not_false_eq_true, em, em', en, en', et, et', eg, eg', ed, ed', es, es', eo', ee, ee', ev, ev']
      refine hI.end ?_
      repeat (first | exact Sm.refl _ | refine Sm.fs40 ?_ _ _ (by decide) | refine Sm.fsT ?_ _ _ _ _ rfl (by decide) (by decide))
set_option maxHeartbeats 1000000 in
set_option maxRecDepth 20000 in
theorem m32 {k : Nat} {F : GF} (h : Inv k F) (a1 a2 a3 : Int32) : PL_32 a1 a2 a3 (Inv (k + 1)) F := by
  have hI := h
  obtain ⟨⟨q0, q1, q2, q3, q4, q5, q6, q7, q8, q9, q10, q11⟩, ⟨r0, r1, r2, r3, r4, r5, r6, r7, r8, r9, r10, r11, r12, r13, r14⟩, cb, lg⟩ := h
  have R1 := r1
  have R2 := r2
  have R3 := r3
  have R4 := r4
  obtain ⟨m, hm, em, hmc⟩ := r1
  have em' : F 40 0 6 = nI m := q2.1.trans em
  obtain ⟨n, hn, en⟩ := r2
  have en' : F 40 0 9 = nI n := q4.1.trans en
  obtain ⟨t, g, d, s, e, ht, et, hg, eg, hd, ed, hs, es, he, ee, hem, hg1, hg2, hg3⟩ := r3
  have et' : F 40 0 0 = nI t := q0.trans et
  have eg' : F 40 0 14 = nI g := q5.1.trans eg
  have ed' : F 40 0 15 = nI d := q5.2.1.trans ed
  have es' : F 40 0 16 = nI s := q5.2.2.1.trans es
  have eo' : F 40 0 17 = F 10 0 3 := q5.2.2.2.1
  have ee' : F 40 0 19 = nI e := q5.2.2.2.2.trans ee
  obtain ⟨⟨v, hv, ev⟩, hev⟩ := r4
  have ev' : F 40 0 26 = nI v := q8.1.trans ev
  by_cases g5 : g = 5
  · have h5 : F 10 0 0 = 5 := by rw [eg, g5]; rfl
    simp (disch := first | omega | assumption) only [PL_32, P_X10_lots, P_X11_lots, P_X11_done, P_X11_done_13, P_X11_in, P_X11_asked, P_X11_asked_10, P_X11_asked_, P_X11_asked__18, P_X11_asked__, P_X11_asked___26, P_X11_thrown, P_X11_told, ↓reduceIte, ↓forall_eq, ↓hold_ca, ↓hold_cam, ↓hold_cl, ↓hold_se, ↓hold_sem, ↓hold_st, ↓hold_wr, ↓hold_wrm, li0, li1, li2, li3, li4, li5, li6, li7, li8, li10, li20, li30, li35, li36, li60, li72, li100, li572, li2000, li2100, li9999, nI_lt_t, nI_lt_f, nI_le_t, nI_le_f, nI_eq_t, nI_eq_f, nI_eq_neg2, neg_eq_nI2, neg_lt2, neg_le2, nI_lt_neg2, nI_le_neg2, pred_t, pred_f, nI_clamp', vp_t, lt0_t, lt0_le, lt0_lt, lt0_eq, if_true, if_false, ite_true, ite_false, true_and, and_true, false_and, and_false, false_or, or_false, true_or, or_true, eq_self, fs_ne, fs_eq, fs_eq', st12, st13, st21, st23, st31, st32, not_true_eq_false, not_false_eq_true, em, em', en, en', et, et', eg, eg', ed, ed', es, es', eo', ee, ee', ev, ev']
    refine gN_cls hI h5 (fun F1 hC => ?_)
    obtain ⟨c1, c2, c3, c4, c5⟩ := hC
    have hC : CRes (VN F) F F1 := ⟨c1, c2, c3, c4, c5⟩
    have f14 : F1 40 0 14 = nI g := by rw [c1 40 (by decide) (by decide) (by decide) (by decide) (by decide)]; exact eg'
    simp (disch := first | omega | assumption) only [PL_32, P_X10_lots, P_X11_lots, P_X11_done, P_X11_done_13, P_X11_in, P_X11_asked, P_X11_asked_10, P_X11_asked_, P_X11_asked__18, P_X11_asked__, P_X11_asked___26, P_X11_thrown, P_X11_told, ↓reduceIte, ↓forall_eq, ↓hold_ca, ↓hold_cam, ↓hold_cl, ↓hold_se, ↓hold_sem, ↓hold_st, ↓hold_wr, ↓hold_wrm, li0, li1, li2, li3, li4, li5, li6, li7, li8, li10, li20, li30, li35, li36, li60, li72, li100, li572, li2000, li2100, li9999, nI_lt_t, nI_lt_f, nI_le_t, nI_le_f, nI_eq_t, nI_eq_f, nI_eq_neg2, neg_eq_nI2, neg_lt2, neg_le2, nI_lt_neg2, nI_le_neg2, pred_t, pred_f, nI_clamp', vp_t, lt0_t, lt0_le, lt0_lt, lt0_eq, if_true, if_false, ite_true, ite_false, true_and, and_true, false_and, and_false, false_or, or_false, true_or, or_true, eq_self, fs_ne, fs_eq, fs_eq', st12, st13, st21, st23, st31, st32, not_true_eq_false, not_false_eq_true, em, em', en, en', et, et', eg, eg', ed, ed', es, es', eo', ee, ee', ev, ev', f14, c4]
    refine gN_mod hI h5 (by repeat (first | exact hC.sm | refine Sm.fs40 ?_ _ _ (by decide) | refine Sm.fsT ?_ _ _ _ _ rfl (by decide) (by decide))) (fun F2 hM => ?_)
    obtain ⟨k1, k2, k3, k4, k5, k6, k7⟩ := hM
    have hM : MRes (VN F) F _ F2 := ⟨k1, k2, k3, k4, k5, k6, k7⟩
    have k14 : F2 40 0 14 = nI g := by rw [k2 14 (by decide) (by decide)]; simp (disch := first | omega | assumption) only [PL_32, P_X10_lots, P_X11_lots, P_X11_done, P_X11_done_13, P_X11_in, P_X11_asked, P_X11_asked_10, P_X11_asked_, P_X11_asked__18, P_X11_asked__, P_X11_asked___26, P_X11_thrown, P_X11_told, ↓reduceIte, ↓forall_eq, ↓hold_ca, ↓hold_cam, ↓hold_cl, ↓hold_se, ↓hold_sem, ↓hold_st, ↓hold_wr, ↓hold_wrm, li0, li1, li2, li3, li4, li5, li6, li7, li8, li10, li20, li30, li35, li36, li60, li72, li100, li572, li2000, li2100, li9999, nI_lt_t, nI_lt_f, nI_le_t, nI_le_f, nI_eq_t, nI_eq_f, nI_eq_neg2, neg_eq_nI2, neg_lt2, neg_le2, nI_lt_neg2, nI_le_neg2, pred_t, pred_f, nI_clamp', vp_t, lt0_t, lt0_le, lt0_lt, lt0_eq, if_true, if_false, ite_true, ite_false, true_and, and_true, false_and, and_false, false_or, or_false, true_or, or_true, eq_self, fs_ne, fs_eq, fs_eq', st12, st13, st21, st23, st31, st32, not_true_eq_false, not_false_eq_true, f14]
    simp (disch := first | omega | assumption) only [PL_32, P_X10_lots, P_X11_lots, P_X11_done, P_X11_done_13, P_X11_in, P_X11_asked, P_X11_asked_10, P_X11_asked_, P_X11_asked__18, P_X11_asked__, P_X11_asked___26, P_X11_thrown, P_X11_told, ↓reduceIte, ↓forall_eq, ↓hold_ca, ↓hold_cam, ↓hold_cl, ↓hold_se, ↓hold_sem, ↓hold_st, ↓hold_wr, ↓hold_wrm, li0, li1, li2, li3, li4, li5, li6, li7, li8, li10, li20, li30, li35, li36, li60, li72, li100, li572, li2000, li2100, li9999, nI_lt_t, nI_lt_f, nI_le_t, nI_le_f, nI_eq_t, nI_eq_f, nI_eq_neg2, neg_eq_nI2, neg_lt2, neg_le2, nI_lt_neg2, nI_le_neg2, pred_t, pred_f, nI_clamp', vp_t, lt0_t, lt0_le, lt0_lt, lt0_eq, if_true, if_false, ite_true, ite_false, true_and, and_true, false_and, and_false, false_or, or_false, true_or, or_true, eq_self, fs_ne, fs_eq, fs_eq', st12, st13, st21, st23, st31, st32, not_true_eq_false, not_false_eq_true, em, em', en, en', et, et', eg, eg', ed, ed', es, es', eo', ee, ee', ev, ev', k14, k6]
    refine hI.end (Sm.trans ?_ (hM).sm)
    repeat (first | exact hC.sm | refine Sm.fs40 ?_ _ _ (by decide) | refine Sm.fsT ?_ _ _ _ _ rfl (by decide) (by decide))
  · simp (disch := first | omega | assumption) only [PL_32, P_X10_lots, P_X11_lots, P_X11_done, P_X11_done_13, P_X11_in, P_X11_asked, P_X11_asked_10, P_X11_asked_, P_X11_asked__18, P_X11_asked__, P_X11_asked___26, P_X11_thrown, P_X11_told, ↓reduceIte, ↓forall_eq, ↓hold_ca, ↓hold_cam, ↓hold_cl, ↓hold_se, ↓hold_sem, ↓hold_st, ↓hold_wr, ↓hold_wrm, li0, li1, li2, li3, li4, li5, li6, li7, li8, li10, li20, li30, li35, li36, li60, li72, li100, li572, li2000, li2100, li9999, nI_lt_t, nI_lt_f, nI_le_t, nI_le_f, nI_eq_t, nI_eq_f, nI_eq_neg2, neg_eq_nI2, neg_lt2, neg_le2, nI_lt_neg2, nI_le_neg2, pred_t, pred_f, nI_clamp', vp_t, lt0_t, lt0_le, lt0_lt, lt0_eq, if_true, if_false, ite_true, ite_false, true_and, and_true, false_and, and_false, false_or, or_false, true_or, or_true, eq_self, fs_ne, fs_eq, fs_eq', st12, st13, st21, st23, st31, st32, not_true_eq_false, not_false_eq_true, em, em', en, en', et, et', eg, eg', ed, ed', es, es', eo', ee, ee', ev, ev']
    refine hI.end ?_
    repeat (first | exact Sm.refl _ | refine Sm.fs40 ?_ _ _ (by decide) | refine Sm.fsT ?_ _ _ _ _ rfl (by decide) (by decide))
set_option maxHeartbeats 1000000 in
set_option maxRecDepth 20000 in
theorem m33 {k : Nat} {F : GF} (h : Inv k F) (a1 a2 a3 : Int32) : PL_33 a1 a2 a3 (Inv (k + 1)) F := by
  have hI := h
  obtain ⟨⟨q0, q1, q2, q3, q4, q5, q6, q7, q8, q9, q10, q11⟩, ⟨r0, r1, r2, r3, r4, r5, r6, r7, r8, r9, r10, r11, r12, r13, r14⟩, cb, lg⟩ := h
  have R1 := r1
  have R2 := r2
  have R3 := r3
  have R4 := r4
  obtain ⟨m, hm, em, hmc⟩ := r1
  have em' : F 40 0 6 = nI m := q2.1.trans em
  obtain ⟨n, hn, en⟩ := r2
  have en' : F 40 0 9 = nI n := q4.1.trans en
  obtain ⟨t, g, d, s, e, ht, et, hg, eg, hd, ed, hs, es, he, ee, hem, hg1, hg2, hg3⟩ := r3
  have et' : F 40 0 0 = nI t := q0.trans et
  have eg' : F 40 0 14 = nI g := q5.1.trans eg
  have ed' : F 40 0 15 = nI d := q5.2.1.trans ed
  have es' : F 40 0 16 = nI s := q5.2.2.1.trans es
  have eo' : F 40 0 17 = F 10 0 3 := q5.2.2.2.1
  have ee' : F 40 0 19 = nI e := q5.2.2.2.2.trans ee
  obtain ⟨⟨v, hv, ev⟩, hev⟩ := r4
  have ev' : F 40 0 26 = nI v := q8.1.trans ev
  by_cases g4 : g = 4
  · by_cases g5 : g = 5
    · rcases int_cases a1 with hneg_p | ⟨p, hbig_p, rfl⟩
      · first
          | exfalso; omega
          | simp (disch := first | omega | assumption) only [PL_33, P_L_seatsByBallots, P_X10_seatsByBallots, P_X10_seatsByBallots_28, P_X11_seatsByBallots, P_X10_needParty, P_X11_isParty, P_X11_in, P_X11_asked, P_X11_asked_10, P_X11_asked_, P_X11_asked__18, P_X11_asked__, P_X11_asked___26, P_X11_thrown, P_X11_told, ↓reduceIte, ↓forall_eq, ↓hold_ca, ↓hold_cam, ↓hold_cl, ↓hold_se, ↓hold_sem, ↓hold_st, ↓hold_wr, ↓hold_wrm, li0, li1, li2, li3, li4, li5, li6, li7, li8, li10, li20, li30, li35, li36, li60, li72, li100, li572, li2000, li2100, li9999, nI_lt_t, nI_lt_f, nI_le_t, nI_le_f, nI_eq_t, nI_eq_f, nI_eq_neg2, neg_eq_nI2, neg_lt2, neg_le2, nI_lt_neg2, nI_le_neg2, pred_t, pred_f, nI_clamp', vp_t, lt0_t, lt0_le, lt0_lt, lt0_eq, if_true, if_false, ite_true, ite_false, true_and, and_true, false_and, and_false, false_or, or_false, true_or, or_true, eq_self, fs_ne, fs_eq, fs_eq', st12, st13, st21, st23, st31, st32, not_true_eq_false, not_false_eq_true, em, em', en, en', et, et', eg, eg', ed, ed', es, es', eo', ee, ee', ev, ev']
            refine hI.end ?_
            repeat (first | exact Sm.refl _ | refine Sm.fs40 ?_ _ _ (by decide) | refine Sm.fsT ?_ _ _ _ _ rfl (by decide) (by decide))
      · by_cases hlt_p : p < 5
        · first
            | exfalso; omega
            | simp (disch := first | omega | assumption) only [PL_33, P_L_seatsByBallots, P_X10_seatsByBallots, P_X10_seatsByBallots_28, P_X11_seatsByBallots, P_X10_needParty, P_X11_isParty, P_X11_in, P_X11_asked, P_X11_asked_10, P_X11_asked_, P_X11_asked__18, P_X11_asked__, P_X11_asked___26, P_X11_thrown, P_X11_told, ↓reduceIte, ↓forall_eq, ↓hold_ca, ↓hold_cam, ↓hold_cl, ↓hold_se, ↓hold_sem, ↓hold_st, ↓hold_wr, ↓hold_wrm, li0, li1, li2, li3, li4, li5, li6, li7, li8, li10, li20, li30, li35, li36, li60, li72, li100, li572, li2000, li2100, li9999, nI_lt_t, nI_lt_f, nI_le_t, nI_le_f, nI_eq_t, nI_eq_f, nI_eq_neg2, neg_eq_nI2, neg_lt2, neg_le2, nI_lt_neg2, nI_le_neg2, pred_t, pred_f, nI_clamp', vp_t, lt0_t, lt0_le, lt0_lt, lt0_eq, if_true, if_false, ite_true, ite_false, true_and, and_true, false_and, and_false, false_or, or_false, true_or, or_true, eq_self, fs_ne, fs_eq, fs_eq', st12, st13, st21, st23, st31, st32, not_true_eq_false, not_false_eq_true, em, em', en, en', et, et', eg, eg', ed, ed', es, es', eo', ee, ee', ev, ev']
              refine gB_cls hI (fun F1 hC => ?_)
              obtain ⟨c1, c2, c3, c4, c5⟩ := hC
              have hC : CRes (VB F) F F1 := ⟨c1, c2, c3, c4, c5⟩
              have f14 : F1 40 0 14 = nI g := by rw [c1 40 (by decide) (by decide) (by decide) (by decide) (by decide)]; exact eg'
              simp (disch := first | omega | assumption) only [PL_33, P_L_seatsByBallots, P_X10_seatsByBallots, P_X10_seatsByBallots_28, P_X11_seatsByBallots, P_X10_needParty, P_X11_isParty, P_X11_in, P_X11_asked, P_X11_asked_10, P_X11_asked_, P_X11_asked__18, P_X11_asked__, P_X11_asked___26, P_X11_thrown, P_X11_told, ↓reduceIte, ↓forall_eq, ↓hold_ca, ↓hold_cam, ↓hold_cl, ↓hold_se, ↓hold_sem, ↓hold_st, ↓hold_wr, ↓hold_wrm, li0, li1, li2, li3, li4, li5, li6, li7, li8, li10, li20, li30, li35, li36, li60, li72, li100, li572, li2000, li2100, li9999, nI_lt_t, nI_lt_f, nI_le_t, nI_le_f, nI_eq_t, nI_eq_f, nI_eq_neg2, neg_eq_nI2, neg_lt2, neg_le2, nI_lt_neg2, nI_le_neg2, pred_t, pred_f, nI_clamp', vp_t, lt0_t, lt0_le, lt0_lt, lt0_eq, if_true, if_false, ite_true, ite_false, true_and, and_true, false_and, and_false, false_or, or_false, true_or, or_true, eq_self, fs_ne, fs_eq, fs_eq', st12, st13, st21, st23, st31, st32, not_true_eq_false, not_false_eq_true, em, em', en, en', et, et', eg, eg', ed, ed', es, es', eo', ee, ee', ev, ev', f14, c2 p hlt_p]
              refine gB_mod hI (by repeat (first | exact hC.sm | refine Sm.fs40 ?_ _ _ (by decide) | refine Sm.fsT ?_ _ _ _ _ rfl (by decide) (by decide))) (fun F2 hM => ?_)
              obtain ⟨k1, k2, k3, k4, k5, k6, k7⟩ := hM
              have hM : MRes (VB F) F _ F2 := ⟨k1, k2, k3, k4, k5, k6, k7⟩
              have k43 : F2 40 0 43 = nI 0 := by rw [k2 43 (by decide) (by decide)]; simp (disch := first | omega | assumption) only [PL_33, P_L_seatsByBallots, P_X10_seatsByBallots, P_X10_seatsByBallots_28, P_X11_seatsByBallots, P_X10_needParty, P_X11_isParty, P_X11_in, P_X11_asked, P_X11_asked_10, P_X11_asked_, P_X11_asked__18, P_X11_asked__, P_X11_asked___26, P_X11_thrown, P_X11_told, ↓reduceIte, ↓forall_eq, ↓hold_ca, ↓hold_cam, ↓hold_cl, ↓hold_se, ↓hold_sem, ↓hold_st, ↓hold_wr, ↓hold_wrm, li0, li1, li2, li3, li4, li5, li6, li7, li8, li10, li20, li30, li35, li36, li60, li72, li100, li572, li2000, li2100, li9999, nI_lt_t, nI_lt_f, nI_le_t, nI_le_f, nI_eq_t, nI_eq_f, nI_eq_neg2, neg_eq_nI2, neg_lt2, neg_le2, nI_lt_neg2, nI_le_neg2, pred_t, pred_f, nI_clamp', vp_t, lt0_t, lt0_le, lt0_lt, lt0_eq, if_true, if_false, ite_true, ite_false, true_and, and_true, false_and, and_false, false_or, or_false, true_or, or_true, eq_self, fs_ne, fs_eq, fs_eq', st12, st13, st21, st23, st31, st32, not_true_eq_false, not_false_eq_true]
              have k79 : F2 79 0 0 = nI ((RS (VB F) F).1 p) := by rw [k1 79 (by decide) (by decide) (by decide) (by decide)]; simp (disch := first | omega | assumption) only [PL_33, P_L_seatsByBallots, P_X10_seatsByBallots, P_X10_seatsByBallots_28, P_X11_seatsByBallots, P_X10_needParty, P_X11_isParty, P_X11_in, P_X11_asked, P_X11_asked_10, P_X11_asked_, P_X11_asked__18, P_X11_asked__, P_X11_asked___26, P_X11_thrown, P_X11_told, ↓reduceIte, ↓forall_eq, ↓hold_ca, ↓hold_cam, ↓hold_cl, ↓hold_se, ↓hold_sem, ↓hold_st, ↓hold_wr, ↓hold_wrm, li0, li1, li2, li3, li4, li5, li6, li7, li8, li10, li20, li30, li35, li36, li60, li72, li100, li572, li2000, li2100, li9999, nI_lt_t, nI_lt_f, nI_le_t, nI_le_f, nI_eq_t, nI_eq_f, nI_eq_neg2, neg_eq_nI2, neg_lt2, neg_le2, nI_lt_neg2, nI_le_neg2, pred_t, pred_f, nI_clamp', vp_t, lt0_t, lt0_le, lt0_lt, lt0_eq, if_true, if_false, ite_true, ite_false, true_and, and_true, false_and, and_false, false_or, or_false, true_or, or_true, eq_self, fs_ne, fs_eq, fs_eq', st12, st13, st21, st23, st31, st32, not_true_eq_false, not_false_eq_true]
              simp (disch := first | omega | assumption) only [PL_33, P_L_seatsByBallots, P_X10_seatsByBallots, P_X10_seatsByBallots_28, P_X11_seatsByBallots, P_X10_needParty, P_X11_isParty, P_X11_in, P_X11_asked, P_X11_asked_10, P_X11_asked_, P_X11_asked__18, P_X11_asked__, P_X11_asked___26, P_X11_thrown, P_X11_told, ↓reduceIte, ↓forall_eq, ↓hold_ca, ↓hold_cam, ↓hold_cl, ↓hold_se, ↓hold_sem, ↓hold_st, ↓hold_wr, ↓hold_wrm, li0, li1, li2, li3, li4, li5, li6, li7, li8, li10, li20, li30, li35, li36, li60, li72, li100, li572, li2000, li2100, li9999, nI_lt_t, nI_lt_f, nI_le_t, nI_le_f, nI_eq_t, nI_eq_f, nI_eq_neg2, neg_eq_nI2, neg_lt2, neg_le2, nI_lt_neg2, nI_le_neg2, pred_t, pred_f, nI_clamp', vp_t, lt0_t, lt0_le, lt0_lt, lt0_eq, if_true, if_false, ite_true, ite_false, true_and, and_true, false_and, and_false, false_or, or_false, true_or, or_true, eq_self, fs_ne, fs_eq, fs_eq', st12, st13, st21, st23, st31, st32, not_true_eq_false, not_false_eq_true, em, em', en, en', et, et', eg, eg', ed, ed', es, es', eo', ee, ee', ev, ev', k43, k79, k4 p hlt_p]
              refine hI.end (Sm.trans ?_ (hM).sm)
              repeat (first | exact hC.sm | refine Sm.fs40 ?_ _ _ (by decide) | refine Sm.fsT ?_ _ _ _ _ rfl (by decide) (by decide))
        · first
            | exfalso; omega
            | simp (disch := first | omega | assumption) only [PL_33, P_L_seatsByBallots, P_X10_seatsByBallots, P_X10_seatsByBallots_28, P_X11_seatsByBallots, P_X10_needParty, P_X11_isParty, P_X11_in, P_X11_asked, P_X11_asked_10, P_X11_asked_, P_X11_asked__18, P_X11_asked__, P_X11_asked___26, P_X11_thrown, P_X11_told, ↓reduceIte, ↓forall_eq, ↓hold_ca, ↓hold_cam, ↓hold_cl, ↓hold_se, ↓hold_sem, ↓hold_st, ↓hold_wr, ↓hold_wrm, li0, li1, li2, li3, li4, li5, li6, li7, li8, li10, li20, li30, li35, li36, li60, li72, li100, li572, li2000, li2100, li9999, nI_lt_t, nI_lt_f, nI_le_t, nI_le_f, nI_eq_t, nI_eq_f, nI_eq_neg2, neg_eq_nI2, neg_lt2, neg_le2, nI_lt_neg2, nI_le_neg2, pred_t, pred_f, nI_clamp', vp_t, lt0_t, lt0_le, lt0_lt, lt0_eq, if_true, if_false, ite_true, ite_false, true_and, and_true, false_and, and_false, false_or, or_false, true_or, or_true, eq_self, fs_ne, fs_eq, fs_eq', st12, st13, st21, st23, st31, st32, not_true_eq_false, not_false_eq_true, em, em', en, en', et, et', eg, eg', ed, ed', es, es', eo', ee, ee', ev, ev']
              refine hI.end ?_
              repeat (first | exact Sm.refl _ | refine Sm.fs40 ?_ _ _ (by decide) | refine Sm.fsT ?_ _ _ _ _ rfl (by decide) (by decide))
    · rcases int_cases a1 with hneg_p | ⟨p, hbig_p, rfl⟩
      · first
          | exfalso; omega
          | simp (disch := first | omega | assumption) only [PL_33, P_L_seatsByBallots, P_X10_seatsByBallots, P_X10_seatsByBallots_28, P_X11_seatsByBallots, P_X10_needParty, P_X11_isParty, P_X11_in, P_X11_asked, P_X11_asked_10, P_X11_asked_, P_X11_asked__18, P_X11_asked__, P_X11_asked___26, P_X11_thrown, P_X11_told, ↓reduceIte, ↓forall_eq, ↓hold_ca, ↓hold_cam, ↓hold_cl, ↓hold_se, ↓hold_sem, ↓hold_st, ↓hold_wr, ↓hold_wrm, li0, li1, li2, li3, li4, li5, li6, li7, li8, li10, li20, li30, li35, li36, li60, li72, li100, li572, li2000, li2100, li9999, nI_lt_t, nI_lt_f, nI_le_t, nI_le_f, nI_eq_t, nI_eq_f, nI_eq_neg2, neg_eq_nI2, neg_lt2, neg_le2, nI_lt_neg2, nI_le_neg2, pred_t, pred_f, nI_clamp', vp_t, lt0_t, lt0_le, lt0_lt, lt0_eq, if_true, if_false, ite_true, ite_false, true_and, and_true, false_and, and_false, false_or, or_false, true_or, or_true, eq_self, fs_ne, fs_eq, fs_eq', st12, st13, st21, st23, st31, st32, not_true_eq_false, not_false_eq_true, em, em', en, en', et, et', eg, eg', ed, ed', es, es', eo', ee, ee', ev, ev']
            refine hI.end ?_
            repeat (first | exact Sm.refl _ | refine Sm.fs40 ?_ _ _ (by decide) | refine Sm.fsT ?_ _ _ _ _ rfl (by decide) (by decide))
      · by_cases hlt_p : p < 5
        · first
            | exfalso; omega
            | simp (disch := first | omega | assumption) only [PL_33, P_L_seatsByBallots, P_X10_seatsByBallots, P_X10_seatsByBallots_28, P_X11_seatsByBallots, P_X10_needParty, P_X11_isParty, P_X11_in, P_X11_asked, P_X11_asked_10, P_X11_asked_, P_X11_asked__18, P_X11_asked__, P_X11_asked___26, P_X11_thrown, P_X11_told, ↓reduceIte, ↓forall_eq, ↓hold_ca, ↓hold_cam, ↓hold_cl, ↓hold_se, ↓hold_sem, ↓hold_st, ↓hold_wr, ↓hold_wrm, li0, li1, li2, li3, li4, li5, li6, li7, li8, li10, li20, li30, li35, li36, li60, li72, li100, li572, li2000, li2100, li9999, nI_lt_t, nI_lt_f, nI_le_t, nI_le_f, nI_eq_t, nI_eq_f, nI_eq_neg2, neg_eq_nI2, neg_lt2, neg_le2, nI_lt_neg2, nI_le_neg2, pred_t, pred_f, nI_clamp', vp_t, lt0_t, lt0_le, lt0_lt, lt0_eq, if_true, if_false, ite_true, ite_false, true_and, and_true, false_and, and_false, false_or, or_false, true_or, or_true, eq_self, fs_ne, fs_eq, fs_eq', st12, st13, st21, st23, st31, st32, not_true_eq_false, not_false_eq_true, em, em', en, en', et, et', eg, eg', ed, ed', es, es', eo', ee, ee', ev, ev']
              refine gB_cls hI (fun F1 hC => ?_)
              obtain ⟨c1, c2, c3, c4, c5⟩ := hC
              have hC : CRes (VB F) F F1 := ⟨c1, c2, c3, c4, c5⟩
              have f14 : F1 40 0 14 = nI g := by rw [c1 40 (by decide) (by decide) (by decide) (by decide) (by decide)]; exact eg'
              simp (disch := first | omega | assumption) only [PL_33, P_L_seatsByBallots, P_X10_seatsByBallots, P_X10_seatsByBallots_28, P_X11_seatsByBallots, P_X10_needParty, P_X11_isParty, P_X11_in, P_X11_asked, P_X11_asked_10, P_X11_asked_, P_X11_asked__18, P_X11_asked__, P_X11_asked___26, P_X11_thrown, P_X11_told, ↓reduceIte, ↓forall_eq, ↓hold_ca, ↓hold_cam, ↓hold_cl, ↓hold_se, ↓hold_sem, ↓hold_st, ↓hold_wr, ↓hold_wrm, li0, li1, li2, li3, li4, li5, li6, li7, li8, li10, li20, li30, li35, li36, li60, li72, li100, li572, li2000, li2100, li9999, nI_lt_t, nI_lt_f, nI_le_t, nI_le_f, nI_eq_t, nI_eq_f, nI_eq_neg2, neg_eq_nI2, neg_lt2, neg_le2, nI_lt_neg2, nI_le_neg2, pred_t, pred_f, nI_clamp', vp_t, lt0_t, lt0_le, lt0_lt, lt0_eq, if_true, if_false, ite_true, ite_false, true_and, and_true, false_and, and_false, false_or, or_false, true_or, or_true, eq_self, fs_ne, fs_eq, fs_eq', st12, st13, st21, st23, st31, st32, not_true_eq_false, not_false_eq_true, em, em', en, en', et, et', eg, eg', ed, ed', es, es', eo', ee, ee', ev, ev', f14, c2 p hlt_p]
              refine gB_mod hI (by repeat (first | exact hC.sm | refine Sm.fs40 ?_ _ _ (by decide) | refine Sm.fsT ?_ _ _ _ _ rfl (by decide) (by decide))) (fun F2 hM => ?_)
              obtain ⟨k1, k2, k3, k4, k5, k6, k7⟩ := hM
              have hM : MRes (VB F) F _ F2 := ⟨k1, k2, k3, k4, k5, k6, k7⟩
              have k43 : F2 40 0 43 = nI 0 := by rw [k2 43 (by decide) (by decide)]; simp (disch := first | omega | assumption) only [PL_33, P_L_seatsByBallots, P_X10_seatsByBallots, P_X10_seatsByBallots_28, P_X11_seatsByBallots, P_X10_needParty, P_X11_isParty, P_X11_in, P_X11_asked, P_X11_asked_10, P_X11_asked_, P_X11_asked__18, P_X11_asked__, P_X11_asked___26, P_X11_thrown, P_X11_told, ↓reduceIte, ↓forall_eq, ↓hold_ca, ↓hold_cam, ↓hold_cl, ↓hold_se, ↓hold_sem, ↓hold_st, ↓hold_wr, ↓hold_wrm, li0, li1, li2, li3, li4, li5, li6, li7, li8, li10, li20, li30, li35, li36, li60, li72, li100, li572, li2000, li2100, li9999, nI_lt_t, nI_lt_f, nI_le_t, nI_le_f, nI_eq_t, nI_eq_f, nI_eq_neg2, neg_eq_nI2, neg_lt2, neg_le2, nI_lt_neg2, nI_le_neg2, pred_t, pred_f, nI_clamp', vp_t, lt0_t, lt0_le, lt0_lt, lt0_eq, if_true, if_false, ite_true, ite_false, true_and, and_true, false_and, and_false, false_or, or_false, true_or, or_true, eq_self, fs_ne, fs_eq, fs_eq', st12, st13, st21, st23, st31, st32, not_true_eq_false, not_false_eq_true]
              have k79 : F2 79 0 0 = nI ((RS (VB F) F).1 p) := by rw [k1 79 (by decide) (by decide) (by decide) (by decide)]; simp (disch := first | omega | assumption) only [PL_33, P_L_seatsByBallots, P_X10_seatsByBallots, P_X10_seatsByBallots_28, P_X11_seatsByBallots, P_X10_needParty, P_X11_isParty, P_X11_in, P_X11_asked, P_X11_asked_10, P_X11_asked_, P_X11_asked__18, P_X11_asked__, P_X11_asked___26, P_X11_thrown, P_X11_told, ↓reduceIte, ↓forall_eq, ↓hold_ca, ↓hold_cam, ↓hold_cl, ↓hold_se, ↓hold_sem, ↓hold_st, ↓hold_wr, ↓hold_wrm, li0, li1, li2, li3, li4, li5, li6, li7, li8, li10, li20, li30, li35, li36, li60, li72, li100, li572, li2000, li2100, li9999, nI_lt_t, nI_lt_f, nI_le_t, nI_le_f, nI_eq_t, nI_eq_f, nI_eq_neg2, neg_eq_nI2, neg_lt2, neg_le2, nI_lt_neg2, nI_le_neg2, pred_t, pred_f, nI_clamp', vp_t, lt0_t, lt0_le, lt0_lt, lt0_eq, if_true, if_false, ite_true, ite_false, true_and, and_true, false_and, and_false, false_or, or_false, true_or, or_true, eq_self, fs_ne, fs_eq, fs_eq', st12, st13, st21, st23, st31, st32, not_true_eq_false, not_false_eq_true]
              simp (disch := first | omega | assumption) only [PL_33, P_L_seatsByBallots, P_X10_seatsByBallots, P_X10_seatsByBallots_28, P_X11_seatsByBallots, P_X10_needParty, P_X11_isParty, P_X11_in, P_X11_asked, P_X11_asked_10, P_X11_asked_, P_X11_asked__18, P_X11_asked__, P_X11_asked___26, P_X11_thrown, P_X11_told, ↓reduceIte, ↓forall_eq, ↓hold_ca, ↓hold_cam, ↓hold_cl, ↓hold_se, ↓hold_sem, ↓hold_st, ↓hold_wr, ↓hold_wrm, li0, li1, li2, li3, li4, li5, li6, li7, li8, li10, li20, li30, li35, li36, li60, li72, li100, li572, li2000, li2100, li9999, nI_lt_t, nI_lt_f, nI_le_t, nI_le_f, nI_eq_t, nI_eq_f, nI_eq_neg2, neg_eq_nI2, neg_lt2, neg_le2, nI_lt_neg2, nI_le_neg2, pred_t, pred_f, nI_clamp', vp_t, lt0_t, lt0_le, lt0_lt, lt0_eq, if_true, if_false, ite_true, ite_false, true_and, and_true, false_and, and_false, false_or, or_false, true_or, or_true, eq_self, fs_ne, fs_eq, fs_eq', st12, st13, st21, st23, st31, st32, not_true_eq_false, not_false_eq_true, em, em', en, en', et, et', eg, eg', ed, ed', es, es', eo', ee, ee', ev, ev', k43, k79, k4 p hlt_p]
              refine hI.end (Sm.trans ?_ (hM).sm)
              repeat (first | exact hC.sm | refine Sm.fs40 ?_ _ _ (by decide) | refine Sm.fsT ?_ _ _ _ _ rfl (by decide) (by decide))
        · first
            | exfalso; omega
            | simp (disch := first | omega | assumption) only [PL_33, P_L_seatsByBallots, P_X10_seatsByBallots, P_X10_seatsByBallots_28, P_X11_seatsByBallots, P_X10_needParty, P_X11_isParty, P_X11_in, P_X11_asked, P_X11_asked_10, P_X11_asked_, P_X11_asked__18, P_X11_asked__, P_X11_asked___26, P_X11_thrown, P_X11_told, ↓reduceIte, ↓forall_eq, ↓hold_ca, ↓hold_cam, ↓hold_cl, ↓hold_se, ↓hold_sem, ↓hold_st, ↓hold_wr, ↓hold_wrm, li0, li1, li2, li3, li4, li5, li6, li7, li8, li10, li20, li30, li35, li36, li60, li72, li100, li572, li2000, li2100, li9999, nI_lt_t, nI_lt_f, nI_le_t, nI_le_f, nI_eq_t, nI_eq_f, nI_eq_neg2, neg_eq_nI2, neg_lt2, neg_le2, nI_lt_neg2, nI_le_neg2, pred_t, pred_f, nI_clamp', vp_t, lt0_t, lt0_le, lt0_lt, lt0_eq, if_true, if_false, ite_true, ite_false, true_and, and_true, false_and, and_false, false_or, or_false, true_or, or_true, eq_self, fs_ne, fs_eq, fs_eq', st12, st13, st21, st23, st31, st32, not_true_eq_false, not_false_eq_true, em, em', en, en', et, et', eg, eg', ed, ed', es, es', eo', ee, ee', ev, ev']
              refine hI.end ?_
              repeat (first | exact Sm.refl _ | refine Sm.fs40 ?_ _ _ (by decide) | refine Sm.fsT ?_ _ _ _ _ rfl (by decide) (by decide))
  · by_cases g5 : g = 5
    · rcases int_cases a1 with hneg_p | ⟨p, hbig_p, rfl⟩
      · first
          | exfalso; omega
          | simp (disch := first | omega | assumption) only [PL_33, P_L_seatsByBallots, P_X10_seatsByBallots, P_X10_seatsByBallots_28, P_X11_seatsByBallots, P_X10_needParty, P_X11_isParty, P_X11_in, P_X11_asked, P_X11_asked_10, P_X11_asked_, P_X11_asked__18, P_X11_asked__, P_X11_asked___26, P_X11_thrown, P_X11_told, ↓reduceIte, ↓forall_eq, ↓hold_ca, ↓hold_cam, ↓hold_cl, ↓hold_se, ↓hold_sem, ↓hold_st, ↓hold_wr, ↓hold_wrm, li0, li1, li2, li3, li4, li5, li6, li7, li8, li10, li20, li30, li35, li36, li60, li72, li100, li572, li2000, li2100, li9999, nI_lt_t, nI_lt_f, nI_le_t, nI_le_f, nI_eq_t, nI_eq_f, nI_eq_neg2, neg_eq_nI2, neg_lt2, neg_le2, nI_lt_neg2, nI_le_neg2, pred_t, pred_f, nI_clamp', vp_t, lt0_t, lt0_le, lt0_lt, lt0_eq, if_true, if_false, ite_true, ite_false, true_and, and_true, false_and, and_false, false_or, or_false, true_or, or_true, eq_self, fs_ne, fs_eq, fs_eq', st12, st13, st21, st23, st31, st32, not_true_eq_false, not_false_eq_true, em, em', en, en', et, et', eg, eg', ed, ed', es, es', eo', ee, ee', ev, ev']
            refine hI.end ?_
            repeat (first | exact Sm.refl _ | refine Sm.fs40 ?_ _ _ (by decide) | refine Sm.fsT ?_ _ _ _ _ rfl (by decide) (by decide))
      · by_cases hlt_p : p < 5
        · first
            | exfalso; omega
            | simp (disch := first | omega | assumption) only [PL_33, P_L_seatsByBallots, P_X10_seatsByBallots, P_X10_seatsByBallots_28, P_X11_seatsByBallots, P_X10_needParty, P_X11_isParty, P_X11_in, P_X11_asked, P_X11_asked_10, P_X11_asked_, P_X11_asked__18, P_X11_asked__, P_X11_asked___26, P_X11_thrown, P_X11_told, ↓reduceIte, ↓forall_eq, ↓hold_ca, ↓hold_cam, ↓hold_cl, ↓hold_se, ↓hold_sem, ↓hold_st, ↓hold_wr, ↓hold_wrm, li0, li1, li2, li3, li4, li5, li6, li7, li8, li10, li20, li30, li35, li36, li60, li72, li100, li572, li2000, li2100, li9999, nI_lt_t, nI_lt_f, nI_le_t, nI_le_f, nI_eq_t, nI_eq_f, nI_eq_neg2, neg_eq_nI2, neg_lt2, neg_le2, nI_lt_neg2, nI_le_neg2, pred_t, pred_f, nI_clamp', vp_t, lt0_t, lt0_le, lt0_lt, lt0_eq, if_true, if_false, ite_true, ite_false, true_and, and_true, false_and, and_false, false_or, or_false, true_or, or_true, eq_self, fs_ne, fs_eq, fs_eq', st12, st13, st21, st23, st31, st32, not_true_eq_false, not_false_eq_true, em, em', en, en', et, et', eg, eg', ed, ed', es, es', eo', ee, ee', ev, ev']
              refine gB_cls hI (fun F1 hC => ?_)
              obtain ⟨c1, c2, c3, c4, c5⟩ := hC
              have hC : CRes (VB F) F F1 := ⟨c1, c2, c3, c4, c5⟩
              have f14 : F1 40 0 14 = nI g := by rw [c1 40 (by decide) (by decide) (by decide) (by decide) (by decide)]; exact eg'
              simp (disch := first | omega | assumption) only [PL_33, P_L_seatsByBallots, P_X10_seatsByBallots, P_X10_seatsByBallots_28, P_X11_seatsByBallots, P_X10_needParty, P_X11_isParty, P_X11_in, P_X11_asked, P_X11_asked_10, P_X11_asked_, P_X11_asked__18, P_X11_asked__, P_X11_asked___26, P_X11_thrown, P_X11_told, ↓reduceIte, ↓forall_eq, ↓hold_ca, ↓hold_cam, ↓hold_cl, ↓hold_se, ↓hold_sem, ↓hold_st, ↓hold_wr, ↓hold_wrm, li0, li1, li2, li3, li4, li5, li6, li7, li8, li10, li20, li30, li35, li36, li60, li72, li100, li572, li2000, li2100, li9999, nI_lt_t, nI_lt_f, nI_le_t, nI_le_f, nI_eq_t, nI_eq_f, nI_eq_neg2, neg_eq_nI2, neg_lt2, neg_le2, nI_lt_neg2, nI_le_neg2, pred_t, pred_f, nI_clamp', vp_t, lt0_t, lt0_le, lt0_lt, lt0_eq, if_true, if_false, ite_true, ite_false, true_and, and_true, false_and, and_false, false_or, or_false, true_or, or_true, eq_self, fs_ne, fs_eq, fs_eq', st12, st13, st21, st23, st31, st32, not_true_eq_false, not_false_eq_true, em, em', en, en', et, et', eg, eg', ed, ed', es, es', eo', ee, ee', ev, ev', f14, c2 p hlt_p]
              refine gB_mod hI (by repeat (first | exact hC.sm | refine Sm.fs40 ?_ _ _ (by decide) | refine Sm.fsT ?_ _ _ _ _ rfl (by decide) (by decide))) (fun F2 hM => ?_)
              obtain ⟨k1, k2, k3, k4, k5, k6, k7⟩ := hM
              have hM : MRes (VB F) F _ F2 := ⟨k1, k2, k3, k4, k5, k6, k7⟩
              have k43 : F2 40 0 43 = nI 0 := by rw [k2 43 (by decide) (by decide)]; simp (disch := first | omega | assumption) only [PL_33, P_L_seatsByBallots, P_X10_seatsByBallots, P_X10_seatsByBallots_28, P_X11_seatsByBallots, P_X10_needParty, P_X11_isParty, P_X11_in, P_X11_asked, P_X11_asked_10, P_X11_asked_, P_X11_asked__18, P_X11_asked__, P_X11_asked___26, P_X11_thrown, P_X11_told, ↓reduceIte, ↓forall_eq, ↓hold_ca, ↓hold_cam, ↓hold_cl, ↓hold_se, ↓hold_sem, ↓hold_st, ↓hold_wr, ↓hold_wrm, li0, li1, li2, li3, li4, li5, li6, li7, li8, li10, li20, li30, li35, li36, li60, li72, li100, li572, li2000, li2100, li9999, nI_lt_t, nI_lt_f, nI_le_t, nI_le_f, nI_eq_t, nI_eq_f, nI_eq_neg2, neg_eq_nI2, neg_lt2, neg_le2, nI_lt_neg2, nI_le_neg2, pred_t, pred_f, nI_clamp', vp_t, lt0_t, lt0_le, lt0_lt, lt0_eq, if_true, if_false, ite_true, ite_false, true_and, and_true, false_and, and_false, false_or, or_false, true_or, or_true, eq_self, fs_ne, fs_eq, fs_eq', st12, st13, st21, st23, st31, st32, not_true_eq_false, not_false_eq_true]
              have k79 : F2 79 0 0 = nI ((RS (VB F) F).1 p) := by rw [k1 79 (by decide) (by decide) (by decide) (by decide)]; simp (disch := first | omega | assumption) only [PL_33, P_L_seatsByBallots, P_X10_seatsByBallots, P_X10_seatsByBallots_28, P_X11_seatsByBallots, P_X10_needParty, P_X11_isParty, P_X11_in, P_X11_asked, P_X11_asked_10, P_X11_asked_, P_X11_asked__18, P_X11_asked__, P_X11_asked___26, P_X11_thrown, P_X11_told, ↓reduceIte, ↓forall_eq, ↓hold_ca, ↓hold_cam, ↓hold_cl, ↓hold_se, ↓hold_sem, ↓hold_st, ↓hold_wr, ↓hold_wrm, li0, li1, li2, li3, li4, li5, li6, li7, li8, li10, li20, li30, li35, li36, li60, li72, li100, li572, li2000, li2100, li9999, nI_lt_t, nI_lt_f, nI_le_t, nI_le_f, nI_eq_t, nI_eq_f, nI_eq_neg2, neg_eq_nI2, neg_lt2, neg_le2, nI_lt_neg2, nI_le_neg2, pred_t, pred_f, nI_clamp', vp_t, lt0_t, lt0_le, lt0_lt, lt0_eq, if_true, if_false, ite_true, ite_false, true_and, and_true, false_and, and_false, false_or, or_false, true_or, or_true, eq_self, fs_ne, fs_eq, fs_eq', st12, st13, st21, st23, st31, st32, not_true_eq_false, not_false_eq_true]
              simp (disch := first | omega | assumption) only [PL_33, P_L_seatsByBallots, P_X10_seatsByBallots, P_X10_seatsByBallots_28, P_X11_seatsByBallots, P_X10_needParty, P_X11_isParty, P_X11_in, P_X11_asked, P_X11_asked_10, P_X11_asked_, P_X11_asked__18, P_X11_asked__, P_X11_asked___26, P_X11_thrown, P_X11_told, ↓reduceIte, ↓forall_eq, ↓hold_ca, ↓hold_cam, ↓hold_cl, ↓hold_se, ↓hold_sem, ↓hold_st, ↓hold_wr, ↓hold_wrm, li0, li1, li2, li3, li4, li5, li6, li7, li8, li10, li20, li30, li35, li36, li60, li72, li100, li572, li2000, li2100, li9999, nI_lt_t, nI_lt_f, nI_le_t, nI_le_f, nI_eq_t, nI_eq_f, nI_eq_neg2, neg_eq_nI2, neg_lt2, neg_le2, nI_lt_neg2, nI_le_neg2, pred_t, pred_f, nI_clamp', vp_t, lt0_t, lt0_le, lt0_lt, lt0_eq, if_true, if_false, ite_true, ite_false, true_and, and_true, false_and, and_false, false_or, or_false, true_or, or_true, eq_self, fs_ne, fs_eq, fs_eq', st12, st13, st21, st23, st31, st32, not_true_eq_false, not_false_eq_true, em, em', en, en', et, et', eg, eg', ed, ed', es, es', eo', ee, ee', ev, ev', k43, k79, k4 p hlt_p]
              refine hI.end (Sm.trans ?_ (hM).sm)
              repeat (first | exact hC.sm | refine Sm.fs40 ?_ _ _ (by decide) | refine Sm.fsT ?_ _ _ _ _ rfl (by decide) (by decide))
        · first
            | exfalso; omega
            | simp (disch := first | omega | assumption) only [PL_33, P_L_seatsByBallots, P_X10_seatsByBallots, P_X10_seatsByBallots_28, P_X11_seatsByBallots, P_X10_needParty, P_X11_isParty, P_X11_in, P_X11_asked, P_X11_asked_10, P_X11_asked_, P_X11_asked__18, P_X11_asked__, P_X11_asked___26, P_X11_thrown, P_X11_told, ↓reduceIte, ↓forall_eq, ↓hold_ca, ↓hold_cam, ↓hold_cl, ↓hold_se, ↓hold_sem, ↓hold_st, ↓hold_wr, ↓hold_wrm, li0, li1, li2, li3, li4, li5, li6, li7, li8, li10, li20, li30, li35, li36, li60, li72, li100, li572, li2000, li2100, li9999, nI_lt_t, nI_lt_f, nI_le_t, nI_le_f, nI_eq_t, nI_eq_f, nI_eq_neg2, neg_eq_nI2, neg_lt2, neg_le2, nI_lt_neg2, nI_le_neg2, pred_t, pred_f, nI_clamp', vp_t, lt0_t, lt0_le, lt0_lt, lt0_eq, if_true, if_false, ite_true, ite_false, true_and, and_true, false_and, and_false, false_or, or_false, true_or, or_true, eq_self, fs_ne, fs_eq, fs_eq', st12, st13, st21, st23, st31, st32, not_true_eq_false, not_false_eq_true, em, em', en, en', et, et', eg, eg', ed, ed', es, es', eo', ee, ee', ev, ev']
              refine hI.end ?_
              repeat (first | exact Sm.refl _ | refine Sm.fs40 ?_ _ _ (by decide) | refine Sm.fsT ?_ _ _ _ _ rfl (by decide) (by decide))
    · rcases int_cases a1 with hneg_p | ⟨p, hbig_p, rfl⟩
      · first
          | exfalso; omega
          | simp (disch := first | omega | assumption) only [PL_33, P_L_seatsByBallots, P_X10_seatsByBallots, P_X10_seatsByBallots_28, P_X11_seatsByBallots, P_X10_needParty, P_X11_isParty, P_X11_in, P_X11_asked, P_X11_asked_10, P_X11_asked_, P_X11_asked__18, P_X11_asked__, P_X11_asked___26, P_X11_thrown, P_X11_told, ↓reduceIte, ↓forall_eq, ↓hold_ca, ↓hold_cam, ↓hold_cl, ↓hold_se, ↓hold_sem, ↓hold_st, ↓hold_wr, ↓hold_wrm, li0, li1, li2, li3, li4, li5, li6, li7, li8, li10, li20, li30, li35, li36, li60, li72, li100, li572, li2000, li2100, li9999, nI_lt_t, nI_lt_f, nI_le_t, nI_le_f, nI_eq_t, nI_eq_f, nI_eq_neg2, neg_eq_nI2, neg_lt2, neg_le2, nI_lt_neg2, nI_le_neg2, pred_t, pred_f, nI_clamp', vp_t, lt0_t, lt0_le, lt0_lt, lt0_eq, if_true, if_false, ite_true, ite_false, true_and, and_true, false_and, and_false, false_or, or_false, true_or, or_true, eq_self, fs_ne, fs_eq, fs_eq', st12, st13, st21, st23, st31, st32, not_true_eq_false, not_false_eq_true, em, em', en, en', et, et', eg, eg', ed, ed', es, es', eo', ee, ee', ev, ev']
            refine hI.end ?_
            repeat (first | exact Sm.refl _ | refine Sm.fs40 ?_ _ _ (by decide) | refine Sm.fsT ?_ _ _ _ _ rfl (by decide) (by decide))
      · by_cases hlt_p : p < 5
        · first
            | exfalso; omega
            | simp (disch := first | omega | assumption) only [PL_33, P_L_seatsByBallots, P_X10_seatsByBallots, P_X10_seatsByBallots_28, P_X11_seatsByBallots, P_X10_needParty, P_X11_isParty, P_X11_in, P_X11_asked, P_X11_asked_10, P_X11_asked_, P_X11_asked__18, P_X11_asked__, P_X11_asked___26, P_X11_thrown, P_X11_told, ↓reduceIte, ↓forall_eq, ↓hold_ca, ↓hold_cam, ↓hold_cl, ↓hold_se, ↓hold_sem, ↓hold_st, ↓hold_wr, ↓hold_wrm, li0, li1, li2, li3, li4, li5, li6, li7, li8, li10, li20, li30, li35, li36, li60, li72, li100, li572, li2000, li2100, li9999, nI_lt_t, nI_lt_f, nI_le_t, nI_le_f, nI_eq_t, nI_eq_f, nI_eq_neg2, neg_eq_nI2, neg_lt2, neg_le2, nI_lt_neg2, nI_le_neg2, pred_t, pred_f, nI_clamp', vp_t, lt0_t, lt0_le, lt0_lt, lt0_eq, if_true, if_false, ite_true, ite_false, true_and, and_true, false_and, and_false, false_or, or_false, true_or, or_true, eq_self, fs_ne, fs_eq, fs_eq', st12, st13, st21, st23, st31, st32, not_true_eq_false, not_false_eq_true, em, em', en, en', et, et', eg, eg', ed, ed', es, es', eo', ee, ee', ev, ev']
              refine hI.end ?_
              repeat (first | exact Sm.refl _ | refine Sm.fs40 ?_ _ _ (by decide) | refine Sm.fsT ?_ _ _ _ _ rfl (by decide) (by decide))
        · first
            | exfalso; omega
            | simp (disch := first | omega | assumption) only [PL_33, P_L_seatsByBallots, P_X10_seatsByBallots, P_X10_seatsByBallots_28, P_X11_seatsByBallots, P_X10_needParty, P_X11_isParty, P_X11_in, P_X11_asked, P_X11_asked_10, P_X11_asked_, P_X11_asked__18, P_X11_asked__, P_X11_asked___26, P_X11_thrown, P_X11_told, ↓reduceIte, ↓forall_eq, ↓hold_ca, ↓hold_cam, ↓hold_cl, ↓hold_se, ↓hold_sem, ↓hold_st, ↓hold_wr, ↓hold_wrm, li0, li1, li2, li3, li4, li5, li6, li7, li8, li10, li20, li30, li35, li36, li60, li72, li100, li572, li2000, li2100, li9999, nI_lt_t, nI_lt_f, nI_le_t, nI_le_f, nI_eq_t, nI_eq_f, nI_eq_neg2, neg_eq_nI2, neg_lt2, neg_le2, nI_lt_neg2, nI_le_neg2, pred_t, pred_f, nI_clamp', vp_t, lt0_t, lt0_le, lt0_lt, lt0_eq, if_true, if_false, ite_true, ite_false, true_and, and_true, false_and, and_false, false_or, or_false, true_or, or_true, eq_self, fs_ne, fs_eq, fs_eq', st12, st13, st21, st23, st31, st32, not_true_eq_false, not_false_eq_true, em, em', en, en', et, et', eg, eg', ed, ed', es, es', eo', ee, ee', ev, ev']
              refine hI.end ?_
              repeat (first | exact Sm.refl _ | refine Sm.fs40 ?_ _ _ (by decide) | refine Sm.fsT ?_ _ _ _ _ rfl (by decide) (by decide))
def lostN (u v : Nat → Nat) : Nat → Nat
  | 0 => 0
  | n + 1 => lostN u v n + (u n - v n)
theorem lostN_le {u v : Nat → Nat} : ∀ n, (∀ i, i < n → u i ≤ 20) → lostN u v n ≤ 20 * n := by
  intro n
  induction n with
  | zero => intro _; exact Nat.le_refl _
  | succ n ih =>
    intro h
    unfold lostN
    have := ih (fun i hi => h i (by omega))
    have := h n (by omega)
    omega
theorem lr_cls {F : GF} {s z wn : Nat} {u v : Nat → Nat} {K : Int32 → GF → Prop} (h28 : F 28 s 1 = nI z) (hz : z ≤ 20) (h5 : F 28 s 5 = nI wn) (hw : wn < 8) (hu : ∀ k, k < 6 → cntN (F 29 s) (nI k) z = u k ∧ u k ≤ 20) (hv : ∀ k, k < 6 → F 32 (8 * s + wn) k = nI (v k) ∧ v k ≤ 20) (hK : K (nI (lostN u v 6)) F) : P_X1_lostByReading F s K := by
  unfold P_X1_lostByReading P_X1_hasNumbers
  rw [h5, if_neg (show ¬ nI wn = -1 from fun q => by have h := nI_eq_neg (a := wn) (by omega); rw [h] at q; exact q)]
  show if (1 : Int32) = 0 then _ else _
  rw [if_neg (show ¬ (1 : Int32) = 0 by decide)]
  refine ⟨7, ?_⟩
  have key : ∀ m j, j + m = 6 → P_X1_lostByReading_13 s K (m + 1) F (nI (lostN u v j)) (nI j) := by
    intro m
    induction m with
    | zero =>
      intro j hj
      obtain rfl : j = 6 := by omega
      unfold P_X1_lostByReading_13
      rw [if_pos (show (6 : Int32) ≤ nI 6 by decide)]
      exact hK
    | succ m ih =>
      intro j hj
      have hnx := ih (j + 1) (by omega)
      unfold P_X1_lostByReading_13
      rw [if_neg (show ¬ (6 : Int32) ≤ nI j from nI_ge (b := 6) (by omega) (by omega))]
      obtain ⟨u1, u2⟩ := hu j (by omega)
      obtain ⟨v1, v2⟩ := hv j (by omega)
      refine bf_cls h28 hz (sn_cls h5 hw (by omega) ?_)
      rw [u1, v1]
      intro y ey
      have hy : y = nI (lostN u v (j + 1)) := by
        rw [ey]
        show _ = nI (lostN u v j + (u j - v j))
        by_cases hlt : v j < u j
        · rw [if_pos (show (0 : Int32) < nI (u j) - nI (v j) from (dif_lt (by omega) (by omega)).mpr hlt), nI_sub (by omega), nI_add]
        · rw [if_neg (show ¬ (0 : Int32) < nI (u j) - nI (v j) from fun q => hlt ((dif_lt (by omega) (by omega)).mp q)), show u j - v j = 0 by omega]
          exact nI_add _ 0
      rw [hy, ← nI_succ]
      exact hnx
  exact key 6 0 rfl
theorem mr_mod {F : GF} {s z r : Nat} {u v : Nat → Nat} {K : Int32 → GF → Prop} (hs : s < 5) (h59 : F 59 0 s = nI z) (hz : z ≤ 20) (h63 : F 63 0 s = nI r) (hr : r < 40) (hu : ∀ k, k < 6 → cntN (fun j => F 58 0 (20 * s + j)) (nI k) z = u k ∧ u k ≤ 20) (hv : ∀ k, k < 6 → F 60 0 (6 * r + k) = nI (v k) ∧ v k ≤ 20) (hK : K (nI (lostN u v 6)) F) : P_X11_misread_29 K F (nI s) 0 := by
  refine ⟨7, ?_⟩
  have key : ∀ m j, j + m = 6 → P_X11_misread_32 K (m + 1) F (nI s) (nI (lostN u v j)) (nI j) := by
    intro m
    induction m with
    | zero =>
      intro j hj
      obtain rfl : j = 6 := by omega
      unfold P_X11_misread_32
      rw [if_pos (show (6 : Int32) ≤ nI 6 by decide)]
      exact hK
    | succ m ih =>
      intro j hj
      have hnx := ih (j + 1) (by omega)
      have hll := lostN_le (u := u) (v := v) j (fun i hi => (hu i (by omega)).2)
      unfold P_X11_misread_32
      rw [if_neg (show ¬ (6 : Int32) ≤ nI j from nI_ge (b := 6) (by omega) (by omega)), if_neg (show ¬ nI (lostN u v j) = -1 from fun q => by have h := nI_eq_neg (a := lostN u v j) (by omega); rw [h] at q; exact q)]
      obtain ⟨u1, u2⟩ := hu j (by omega)
      obtain ⟨v1, v2⟩ := hv j (by omega)
      refine ib_mod hs h59 hz ?_
      rw [u1, nI_clamp' (by omega), h63, li6, nI_mul, nI_add, nI_clamp' (by omega), v1]
      refine ⟨nI_in (by omega) (by omega), nI_in (by omega) (by omega), fun y ey => ?_⟩
      unfold lostN at hnx
      rw [nI_succ] at hnx
      unfold P_X11_misread_80
      by_cases hlt : v j < u j
      · rw [nI_sub (by omega)] at ey
        rw [ey, if_neg (show ¬ nI (u j - v j) ≤ 0 from nI_nle (by omega) (by omega)), nI_add]
        exact hnx
      · rw [ey, if_pos (show nI (u j) - nI (v j) ≤ 0 from (dif_le (by omega) (by omega)).mpr (by omega))]
        rw [show u j - v j = 0 by omega, Nat.add_zero] at hnx
        rw [show nI (lostN u v j) + 0 = nI (lostN u v j) from nI_add _ 0]
        exact hnx
  exact key 6 0 rfl
theorem mr_none {F : GF} {s : Int32} {K : Int32 → GF → Prop} (hK : K (-1) F) : P_X11_misread_29 K F s (-1) := by
  refine ⟨1, ?_⟩
  unfold P_X11_misread_32
  rw [if_neg (show ¬ (6 : Int32) ≤ 0 by decide), if_pos rfl]
  exact hK
set_option maxHeartbeats 1000000 in
set_option maxRecDepth 20000 in
theorem m28 {k : Nat} {F : GF} (h : Inv k F) (a1 a2 a3 : Int32) : PL_28 a1 a2 a3 (Inv (k + 1)) F := by
  have hI := h
  obtain ⟨⟨q0, q1, q2, q3, q4, q5, q6, q7, q8, q9, q10, q11⟩, ⟨r0, r1, r2, r3, r4, r5, r6, r7, r8, r9, r10, r11, r12, r13, r14⟩, cb, lg⟩ := h
  have R1 := r1
  have R2 := r2
  have R3 := r3
  have R4 := r4
  obtain ⟨m, hm, em, hmc⟩ := r1
  have em' : F 40 0 6 = nI m := q2.1.trans em
  obtain ⟨n, hn, en⟩ := r2
  have en' : F 40 0 9 = nI n := q4.1.trans en
  obtain ⟨t, g, d, s, e, ht, et, hg, eg, hd, ed, hs, es, he, ee, hem, hg1, hg2, hg3⟩ := r3
  have et' : F 40 0 0 = nI t := q0.trans et
  have eg' : F 40 0 14 = nI g := q5.1.trans eg
  have ed' : F 40 0 15 = nI d := q5.2.1.trans ed
  have es' : F 40 0 16 = nI s := q5.2.2.1.trans es
  have eo' : F 40 0 17 = F 10 0 3 := q5.2.2.2.1
  have ee' : F 40 0 19 = nI e := q5.2.2.2.2.trans ee
  obtain ⟨⟨v, hv, ev⟩, hev⟩ := r4
  have ev' : F 40 0 26 = nI v := q8.1.trans ev
  rcases int_cases a1 with hneg_p | ⟨p, hbig_p, rfl⟩
  · first
      | exfalso; omega
      | simp (disch := first | omega | assumption) only [PL_28, P_L_misread, P_X10_misread, P_X11_misread, P_X10_needStation, P_X11_isStation, P_X11_in, P_X11_asked, P_X11_asked_10, P_X11_asked_, P_X11_asked__18, P_X11_asked__, P_X11_asked___26, P_X11_thrown, P_X11_told, ↓reduceIte, ↓forall_eq, ↓hold_ca, ↓hold_cam, ↓hold_cl, ↓hold_se, ↓hold_sem, ↓hold_st, ↓hold_wr, ↓hold_wrm, li0, li1, li2, li3, li4, li5, li6, li7, li8, li10, li20, li30, li35, li36, li60, li72, li100, li572, li2000, li2100, li9999, nI_lt_t, nI_lt_f, nI_le_t, nI_le_f, nI_eq_t, nI_eq_f, nI_eq_neg2, neg_eq_nI2, neg_lt2, neg_le2, nI_lt_neg2, nI_le_neg2, pred_t, pred_f, nI_clamp', vp_t, lt0_t, lt0_le, lt0_lt, lt0_eq, if_true, if_false, ite_true, ite_false, true_and, and_true, false_and, and_false, false_or, or_false, true_or, or_true, eq_self, fs_ne, fs_eq, fs_eq', st12, st13, st21, st23, st31, st32, not_true_eq_false, not_false_eq_true, em, em', en, en', et, et', eg, eg', ed, ed', es, es', eo', ee, ee', ev, ev']
        refine hI.end ?_
        repeat (first | exact Sm.refl _ | refine Sm.fs40 ?_ _ _ (by decide) | refine Sm.fsT ?_ _ _ _ _ rfl (by decide) (by decide))
  · by_cases hlt_p : p < m
    · have hb : p < 5 := by omega
      obtain ⟨z, hz, ez, ez', hcl, hcx, hub⟩ := box_facts hI p hb
      rcases (r7 p hb).2.1 with ⟨x1, x2⟩ | ⟨w, hw, x1, x2⟩
      · simp (disch := first | omega | assumption) only [PL_28, P_L_misread, P_X10_misread, P_X11_misread, P_X10_needStation, P_X11_isStation, P_X11_in, P_X11_asked, P_X11_asked_10, P_X11_asked_, P_X11_asked__18, P_X11_asked__, P_X11_asked___26, P_X11_thrown, P_X11_told, ↓reduceIte, ↓forall_eq, ↓hold_ca, ↓hold_cam, ↓hold_cl, ↓hold_se, ↓hold_sem, ↓hold_st, ↓hold_wr, ↓hold_wrm, li0, li1, li2, li3, li4, li5, li6, li7, li8, li10, li20, li30, li35, li36, li60, li72, li100, li572, li2000, li2100, li9999, nI_lt_t, nI_lt_f, nI_le_t, nI_le_f, nI_eq_t, nI_eq_f, nI_eq_neg2, neg_eq_nI2, neg_lt2, neg_le2, nI_lt_neg2, nI_le_neg2, pred_t, pred_f, nI_clamp', vp_t, lt0_t, lt0_le, lt0_lt, lt0_eq, if_true, if_false, ite_true, ite_false, true_and, and_true, false_and, and_false, false_or, or_false, true_or, or_true, eq_self, fs_ne, fs_eq, fs_eq', st12, st13, st21, st23, st31, st32, not_true_eq_false, not_false_eq_true, P_X1_lostByReading, P_X1_hasNumbers, em, em', en, en', et, et', eg, eg', ed, ed', es, es', eo', ee, ee', ev, ev', x1, x2]
        refine mr_none ?_
        simp (disch := first | omega | assumption) only [PL_28, P_L_misread, P_X10_misread, P_X11_misread, P_X10_needStation, P_X11_isStation, P_X11_in, P_X11_asked, P_X11_asked_10, P_X11_asked_, P_X11_asked__18, P_X11_asked__, P_X11_asked___26, P_X11_thrown, P_X11_told, ↓reduceIte, ↓forall_eq, ↓hold_ca, ↓hold_cam, ↓hold_cl, ↓hold_se, ↓hold_sem, ↓hold_st, ↓hold_wr, ↓hold_wrm, li0, li1, li2, li3, li4, li5, li6, li7, li8, li10, li20, li30, li35, li36, li60, li72, li100, li572, li2000, li2100, li9999, nI_lt_t, nI_lt_f, nI_le_t, nI_le_f, nI_eq_t, nI_eq_f, nI_eq_neg2, neg_eq_nI2, neg_lt2, neg_le2, nI_lt_neg2, nI_le_neg2, pred_t, pred_f, nI_clamp', vp_t, lt0_t, lt0_le, lt0_lt, lt0_eq, if_true, if_false, ite_true, ite_false, true_and, and_true, false_and, and_false, false_or, or_false, true_or, or_true, eq_self, fs_ne, fs_eq, fs_eq', st12, st13, st21, st23, st31, st32, not_true_eq_false, not_false_eq_true, em, em', en, en', et, et', eg, eg', ed, ed', es, es', eo', ee, ee', ev, ev']
        refine hI.end ?_
        repeat (first | exact Sm.refl _ | refine Sm.fs40 ?_ _ _ (by decide) | refine Sm.fsT ?_ _ _ _ _ rfl (by decide) (by decide))
      · simp (disch := first | omega | assumption) only [PL_28, P_L_misread, P_X10_misread, P_X11_misread, P_X10_needStation, P_X11_isStation, P_X11_in, P_X11_asked, P_X11_asked_10, P_X11_asked_, P_X11_asked__18, P_X11_asked__, P_X11_asked___26, P_X11_thrown, P_X11_told, ↓reduceIte, ↓forall_eq, ↓hold_ca, ↓hold_cam, ↓hold_cl, ↓hold_se, ↓hold_sem, ↓hold_st, ↓hold_wr, ↓hold_wrm, li0, li1, li2, li3, li4, li5, li6, li7, li8, li10, li20, li30, li35, li36, li60, li72, li100, li572, li2000, li2100, li9999, nI_lt_t, nI_lt_f, nI_le_t, nI_le_f, nI_eq_t, nI_eq_f, nI_eq_neg2, neg_eq_nI2, neg_lt2, neg_le2, nI_lt_neg2, nI_le_neg2, pred_t, pred_f, nI_clamp', vp_t, lt0_t, lt0_le, lt0_lt, lt0_eq, if_true, if_false, ite_true, ite_false, true_and, and_true, false_and, and_false, false_or, or_false, true_or, or_true, eq_self, fs_ne, fs_eq, fs_eq', st12, st13, st21, st23, st31, st32, not_true_eq_false, not_false_eq_true, em, em', en, en', et, et', eg, eg', ed, ed', es, es', eo', ee, ee', ev, ev']
        have hv : ∀ k, k < 6 → ∃ y, y ≤ 20 ∧ F 32 (8 * p + w) k = nI y := fun k hk => r9 (8 * p + w) (by omega) k hk
        have hvv : ∀ k, k < 6 → F 32 (8 * p + w) k = nI ((F 32 (8 * p + w) k).toNatClampNeg) ∧ (F 32 (8 * p + w) k).toNatClampNeg ≤ 20 := by
          intro k hk
          obtain ⟨y, y1, y2⟩ := hv k hk
          rw [y2, nI_clamp' (by omega)]
          exact ⟨rfl, y1⟩
        have huu : ∀ k, cntN (F 29 p) (nI k) z ≤ 20 := fun k => by have := cntN_le (b := F 29 p) (x := nI k) z; omega
        refine lr_cls (z := z) (wn := w) (u := fun k => cntN (F 29 p) (nI k) z) (v := fun k => (F 32 (8 * p + w) k).toNatClampNeg) ez hz x1 hw (fun k hk => ⟨rfl, huu k⟩) hvv ?_
        simp (disch := first | omega | assumption) only [PL_28, P_L_misread, P_X10_misread, P_X11_misread, P_X10_needStation, P_X11_isStation, P_X11_in, P_X11_asked, P_X11_asked_10, P_X11_asked_, P_X11_asked__18, P_X11_asked__, P_X11_asked___26, P_X11_thrown, P_X11_told, ↓reduceIte, ↓forall_eq, ↓hold_ca, ↓hold_cam, ↓hold_cl, ↓hold_se, ↓hold_sem, ↓hold_st, ↓hold_wr, ↓hold_wrm, li0, li1, li2, li3, li4, li5, li6, li7, li8, li10, li20, li30, li35, li36, li60, li72, li100, li572, li2000, li2100, li9999, nI_lt_t, nI_lt_f, nI_le_t, nI_le_f, nI_eq_t, nI_eq_f, nI_eq_neg2, neg_eq_nI2, neg_lt2, neg_le2, nI_lt_neg2, nI_le_neg2, pred_t, pred_f, nI_clamp', vp_t, lt0_t, lt0_le, lt0_lt, lt0_eq, if_true, if_false, ite_true, ite_false, true_and, and_true, false_and, and_false, false_or, or_false, true_or, or_true, eq_self, fs_ne, fs_eq, fs_eq', st12, st13, st21, st23, st31, st32, not_true_eq_false, not_false_eq_true, em, em', en, en', et, et', eg, eg', ed, ed', es, es', eo', ee, ee', ev, ev', x2]
        refine mr_mod (z := z) (r := 8 * p + w) (u := fun k => cntN (F 29 p) (nI k) z) (v := fun k => (F 32 (8 * p + w) k).toNatClampNeg) hb ?_ hz ?_ (by omega) (fun k hk => ⟨hcx (nI k), huu k⟩) (fun k hk => ⟨(q10 (8 * p + w) (by omega) k hk).trans (hvv k hk).1, (hvv k hk).2⟩) ?_
        · simp (disch := first | omega | assumption) only [PL_28, P_L_misread, P_X10_misread, P_X11_misread, P_X10_needStation, P_X11_isStation, P_X11_in, P_X11_asked, P_X11_asked_10, P_X11_asked_, P_X11_asked__18, P_X11_asked__, P_X11_asked___26, P_X11_thrown, P_X11_told, ↓reduceIte, ↓forall_eq, ↓hold_ca, ↓hold_cam, ↓hold_cl, ↓hold_se, ↓hold_sem, ↓hold_st, ↓hold_wr, ↓hold_wrm, li0, li1, li2, li3, li4, li5, li6, li7, li8, li10, li20, li30, li35, li36, li60, li72, li100, li572, li2000, li2100, li9999, nI_lt_t, nI_lt_f, nI_le_t, nI_le_f, nI_eq_t, nI_eq_f, nI_eq_neg2, neg_eq_nI2, neg_lt2, neg_le2, nI_lt_neg2, nI_le_neg2, pred_t, pred_f, nI_clamp', vp_t, lt0_t, lt0_le, lt0_lt, lt0_eq, if_true, if_false, ite_true, ite_false, true_and, and_true, false_and, and_false, false_or, or_false, true_or, or_true, eq_self, fs_ne, fs_eq, fs_eq', st12, st13, st21, st23, st31, st32, not_true_eq_false, not_false_eq_true, ez']
        · simp (disch := first | omega | assumption) only [PL_28, P_L_misread, P_X10_misread, P_X11_misread, P_X10_needStation, P_X11_isStation, P_X11_in, P_X11_asked, P_X11_asked_10, P_X11_asked_, P_X11_asked__18, P_X11_asked__, P_X11_asked___26, P_X11_thrown, P_X11_told, ↓reduceIte, ↓forall_eq, ↓hold_ca, ↓hold_cam, ↓hold_cl, ↓hold_se, ↓hold_sem, ↓hold_st, ↓hold_wr, ↓hold_wrm, li0, li1, li2, li3, li4, li5, li6, li7, li8, li10, li20, li30, li35, li36, li60, li72, li100, li572, li2000, li2100, li9999, nI_lt_t, nI_lt_f, nI_le_t, nI_le_f, nI_eq_t, nI_eq_f, nI_eq_neg2, neg_eq_nI2, neg_lt2, neg_le2, nI_lt_neg2, nI_le_neg2, pred_t, pred_f, nI_clamp', vp_t, lt0_t, lt0_le, lt0_lt, lt0_eq, if_true, if_false, ite_true, ite_false, true_and, and_true, false_and, and_false, false_or, or_false, true_or, or_true, eq_self, fs_ne, fs_eq, fs_eq', st12, st13, st21, st23, st31, st32, not_true_eq_false, not_false_eq_true, x2]
        simp (disch := first | omega | assumption) only [PL_28, P_L_misread, P_X10_misread, P_X11_misread, P_X10_needStation, P_X11_isStation, P_X11_in, P_X11_asked, P_X11_asked_10, P_X11_asked_, P_X11_asked__18, P_X11_asked__, P_X11_asked___26, P_X11_thrown, P_X11_told, ↓reduceIte, ↓forall_eq, ↓hold_ca, ↓hold_cam, ↓hold_cl, ↓hold_se, ↓hold_sem, ↓hold_st, ↓hold_wr, ↓hold_wrm, li0, li1, li2, li3, li4, li5, li6, li7, li8, li10, li20, li30, li35, li36, li60, li72, li100, li572, li2000, li2100, li9999, nI_lt_t, nI_lt_f, nI_le_t, nI_le_f, nI_eq_t, nI_eq_f, nI_eq_neg2, neg_eq_nI2, neg_lt2, neg_le2, nI_lt_neg2, nI_le_neg2, pred_t, pred_f, nI_clamp', vp_t, lt0_t, lt0_le, lt0_lt, lt0_eq, if_true, if_false, ite_true, ite_false, true_and, and_true, false_and, and_false, false_or, or_false, true_or, or_true, eq_self, fs_ne, fs_eq, fs_eq', st12, st13, st21, st23, st31, st32, not_true_eq_false, not_false_eq_true, em, em', en, en', et, et', eg, eg', ed, ed', es, es', eo', ee, ee', ev, ev']
        refine hI.end ?_
        repeat (first | exact Sm.refl _ | refine Sm.fs40 ?_ _ _ (by decide) | refine Sm.fsT ?_ _ _ _ _ rfl (by decide) (by decide))
    · first
        | exfalso; omega
        | simp (disch := first | omega | assumption) only [PL_28, P_L_misread, P_X10_misread, P_X11_misread, P_X10_needStation, P_X11_isStation, P_X11_in, P_X11_asked, P_X11_asked_10, P_X11_asked_, P_X11_asked__18, P_X11_asked__, P_X11_asked___26, P_X11_thrown, P_X11_told, ↓reduceIte, ↓forall_eq, ↓hold_ca, ↓hold_cam, ↓hold_cl, ↓hold_se, ↓hold_sem, ↓hold_st, ↓hold_wr, ↓hold_wrm, li0, li1, li2, li3, li4, li5, li6, li7, li8, li10, li20, li30, li35, li36, li60, li72, li100, li572, li2000, li2100, li9999, nI_lt_t, nI_lt_f, nI_le_t, nI_le_f, nI_eq_t, nI_eq_f, nI_eq_neg2, neg_eq_nI2, neg_lt2, neg_le2, nI_lt_neg2, nI_le_neg2, pred_t, pred_f, nI_clamp', vp_t, lt0_t, lt0_le, lt0_lt, lt0_eq, if_true, if_false, ite_true, ite_false, true_and, and_true, false_and, and_false, false_or, or_false, true_or, or_true, eq_self, fs_ne, fs_eq, fs_eq', st12, st13, st21, st23, st31, st32, not_true_eq_false, not_false_eq_true, em, em', en, en', et, et', eg, eg', ed, ed', es, es', eo', ee, ee', ev, ev']
          refine hI.end ?_
          repeat (first | exact Sm.refl _ | refine Sm.fs40 ?_ _ _ (by decide) | refine Sm.fsT ?_ _ _ _ _ rfl (by decide) (by decide))
