theorem hold_rb {F : GF} {i r : Nat} {sl : Int32} {K : GF → Prop} : P_X1_readBallots F i r sl K = @Hold _ (P_X1_readBallots F i r sl) ⟨K⟩ := rfl
def R103 (F : GF) (a b c d : Int32) (K : Int32 → GF → Prop) : Prop := ∃ nn : Nat, P_X11_count_103 K nn F a b c d
theorem hold_103 {F : GF} {a b c d : Int32} {K : Int32 → GF → Prop} : (∃ nn : Nat, P_X11_count_103 K nn F a b c d) = @Hold _ (R103 F a b c d) ⟨K⟩ := rfl
theorem alike_congr {F F' : GF} {p n j : Nat} {cl : Int32} (h30 : F' 30 = F 30) (h32 : F' 32 = F 32) : alike F' p n cl j ↔ alike F p n cl j := by
  unfold alike
  rw [h30, h32]
def alikeM (H : GF) (p n j : Nat) : Prop := ¬ H 61 0 (8 * p + j) = H 61 0 (8 * p + n) ∧ ∀ k, k < 6 → H 60 0 (6 * (8 * p + j) + k) = H 60 0 (6 * (8 * p + n) + k)
theorem alikeM_congr {F F' : GF} {p n j : Nat} (h61 : F' 61 = F 61) (h60 : F' 60 = F 60) : alikeM F' p n j ↔ alikeM F p n j := by
  unfold alikeM
  rw [h61, h60]
/-- what the class has behind a count -/
def CT (F : GF) (t p c n b e z : Nat) (sl : Int32) (bb : Nat → Nat) (r : Int32) (H : GF) : Prop := (∀ f, f ≠ 10 → f ≠ 21 → f ≠ 22 → f ≠ 23 → f ≠ 24 → f ≠ 28 → f ≠ 30 → f ≠ 32 → H f = F f) ∧ (H 21 0 4 = nI (b + 1) ∧ (∀ j, H 22 0 j = if j = b then nI t else F 22 0 j) ∧ (∀ j, H 23 0 j = if j = b then nI 99 else F 23 0 j) ∧ ∀ j, H 24 0 j = if j = b then nI p else F 24 0 j) ∧ ((∀ i j, ¬ (i = p ∧ (j = 4 ∨ j = 5)) → H 28 i j = F 28 i j) ∧ H 28 p 4 = nI (n + 1)) ∧ ((∀ i j, ¬ (i = p ∧ j = n) → H 30 i j = F 30 i j) ∧ H 30 p n = nI c) ∧ ((∀ i, i ≠ 8 * p + n → H 32 i = F 32 i) ∧ ∀ k, k < 6 → H 32 (8 * p + n) k = nI (cntK (kindN sl bb) k z)) ∧ ((H 28 p 5 = -1 ∧ r = 0 ∧ ∀ j, j < n → ¬ alike H p n (nI c) j) ∨ (H 28 p 5 = nI n ∧ r = 1 ∧ ∃ j, j < n ∧ alike H p n (nI c) j)) ∧ (∀ j, j ≠ 0 → H 10 0 j = F 10 0 j) ∧ ((H 10 0 0 = 5 ∧ ∀ s, s < e → ¬ H 28 s 5 = -1) ∨ (H 10 0 0 = F 10 0 0 ∧ ¬ ∀ s, s < e → ¬ H 28 s 5 = -1))
/-- what the reference has behind a count -/
def MT (F : GF) (t p c n b e z : Nat) (sl : Int32) (bb : Nat → Nat) (r : Int32) (H : GF) : Prop := (∀ f, f ≠ 40 → f ≠ 60 → f ≠ 61 → f ≠ 62 → f ≠ 63 → f ≠ 68 → f ≠ 69 → f ≠ 70 → H f = F f) ∧ (H 40 0 42 = nI (b + 1) ∧ (∀ j, H 68 0 j = if j = b then nI t else F 68 0 j) ∧ (∀ j, H 69 0 j = if j = b then nI 99 else F 69 0 j) ∧ ∀ j, H 70 0 j = if j = b then nI p else F 70 0 j) ∧ ((∀ j, j ≠ 14 → j ≠ 42 → j ≠ 43 → H 40 0 j = F 40 0 j) ∧ H 40 0 43 = 0) ∧ ((∀ i, i ≠ p → H 62 0 i = F 62 0 i) ∧ H 62 0 p = nI (n + 1)) ∧ ((∀ i, i ≠ 8 * p + n → H 61 0 i = F 61 0 i) ∧ H 61 0 (8 * p + n) = nI c) ∧ ((∀ q, ¬ (6 * (8 * p + n) ≤ q ∧ q < 6 * (8 * p + n) + 6) → H 60 0 q = F 60 0 q) ∧ ∀ k, k < 6 → H 60 0 (6 * (8 * p + n) + k) = nI (cntK (kindN sl bb) k z)) ∧ (∀ i, i ≠ p → H 63 0 i = F 63 0 i) ∧ ((H 63 0 p = -1 ∧ r = 0 ∧ ∀ j, j < n → ¬ alikeM H p n j) ∨ (H 63 0 p = nI (8 * p + n) ∧ r = 1 ∧ ∃ j, j < n ∧ alikeM H p n j)) ∧ ((H 40 0 14 = 5 ∧ ∀ s, s < e → ¬ H 63 0 s = -1) ∨ (H 40 0 14 = F 40 0 14 ∧ ¬ ∀ s, s < e → ¬ H 63 0 s = -1))
theorem neg_ne_nI {a : Nat} (ha : a < 2147483648) : ¬ nI a = -1 := fun z => by have h := nI_eq_neg (a := a) ha; rw [h] at z; exact z
set_option maxHeartbeats 1000000 in
set_option maxRecDepth 20000 in
theorem ct_cls {F : GF} {t p c n b e m z : Nat} {bb : Nat → Nat} {K : Int32 → GF → Prop} {X : String → GF → Prop} (em : F 6 0 2 = nI m) (hm : m ≤ 5) (hp : p < m) (hc : c < 4) (eg : F 10 0 0 = nI 4) (ee : F 10 0 4 = nI e) (he : e ≤ 5) (hpe : p < e) (et : F 0 0 5 = nI t) (h5 : F 28 p 5 = -1) (h4 : F 28 p 4 = nI n) (hn : n < 8) (hb21 : F 21 0 4 = nI b) (hb : b < 572) (h1 : F 28 p 1 = nI z) (hz : z ≤ 20) (hbb : ∀ j, j < 20 → bb j ≤ 5 ∧ F 29 p j = nI (bb j)) (hK : ∀ r H, CT F t p c n b e z (F 9 0 c) bb r H → K r H) : P_X10_count F (nI p) (nI c) K X := by
  have hp5 : p < 5 := by omega
  have h5' : F 28 p 5 = -nI 1 := h5
  have hcl : (nI p).toNatClampNeg = p := nI_clamp' (by omega)
  simp (disch := first | omega | assumption) only [li0, li1, li2, li3, li4, li5, li6, li7, li8, li10, li20, li30, li35, li36, li60, li72, li100, li572, li2000, li2100, li9999, nI_lt_t, nI_lt_f, nI_le_t, nI_le_f, nI_eq_t, nI_eq_f, nI_eq_neg2, neg_eq_nI2, neg_lt2, neg_le2, nI_lt_neg2, nI_le_neg2, pred_t, pred_f, nI_clamp', vp_t, lt0_t, lt0_le, lt0_lt, lt0_eq, if_true, if_false, ite_true, ite_false, true_and, and_true, false_and, and_false, false_or, or_false, true_or, or_true, eq_self, forall_eq, fs_ne, fs_eq, fs_eq', st12, st13, st21, st23, st31, st32, not_true_eq_false, not_false_eq_true, P_X10_count, P_X10_needStation, P_X10_needClerk, P_X10_needStage, P_X1_hasNumbers, ↓reduceIte, ↓forall_eq, ↓hold_wr, em, eg, ee, et, h5', h4]
  refine unhold ?_
  refine wr_cls (b := b) hb21 hb ?_
  simp (disch := first | omega | assumption) only [li0, li1, li2, li3, li4, li5, li6, li7, li8, li10, li20, li30, li35, li36, li60, li72, li100, li572, li2000, li2100, li9999, nI_lt_t, nI_lt_f, nI_le_t, nI_le_f, nI_eq_t, nI_eq_f, nI_eq_neg2, neg_eq_nI2, neg_lt2, neg_le2, nI_lt_neg2, nI_le_neg2, pred_t, pred_f, nI_clamp', vp_t, lt0_t, lt0_le, lt0_lt, lt0_eq, if_true, if_false, ite_true, ite_false, true_and, and_true, false_and, and_false, false_or, or_false, true_or, or_true, eq_self, forall_eq, fs_ne, fs_eq, fs_eq', st12, st13, st21, st23, st31, st32, not_true_eq_false, not_false_eq_true, P_X1_countBy, ↓reduceIte, ↓forall_eq, ↓hold_rb, h4, nar99]
  refine unhold ?_
  refine rb_cls (z := z) (bb := bb) (by simp (disch := omega) only [fs_ne]; exact h1) hz (fun j hj => ⟨(hbb j hj).1, by simp (disch := omega) only [fs_ne]; exact (hbb j hj).2⟩) (fun F6 g1 g2 g3 => ?_)
  simp only [hcl]
  refine cb_cls (n := n) hp5 hn (by rw [g1 28 (by decide)]; simp (disch := omega) only [fs_ne]; exact h4) (by rw [g1 28 (by decide)]; simp (disch := omega) only [fs_ne]; exact h5) (fun F17 u1 u2 u3 u4 => ?_)
  have hfin : ∀ (r : Int32) (H : GF), (∀ f, f ≠ 10 → H f = F17 f) → ((H 28 p 5 = -1 ∧ r = 0) ∨ (¬ H 28 p 5 = -1 ∧ r = 1)) → (∀ j, j ≠ 0 → H 10 0 j = F17 10 0 j) → ((H 10 0 0 = 5 ∧ ∀ s, s < e → ¬ F17 28 s 5 = -1) ∨ (H 10 0 0 = F17 10 0 0 ∧ ¬ ∀ s, s < e → ¬ F17 28 s 5 = -1)) → K r H := by
    intro r H a1 a2 a3 a4
    have A28 : H 28 = F17 28 := a1 28 (by decide)
    have A30 : H 30 = F6 30 := (a1 30 (by decide)).trans (u1 30 (by decide))
    have A32 : H 32 = F6 32 := (a1 32 (by decide)).trans (u1 32 (by decide))
    refine hK r H ⟨fun f b1 b2 b3 b4 b5 b6 b7 b8 => ?_, ⟨?_, ?_, ?_, ?_⟩, ⟨fun i j h => ?_, ?_⟩, ⟨fun i j h => ?_, ?_⟩, ⟨fun i h => ?_, fun k hk => ?_⟩, ?_, fun j hj => ?_, ?_⟩
    · rw [a1 f b1, u1 f b6, g1 f b8]
      simp (disch := omega) only [fs_fam]
    · rw [a1 21 (by decide), u1 21 (by decide), g1 21 (by decide)]
      simp (disch := omega) only [fs_ne, fs_eq]
    · exact (by intro j; rw [a1 22 (by decide), u1 22 (by decide), g1 22 (by decide)]; by_cases e : j = b; (subst e; simp (disch := omega) only [fs_ne, fs_eq, eq_self, if_true]; try rfl); (simp (disch := omega) only [fs_ne, if_neg e]))
    · exact (by intro j; rw [a1 23 (by decide), u1 23 (by decide), g1 23 (by decide)]; by_cases e : j = b; (subst e; simp (disch := omega) only [fs_ne, fs_eq, eq_self, if_true]; try rfl); (simp (disch := omega) only [fs_ne, if_neg e]))
    · exact (by intro j; rw [a1 24 (by decide), u1 24 (by decide), g1 24 (by decide)]; by_cases e : j = b; (subst e; simp (disch := omega) only [fs_ne, fs_eq, eq_self, if_true]; try rfl); (simp (disch := omega) only [fs_ne, if_neg e]))
    · rw [A28, u2 i j h, g1 28 (by decide)]
      simp (disch := omega) only [fs_ne]
    · rw [A28]
      exact u3
    · rw [A30, g1 30 (by decide)]
      simp (disch := omega) only [fs_ne]
    · rw [A30, g1 30 (by decide)]
      simp (disch := omega) only [fs_ne, fs_eq]
    · rw [A32, g2 i h]
      simp (disch := omega) only [fs_fam]
    · rw [A32]
      exact g3 k hk
    · rcases u4 with ⟨v1, v2⟩ | ⟨v1, j, v2, v3⟩
      · rcases a2 with ⟨-, a2⟩ | ⟨a2, -⟩
        · exact Or.inl ⟨by rw [A28]; exact v1, a2, fun j hj q => v2 j hj ((alike_congr A30 A32).mp q)⟩
        · exact absurd (by rw [A28]; exact v1) a2
      · have hne : ¬ H 28 p 5 = -1 := by rw [A28, v1]; exact neg_ne_nI (by omega)
        rcases a2 with ⟨a2, -⟩ | ⟨-, a2⟩
        · exact absurd a2 hne
        · exact Or.inr ⟨by rw [A28]; exact v1, a2, j, v2, (alike_congr A30 A32).mpr v3⟩
    · rw [a3 j hj, u1 10 (by decide), g1 10 (by decide)]
      simp (disch := omega) only [fs_ne]
    · rw [A28]
      rcases a4 with ⟨x, y⟩ | ⟨x, y⟩
      · exact Or.inl ⟨x, y⟩
      · exact Or.inr ⟨by rw [x, u1 10 (by decide), g1 10 (by decide)]; simp (disch := omega) only [fs_ne], y⟩
  refine as_cls (e := e) (by rw [u1 10 (by decide), g1 10 (by decide)]; simp (disch := omega) only [fs_ne]; exact ee) he (fun hall => ?_) (fun hno => ?_)
  · show if (1 : Int32) = 0 then _ else _
    rw [if_neg (show ¬ (1 : Int32) = 0 by decide)]
    intro F24 e24
    unfold P_X10_count_128 P_X1_hasNumbers
    by_cases hx : F24 28 p 5 = -1
    · rw [if_pos hx]
      exact ⟨Or.inl rfl, hfin 0 F24 (fun f hf => by rw [e24, fs_fam hf]) (Or.inl ⟨hx, rfl⟩) (fun j hj => by rw [e24, fs_ne (by omega)]) (Or.inl ⟨by rw [e24, fs_eq], hall⟩)⟩
    · rw [if_neg hx]
      exact ⟨Or.inr rfl, hfin 1 F24 (fun f hf => by rw [e24, fs_fam hf]) (Or.inr ⟨hx, rfl⟩) (fun j hj => by rw [e24, fs_ne (by omega)]) (Or.inl ⟨by rw [e24, fs_eq], hall⟩)⟩
  · show if (0 : Int32) = 0 then _ else _
    rw [if_pos (show (0 : Int32) = 0 from rfl)]
    unfold P_X10_count_128 P_X1_hasNumbers
    by_cases hx : F17 28 p 5 = -1
    · rw [if_pos hx]
      exact ⟨Or.inl rfl, hfin 0 F17 (fun _ _ => rfl) (Or.inl ⟨hx, rfl⟩) (fun _ _ => rfl) (Or.inr ⟨rfl, hno⟩)⟩
    · rw [if_neg hx]
      exact ⟨Or.inr rfl, hfin 1 F17 (fun _ _ => rfl) (Or.inr ⟨hx, rfl⟩) (fun _ _ => rfl) (Or.inr ⟨rfl, hno⟩)⟩
set_option maxHeartbeats 1000000 in
set_option maxRecDepth 20000 in
theorem ct_mod {F : GF} {t p c n b e m z : Nat} {sl : Int32} {bb : Nat → Nat} {K : Int32 → GF → Prop} (em : F 40 0 6 = nI m) (hm : m ≤ 5) (hp : p < m) (hc : c < 4) (eg : F 40 0 14 = nI 4) (ee : F 40 0 19 = nI e) (he : e ≤ 5) (hpe : p < e) (et : F 40 0 0 = nI t) (h63 : F 63 0 p = -1) (h62 : F 62 0 p = nI n) (hn : n < 8) (hb42 : F 40 0 42 = nI b) (hb : b < 1000) (h59 : F 59 0 p = nI z) (hz : z ≤ 20) (h64 : F 64 0 c = sl) (hbb : ∀ j, j < 20 → bb j ≤ 5 ∧ F 58 0 (20 * p + j) = nI (bb j)) (hK : ∀ r H, MT F t p c n b e z sl bb r H → K r H) : P_X11_count F (nI p) (nI c) K := by
  have hp5 : p < 5 := by omega
  have h63' : F 63 0 p = -nI 1 := h63
  have hcl : (nI p).toNatClampNeg = p := nI_clamp' (by omega)
  simp (disch := first | omega | assumption) only [li0, li1, li2, li3, li4, li5, li6, li7, li8, li10, li20, li30, li35, li36, li60, li72, li100, li572, li2000, li2100, li9999, nI_lt_t, nI_lt_f, nI_le_t, nI_le_f, nI_eq_t, nI_eq_f, nI_eq_neg2, neg_eq_nI2, neg_lt2, neg_le2, nI_lt_neg2, nI_le_neg2, pred_t, pred_f, nI_clamp', vp_t, lt0_t, lt0_le, lt0_lt, lt0_eq, if_true, if_false, ite_true, ite_false, true_and, and_true, false_and, and_false, false_or, or_false, true_or, or_true, eq_self, forall_eq, fs_ne, fs_eq, fs_eq', st12, st13, st21, st23, st31, st32, not_true_eq_false, not_false_eq_true, P_X11_count, P_X11_isStation, P_X11_in, P_X11_count_21, P_X11_count_22, P_X11_count_70, P_X11_count_71, P_X11_asked_, P_X11_asked__18, ↓reduceIte, ↓forall_eq, ↓hold_103, em, eg, ee, h63', h62, nI_mul, nI_add]
  refine unhold ?_
  unfold R103
  refine ⟨7, rb_mod (p := p) (c := c) (r := 8 * p + n) (z := z) (sl := sl) (bb := bb) hp5 hc (by omega) (by simp (disch := omega) only [fs_ne]; exact h59) (by simp (disch := omega) only [fs_ne]; exact h64) hz (fun j hj => ⟨(hbb j hj).1, by simp (disch := omega) only [fs_ne]; exact (hbb j hj).2⟩) (fun F1 g1 g2 g3 F17 e17 => ?_) 7 rfl⟩
  have G : ∀ f, f ≠ 60 → f ≠ 61 → f ≠ 62 → f ≠ 40 → F17 f = F f := fun f b1 b2 b3 b4 => by
    rw [e17, fs_fam b3, g1 f b1]
    simp (disch := omega) only [fs_fam]
  have G40 : ∀ j, j ≠ 43 → F17 40 0 j = F 40 0 j := fun j hj => by
    rw [e17, fs_fam (by decide), g1 40 (by decide)]
    simp (disch := omega) only [fs_ne]
  have G43 : F17 40 0 43 = 0 := by
    rw [e17, fs_fam (by decide), g1 40 (by decide)]
    simp (disch := omega) only [fs_ne, fs_eq]
    try rfl
  have G61 : (∀ i, i ≠ 8 * p + n → F17 61 0 i = F 61 0 i) ∧ F17 61 0 (8 * p + n) = nI c := by
    refine ⟨fun i hi => ?_, ?_⟩
    · rw [e17, fs_fam (by decide), g1 61 (by decide)]
      simp (disch := omega) only [fs_ne]
    · rw [e17, fs_fam (by decide), g1 61 (by decide)]
      simp (disch := omega) only [fs_ne, fs_eq]
  have G60 : (∀ q, ¬ (6 * (8 * p + n) ≤ q ∧ q < 6 * (8 * p + n) + 6) → F17 60 0 q = F 60 0 q) ∧ ∀ k, k < 6 → F17 60 0 (6 * (8 * p + n) + k) = nI (cntK (kindN sl bb) k z) := by
    refine ⟨fun q hq => ?_, fun k hk => ?_⟩
    · rw [e17, fs_fam (by decide), g2 q hq]
      simp (disch := omega) only [fs_ne]
    · rw [e17, fs_fam (by decide)]
      exact g3 k hk
  have G62 : (∀ i, i ≠ p → F17 62 0 i = F 62 0 i) ∧ F17 62 0 p = nI (n + 1) := by
    refine ⟨fun i hi => ?_, ?_⟩
    · rw [e17, fs_ne (by omega), g1 62 (by decide)]
      simp (disch := omega) only [fs_ne]
    · rw [e17, fs_eq, g1 62 (by decide)]
      simp (disch := omega) only [fs_ne]
      rw [h62, nI_succ]
  clear e17 g1 g2 g3
  refine cb_mod (n := n) hp5 hn (by rw [G 63 (by decide) (by decide) (by decide) (by decide)]; exact h63) (fun F20 u1 u2 u4 => ?_)
  rw [u1 40 (by decide), G40 0 (by decide), et]
  refine wr_mod (b := b) (by rw [u1 40 (by decide), G40 42 (by decide)]; exact hb42) hb ?_
  have hfin : ∀ (r : Int32) (H : GF), (∀ f, f ≠ 40 → f ≠ 68 → f ≠ 69 → f ≠ 70 → H f = F20 f) → ((∀ j, H 68 0 j = if j = b then nI t else F 68 0 j) ∧ (∀ j, H 69 0 j = if j = b then nI 99 else F 69 0 j) ∧ ∀ j, H 70 0 j = if j = b then nI p else F 70 0 j) → (∀ j, j ≠ 14 → j ≠ 42 → H 40 0 j = F20 40 0 j) → H 40 0 42 = nI (b + 1) → ((H 63 0 p = -1 ∧ r = 0) ∨ (¬ H 63 0 p = -1 ∧ r = 1)) → ((H 40 0 14 = 5 ∧ ∀ s, s < e → ¬ H 63 0 s = -1) ∨ (H 40 0 14 = F 40 0 14 ∧ ¬ ∀ s, s < e → ¬ H 63 0 s = -1)) → K r H := by
    intro r H a1 a2 a3 a4 a5 a6
    have A : ∀ f, f ≠ 40 → f ≠ 68 → f ≠ 69 → f ≠ 70 → f ≠ 63 → H f = F17 f := fun f b1 b2 b3 b4 b5 => (a1 f b1 b2 b3 b4).trans (u1 f b5)
    have A61 := A 61 (by decide) (by decide) (by decide) (by decide) (by decide)
    have A60 := A 60 (by decide) (by decide) (by decide) (by decide) (by decide)
    have A62 := A 62 (by decide) (by decide) (by decide) (by decide) (by decide)
    have A63 := a1 63 (by decide) (by decide) (by decide) (by decide)
    refine hK r H ⟨fun f b1 b2 b3 b4 b5 b6 b7 b8 => ?_, ⟨a4, a2⟩, ⟨fun j b1 b2 b3 => ?_, ?_⟩, ?_, ?_, ?_, fun i hi => ?_, ?_, a6⟩
    · rw [A f b1 b6 b7 b8 b5]
      exact G f b2 b3 b4 b1
    · rw [a3 j b1 b2, u1 40 (by decide)]
      exact G40 j b3
    · rw [a3 43 (by decide) (by decide), u1 40 (by decide)]
      exact G43
    · rw [A62]
      exact G62
    · rw [A61]
      exact G61
    · rw [A60]
      exact G60
    · rw [A63, u2 i hi, G 63 (by decide) (by decide) (by decide) (by decide)]
    · rcases u4 with ⟨v1, v2⟩ | ⟨v1, j, v2, v3⟩
      · rcases a5 with ⟨-, a5⟩ | ⟨a5, -⟩
        · exact Or.inl ⟨by rw [A63]; exact v1, a5, fun j hj q => v2 j hj ((alikeM_congr A61 A60).mp q)⟩
        · exact absurd (by rw [A63]; exact v1) a5
      · have hne : ¬ H 63 0 p = -1 := by rw [A63, v1]; exact neg_ne_nI (by omega)
        rcases a5 with ⟨a5, -⟩ | ⟨-, a5⟩
        · exact absurd a5 hne
        · exact Or.inr ⟨by rw [A63]; exact v1, a5, j, v2, (alikeM_congr A61 A60).mpr v3⟩
  have G68 : F20 68 = F 68 ∧ F20 69 = F 69 ∧ F20 70 = F 70 := ⟨(u1 68 (by decide)).trans (G 68 (by decide) (by decide) (by decide) (by decide)), (u1 69 (by decide)).trans (G 69 (by decide) (by decide) (by decide) (by decide)), (u1 70 (by decide)).trans (G 70 (by decide) (by decide) (by decide) (by decide))⟩
  have E14 : F20 40 0 14 = F 40 0 14 := by rw [u1 40 (by decide), G40 14 (by decide)]
  generalize hN : fs (fs (fs (fs F20 68 0 b (nI t)) 69 0 b 99) 70 0 b (nI p)) 40 0 42 (nI (b + 1)) = F21
  have n1 : ∀ f, f ≠ 40 → f ≠ 68 → f ≠ 69 → f ≠ 70 → F21 f = F20 f := fun f b1 b2 b3 b4 => by
    rw [← hN]
    simp (disch := omega) only [fs_fam]
  have n2 : (∀ j, F21 68 0 j = if j = b then nI t else F 68 0 j) ∧ (∀ j, F21 69 0 j = if j = b then nI 99 else F 69 0 j) ∧ ∀ j, F21 70 0 j = if j = b then nI p else F 70 0 j := by
    rw [← G68.1, ← G68.2.1, ← G68.2.2]
    exact ⟨(by intro j; rw [← hN]; by_cases e : j = b; (subst e; simp (disch := omega) only [fs_ne, fs_eq, eq_self, if_true]; try rfl); (simp (disch := omega) only [fs_ne, if_neg e])), (by intro j; rw [← hN]; by_cases e : j = b; (subst e; simp (disch := omega) only [fs_ne, fs_eq, eq_self, if_true]; try rfl); (simp (disch := omega) only [fs_ne, if_neg e])), (by intro j; rw [← hN]; by_cases e : j = b; (subst e; simp (disch := omega) only [fs_ne, fs_eq, eq_self, if_true]; try rfl); (simp (disch := omega) only [fs_ne, if_neg e]))⟩
  have n3 : ∀ j, j ≠ 42 → F21 40 0 j = F20 40 0 j := fun j hj => by
    rw [← hN]
    simp (disch := omega) only [fs_ne]
  have n4 : F21 40 0 42 = nI (b + 1) := by
    rw [← hN]
    simp (disch := omega) only [fs_ne, fs_eq]
  have n5 : F21 63 = F20 63 := n1 63 (by decide) (by decide) (by decide) (by decide)
  clear hN
  have last : ∀ (v : Int32), ((v = 5 ∧ ∀ s, s < e → ¬ F21 63 0 s = -1) ∨ (v = F 40 0 14 ∧ ¬ ∀ s, s < e → ¬ F21 63 0 s = -1)) → P_X11_count_347 K F21 (nI p) v := by
    intro v hv
    unfold P_X11_count_347
    intro F23 e23
    rw [hcl]
    refine ⟨nI_in (by omega) (by omega), ?_⟩
    have E : ∀ f, f ≠ 40 → F23 f = F21 f := fun f hf => by rw [e23, fs_fam hf]
    have E40 : ∀ j, j ≠ 14 → F23 40 0 j = F21 40 0 j := fun j hj => by rw [e23, fs_ne (by omega)]
    have E14' : F23 40 0 14 = v := by rw [e23, fs_eq]
    have go : ∀ r : Int32, ((F23 63 0 p = -1 ∧ r = 0) ∨ (¬ F23 63 0 p = -1 ∧ r = 1)) → K r F23 := by
      intro r hr
      refine hfin r F23 (fun f b1 b2 b3 b4 => (E f b1).trans (n1 f b1 b2 b3 b4)) ?_ (fun j b1 b2 => (E40 j b1).trans (n3 j b2)) ((E40 42 (by decide)).trans n4) hr ?_
      · rw [E 68 (by decide), E 69 (by decide), E 70 (by decide)]
        exact n2
      · rw [E14', E 63 (by decide)]
        exact hv
    by_cases hx : F23 63 0 p = -1
    · rw [if_pos hx]
      exact go 0 (Or.inl ⟨hx, rfl⟩)
    · rw [if_neg hx]
      exact go 1 (Or.inr ⟨hx, rfl⟩)
  refine as_mod (e := e) (by rw [n3 19 (by decide), u1 40 (by decide), G40 19 (by decide)]; exact ee) he (fun hall => last 5 (Or.inl ⟨rfl, hall⟩)) (fun hno => ?_)
  rw [n3 14 (by decide), E14]
  exact last _ (Or.inr ⟨rfl, hno⟩)
set_option maxHeartbeats 1000000 in
set_option maxRecDepth 20000 in
theorem count_inv {k t p c n b e z : Nat} {sl : Int32} {bb : Nat → Nat} {r r' : Int32} {F H1 H : GF} (hk : k < 512) (hI : Inv k F) (hp5 : p < 5) (hc : c < 4) (ht : t ≤ 2100) (eg : F 10 0 0 = nI 4) (ee : F 10 0 4 = nI e) (he5 : e ≤ 5) (hn : n < 8) (hz : z ≤ 20) (hb21 : F 21 0 4 = nI b) (hb : b < 572) (hC : CT F t p c n b e z sl bb r H1) (hM : MT (fs H1 79 0 0 r) t p c n b e z sl bb r' H) : r = r' ∧ H 79 0 0 = r ∧ H 40 0 43 = 0 ∧ (r = 0 ∨ r = 1) ∧ Inv (k + 1) H := by
  obtain ⟨⟨q0, q1, q2, q3, q4, q5, q6, q7, q8, q9, q10, q11⟩, ⟨r0, r1, r2, r3, r4, r5, r6, r7, r8, r9, r10, r11, r12, r13, r14⟩, cb, lg⟩ := hI
  obtain ⟨c1, ⟨c2, c3, c4, c5⟩, ⟨c6, c7⟩, ⟨c8, c9⟩, ⟨c10, c11⟩, c12, c13, c14⟩ := hC
  obtain ⟨m1, ⟨m2, m3, m4, m5⟩, ⟨m6, m7⟩, ⟨m8, m9⟩, ⟨m10, m11⟩, ⟨m12, m13⟩, m14, m15, m16⟩ := hM
  have G : ∀ f, f ≠ 79 → fs H1 79 0 0 r f = H1 f := fun f hf => fs_fam hf
  have hH1 : ∀ f, f ≠ 79 → f ≠ 40 → f ≠ 60 → f ≠ 61 → f ≠ 62 → f ≠ 63 → f ≠ 68 → f ≠ 69 → f ≠ 70 → H f = H1 f := fun f a0 a1 a2 a3 a4 a5 a6 a7 a8 => (m1 f a1 a2 a3 a4 a5 a6 a7 a8).trans (G f a0)
  have o : ∀ f, f ∈ [0, 2, 6, 7, 8, 9, 11, 13, 14, 15, 16, 17, 18, 19, 25, 29, 33, 38, 39, 41, 44, 45, 46, 47, 48, 49, 50, 51, 52, 53, 54, 55, 56, 57, 58, 59, 64] → H f = F f := by
    intro f hf
    simp only [List.mem_cons, List.not_mem_nil, or_false] at hf
    rw [hH1 f (by omega) (by omega) (by omega) (by omega) (by omega) (by omega) (by omega) (by omega) (by omega), c1 f (by omega) (by omega) (by omega) (by omega) (by omega) (by omega) (by omega) (by omega)]
  have hr : ∀ f, f ∈ [10, 21, 22, 23, 24, 28, 30, 32] → H f = H1 f := by
    intro f hf
    simp only [List.mem_cons, List.not_mem_nil, or_false] at hf
    exact hH1 f (by omega) (by omega) (by omega) (by omega) (by omega) (by omega) (by omega) (by omega) (by omega)
  have hu : ∀ f, f ∈ [40, 60, 61, 62, 63, 68, 69, 70] → fs H1 79 0 0 r f = F f := by
    intro f hf
    simp only [List.mem_cons, List.not_mem_nil, or_false] at hf
    rw [G f (by omega), c1 f (by omega) (by omega) (by omega) (by omega) (by omega) (by omega) (by omega) (by omega)]
  rw [hu 40 (by decide)] at m6
  rw [hu 62 (by decide)] at m8
  rw [hu 61 (by decide)] at m10
  rw [hu 60 (by decide)] at m12
  rw [hu 63 (by decide)] at m14
  rw [hu 68 (by decide)] at m3
  rw [hu 69 (by decide)] at m4
  rw [hu 70 (by decide)] at m5
  have h40 : fs H1 79 0 0 r 40 0 14 = F 40 0 14 := by rw [hu 40 (by decide)]
  rw [h40] at m16
  have x10 := hr 10 (by decide)
  have x21 := hr 21 (by decide)
  have x22 := hr 22 (by decide)
  have x23 := hr 23 (by decide)
  have x24 := hr 24 (by decide)
  have x28 := hr 28 (by decide)
  have x30 := hr 30 (by decide)
  have x32 := hr 32 (by decide)
  have e79 : H 79 0 0 = r := by rw [m1 79 (by decide) (by decide) (by decide) (by decide) (by decide) (by decide) (by decide) (by decide), fs_eq]
  -- alike, both ways
  have hal : ∀ j, j < n → (alike H1 p n (nI c) j ↔ alikeM H p n j) := by
    intro j hj
    have a1 : H 61 0 (8 * p + j) = H1 30 p j := by
      rw [m10 (8 * p + j) (by omega), c8 p j (by omega)]
      exact (q9 p hp5).2.2.2 j (by omega)
    have a2 : ∀ k, k < 6 → H 60 0 (6 * (8 * p + j) + k) = H1 32 (8 * p + j) k := by
      intro k hk
      rw [m12 _ (by omega), c10 (8 * p + j) (by omega)]
      exact q10 (8 * p + j) (by omega) k hk
    unfold alike alikeM
    rw [a1, m11]
    refine ⟨fun h => ⟨h.1, fun k hk => ?_⟩, fun h => ⟨h.1, fun k hk => ?_⟩⟩
    · rw [a2 k hk, m13 k hk, h.2 k hk, c11 k hk]
    · rw [← a2 k hk, c11 k hk, h.2 k hk, m13 k hk]
  have out : (r = 0 ∧ r' = 0 ∧ H 28 p 5 = -1 ∧ H 63 0 p = -1) ∨ (r = 1 ∧ r' = 1 ∧ H 28 p 5 = nI n ∧ H 63 0 p = nI (8 * p + n)) := by
    rw [x28]
    rcases c12 with ⟨y1, y2, y3⟩ | ⟨y1, y2, j, y3, y4⟩
    · rcases m15 with ⟨z1, z2, z3⟩ | ⟨z1, z2, j, z3, z4⟩
      · exact Or.inl ⟨y2, z2, y1, z1⟩
      · exact absurd ((hal j z3).mpr z4) (y3 j z3)
    · rcases m15 with ⟨z1, z2, z3⟩ | ⟨z1, z2, j', z3, z4⟩
      · exact absurd ((hal j y3).mp y4) (z3 j y3)
      · exact Or.inr ⟨y2, z2, y1, z1⟩
  have bx : ∀ s, s < 5 → (H 28 s 5 = -1 ∧ H 63 0 s = -1) ∨ ∃ w, w < 8 ∧ H 28 s 5 = nI w ∧ H 63 0 s = nI (8 * s + w) := by
    intro s hs
    by_cases e1 : s = p
    · subst e1
      rcases out with ⟨-, -, y1, y2⟩ | ⟨-, -, y1, y2⟩
      · exact Or.inl ⟨y1, y2⟩
      · exact Or.inr ⟨n, hn, y1, y2⟩
    · rw [x28, c6 s 5 (by omega), m14 s e1]
      exact (r7 s hs).2.1
  have hset : ∀ s, s < 5 → (H 28 s 5 = -1 ↔ H 63 0 s = -1) := by
    intro s hs
    rcases bx s hs with ⟨y1, y2⟩ | ⟨w, y0, y1, y2⟩
    · exact ⟨fun _ => y2, fun _ => y1⟩
    · rw [y1, y2]
      exact ⟨fun q => absurd q (neg_ne_nI (by omega)), fun q => absurd q (neg_ne_nI (by omega))⟩
  obtain ⟨t0, g0, d0, s0, e0, ht0, et0, hg0, eg0, hd0, ed0, hs0, es0, he0, ee0, hem0, k1, k2, k3⟩ := r3
  have hg4 : g0 = 4 := (nI_eq_iff (by omega) (by omega)).mp (eg0.symm.trans eg)
  have hallE : (∀ s, s < e → ¬ H1 28 s 5 = -1) ↔ ∀ s, s < e → ¬ H 63 0 s = -1 := by
    rw [← x28]
    exact ⟨fun h s hs q => h s hs ((hset s (by omega)).mpr q), fun h s hs q => h s hs ((hset s (by omega)).mp q)⟩
  have stg : (H 10 0 0 = 5 ∧ H 40 0 14 = 5 ∧ ∀ s, s < e → ¬ H 28 s 5 = -1) ∨ (H 10 0 0 = nI 4 ∧ H 40 0 14 = nI 4) := by
    rw [x10, x28]
    rcases c14 with ⟨y1, y2⟩ | ⟨y1, y2⟩
    · rcases m16 with ⟨z1, z2⟩ | ⟨z1, z2⟩
      · exact Or.inl ⟨y1, z1, y2⟩
      · exact absurd (hallE.mp y2) z2
    · rcases m16 with ⟨z1, z2⟩ | ⟨z1, z2⟩
      · exact absurd (hallE.mpr z2) y2
      · exact Or.inr ⟨y1.trans eg, z1.trans (q5.1.trans eg)⟩
  have h10 : ∀ j, j ≠ 0 → H 10 0 j = F 10 0 j := fun j hj => by rw [x10]; exact c13 j hj
  have o0 := o 0 (by decide)
  have bk := book_more (F := F) (F' := H) (b := b) (v := t) (c := 99) (p := p) hb ht (by decide) (by omega) q11 r11 m2 (by rw [x21]; exact c2) (by rw [x22]; exact c3) (by rw [x23]; exact c4) (by rw [x24]; exact c5) m3 m4 m5
  refine ⟨?_, e79, m7, ?_, ⟨?_, ?_, ?_, ?_, ?_, ?_, ?_, ?_, ?_, ?_, ?_, bk.1⟩, ⟨?_, ?_, ?_, ?_, ?_, ?_, ?_, ?_, ?_, ?_, ?_, bk.2, ?_, ?_, ?_⟩, ?_, ?_⟩
  · rcases out with ⟨y1, y2, -⟩ | ⟨y1, y2, -⟩ <;> rw [y1, y2]
  · rcases out with ⟨y1, -⟩ | ⟨y1, -⟩
    · exact Or.inl y1
    · exact Or.inr y1
  · unfold t_now; rw [m6 0 (by decide) (by decide) (by decide), o0]; exact q0
  · unfold t_bar; rw [o 41 (by decide), o 2 (by decide)]; exact q1
  · unfold t_st; rw [m6 6 (by decide) (by decide) (by decide), o 6 (by decide), o 7 (by decide), o 8 (by decide), o 44 (by decide), o 45 (by decide)]; exact q2
  · unfold t_slip; rw [o 64 (by decide), o 9 (by decide)]; exact q3
  · unfold t_pe; rw [m6 9 (by decide) (by decide) (by decide), o0, o 46 (by decide), o 47 (by decide), o 33 (by decide)]; exact q4
  · refine ⟨?_, ?_⟩
    · rcases stg with ⟨y1, y2, -⟩ | ⟨y1, y2⟩ <;> rw [y1, y2]
    · rw [m6 15 (by decide) (by decide) (by decide), m6 16 (by decide) (by decide) (by decide), m6 17 (by decide) (by decide) (by decide), m6 19 (by decide) (by decide) (by decide), h10 1 (by decide), h10 2 (by decide), h10 3 (by decide), h10 4 (by decide)]
      exact q5.2
  · unfold t_seed; rw [o 51 (by decide), o 11 (by decide)]; exact q6
  · unfold t_roll; rw [o 52 (by decide), o 54 (by decide), o 13 (by decide), o 15 (by decide), o 53 (by decide), o 14 (by decide)]; exact q7
  · unfold t_env; rw [m6 26 (by decide) (by decide) (by decide), o 16 (by decide), o 55 (by decide), o 56 (by decide), o 57 (by decide), o 17 (by decide), o 18 (by decide), o 19 (by decide)]; exact q8
  · intro s hs
    obtain ⟨w1, w2, w3, w4⟩ := q9 s hs
    rw [o 59 (by decide), o 58 (by decide), o 29 (by decide), x28, x30]
    refine ⟨?_, ?_, w3, fun c' hc' => ?_⟩
    · rw [c6 s 1 (by omega)]; exact w1
    · by_cases e1 : s = p
      · subst e1; rw [m9, c7]
      · rw [m8 s e1, c6 s 4 (by omega)]; exact w2
    · by_cases e1 : s = p ∧ c' = n
      · obtain ⟨e1, e2⟩ := e1
        subst e1 e2
        rw [m11, c9]
      · rw [m10 _ (by omega), c8 s c' e1]
        exact w4 c' hc'
  · intro i hi k' hk'
    rw [x32]
    by_cases e1 : i = 8 * p + n
    · subst e1
      rw [m13 k' hk', c11 k' hk']
    · rw [m12 _ (by omega), c10 i e1]
      exact q10 i hi k' hk'
  · unfold b_bar; rw [o 2 (by decide)]; exact r0
  · unfold b_st; rw [o 6 (by decide), o 7 (by decide)]; exact r1
  · unfold b_pe; rw [o0]; exact r2
  · rcases stg with ⟨y1, -⟩ | ⟨y1, -⟩
    · exact ⟨t0, 5, d0, s0, e0, ht0, by rw [o0]; exact et0, by omega, y1, hd0, by rw [h10 1 (by decide)]; exact ed0, hs0, by rw [h10 2 (by decide)]; exact es0, he0, by rw [h10 4 (by decide)]; exact ee0, by rw [o 6 (by decide)]; exact hem0, fun q => absurd q (by decide), fun q => absurd q (by decide), fun q => absurd q (by decide)⟩
    · exact ⟨t0, 4, d0, s0, e0, ht0, by rw [o0]; exact et0, by omega, y1, hd0, by rw [h10 1 (by decide)]; exact ed0, hs0, by rw [h10 2 (by decide)]; exact es0, he0, by rw [h10 4 (by decide)]; exact ee0, by rw [o 6 (by decide)]; exact hem0, fun q => absurd q (by decide), fun q => absurd q (by decide), fun q => absurd q (by decide)⟩
  · unfold b_env; rw [o 16 (by decide), o 17 (by decide), o 18 (by decide)]; exact r4
  · unfold b_seal sealed; rw [o 16 (by decide), o 17 (by decide), o 19 (by decide), o 13 (by decide), o 15 (by decide)]; exact r5
  · unfold b_roll; rw [o 13 (by decide)]; exact r6
  · intro s hs
    refine ⟨?_, bx s hs, ?_⟩
    · by_cases e1 : s = p
      · subst e1; rw [x28]; exact ⟨n + 1, by omega, c7⟩
      · rw [x28, c6 s 4 (by omega)]; exact (r7 s hs).1
    · rw [o 29 (by decide)]; exact (r7 s hs).2.2
  · intro s hs
    rw [voters_eq (o 15 (by decide)), x28, c6 s 1 (by omega)]
    exact r8 s hs
  · intro i hi k' hk'
    rw [x32]
    by_cases e1 : i = 8 * p + n
    · subst e1
      exact ⟨_, Nat.le_trans (cntK_le z) hz, c11 k' hk'⟩
    · rw [c10 i e1]
      exact r9 i hi k' hk'
  · intro h5 s hs hse
    rcases stg with ⟨-, -, y3⟩ | ⟨y1, -⟩
    · rw [h10 4 (by decide), ee] at hse
      exact y3 s ((nI_lt_iff (by omega) (by omega)).mp hse)
    · rw [y1] at h5
      exact absurd h5 (by decide)
  · unfold b_seed; rw [o 11 (by decide)]; exact r12
  · unfold b_sb; rw [o 25 (by decide)]; exact r13
  · intro h12
    rcases stg with ⟨y1, -⟩ | ⟨y1, -⟩
    · rw [y1] at h12
      rcases h12 with h12 | h12 <;> exact absurd h12 (by decide)
    · rw [y1] at h12
      rcases h12 with h12 | h12 <;> exact absurd h12 (by decide)
  · obtain ⟨b', v', hb', hv', hv60, hle⟩ := cb
    have : b' = b := by
      have h2 := hb'.symm.trans hb21
      exact (nI_eq_iff (by omega) (by omega)).mp h2
    subst this
    exact ⟨b' + 1, v', by rw [x21]; exact c2, by rw [o 16 (by decide)]; exact hv', hv60, by rw [seals_eq (o 19 (by decide))]; omega⟩
  · intro t2 h1 h2
    rw [o0] at h1
    refine c_log_mono (c_log_eq (lg t2 h1 h2) ?_ ?_ ?_ ?_ ?_ ?_ ?_ ?_)
    · rw [o0]
    · rw [o 38 (by decide)]
    · exact m6 13 (by decide) (by decide) (by decide)
    · exact o 48 (by decide)
    · exact o 49 (by decide)
    · exact o 50 (by decide)
    · exact o 39 (by decide)
    · intro q; rw [o 33 (by decide)]
set_option maxHeartbeats 1000000 in
set_option maxRecDepth 20000 in
theorem m24 {k : Nat} {F : GF} (hk : k < 512) (h : Inv k F) (a1 a2 a3 : Int32) : PL_24 a1 a2 a3 (Inv (k + 1)) F := by
  have hI := h
  obtain ⟨⟨q0, q1, q2, q3, q4, q5, q6, q7, q8, q9, q10, q11⟩, ⟨r0, r1, r2, r3, r4, r5, r6, r7, r8, r9, r10, r11, r12, r13, r14⟩, cb, lg⟩ := h
  have R1 := r1
  have R2 := r2
  have R3 := r3
  have R4 := r4
  obtain ⟨m, hm, em, hmc⟩ := r1
  have em' : F 40 0 6 = nI m := q2.1.trans em
  obtain ⟨n, hn, en⟩ := r2
  have en' : F 40 0 9 = nI n := q4.1.trans en
  obtain ⟨t, g, d, s, e, ht, et, hg, eg, hd, ed, hs, es, he, ee, hem, hg1, hg2, hg3⟩ := r3
  have et' : F 40 0 0 = nI t := q0.trans et
  have eg' : F 40 0 14 = nI g := q5.1.trans eg
  have ed' : F 40 0 15 = nI d := q5.2.1.trans ed
  have es' : F 40 0 16 = nI s := q5.2.2.1.trans es
  have eo' : F 40 0 17 = F 10 0 3 := q5.2.2.2.1
  have ee' : F 40 0 19 = nI e := q5.2.2.2.2.trans ee
  obtain ⟨⟨v, hv, ev⟩, hev⟩ := r4
  have ev' : F 40 0 26 = nI v := q8.1.trans ev
  rcases int_cases a1 with hneg_p | ⟨p, hbig_p, rfl⟩
  · rcases int_cases a2 with hneg_c | ⟨c, hbig_c, rfl⟩
    · first
        | exfalso; omega
        | simp (disch := first | omega | assumption) only [PL_24, P_L_count, P_X10_count, P_X10_needStation, P_X10_needClerk, P_X10_needStage, P_X1_hasNumbers, P_X11_count, P_X11_isStation, P_X11_count_21, P_X11_count_22, P_X11_count_70, P_X11_count_71, P_X11_in, P_X11_asked, P_X11_asked_10, P_X11_asked_, P_X11_asked__18, P_X11_asked__, P_X11_asked___26, P_X11_thrown, P_X11_told, ↓reduceIte, ↓forall_eq, ↓hold_ca, ↓hold_cam, ↓hold_cl, ↓hold_se, ↓hold_sem, ↓hold_st, ↓hold_wr, ↓hold_wrm, li0, li1, li2, li3, li4, li5, li6, li7, li8, li10, li20, li30, li35, li36, li60, li72, li100, li572, li2000, li2100, li9999, nI_lt_t, nI_lt_f, nI_le_t, nI_le_f, nI_eq_t, nI_eq_f, nI_eq_neg2, neg_eq_nI2, neg_lt2, neg_le2, nI_lt_neg2, nI_le_neg2, pred_t, pred_f, nI_clamp', vp_t, lt0_t, lt0_le, lt0_lt, lt0_eq, if_true, if_false, ite_true, ite_false, true_and, and_true, false_and, and_false, false_or, or_false, true_or, or_true, eq_self, fs_ne, fs_eq, fs_eq', st12, st13, st21, st23, st31, st32, not_true_eq_false, not_false_eq_true, em, em', en, en', et, et', eg, eg', ed, ed', es, es', eo', ee, ee', ev, ev']
          refine hI.end ?_
          repeat (first | exact Sm.refl _ | refine Sm.fs40 ?_ _ _ (by decide) | refine Sm.fsT ?_ _ _ _ _ rfl (by decide) (by decide))
    · by_cases hlt_c : c < 4
      · first
          | exfalso; omega
          | simp (disch := first | omega | assumption) only [PL_24, P_L_count, P_X10_count, P_X10_needStation, P_X10_needClerk, P_X10_needStage, P_X1_hasNumbers, P_X11_count, P_X11_isStation, P_X11_count_21, P_X11_count_22, P_X11_count_70, P_X11_count_71, P_X11_in, P_X11_asked, P_X11_asked_10, P_X11_asked_, P_X11_asked__18, P_X11_asked__, P_X11_asked___26, P_X11_thrown, P_X11_told, ↓reduceIte, ↓forall_eq, ↓hold_ca, ↓hold_cam, ↓hold_cl, ↓hold_se, ↓hold_sem, ↓hold_st, ↓hold_wr, ↓hold_wrm, li0, li1, li2, li3, li4, li5, li6, li7, li8, li10, li20, li30, li35, li36, li60, li72, li100, li572, li2000, li2100, li9999, nI_lt_t, nI_lt_f, nI_le_t, nI_le_f, nI_eq_t, nI_eq_f, nI_eq_neg2, neg_eq_nI2, neg_lt2, neg_le2, nI_lt_neg2, nI_le_neg2, pred_t, pred_f, nI_clamp', vp_t, lt0_t, lt0_le, lt0_lt, lt0_eq, if_true, if_false, ite_true, ite_false, true_and, and_true, false_and, and_false, false_or, or_false, true_or, or_true, eq_self, fs_ne, fs_eq, fs_eq', st12, st13, st21, st23, st31, st32, not_true_eq_false, not_false_eq_true, em, em', en, en', et, et', eg, eg', ed, ed', es, es', eo', ee, ee', ev, ev']
            refine hI.end ?_
            repeat (first | exact Sm.refl _ | refine Sm.fs40 ?_ _ _ (by decide) | refine Sm.fsT ?_ _ _ _ _ rfl (by decide) (by decide))
      · first
          | exfalso; omega
          | simp (disch := first | omega | assumption) only [PL_24, P_L_count, P_X10_count, P_X10_needStation, P_X10_needClerk, P_X10_needStage, P_X1_hasNumbers, P_X11_count, P_X11_isStation, P_X11_count_21, P_X11_count_22, P_X11_count_70, P_X11_count_71, P_X11_in, P_X11_asked, P_X11_asked_10, P_X11_asked_, P_X11_asked__18, P_X11_asked__, P_X11_asked___26, P_X11_thrown, P_X11_told, ↓reduceIte, ↓forall_eq, ↓hold_ca, ↓hold_cam, ↓hold_cl, ↓hold_se, ↓hold_sem, ↓hold_st, ↓hold_wr, ↓hold_wrm, li0, li1, li2, li3, li4, li5, li6, li7, li8, li10, li20, li30, li35, li36, li60, li72, li100, li572, li2000, li2100, li9999, nI_lt_t, nI_lt_f, nI_le_t, nI_le_f, nI_eq_t, nI_eq_f, nI_eq_neg2, neg_eq_nI2, neg_lt2, neg_le2, nI_lt_neg2, nI_le_neg2, pred_t, pred_f, nI_clamp', vp_t, lt0_t, lt0_le, lt0_lt, lt0_eq, if_true, if_false, ite_true, ite_false, true_and, and_true, false_and, and_false, false_or, or_false, true_or, or_true, eq_self, fs_ne, fs_eq, fs_eq', st12, st13, st21, st23, st31, st32, not_true_eq_false, not_false_eq_true, em, em', en, en', et, et', eg, eg', ed, ed', es, es', eo', ee, ee', ev, ev']
            refine hI.end ?_
            repeat (first | exact Sm.refl _ | refine Sm.fs40 ?_ _ _ (by decide) | refine Sm.fsT ?_ _ _ _ _ rfl (by decide) (by decide))
  · by_cases hlt_p : p < m
    · rcases int_cases a2 with hneg_c | ⟨c, hbig_c, rfl⟩
      · first
          | exfalso; omega
          | simp (disch := first | omega | assumption) only [PL_24, P_L_count, P_X10_count, P_X10_needStation, P_X10_needClerk, P_X10_needStage, P_X1_hasNumbers, P_X11_count, P_X11_isStation, P_X11_count_21, P_X11_count_22, P_X11_count_70, P_X11_count_71, P_X11_in, P_X11_asked, P_X11_asked_10, P_X11_asked_, P_X11_asked__18, P_X11_asked__, P_X11_asked___26, P_X11_thrown, P_X11_told, ↓reduceIte, ↓forall_eq, ↓hold_ca, ↓hold_cam, ↓hold_cl, ↓hold_se, ↓hold_sem, ↓hold_st, ↓hold_wr, ↓hold_wrm, li0, li1, li2, li3, li4, li5, li6, li7, li8, li10, li20, li30, li35, li36, li60, li72, li100, li572, li2000, li2100, li9999, nI_lt_t, nI_lt_f, nI_le_t, nI_le_f, nI_eq_t, nI_eq_f, nI_eq_neg2, neg_eq_nI2, neg_lt2, neg_le2, nI_lt_neg2, nI_le_neg2, pred_t, pred_f, nI_clamp', vp_t, lt0_t, lt0_le, lt0_lt, lt0_eq, if_true, if_false, ite_true, ite_false, true_and, and_true, false_and, and_false, false_or, or_false, true_or, or_true, eq_self, fs_ne, fs_eq, fs_eq', st12, st13, st21, st23, st31, st32, not_true_eq_false, not_false_eq_true, em, em', en, en', et, et', eg, eg', ed, ed', es, es', eo', ee, ee', ev, ev']
            refine hI.end ?_
            repeat (first | exact Sm.refl _ | refine Sm.fs40 ?_ _ _ (by decide) | refine Sm.fsT ?_ _ _ _ _ rfl (by decide) (by decide))
      · by_cases hlt_c : c < 4
        · have hb : p < 5 := by omega
          by_cases g4 : g = 4
          · by_cases hpe : p < e
            · obtain ⟨⟨cn, hcn, ecn⟩, hst, -⟩ := r7 p hb
              have ecn2 : F 62 0 p = nI cn := (q9 p hb).2.1.trans ecn
              rcases hst with ⟨x1, x2⟩ | ⟨wn, hwn, x1, x2⟩
              · by_cases hcn8 : cn < 8
                · obtain ⟨z, hzv, ez⟩ := r8 p hb
                  have hz : z ≤ 20 := by have := voters_le (F := F) 20; omega
                  obtain ⟨b, v', hb21, hb16, hb60, hbk⟩ := cb
                  have hbw : b < 572 := by omega
                  have hbb : ∀ j, j < 20 → (F 29 p j).toNatClampNeg ≤ 5 ∧ F 29 p j = nI (F 29 p j).toNatClampNeg := by
                    intro j hj
                    obtain ⟨b1, b2, b3⟩ := (r7 p hb).2.2 j hj
                    rw [b3, nI_clamp' (by omega)]
                    exact ⟨b2, rfl⟩
                  have q4s : F 10 0 0 = nI 4 := by rw [eg, g4]
                  unfold PL_24 P_L_count
                  refine ct_cls (bb := fun j => (F 29 p j).toNatClampNeg) em hm hlt_p hlt_c q4s ee he hpe et x1 ecn hcn8 hb21 hbw ez hz hbb (fun r H1 hC => ?_)
                  have hrr : r = 0 ∨ r = 1 := by
                    rcases hC.2.2.2.2.2.1 with ⟨-, y, -⟩ | ⟨-, y, -⟩
                    · exact Or.inl y
                    · exact Or.inr y
                  have hgo : P_X11_count (fs H1 79 0 0 r) (nI p) (nI c) (fun r3 F4 => P_X11_thrown F4 (fun r5 F6 => if r5 = 0 then (if (0 : Int32) = 0 then (vp_in (0 : Int32) 1 ∧ (if r3 = 0 then (P_L_law_1710 (nI p) (nI c) a3 (Inv (k + 1)) F6 (F6 79 0 (0 : Int32).toNatClampNeg) 0) else (P_L_law_1710 (nI p) (nI c) a3 (Inv (k + 1)) F6 (F6 79 0 (0 : Int32).toNatClampNeg) 1))) else (Inv (k + 1) F6)) else (False))) := by
                    have o : ∀ f, f ∈ [40, 58, 59, 62, 63, 64] → fs H1 79 0 0 r f = F f := by
                      intro f hf
                      simp only [List.mem_cons, List.not_mem_nil, or_false] at hf
                      rw [fs_fam (by omega)]
                      exact hC.1 f (by omega) (by omega) (by omega) (by omega) (by omega) (by omega) (by omega) (by omega)
                    have o40 := o 40 (by decide)
                    refine ct_mod (t := t) (b := b) (e := e) (z := z) (n := cn) (sl := F 9 0 c) (bb := fun j => (F 29 p j).toNatClampNeg) (by rw [o40]; exact em') hm hlt_p hlt_c (by rw [o40]; exact q5.1.trans q4s) (by rw [o40]; exact ee') he hpe (by rw [o40]; exact et') (by rw [o 63 (by decide)]; exact x2) (by rw [o 62 (by decide)]; exact (q9 p hb).2.1.trans ecn) hcn8 (by rw [o40]; exact q11.1.trans hb21) (by omega) (by rw [o 59 (by decide)]; exact (q9 p hb).1.trans ez) hz (by rw [o 64 (by decide)]; exact q3 c hlt_c) (fun j hj => ⟨(hbb j hj).1, by rw [o 58 (by decide)]; exact ((q9 p hb).2.2.1 j hj).trans (hbb j hj).2⟩) (fun r' H hM => ?_)
                    obtain ⟨y1, y2, y3, -, y4⟩ := count_inv hk hI hb hlt_c ht q4s ee he hcn8 hz hb21 hbw hC hM
                    unfold P_X11_thrown
                    show if H 40 0 43 = 0 then _ else _
                    rw [if_pos y3, if_pos (show (0 : Int32) = 0 from rfl), show (0 : Int32).toNatClampNeg = 0 by decide, y2]
                    refine ⟨by unfold vp_in; decide, ?_⟩
                    subst y1
                    unfold P_L_law_1710
                    rcases hrr with hrr | hrr
                    · subst hrr
                      rw [if_pos (show (0 : Int32) = 0 from rfl), if_pos (show (0 : Int32) = 0 from rfl)]
                      exact y4
                    · subst hrr
                      rw [if_neg (show ¬ (1 : Int32) = 0 by decide), if_pos (show (1 : Int32) = 1 from rfl)]
                      exact y4
                  show if r = 0 then _ else _
                  rcases hrr with hrr | hrr
                  · subst hrr
                    rw [if_pos (show (0 : Int32) = 0 from rfl)]
                    unfold P_L_count_16
                    refine ⟨by unfold vp_in; decide, fun F5 e5 => ?_⟩
                    rw [show (0 : Int32).toNatClampNeg = 0 by decide] at e5
                    rw [e5]
                    exact hgo
                  · subst hrr
                    rw [if_neg (show ¬ (1 : Int32) = 0 by decide)]
                    unfold P_L_count_16
                    refine ⟨by unfold vp_in; decide, fun F5 e5 => ?_⟩
                    rw [show (0 : Int32).toNatClampNeg = 0 by decide] at e5
                    rw [e5]
                    exact hgo
                · have x1' : F 28 p 5 = -nI 1 := x1
                  have x2' : F 63 0 p = -nI 1 := x2
                  simp (disch := first | omega | assumption) only [PL_24, P_L_count, P_X10_count, P_X10_needStation, P_X10_needClerk, P_X10_needStage, P_X1_hasNumbers, P_X11_count, P_X11_isStation, P_X11_count_21, P_X11_count_22, P_X11_count_70, P_X11_count_71, P_X11_in, P_X11_asked, P_X11_asked_10, P_X11_asked_, P_X11_asked__18, P_X11_asked__, P_X11_asked___26, P_X11_thrown, P_X11_told, ↓reduceIte, ↓forall_eq, ↓hold_ca, ↓hold_cam, ↓hold_cl, ↓hold_se, ↓hold_sem, ↓hold_st, ↓hold_wr, ↓hold_wrm, li0, li1, li2, li3, li4, li5, li6, li7, li8, li10, li20, li30, li35, li36, li60, li72, li100, li572, li2000, li2100, li9999, nI_lt_t, nI_lt_f, nI_le_t, nI_le_f, nI_eq_t, nI_eq_f, nI_eq_neg2, neg_eq_nI2, neg_lt2, neg_le2, nI_lt_neg2, nI_le_neg2, pred_t, pred_f, nI_clamp', vp_t, lt0_t, lt0_le, lt0_lt, lt0_eq, if_true, if_false, ite_true, ite_false, true_and, and_true, false_and, and_false, false_or, or_false, true_or, or_true, eq_self, fs_ne, fs_eq, fs_eq', st12, st13, st21, st23, st31, st32, not_true_eq_false, not_false_eq_true, em, em', en, en', et, et', eg, eg', ed, ed', es, es', eo', ee, ee', ev, ev', x1', x2', ecn, ecn2]
                  refine hI.end ?_
                  repeat (first | exact Sm.refl _ | refine Sm.fs40 ?_ _ _ (by decide) | refine Sm.fsT ?_ _ _ _ _ rfl (by decide) (by decide))
              · simp (disch := first | omega | assumption) only [PL_24, P_L_count, P_X10_count, P_X10_needStation, P_X10_needClerk, P_X10_needStage, P_X1_hasNumbers, P_X11_count, P_X11_isStation, P_X11_count_21, P_X11_count_22, P_X11_count_70, P_X11_count_71, P_X11_in, P_X11_asked, P_X11_asked_10, P_X11_asked_, P_X11_asked__18, P_X11_asked__, P_X11_asked___26, P_X11_thrown, P_X11_told, ↓reduceIte, ↓forall_eq, ↓hold_ca, ↓hold_cam, ↓hold_cl, ↓hold_se, ↓hold_sem, ↓hold_st, ↓hold_wr, ↓hold_wrm, li0, li1, li2, li3, li4, li5, li6, li7, li8, li10, li20, li30, li35, li36, li60, li72, li100, li572, li2000, li2100, li9999, nI_lt_t, nI_lt_f, nI_le_t, nI_le_f, nI_eq_t, nI_eq_f, nI_eq_neg2, neg_eq_nI2, neg_lt2, neg_le2, nI_lt_neg2, nI_le_neg2, pred_t, pred_f, nI_clamp', vp_t, lt0_t, lt0_le, lt0_lt, lt0_eq, if_true, if_false, ite_true, ite_false, true_and, and_true, false_and, and_false, false_or, or_false, true_or, or_true, eq_self, fs_ne, fs_eq, fs_eq', st12, st13, st21, st23, st31, st32, not_true_eq_false, not_false_eq_true, em, em', en, en', et, et', eg, eg', ed, ed', es, es', eo', ee, ee', ev, ev', x1, x2]
                refine hI.end ?_
                repeat (first | exact Sm.refl _ | refine Sm.fs40 ?_ _ _ (by decide) | refine Sm.fsT ?_ _ _ _ _ rfl (by decide) (by decide))
            · simp (disch := first | omega | assumption) only [PL_24, P_L_count, P_X10_count, P_X10_needStation, P_X10_needClerk, P_X10_needStage, P_X1_hasNumbers, P_X11_count, P_X11_isStation, P_X11_count_21, P_X11_count_22, P_X11_count_70, P_X11_count_71, P_X11_in, P_X11_asked, P_X11_asked_10, P_X11_asked_, P_X11_asked__18, P_X11_asked__, P_X11_asked___26, P_X11_thrown, P_X11_told, ↓reduceIte, ↓forall_eq, ↓hold_ca, ↓hold_cam, ↓hold_cl, ↓hold_se, ↓hold_sem, ↓hold_st, ↓hold_wr, ↓hold_wrm, li0, li1, li2, li3, li4, li5, li6, li7, li8, li10, li20, li30, li35, li36, li60, li72, li100, li572, li2000, li2100, li9999, nI_lt_t, nI_lt_f, nI_le_t, nI_le_f, nI_eq_t, nI_eq_f, nI_eq_neg2, neg_eq_nI2, neg_lt2, neg_le2, nI_lt_neg2, nI_le_neg2, pred_t, pred_f, nI_clamp', vp_t, lt0_t, lt0_le, lt0_lt, lt0_eq, if_true, if_false, ite_true, ite_false, true_and, and_true, false_and, and_false, false_or, or_false, true_or, or_true, eq_self, fs_ne, fs_eq, fs_eq', st12, st13, st21, st23, st31, st32, not_true_eq_false, not_false_eq_true, em, em', en, en', et, et', eg, eg', ed, ed', es, es', eo', ee, ee', ev, ev', g4]
              refine hI.end ?_
              repeat (first | exact Sm.refl _ | refine Sm.fs40 ?_ _ _ (by decide) | refine Sm.fsT ?_ _ _ _ _ rfl (by decide) (by decide))
          · simp (disch := first | omega | assumption) only [PL_24, P_L_count, P_X10_count, P_X10_needStation, P_X10_needClerk, P_X10_needStage, P_X1_hasNumbers, P_X11_count, P_X11_isStation, P_X11_count_21, P_X11_count_22, P_X11_count_70, P_X11_count_71, P_X11_in, P_X11_asked, P_X11_asked_10, P_X11_asked_, P_X11_asked__18, P_X11_asked__, P_X11_asked___26, P_X11_thrown, P_X11_told, ↓reduceIte, ↓forall_eq, ↓hold_ca, ↓hold_cam, ↓hold_cl, ↓hold_se, ↓hold_sem, ↓hold_st, ↓hold_wr, ↓hold_wrm, li0, li1, li2, li3, li4, li5, li6, li7, li8, li10, li20, li30, li35, li36, li60, li72, li100, li572, li2000, li2100, li9999, nI_lt_t, nI_lt_f, nI_le_t, nI_le_f, nI_eq_t, nI_eq_f, nI_eq_neg2, neg_eq_nI2, neg_lt2, neg_le2, nI_lt_neg2, nI_le_neg2, pred_t, pred_f, nI_clamp', vp_t, lt0_t, lt0_le, lt0_lt, lt0_eq, if_true, if_false, ite_true, ite_false, true_and, and_true, false_and, and_false, false_or, or_false, true_or, or_true, eq_self, fs_ne, fs_eq, fs_eq', st12, st13, st21, st23, st31, st32, not_true_eq_false, not_false_eq_true, em, em', en, en', et, et', eg, eg', ed, ed', es, es', eo', ee, ee', ev, ev', eg]
            refine hI.end ?_
            repeat (first | exact Sm.refl _ | refine Sm.fs40 ?_ _ _ (by decide) | refine Sm.fsT ?_ _ _ _ _ rfl (by decide) (by decide))
        · first
            | exfalso; omega
            | simp (disch := first | omega | assumption) only [PL_24, P_L_count, P_X10_count, P_X10_needStation, P_X10_needClerk, P_X10_needStage, P_X1_hasNumbers, P_X11_count, P_X11_isStation, P_X11_count_21, P_X11_count_22, P_X11_count_70, P_X11_count_71, P_X11_in, P_X11_asked, P_X11_asked_10, P_X11_asked_, P_X11_asked__18, P_X11_asked__, P_X11_asked___26, P_X11_thrown, P_X11_told, ↓reduceIte, ↓forall_eq, ↓hold_ca, ↓hold_cam, ↓hold_cl, ↓hold_se, ↓hold_sem, ↓hold_st, ↓hold_wr, ↓hold_wrm, li0, li1, li2, li3, li4, li5, li6, li7, li8, li10, li20, li30, li35, li36, li60, li72, li100, li572, li2000, li2100, li9999, nI_lt_t, nI_lt_f, nI_le_t, nI_le_f, nI_eq_t, nI_eq_f, nI_eq_neg2, neg_eq_nI2, neg_lt2, neg_le2, nI_lt_neg2, nI_le_neg2, pred_t, pred_f, nI_clamp', vp_t, lt0_t, lt0_le, lt0_lt, lt0_eq, if_true, if_false, ite_true, ite_false, true_and, and_true, false_and, and_false, false_or, or_false, true_or, or_true, eq_self, fs_ne, fs_eq, fs_eq', st12, st13, st21, st23, st31, st32, not_true_eq_false, not_false_eq_true, em, em', en, en', et, et', eg, eg', ed, ed', es, es', eo', ee, ee', ev, ev']
              refine hI.end ?_
              repeat (first | exact Sm.refl _ | refine Sm.fs40 ?_ _ _ (by decide) | refine Sm.fsT ?_ _ _ _ _ rfl (by decide) (by decide))
    · rcases int_cases a2 with hneg_c | ⟨c, hbig_c, rfl⟩
      · first
          | exfalso; omega
          | simp (disch := first | omega | assumption) only [PL_24, P_L_count, P_X10_count, P_X10_needStation, P_X10_needClerk, P_X10_needStage, P_X1_hasNumbers, P_X11_count, P_X11_isStation, P_X11_count_21, P_X11_count_22, P_X11_count_70, P_X11_count_71, P_X11_in, P_X11_asked, P_X11_asked_10, P_X11_asked_, P_X11_asked__18, P_X11_asked__, P_X11_asked___26, P_X11_thrown, P_X11_told, ↓reduceIte, ↓forall_eq, ↓hold_ca, ↓hold_cam, ↓hold_cl, ↓hold_se, ↓hold_sem, ↓hold_st, ↓hold_wr, ↓hold_wrm, li0, li1, li2, li3, li4, li5, li6, li7, li8, li10, li20, li30, li35, li36, li60, li72, li100, li572, li2000, li2100, li9999, nI_lt_t, nI_lt_f, nI_le_t, nI_le_f, nI_eq_t, nI_eq_f, nI_eq_neg2, neg_eq_nI2, neg_lt2, neg_le2, nI_lt_neg2, nI_le_neg2, pred_t, pred_f, nI_clamp', vp_t, lt0_t, lt0_le, lt0_lt, lt0_eq, if_true, if_false, ite_true, ite_false, true_and, and_true, false_and, and_false, false_or, or_false, true_or, or_true, eq_self, fs_ne, fs_eq, fs_eq', st12, st13, st21, st23, st31, st32, not_true_eq_false, not_false_eq_true, em, em', en, en', et, et', eg, eg', ed, ed', es, es', eo', ee, ee', ev, ev']
            refine hI.end ?_
            repeat (first | exact Sm.refl _ | refine Sm.fs40 ?_ _ _ (by decide) | refine Sm.fsT ?_ _ _ _ _ rfl (by decide) (by decide))
      · by_cases hlt_c : c < 4
        · first
            | exfalso; omega
            | simp (disch := first | omega | assumption) only [PL_24, P_L_count, P_X10_count, P_X10_needStation, P_X10_needClerk, P_X10_needStage, P_X1_hasNumbers, P_X11_count, P_X11_isStation, P_X11_count_21, P_X11_count_22, P_X11_count_70, P_X11_count_71, P_X11_in, P_X11_asked, P_X11_asked_10, P_X11_asked_, P_X11_asked__18, P_X11_asked__, P_X11_asked___26, P_X11_thrown, P_X11_told, ↓reduceIte, ↓forall_eq, ↓hold_ca, ↓hold_cam, ↓hold_cl, ↓hold_se, ↓hold_sem, ↓hold_st, ↓hold_wr, ↓hold_wrm, li0, li1, li2, li3, li4, li5, li6, li7, li8, li10, li20, li30, li35, li36, li60, li72, li100, li572, li2000, li2100, li9999, nI_lt_t, nI_lt_f, nI_le_t, nI_le_f, nI_eq_t, nI_eq_f, nI_eq_neg2, neg_eq_nI2, neg_lt2, neg_le2, nI_lt_neg2, nI_le_neg2, pred_t, pred_f, nI_clamp', vp_t, lt0_t, lt0_le, lt0_lt, lt0_eq, if_true, if_false, ite_true, ite_false, true_and, and_true, false_and, and_false, false_or, or_false, true_or, or_true, eq_self, fs_ne, fs_eq, fs_eq', st12, st13, st21, st23, st31, st32, not_true_eq_false, not_false_eq_true, em, em', en, en', et, et', eg, eg', ed, ed', es, es', eo', ee, ee', ev, ev']
              refine hI.end ?_
              repeat (first | exact Sm.refl _ | refine Sm.fs40 ?_ _ _ (by decide) | refine Sm.fsT ?_ _ _ _ _ rfl (by decide) (by decide))
        · first
            | exfalso; omega
            | simp (disch := first | omega | assumption) only [PL_24, P_L_count, P_X10_count, P_X10_needStation, P_X10_needClerk, P_X10_needStage, P_X1_hasNumbers, P_X11_count, P_X11_isStation, P_X11_count_21, P_X11_count_22, P_X11_count_70, P_X11_count_71, P_X11_in, P_X11_asked, P_X11_asked_10, P_X11_asked_, P_X11_asked__18, P_X11_asked__, P_X11_asked___26, P_X11_thrown, P_X11_told, ↓reduceIte, ↓forall_eq, ↓hold_ca, ↓hold_cam, ↓hold_cl, ↓hold_se, ↓hold_sem, ↓hold_st, ↓hold_wr, ↓hold_wrm, li0, li1, li2, li3, li4, li5, li6, li7, li8, li10, li20, li30, li35, li36, li60, li72, li100, li572, li2000, li2100, li9999, nI_lt_t, nI_lt_f, nI_le_t, nI_le_f, nI_eq_t, nI_eq_f, nI_eq_neg2, neg_eq_nI2, neg_lt2, neg_le2, nI_lt_neg2, nI_le_neg2, pred_t, pred_f, nI_clamp', vp_t, lt0_t, lt0_le, lt0_lt, lt0_eq, if_true, if_false, ite_true, ite_false, true_and, and_true, false_and, and_false, false_or, or_false, true_or, or_true, eq_self, fs_ne, fs_eq, fs_eq', st12, st13, st21, st23, st31, st32, not_true_eq_false, not_false_eq_true, em, em', en, en', et, et', eg, eg', ed, ed', es, es', eo', ee, ee', ev, ev']
              refine hI.end ?_
              repeat (first | exact Sm.refl _ | refine Sm.fs40 ?_ _ _ (by decide) | refine Sm.fsT ?_ _ _ _ _ rfl (by decide) (by decide))
