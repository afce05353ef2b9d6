/-! two states side by side: the one as it is, or in the mirror (b); what lies behind family 40 stays (H, H') -/
def eqf (f : Nat) : Bool := decide (f < 40) && !(f == 2 || f == 3 || f == 4 || f == 7 || f == 39)
def okf (f : Nat) : Bool := eqf f && !(f == 6 || f == 38)
def Sx (b : Bool) (H H' F F' : GF) : Prop :=
  (∀ f, eqf f = true → F' f = F f) ∧ (∀ f, 40 ≤ f → F f = H f ∧ F' f = H' f) ∧
  ((∀ x y, x < 36 → y < 36 → Ed F' (mc b x) (mc b y) = Ed F x y) ∧ b_bar F ∧ b_bar F') ∧
  (∀ y, y < 36 → F' 3 0 (mc b y) = F 3 0 y) ∧
  (∃ m, m ≤ 5 ∧ F 6 0 2 = nI m ∧ ∀ s, s < m → ∃ c, c < 36 ∧ F 7 0 s = nI c ∧ F' 7 0 s = nI (mc b c)) ∧
  (∀ i, i < gcn F → F' 39 i 0 = F 39 i 0 ∧ F' 39 i 2 = F 39 i 2 ∧ ∃ c, c < 36 ∧ F 39 i 1 = nI c ∧ F' 39 i 1 = nI (mc b c))
theorem Sx.rd {b : Bool} {H H' F F' : GF} (h : Sx b H H' F F') (f : Nat) (hf : eqf f = true) : F' f = F f := h.1 f hf
theorem okf_ne {f : Nat} (h : okf f = true) : eqf f = true ∧ f < 40 ∧ f ≠ 2 ∧ f ≠ 3 ∧ f ≠ 4 ∧ f ≠ 6 ∧ f ≠ 7 ∧ f ≠ 38 ∧ f ≠ 39 := by
  simp only [okf, eqf, Bool.and_eq_true, decide_eq_true_eq, Bool.not_eq_true', Bool.or_eq_false_iff, beq_eq_false_iff_ne] at h ⊢
  omega
/-- what a change of other families leaves -/
theorem Sx.fam {b : Bool} {H H' F F' G G' : GF} (h : Sx b H H' F F') (he : ∀ f, eqf f = true → G' f = G f) (h40 : ∀ f, 40 ≤ f → G f = F f ∧ G' f = F' f) (h2 : G 2 = F 2 ∧ G' 2 = F' 2) (h3 : G 3 = F 3 ∧ G' 3 = F' 3) (h6 : G 6 = F 6) (h7 : G 7 = F 7 ∧ G' 7 = F' 7) (h38 : G 38 = F 38) (h39 : G 39 = F 39 ∧ G' 39 = F' 39) : Sx b H H' G G' := by
  obtain ⟨-, q1, ⟨q2, q3, q4⟩, q5, q6, q7⟩ := h
  refine ⟨he, fun f hf => ⟨(h40 f hf).1.trans (q1 f hf).1, (h40 f hf).2.trans (q1 f hf).2⟩, ⟨?_, ?_, ?_⟩, ?_, ?_, ?_⟩
  · rw [Ed_congr h2.1, Ed_congr h2.2]
    exact q2
  · unfold b_bar
    rw [h2.1]
    exact q3
  · unfold b_bar
    rw [h2.2]
    exact q4
  · rw [h3.1, h3.2]
    exact q5
  · rw [h6, h7.1, h7.2]
    exact q6
  · have e : gcn G = gcn F := by unfold gcn; rw [h38]
    rw [e, h39.1, h39.2]
    exact q7
theorem Sx.fsx {b : Bool} {H H' F F' : GF} {f i i' k k' : Nat} {v v' : Int32} (h : Sx b H H' F F') (hf : okf f = true) (ei : i = i') (ek : k = k') (ev : v = v') : Sx b H H' (fs F f i k v) (fs F' f i' k' v') := by
  subst ei
  subst ek
  subst ev
  obtain ⟨a0, a1, a2, a3, a4, a6, a7, a38, a39⟩ := okf_ne hf
  refine h.fam (fun g hg => ?_) (fun g hg => ⟨fs_fam (by omega), fs_fam (by omega)⟩) ⟨fs_fam (Ne.symm a2), fs_fam (Ne.symm a2)⟩ ⟨fs_fam (Ne.symm a3), fs_fam (Ne.symm a3)⟩ (fs_fam (Ne.symm a6)) ⟨fs_fam (Ne.symm a7), fs_fam (Ne.symm a7)⟩ (fs_fam (Ne.symm a38)) ⟨fs_fam (Ne.symm a39), fs_fam (Ne.symm a39)⟩
  funext i1 k1
  rw [fs_app, fs_app, h.1 g hg]
theorem Sx.ffx {b : Bool} {H H' F F' : GF} {f i i' n n' : Nat} {v v' : Int32} (h : Sx b H H' F F') (hf : okf f = true) (ei : i = i') (ek : n = n') (ev : v = v') : Sx b H H' (ffill F f i n v) (ffill F' f i' n' v') := by
  subst ei
  subst ek
  subst ev
  obtain ⟨a0, a1, a2, a3, a4, a6, a7, a38, a39⟩ := okf_ne hf
  refine h.fam (fun g hg => ?_) (fun g hg => ⟨ffill_fam (by omega), ffill_fam (by omega)⟩) ⟨ffill_fam (Ne.symm a2), ffill_fam (Ne.symm a2)⟩ ⟨ffill_fam (Ne.symm a3), ffill_fam (Ne.symm a3)⟩ (ffill_fam (Ne.symm a6)) ⟨ffill_fam (Ne.symm a7), ffill_fam (Ne.symm a7)⟩ (ffill_fam (Ne.symm a38)) ⟨ffill_fam (Ne.symm a39), ffill_fam (Ne.symm a39)⟩
  funext i1 k1
  rw [ffill_app, ffill_app, h.1 g hg]
/-- a crossing, or none, and what it is on the other side -/
def cr (b : Bool) (r r' : Int32) : Prop := (r = -1 ∧ r' = -1) ∨ ∃ c, c < 36 ∧ r = nI c ∧ r' = nI (mc b c)
theorem md_val {F : GF} {c : Nat} {K : Int32 → GF → Prop} (hc : c < 36) : P_X9_measuredTo F (nI c) K ↔ K (F 3 0 c) F := by
  unfold P_X9_measuredTo
  rw [if_neg (show ¬ nI c < 0 from by rw [li0, nI_lt_f (by omega) (by omega)]; exact fun q => q), if_pos (show nI c < 36 from by rw [li36, nI_lt_t hc (by omega)]; trivial), nI_clamp' (by omega)]
  exact ⟨fun h => h.2, fun h => ⟨nI_in hc (by omega), h⟩⟩
theorem t_measured7 {b : Bool} {H H' F F' : GF} (hs : Sx b H H' F F') {x : Int32} (c : ¬ F 6 0 2 ≤ x) (v : vp_in x 5) {K K' : Int32 → GF → Prop} (hK : ∀ (r r' : Int32) (F1 F1' : GF), r = r' → Sx b H H' F1 F1' → K r F1 → K' r' F1') (h : P_X9_measuredTo F (F 7 0 x.toNatClampNeg) K) : P_X9_measuredTo F' (F' 7 0 x.toNatClampNeg) K' := by
  obtain ⟨j, hj, ej⟩ := vp_in_of v (by omega)
  obtain ⟨m, hm, em, hq⟩ := hs.2.2.2.2.1
  rw [em, ej, nI_le_iff (by omega) (by omega)] at c
  obtain ⟨d, hd, e1, e2⟩ := hq j (by omega)
  rw [ej, nI_clamp' (by omega)] at h ⊢
  rw [e1, md_val hd] at h
  rw [e2, md_val (mc_lt hd)]
  exact hK _ _ _ _ (hs.2.2.2.1 d hd).symm hs h
theorem t_X9_measureFrom {b : Bool} {H H' F F' : GF} (hs : Sx b H H' F F') {r r' : Int32} (er : cr b r r') {K K' : GF → Prop} (hK : ∀ F1 F1' : GF, Sx b H H' F1 F1' → K F1 → K' F1') (h : P_X9_measureFrom F r K) : P_X9_measureFrom F' r' K' := by
  obtain ⟨q0, q1, ⟨q2, q3, q4⟩, q5, q6, q7⟩ := hs
  rcases er with ⟨rfl, rfl⟩ | ⟨c, hc, rfl, rfl⟩
  · unfold P_X9_measureFrom at h ⊢
    have h := h _ rfl
    rw [if_pos (by decide)] at h
    intro G eG
    rw [if_pos (by decide), eG]
    refine hK _ _ ⟨fun f hf => ?_, fun f hf => ?_, ⟨?_, ?_, ?_⟩, ?_, ?_, ?_⟩ h
    · have : f ≠ 3 := by rintro rfl; cases hf
      rw [ffill_fam this, ffill_fam this]
      exact q0 f hf
    · rw [ffill_fam (by omega), ffill_fam (by omega)]
      exact q1 f hf
    · rw [Ed_congr (ffill_fam (by decide)), Ed_congr (ffill_fam (by decide))]
      exact q2
    · unfold b_bar
      rw [ffill_fam (by decide)]
      exact q3
    · unfold b_bar
      rw [ffill_fam (by decide)]
      exact q4
    · intro y hy
      rw [ffill_in (mc_lt hy), ffill_in hy]
    · rw [ffill_fam (by decide), ffill_fam (by decide), ffill_fam (by decide)]
      exact q6
    · have e : gcn (ffill F 3 0 36 (-1)) = gcn F := by unfold gcn; rw [ffill_fam (by decide)]
      rw [e, ffill_fam (by decide), ffill_fam (by decide)]
      exact q7
  · obtain ⟨F1, k1, -, -, u⟩ := lu_X9_measureFrom h
    obtain ⟨s1, s2⟩ := u (fun F1 => (∀ f, f ≠ 3 → f ≠ 4 → F1 f = F f) ∧ ∀ y, y < 36 → F1 3 0 y = farN F c y) (mf_cls q3 hc (fun G g1 g2 => ⟨g1, g2⟩))
    refine mf_cls q4 (mc_lt hc) (fun G g1 g2 => hK F1 G ⟨fun f hf => ?_, fun f hf => ?_, ⟨?_, ?_, ?_⟩, ?_, ?_, ?_⟩ k1)
    · have a : f ≠ 3 := by rintro rfl; cases hf
      have a2 : f ≠ 4 := by rintro rfl; cases hf
      rw [g1 f a a2, s1 f a a2]
      exact q0 f hf
    · rw [g1 f (by omega) (by omega), s1 f (by omega) (by omega)]
      exact q1 f hf
    · rw [Ed_congr (g1 2 (by decide) (by decide)), Ed_congr (s1 2 (by decide) (by decide))]
      exact q2
    · unfold b_bar
      rw [s1 2 (by decide) (by decide)]
      exact q3
    · unfold b_bar
      rw [g1 2 (by decide) (by decide)]
      exact q4
    · intro y hy
      rw [g2 _ (mc_lt hy), s2 y hy]
      exact farN_mir q2 hc hy
    · rw [g1 7 (by decide) (by decide), s1 7 (by decide) (by decide), s1 6 (by decide) (by decide)]
      exact q6
    · have e : gcn F1 = gcn F := by unfold gcn; rw [s1 38 (by decide) (by decide)]
      rw [e, g1 39 (by decide) (by decide), s1 39 (by decide) (by decide)]
      exact q7
theorem Sx.gcE {b : Bool} {H H' F F' : GF} (h : Sx b H H' F F') : gcn F' = gcn F := by
  unfold gcn
  rw [h.rd 38 rfl]
theorem t_X4_crossingOn_5 {b : Bool} {H H' : GF} {i0 : Nat} {K K' : Int32 → GF → Prop} (hK : ∀ (r r' : Int32) (F1 F1' : GF), cr b r r' → Sx b H H' F1 F1' → K r F1 → K' r' F1') : ∀ (n : Nat) (F F' : GF) (x1 x2 : Int32), Sx b H H' F F' → P_X4_crossingOn_5 i0 K n F x1 x2 → P_X4_crossingOn_5 i0 K' n F' x1 x2 := by
  intro n
  induction n with
  | zero => intro F F' x1 x2 hs h; exact False.elim h
  | succ n ih =>
    intro F F' x1 x2 hs h
    rw [P_X4_crossingOn_5] at h ⊢
    rcases ite_elim h with ⟨c, h⟩ | ⟨c, h⟩
    · exact ite_pos c (hK _ _ _ _ (Or.inl ⟨rfl, rfl⟩) hs h)
    · refine ite_neg c ?_
      obtain ⟨v, h⟩ := h
      obtain ⟨w1, w2, d, hd, w3, w4⟩ := hs.2.2.2.2.2 _ v.2
      have v' : ¬ x2 < 0 ∧ x2.toNatClampNeg < gcn F' := by rw [hs.gcE]; exact v
      refine ⟨v', ?_⟩
      rcases ite_elim h with ⟨c1, h⟩ | ⟨c1, h⟩
      · refine ite_pos (by rw [w1]; exact c1) ⟨v', ?_⟩
        rw [w2]
        exact ih _ _ _ _ hs h.2
      · refine ite_neg (by rw [w1]; exact c1) ⟨v', ?_⟩
        exact hK _ _ _ _ (Or.inr ⟨d, hd, w3, w4⟩) hs h.2
theorem t_X4_crossingOn {b : Bool} {H H' F F' : GF} (hs : Sx b H H' F F') {i0 i0' : Nat} (e0 : i0 = i0') {p1 p1' : Int32} (e1 : p1 = p1') {K K' : Int32 → GF → Prop} (hK : ∀ (r r' : Int32) (F1 F1' : GF), cr b r r' → Sx b H H' F1 F1' → K r F1 → K' r' F1') (h : P_X4_crossingOn F i0 p1 K) : P_X4_crossingOn F' i0' p1' K' := by
  subst e0
  subst e1
  obtain ⟨n, h⟩ := h
  refine ⟨n, ?_⟩
  rw [hs.rd 33 rfl]
  exact t_X4_crossingOn_5 hK n F F' p1 _ hs h
