/-! the methods that are told crossings -/
def upd2 (R : Nat → Nat → Int32) (m : Nat) : Nat → Nat → Int32 := fun i k => if i = 0 ∧ k = 2 then nI (m + 1) else R i k
theorem ncr {F : GF} {c : Nat} {K : GF → Prop} {X : String → GF → Prop} (hc : c < 36) : P_X10_needCrossing F (nI c) K X ↔ K F := by
  unfold P_X10_needCrossing
  rw [if_neg (show ¬ nI c < 0 from by rw [li0, nI_lt_f (by omega) (by omega)]; exact fun q => q), if_pos (show nI c < 36 from by rw [li36, nI_lt_t hc (by omega)]; trivial)]
theorem t_X10_way {b : Bool} {H H' F F' : GF} (hs : Sx b H H' F F') {c d : Nat} (hc : c < 36) (hd : d < 36) {K K' : Int32 → GF → Prop} {X X' : String → GF → Prop} (hK : ∀ (r r' : Int32) (F1 F1' : GF), r = r' → Sx b H H' F1 F1' → K r F1 → K' r' F1') (h : P_X10_way F (nI c) (nI d) K X) : P_X10_way F' (nI (mc b c)) (nI (mc b d)) K' X' := by
  unfold P_X10_way at h ⊢
  have h := (ncr hd).mp ((ncr hc).mp h)
  refine (ncr (mc_lt hc)).mpr ((ncr (mc_lt hd)).mpr ?_)
  exact t_X9_measureFrom hs (Or.inr ⟨c, hc, rfl, rfl⟩) (fun F1 F1' hs1 h => (md_val (mc_lt hd)).mpr (hK _ _ _ _ (hs1.2.2.2.1 d hd).symm hs1 ((md_val hd).mp h))) h
theorem t_X10_dwells {b : Bool} {H H' F F' : GF} (hs : Sx b H H' F F') {p1 p1' p2 p2' : Int32} (e1 : p1 = p1') (e2 : p2 = p2') {K K' : Int32 → GF → Prop} {X X' : String → GF → Prop} (hK : ∀ (r r' : Int32) (F1 F1' : GF), cr b r r' → Sx b H H' F1 F1' → K r F1 → K' r' F1') (hX : ∀ (e : String) (F1 F1' : GF), Sx b H H' F1 F1' → X e F1 → X' e F1') (h : P_X10_dwells F p1 p2 K X) : P_X10_dwells F' p1' p2' K' X' := by
  subst e1
  subst e2
  unfold P_X10_dwells at h ⊢
  refine t_X10_personAt hs rfl (fun r r' F1 F1' er hs1 h => ?_) hX h
  subst er
  refine t_X10_needRange hs1 rfl rfl (by rw [hs1.rd 0 rfl]) (fun F2 F2' hs2 h => ?_) hX h
  exact t_X4_crossingOn hs2 rfl rfl (fun r r' F3 F3' er hs3 h => hK _ _ _ _ er hs3 h) h
theorem t_X7_add {b : Bool} {H H' F F' : GF} (hs : Sx b H H' F F') {c : Nat} (hc : c < 36) {p2 p2' : Int32} (e2 : p2 = p2') {K K' : Int32 → GF → Prop} (hK : ∀ (r r' : Int32) (F1 F1' : GF), r = r' → Sx b H H' F1 F1' → K r F1 → K' r' F1') (h : P_X7_add F (nI c) p2 K) : P_X7_add F' (nI (mc b c)) p2' K' := by
  subst e2
  unfold P_X7_add at h ⊢
  have e6 := hs.rd 6 rfl
  rcases ite_elim h with ⟨c1, h⟩ | ⟨c1, h⟩
  · obtain ⟨v, h⟩ := h
    obtain ⟨m, hm, em, hq⟩ := hs.2.2.2.2.1
    have hm5 : m < 5 := by
      rw [em, show (5 : Int32) = nI 5 from rfl, nI_lt_iff (by omega) (by omega)] at c1
      exact c1
    refine ite_pos (by rw [e6]; exact c1) ⟨by rw [e6]; exact v, ?_⟩
    obtain ⟨G1, g1⟩ : ∃ z : GF, z = fs F 7 0 (F 6 0 2).toNatClampNeg (nI c) := ⟨_, rfl⟩
    obtain ⟨v2, h⟩ := h G1 g1
    obtain ⟨G2, g2⟩ : ∃ z : GF, z = fs G1 8 0 (G1 6 0 2).toNatClampNeg p2 := ⟨_, rfl⟩
    have h := h G2 g2
    obtain ⟨G3, g3⟩ : ∃ z : GF, z = fs G2 6 0 2 ((G2 6 0 2) + 1) := ⟨_, rfl⟩
    have h := h G3 g3
    intro G1' g1'
    have a1 : G1 6 = F 6 := by rw [g1]; exact fs_fam (by decide)
    have a1' : G1' 6 = F 6 := by rw [g1', fs_fam (by decide), e6]
    refine ⟨by rw [a1']; exact v, ?_⟩
    intro G2' g2'
    intro G3' g3'
    have a2 : G2 6 = F 6 := by rw [g2, fs_fam (by decide), a1]
    have a2' : G2' 6 = F 6 := by rw [g2', fs_fam (by decide), a1']
    have a3 : G3 6 = upd2 (F 6) m := by
      rw [g3, a2, em, ← nI_succ]
      funext i k
      rw [fs_app, a2]
      unfold upd2
      simp only [true_and]
    have a3' : G3' 6 = upd2 (F 6) m := by
      rw [g3', a2', em, ← nI_succ]
      funext i k
      rw [fs_app, a2']
      unfold upd2
      simp only [true_and]
    have n8 : G3 8 = G3' 8 := by
      rw [g3, g3', fs_fam (by decide), fs_fam (by decide), g2, g2', a1, a1']
      funext i k
      rw [fs_app, fs_app, g1, g1', fs_fam (by decide), fs_fam (by decide), hs.rd 8 rfl]
    have n7 : G3 7 = (fs F 7 0 m (nI c)) 7 := by
      rw [g3, fs_fam (by decide), g2, fs_fam (by decide), g1, em, nI_clamp' (by omega)]
    have n7' : G3' 7 = (fs F' 7 0 m (nI (mc b c))) 7 := by
      rw [g3', fs_fam (by decide), g2', fs_fam (by decide), g1', e6, em, nI_clamp' (by omega)]
    have nf : ∀ f, f ≠ 6 → f ≠ 7 → f ≠ 8 → G3 f = F f := fun f x6 x7 x8 => by rw [g3, fs_fam x6, g2, fs_fam x8, g1, fs_fam x7]
    have nf' : ∀ f, f ≠ 6 → f ≠ 7 → f ≠ 8 → G3' f = F' f := fun f x6 x7 x8 => by rw [g3', fs_fam x6, g2', fs_fam x8, g1', fs_fam x7]
    refine hK _ _ _ _ (by rw [a3, a3']) ?_ h
    obtain ⟨q0, q1, ⟨q2, q3, q4⟩, q5, q6, q7⟩ := hs
    refine ⟨fun f hf => ?_, fun f hf => ?_, ⟨?_, ?_, ?_⟩, ?_, ⟨m + 1, by omega, ?_, fun s hs2 => ?_⟩, ?_⟩
    · by_cases x6 : f = 6
      · rw [x6, a3, a3']
      · by_cases x8 : f = 8
        · rw [x8, n8]
        · have x7 : f ≠ 7 := by rintro rfl; cases hf
          rw [nf f x6 x7 x8, nf' f x6 x7 x8]
          exact q0 f hf
    · rw [nf f (by omega) (by omega) (by omega), nf' f (by omega) (by omega) (by omega)]
      exact q1 f hf
    · rw [Ed_congr (nf 2 (by decide) (by decide) (by decide)), Ed_congr (nf' 2 (by decide) (by decide) (by decide))]
      exact q2
    · unfold b_bar
      rw [nf 2 (by decide) (by decide) (by decide)]
      exact q3
    · unfold b_bar
      rw [nf' 2 (by decide) (by decide) (by decide)]
      exact q4
    · rw [nf 3 (by decide) (by decide) (by decide), nf' 3 (by decide) (by decide) (by decide)]
      exact q5
    · rw [a3]
      rfl
    · rw [n7, n7']
      by_cases es : s = m
      · subst es
        exact ⟨c, hc, fs_eq _ _ _ _ _, fs_eq _ _ _ _ _⟩
      · rw [fs_ne (by omega), fs_ne (by omega)]
        exact hq s (by omega)
    · have e : gcn G3 = gcn F := by unfold gcn; rw [nf 38 (by decide) (by decide) (by decide)]
      rw [e, nf 39 (by decide) (by decide) (by decide), nf' 39 (by decide) (by decide) (by decide)]
      exact q7
  · exact ite_neg (by rw [e6]; exact c1) (hK _ _ _ _ rfl hs h)
theorem t_X10_station {b : Bool} {H H' F F' : GF} (hs : Sx b H H' F F') {c : Nat} (hc : c < 36) {p2 p2' : Int32} (e2 : p2 = p2') {K K' : Int32 → GF → Prop} {X X' : String → GF → Prop} (hK : ∀ (r r' : Int32) (F1 F1' : GF), r = r' → Sx b H H' F1 F1' → K r F1 → K' r' F1') (hX : ∀ (e : String) (F1 F1' : GF), Sx b H H' F1 F1' → X e F1 → X' e F1') (h : P_X10_station F (nI c) p2 K X) : P_X10_station F' (nI (mc b c)) p2' K' X' := by
  subst e2
  unfold P_X10_station at h ⊢
  have h := (ncr hc).mp h
  refine (ncr (mc_lt hc)).mpr ?_
  refine t_X10_needRange hs rfl rfl rfl (fun F1 F1' hs1 h => ?_) hX h
  rcases ite_elim h with ⟨c1, h⟩ | ⟨c1, h⟩
  · refine ite_pos (by rw [hs1.rd 6 rfl]; exact c1) ?_
    exact t_X7_add hs1 hc rfl (fun r r' F2 F2' er hs2 h => hK _ _ _ _ er hs2 h) h
  · exact ite_neg (by rw [hs1.rd 6 rfl]; exact c1) (hX _ _ _ hs1 h)
