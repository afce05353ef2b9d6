/-! bars of streets in the mirror -/
def mrN (x y : Nat) : Option Nat := if max x y - min x y = 6 then some (2 * min x y + 1) else if max x y - min x y = 1 ∧ max x y % 6 ≠ 0 then some (2 * min x y) else none
def mq (b : Bool) (q : Nat) : Nat := if b = true then (if q % 2 = 1 then 2 * (mc true (q / 2)) + 1 else 2 * (mc true (q / 2) - 1)) else q
theorem mrN_mirT : ∀ c, c < 36 → ∀ d, d < 36 → mrN (mc true c) (mc true d) = (mrN c d).map (mq true) := by decide +kernel
theorem mrN_mir {b : Bool} {c d : Nat} (hc : c < 36) (hd : d < 36) : mrN (mc b c) (mc b d) = (mrN c d).map (mq b) := by
  cases b with
  | true => exact mrN_mirT c hc d hd
  | false =>
    have e1 : ∀ z, mc false z = z := fun z => rfl
    rw [e1, e1]
    cases mrN c d with
    | none => rfl
    | some q => rfl
theorem mq_invT : ∀ c, c < 36 → ∀ d, d < 36 → ∀ q ∈ mrN c d, q < 72 ∧ mq true q < 72 ∧ mq true (mq true q) = q := by decide +kernel
theorem mq_inv {b : Bool} {c d q : Nat} (hc : c < 36) (hd : d < 36) (h : mrN c d = some q) : q < 72 ∧ mq b q < 72 ∧ mq b (mq b q) = q := by
  have h2 := mq_invT c hc d hd q h
  cases b with
  | true => exact h2
  | false => exact ⟨h2.1, h2.1, rfl⟩
theorem Ed_mrN {F : GF} {x y : Nat} : Ed F x y = match mrN x y with | none => false | some q => decide (F 2 0 q = 0) := by
  unfold Ed mrN
  by_cases h6 : max x y - min x y = 6
  · rw [if_pos h6, if_pos h6]
  · rw [if_neg h6, if_neg h6]
    by_cases h1 : max x y - min x y = 1 ∧ max x y % 6 ≠ 0
    · rw [if_pos h1, if_pos h1]
    · rw [if_neg h1, if_neg h1]
theorem scls_mrN {x y : Nat} : scls x y = match mrN x y with | none => -1 | some q => nI q := by
  unfold scls mrN
  by_cases h6 : max x y - min x y = 6
  · rw [if_pos h6, if_pos h6]
  · rw [if_neg h6, if_neg h6]
    by_cases h1 : max x y - min x y = 1 ∧ max x y % 6 ≠ 0
    · rw [if_pos h1, if_pos h1]
    · rw [if_neg h1, if_neg h1]
theorem sb_row {F F' : GF} {q q' : Nat} (h1 : F 2 0 q = 0 ∨ F 2 0 q = 1) (h2 : F' 2 0 q' = 0 ∨ F' 2 0 q' = 1) (h : decide (F' 2 0 q' = 0) = decide (F 2 0 q = 0)) : F 2 0 q = F' 2 0 q' := by
  rw [decide_eq_decide] at h
  rcases h1 with a | a
  · rw [a, h.mpr a]
  · rcases h2 with z | z
    · have := h.mp z
      rw [this] at a
      exact absurd a (by decide)
    · rw [a, z]
theorem t_X9_setBarred {b : Bool} {H H' F F' : GF} (hs : Sx b H H' F F') {c d q : Nat} (hc : c < 36) (hd : d < 36) (hq : mrN c d = some q) {p2 p2' : Int32} (e2 : p2 = p2') {K K' : Int32 → GF → Prop} (hK : ∀ (r r' : Int32) (F1 F1' : GF), r = r' → Sx b H H' F1 F1' → K r F1 → K' r' F1') (h : P_X9_setBarred F (nI q) p2 K) : P_X9_setBarred F' (nI (mq b q)) p2' K' := by
  subst e2
  obtain ⟨i1, i2, i3⟩ := mq_inv (b := b) hc hd hq
  obtain ⟨q0, q1, ⟨q2, q3, q4⟩, q5, q6, q7⟩ := hs
  have hE := q2 c d hc hd
  rw [Ed_mrN, Ed_mrN, mrN_mir hc hd, hq] at hE
  have er : F 2 0 q = F' 2 0 (mq b q) := sb_row (q3 q i1) (q4 _ i2) hE
  unfold P_X9_setBarred at h ⊢
  have n1 : ∀ z, z < 72 → ¬ nI z < 0 := fun z hz => nI_pos (by omega)
  have n2 : ∀ z, z < 72 → nI z < 72 := fun z hz => nI_lt (b := 72) hz (by omega)
  rw [if_neg (n1 q i1), if_pos (n2 q i1), nI_clamp' (by omega)] at h
  rw [if_neg (n1 _ i2), if_pos (n2 _ i2), nI_clamp' (by omega)]
  obtain ⟨-, -, hp, h⟩ := h
  obtain ⟨hv, h⟩ := h _ rfl
  refine ⟨nI_in i2 (by omega), nI_in i2 (by omega), hp, fun G eG => ⟨q4 _ i2, ?_⟩⟩
  rw [eG]
  refine hK _ _ _ _ er ⟨fun f hf => ?_, fun f hf => ?_, ⟨fun x y hx hy => ?_, fun j hj => ?_, fun j hj => ?_⟩, ?_, ?_, ?_⟩ h
  · have : f ≠ 2 := by rintro rfl; cases hf
    rw [fs_fam this, fs_fam this]
    exact q0 f hf
  · rw [fs_fam (by omega), fs_fam (by omega)]
    exact q1 f hf
  · have hE2 := q2 x y hx hy
    rw [Ed_mrN, Ed_mrN, mrN_mir hx hy] at hE2 ⊢
    cases hz : mrN x y with
    | none => rfl
    | some e =>
      rw [hz] at hE2
      obtain ⟨j1, j2, j3⟩ := mq_inv (b := b) hx hy hz
      show decide (fs F' 2 0 (mq b q) p2 2 0 (mq b e) = 0) = decide (fs F 2 0 q p2 2 0 e = 0)
      by_cases ee : e = q
      · subst ee
        rw [fs_eq, fs_eq]
      · have en : mq b e ≠ mq b q := fun z => ee (by rw [← j3, z, i3])
        rw [fs_ne (Or.inr (Or.inr en)), fs_ne (Or.inr (Or.inr ee))]
        exact hE2
  · by_cases ej : j = q
    · rw [ej, fs_eq]
      exact hp
    · rw [fs_ne (Or.inr (Or.inr ej))]
      exact q3 j hj
  · by_cases ej : j = mq b q
    · rw [ej, fs_eq]
      exact hp
    · rw [fs_ne (Or.inr (Or.inr ej))]
      exact q4 j hj
  · rw [fs_fam (by decide), fs_fam (by decide)]
    exact q5
  · rw [fs_fam (by decide), fs_fam (by decide), fs_fam (by decide)]
    exact q6
  · have e : gcn (fs F 2 0 q p2) = gcn F := by unfold gcn; rw [fs_fam (by decide)]
    rw [e, fs_fam (by decide), fs_fam (by decide)]
    exact q7
theorem t_X10_bar {b : Bool} {H H' F F' : GF} (hs : Sx b H H' F F') {c d : Nat} (hc : c < 36) (hd : d < 36) {p3 p3' : Int32} (e3 : p3 = p3') {K K' : Int32 → GF → Prop} {X X' : String → GF → Prop} (hK : ∀ (r r' : Int32) (F1 F1' : GF), r = r' → Sx b H H' F1 F1' → K r F1 → K' r' F1') (hX : ∀ (e : String) (F1 F1' : GF), Sx b H H' F1 F1' → X e F1 → X' e F1') (h : P_X10_bar F (nI c) (nI d) p3 K X) : P_X10_bar F' (nI (mc b c)) (nI (mc b d)) p3' K' X' := by
  subst e3
  unfold P_X10_bar at h ⊢
  have h := (ncr hd).mp ((ncr hc).mp h)
  refine (ncr (mc_lt hc)).mpr ((ncr (mc_lt hd)).mpr ?_)
  rw [st_clsE hc hd, scls_mrN] at h
  rw [st_clsE (mc_lt hc) (mc_lt hd), scls_mrN, mrN_mir hc hd]
  cases hq : mrN c d with
  | none =>
    rw [hq] at h
    exact ite_pos rfl (hX _ _ _ hs (ite_poso rfl h))
  | some q =>
    rw [hq] at h
    obtain ⟨i1, i2, i3⟩ := mq_inv (b := b) hc hd hq
    have ne : ∀ z, z < 72 → ¬ nI z = -1 := fun z hz e => by rw [nI_eq_neg (by omega)] at e; exact e
    have h := ite_nego (ne q i1) h
    refine ite_neg (ne _ i2) ?_
    exact t_X9_setBarred hs hc hd hq rfl (fun r r' F1 F1' er hs1 h => ⟨by rw [← er]; exact h.1, hK _ _ _ _ er hs1 h.2⟩) h
/-- a new stay on both sides -/
theorem Sx.stay {b : Bool} {H H' F F' : GF} (hs : Sx b H H' F F') {c : Nat} (hc : c < 36) (hg : gcn F + 1 < 2 ^ 31) (d p : Int32) : Sx b H H' (fs (fs (fs (fnew F) 39 (gcn F) 0 d) 39 (gcn F) 1 (nI c)) 39 (gcn F) 2 p) (fs (fs (fs (fnew F') 39 (gcn F) 0 d) 39 (gcn F) 1 (nI (mc b c))) 39 (gcn F) 2 p) := by
  have eg := hs.gcE
  obtain ⟨q0, q1, ⟨q2, q3, q4⟩, q5, q6, q7⟩ := hs
  have key : ∀ (Z : GF) (v : Int32), gcn Z = gcn F → (∀ f, f ≠ 38 → f ≠ 39 → (fs (fs (fs (fnew Z) 39 (gcn F) 0 d) 39 (gcn F) 1 v) 39 (gcn F) 2 p) f = Z f) ∧ (fs (fs (fs (fnew Z) 39 (gcn F) 0 d) 39 (gcn F) 1 v) 39 (gcn F) 2 p) 38 = (fs Z 38 0 0 (nI (gcn F + 1))) 38 ∧ (∀ i k, i ≠ gcn F → (fs (fs (fs (fnew Z) 39 (gcn F) 0 d) 39 (gcn F) 1 v) 39 (gcn F) 2 p) 39 i k = Z 39 i k) ∧ (fs (fs (fs (fnew Z) 39 (gcn F) 0 d) 39 (gcn F) 1 v) 39 (gcn F) 2 p) 39 (gcn F) 0 = d ∧ (fs (fs (fs (fnew Z) 39 (gcn F) 0 d) 39 (gcn F) 1 v) 39 (gcn F) 2 p) 39 (gcn F) 1 = v ∧ (fs (fs (fs (fnew Z) 39 (gcn F) 0 d) 39 (gcn F) 1 v) 39 (gcn F) 2 p) 39 (gcn F) 2 = p := by
    intro Z v eZ
    refine ⟨fun f x8 x9 => ?_, ?_, fun i k hi => ?_, ?_, ?_, ?_⟩
    · unfold fnew
      rw [fs_fam x9, fs_fam x9, fs_fam x9, fs_fam x8, fs_fam x9, fs_fam x9, fs_fam x9]
    · unfold fnew
      rw [fs_fam (by decide), fs_fam (by decide), fs_fam (by decide), eZ]
      funext i k
      simp [fs_app]
    · unfold fnew
      rw [eZ]
      rw [fs_ne (Or.inr (Or.inl hi)), fs_ne (Or.inr (Or.inl hi)), fs_ne (Or.inr (Or.inl hi)), fs_ne (Or.inl (by decide)), fs_ne (Or.inr (Or.inl hi)), fs_ne (Or.inr (Or.inl hi)), fs_ne (Or.inr (Or.inl hi))]
    · rw [fs_ne (Or.inr (Or.inr (by decide))), fs_ne (Or.inr (Or.inr (by decide))), fs_eq]
    · rw [fs_ne (Or.inr (Or.inr (by decide))), fs_eq]
    · rw [fs_eq]
  obtain ⟨a1, a2, a3, a4, a5, a6⟩ := key F (nI c) rfl
  obtain ⟨b1, b2, b3, b4, b5, b6⟩ := key F' (nI (mc b c)) eg
  generalize (fs (fs (fs (fnew F) 39 (gcn F) 0 d) 39 (gcn F) 1 (nI c)) 39 (gcn F) 2 p) = G at a1 a2 a3 a4 a5 a6 ⊢
  generalize (fs (fs (fs (fnew F') 39 (gcn F) 0 d) 39 (gcn F) 1 (nI (mc b c))) 39 (gcn F) 2 p) = G' at b1 b2 b3 b4 b5 b6 ⊢
  refine ⟨fun f hf => ?_, fun f hf => ?_, ⟨?_, ?_, ?_⟩, ?_, ?_, fun i hi => ?_⟩
  · by_cases x8 : f = 38
    · subst x8
      rw [a2, b2]
      funext i k
      rw [fs_app, fs_app, q0 38 rfl]
    · have x9 : f ≠ 39 := by rintro rfl; cases hf
      rw [a1 f x8 x9, b1 f x8 x9]
      exact q0 f hf
  · rw [a1 f (by omega) (by omega), b1 f (by omega) (by omega)]
    exact q1 f hf
  · rw [Ed_congr (a1 2 (by decide) (by decide)), Ed_congr (b1 2 (by decide) (by decide))]
    exact q2
  · unfold b_bar
    rw [a1 2 (by decide) (by decide)]
    exact q3
  · unfold b_bar
    rw [b1 2 (by decide) (by decide)]
    exact q4
  · rw [a1 3 (by decide) (by decide), b1 3 (by decide) (by decide)]
    exact q5
  · rw [a1 6 (by decide) (by decide), a1 7 (by decide) (by decide), b1 7 (by decide) (by decide)]
    exact q6
  · have e : gcn G = gcn F + 1 := by
      unfold gcn
      rw [a2, fs_eq]
      exact nI_clamp' (by omega)
    rw [e] at hi
    by_cases ei : i = gcn F
    · rw [ei]
      exact ⟨by rw [a4, b4], by rw [a6, b6], c, hc, a5, b5⟩
    · rw [a3 i 0 ei, a3 i 1 ei, a3 i 2 ei, b3 i 0 ei, b3 i 1 ei, b3 i 2 ei]
      exact q7 i (by omega)
theorem gok_mir {b : Bool} {H H' F F' : GF} (hs : Sx b H H' F F') (h : gok F ∧ gcn F + 1 < 2 ^ 31) : gok F' ∧ gcn F' + 1 < 2 ^ 31 := by
  obtain ⟨⟨h1, h2⟩, h3⟩ := h
  refine ⟨⟨fun i hi => ?_, fun i hi => ?_⟩, by rw [hs.gcE]; exact h3⟩
  · rw [hs.gcE, hs.rd 33 rfl]
    exact h1 i hi
  · rw [hs.gcE] at hi ⊢
    rw [(hs.2.2.2.2.2 i hi).2.1]
    exact h2 i hi
theorem x8_val {F : GF} {i : Nat} {p1 p2 p3 : Int32} {K : GF → Prop} : P_X8_init F i p1 p2 p3 K ↔ K (fs (fs (fs F 39 i 0 p1) 39 i 1 p2) 39 i 2 p3) := by
  unfold P_X8_init
  exact ⟨fun h => h _ rfl _ rfl _ rfl, fun h F1 e1 F2 e2 F3 e3 => by rw [e3, e2, e1]; exact h⟩
theorem t_X10_person {b : Bool} {H H' F F' : GF} (hs : Sx b H H' F F') {c : Nat} (hc : c < 36) {p2 p2' : Int32} (e2 : p2 = p2') {K K' : Int32 → GF → Prop} {X X' : String → GF → Prop} (hK : ∀ (r r' : Int32) (F1 F1' : GF), r = r' → Sx b H H' F1 F1' → K r F1 → K' r' F1') (hX : ∀ (e : String) (F1 F1' : GF), Sx b H H' F1 F1' → X e F1 → X' e F1') (h : P_X10_person F (nI c) p2 K X) : P_X10_person F' (nI (mc b c)) p2' K' X' := by
  subst e2
  unfold P_X10_person at h ⊢
  have h := (ncr hc).mp h
  refine (ncr (mc_lt hc)).mpr ?_
  refine t_X10_needRange hs rfl rfl rfl (fun F1 F1' hs1 h => ?_) hX h
  have e0 := hs1.rd 0 rfl
  rcases ite_elim h with ⟨c1, h⟩ | ⟨c1, h⟩
  · obtain ⟨v, h⟩ := h
    refine ite_pos (by rw [e0]; exact c1) ⟨by rw [e0]; exact v, ?_⟩
    obtain ⟨G1, g1⟩ : ∃ z : GF, z = fs F1 33 (F1 0 0 2).toNatClampNeg 0 p2 := ⟨_, rfl⟩
    obtain ⟨v2, v3, h⟩ := h G1 g1
    intro G1' g1'
    have hs2 : Sx b H H' G1 G1' := by rw [g1, g1', e0]; exact hs1.fsx rfl rfl rfl rfl
    have h := x8_val.mp (h _ rfl) _ rfl _ rfl
    refine ⟨by rw [e0]; exact v2, gok_mir hs2 v3, fun G2' g2' => ?_⟩
    rw [g2']
    refine x8_val.mpr (fun G3' g3' G4' g4' => ?_)
    rw [hs2.gcE] at g3'
    have hs3 := hs2.stay hc v3.2 (fnew G1 0 0 5) (-1)
    have e5 : fnew G1' 0 = fnew G1 0 := by
      unfold fnew
      rw [fs_fam (by decide), fs_fam (by decide), fs_fam (by decide), fs_fam (by decide), fs_fam (by decide), fs_fam (by decide), fs_fam (by decide), fs_fam (by decide), hs2.rd 0 rfl]
    rw [e5, e0] at g3'
    have hs4 := hs3.fsx (f := 33) (i := (F1 0 0 2).toNatClampNeg) (k := 1) (v := nI (gcn G1)) rfl rfl rfl rfl
    rw [← g3'] at hs4
    have hs5 := hs4.fsx (f := 0) (i := 0) (k := 2) (v := (fs (fs (fs (fs (fnew G1) 39 (gcn G1) 0 (fnew G1 0 0 5)) 39 (gcn G1) 1 (nI c)) 39 (gcn G1) 2 (-1)) 33 (F1 0 0 2).toNatClampNeg 1 (nI (gcn G1))) 0 0 2 + 1) (v' := G3' 0 0 2 + 1) rfl rfl rfl (by rw [hs4.rd 0 rfl])
    rw [← g4'] at hs5
    exact hK _ _ _ _ (by rw [e0]) hs5 h
  · exact ite_neg (by rw [e0]; exact c1) (hX _ _ _ hs1 h)
theorem t_X10_move {b : Bool} {H H' F F' : GF} (hs : Sx b H H' F F') {p1 p1' : Int32} (e1 : p1 = p1') {c : Nat} (hc : c < 36) {K K' : Int32 → GF → Prop} {X X' : String → GF → Prop} (hK : ∀ (r r' : Int32) (F1 F1' : GF), cr b r r' → Sx b H H' F1 F1' → K r F1 → K' r' F1') (hX : ∀ (e : String) (F1 F1' : GF), Sx b H H' F1 F1' → X e F1 → X' e F1') (h : P_X10_move F p1 (nI c) K X) : P_X10_move F' p1' (nI (mc b c)) K' X' := by
  subst e1
  unfold P_X10_move at h ⊢
  refine t_X10_personAt hs rfl (fun r r' F1 F1' er hs1 h => ?_) hX h
  subst er
  have h := (ncr hc).mp h
  refine (ncr (mc_lt hc)).mpr ?_
  refine t_X10_needAlive hs1 rfl (fun F2 F2' hs2 h => ?_) hX h
  refine t_X4_crossingOn hs2 rfl (by rw [hs2.rd 0 rfl]) (fun q q' F3 F3' er hs3 h => ?_) h
  obtain ⟨v3, h⟩ := h
  have h := x8_val.mp (h _ rfl) _ rfl
  refine ⟨gok_mir hs3 v3, fun G2' g2' => ?_⟩
  rw [g2']
  refine x8_val.mpr (fun G3' g3' => ?_)
  have e5 : ∀ f, f ≠ 38 → f ≠ 39 → eqf f = true → fnew F3' f = fnew F3 f := by
    intro f x8 x9 hf
    unfold fnew
    rw [fs_fam x8, fs_fam x9, fs_fam x9, fs_fam x9, fs_fam x8, fs_fam x9, fs_fam x9, fs_fam x9, hs3.rd f hf]
  rw [e5 0 (by decide) (by decide) rfl, e5 33 (by decide) (by decide) rfl, hs3.gcE] at g3'
  have hs4 := (hs3.stay hc v3.2 (fnew F3 0 0 5) (fnew F3 33 r 1)).fsx (f := 33) (i := r) (k := 1) (v := nI (gcn F3)) rfl rfl rfl rfl
  rw [← g3'] at hs4
  exact hK _ _ _ _ er hs4 h
