/-! the search gives how far each crossing is: told by two properties that only one row of numbers has -/
def lab (s : BS) (y : Nat) : Prop := ¬ s.1 y = -1
def lb (s : BS) (y : Nat) : Nat := (s.1 y).toNatClampNeg
theorem lb_val {s : BS} (h : BI s) {y : Nat} (hy : y < 36) (hl : lab s y) : s.1 y = nI (lb s y) ∧ lb s y < 36 := by
  obtain ⟨a, ha, ea⟩ := (h.2.1 y hy).resolve_left hl
  have hle := h.le
  have e : lb s y = a := by unfold lb; rw [ea, nI_clamp' (by omega)]
  rw [e]
  exact ⟨ea, by omega⟩
def WI (F : GF) (x0 i u m : Nat) (s : BS) : Prop :=
  BI s ∧ (i < s.2.2 ∧ s.2.1 i = u ∧ lab s u) ∧ (lab s x0 ∧ lb s x0 = 0) ∧
  (∀ y, y < 36 → lab s y → ∃ j, j < s.2.2 ∧ s.2.1 j = y) ∧
  (∀ j k, j ≤ k → k < s.2.2 → lb s (s.2.1 j) ≤ lb s (s.2.1 k)) ∧
  (∀ k, k < s.2.2 → lb s (s.2.1 k) ≤ lb s u + 1) ∧
  (∀ y, y < 36 → lab s y → y = x0 ∨ ∃ z, z < 36 ∧ lab s z ∧ Ed F z y = true ∧ lb s y = lb s z + 1) ∧
  (∀ j y, j < i → y < 36 → Ed F (s.2.1 j) y = true → lab s y ∧ lb s y ≤ lb s (s.2.1 j) + 1) ∧
  (∀ y, y < m → y < 36 → Ed F u y = true → lab s y ∧ lb s y ≤ lb s u + 1)
theorem vis_WI {F : GF} {x0 i u m : Nat} {s : BS} (hm : m < 36) (hu : u < 36) (W : WI F x0 i u m s) : WI F x0 i u (m + 1) (vis F u s m) := by
  obtain ⟨hB, ⟨hi, hr, hlu⟩, ⟨hlx, hx⟩, q1, q2, q3, q4, q5, q6⟩ := W
  obtain ⟨b1, b2, b3, b4, -⟩ := vis_BI (F := F) hB hu hm hlu
  by_cases h : Ed F u m = true ∧ s.1 m = -1
  · obtain ⟨eu, hu36⟩ := lb_val hB hu hlu
    have e1 : (vis F u s m).1 = updI s.1 m (s.1 u + 1) := by unfold vis; rw [if_pos h]
    have e2 : (vis F u s m).2.2 = s.2.2 + 1 := by unfold vis; rw [if_pos h]
    have e3 : (vis F u s m).2.1 s.2.2 = m := by unfold vis; rw [if_pos h]; exact if_pos rfl
    generalize vis F u s m = s' at b1 b2 b3 b4 e1 e2 e3 ⊢
    have n1 : ∀ q, q ≠ m → s'.1 q = s.1 q := fun q hq => by rw [e1]; unfold updI; rw [if_neg hq]
    have n2 : s'.1 m = nI (lb s u + 1) := by rw [e1]; unfold updI; rw [if_pos rfl, eu, nI_succ]
    have l1 : ∀ q, q ≠ m → lb s' q = lb s q := fun q hq => by unfold lb; rw [n1 q hq]
    have l2 : lb s' m = lb s u + 1 := by
      show (s'.1 m).toNatClampNeg = lb s u + 1
      rw [n2, nI_clamp' (by omega)]
    have p1 : ∀ q, q ≠ m → (lab s' q ↔ lab s q) := fun q hq => by unfold lab; rw [n1 q hq]
    have p2 : lab s' m := by
      unfold lab
      rw [n2, nI_eq_neg (by omega)]
      exact fun q => q
    have hne : ∀ q, lab s q → q ≠ m := fun q hq e => hq (by rw [e]; exact h.2)
    have rl : ∀ j, j < s.2.2 → lab s (s.2.1 j) := fun j hj => (hB.2.2 j hj).2
    have rw1 : ∀ j, j < s.2.2 → lb s' (s'.2.1 j) = lb s (s.2.1 j) := fun j hj => by rw [b4 j hj]; exact l1 _ (hne _ (rl j hj))
    have rw2 : lb s' (s'.2.1 s.2.2) = lb s u + 1 := by rw [e3]; exact l2
    refine ⟨b1, ⟨by omega, by rw [b4 i hi]; exact hr, b2⟩, ⟨(p1 x0 (hne x0 hlx)).mpr hlx, by rw [l1 x0 (hne x0 hlx)]; exact hx⟩, ?_, ?_, ?_, ?_, ?_, ?_⟩
    · intro y hy hl
      by_cases e : y = m
      · exact ⟨s.2.2, by omega, by rw [e3, e]⟩
      · obtain ⟨j, hj, ej⟩ := q1 y hy ((p1 y e).mp hl)
        exact ⟨j, by omega, by rw [b4 j hj]; exact ej⟩
    · intro j k hjk hk
      by_cases ek : k = s.2.2
      · by_cases ej : j = s.2.2
        · rw [ej, ek]
          exact Nat.le_refl _
        · rw [ek, rw2, rw1 j (by omega)]
          exact q3 j (by omega)
      · rw [rw1 j (by omega), rw1 k (by omega)]
        exact q2 j k hjk (by omega)
    · intro k hk
      rw [l1 u (hne u hlu)]
      by_cases ek : k = s.2.2
      · rw [ek, rw2]
        exact Nat.le_refl _
      · rw [rw1 k (by omega)]
        exact q3 k (by omega)
    · intro y hy hl
      by_cases e : y = m
      · exact Or.inr ⟨u, hu, b2, by rw [e]; exact h.1, by rw [e, l2, l1 u (hne u hlu)]⟩
      · rcases q4 y hy ((p1 y e).mp hl) with z | ⟨z, z1, z2, z3, z4⟩
        · exact Or.inl z
        · exact Or.inr ⟨z, z1, (p1 z (hne z z2)).mpr z2, z3, by rw [l1 y e, l1 z (hne z z2)]; exact z4⟩
    · intro j y hj hy hE
      rw [b4 j (by omega)] at hE
      obtain ⟨z1, z2⟩ := q5 j y hj hy hE
      refine ⟨(p1 y (hne y z1)).mpr z1, ?_⟩
      rw [rw1 j (by omega), l1 y (hne y z1)]
      exact z2
    · intro y hy hy2 hE
      by_cases e : y = m
      · rw [e]
        exact ⟨p2, by rw [l2, l1 u (hne u hlu)]; exact Nat.le_refl _⟩
      · obtain ⟨z1, z2⟩ := q6 y (by omega) hy2 hE
        exact ⟨(p1 y e).mpr z1, by rw [l1 y e, l1 u (hne u hlu)]; exact z2⟩
  · have ev : vis F u s m = s := by unfold vis; rw [if_neg h]
    rw [ev]
    refine ⟨hB, ⟨hi, hr, hlu⟩, ⟨hlx, hx⟩, q1, q2, q3, q4, q5, ?_⟩
    intro y hy hy2 hE
    by_cases e : y = m
    · subst e
      have hl : lab s y := fun q => h ⟨hE, q⟩
      obtain ⟨j, hj, ej⟩ := q1 y hy2 hl
      refine ⟨hl, ?_⟩
      have := q3 j hj
      rw [ej] at this
      exact this
    · exact q6 y (by omega) hy2 hE
theorem fold_WI {F : GF} {x0 i u : Nat} {s : BS} (hu : u < 36) (W : WI F x0 i u 0 s) : ∀ m, m ≤ 36 → WI F x0 i u m ((List.range m).foldl (vis F u) s) := by
  intro m
  induction m with
  | zero => intro _; exact W
  | succ m ih =>
    intro hm
    rw [List.range_succ, List.foldl_append]
    exact vis_WI (by omega) hu (ih (by omega))
def VI (F : GF) (x0 i : Nat) (s : BS) : Prop :=
  BI s ∧ (lab s x0 ∧ lb s x0 = 0) ∧
  (∀ y, y < 36 → lab s y → ∃ j, j < s.2.2 ∧ s.2.1 j = y) ∧
  (∀ j k, j ≤ k → k < s.2.2 → lb s (s.2.1 j) ≤ lb s (s.2.1 k)) ∧
  (i < s.2.2 → ∀ k, k < s.2.2 → lb s (s.2.1 k) ≤ lb s (s.2.1 i) + 1) ∧
  (∀ y, y < 36 → lab s y → y = x0 ∨ ∃ z, z < 36 ∧ lab s z ∧ Ed F z y = true ∧ lb s y = lb s z + 1) ∧
  (∀ j y, j < i → j < s.2.2 → y < 36 → Ed F (s.2.1 j) y = true → lab s y ∧ lb s y ≤ lb s (s.2.1 j) + 1)
theorem step_VI {F : GF} {x0 i : Nat} {s : BS} (hi : i < s.2.2) (h : VI F x0 i s) : VI F x0 (i + 1) (stepM F (s.2.1 i) s) := by
  obtain ⟨hB, hx, q1, q2, q3, q4, q5⟩ := h
  obtain ⟨hu, hlu⟩ := hB.2.2 i hi
  have W : WI F x0 i (s.2.1 i) 36 (stepM F (s.2.1 i) s) := fold_WI hu ⟨hB, ⟨hi, rfl, hlu⟩, hx, q1, q2, q3 hi, q4, fun j y hj hy hE => q5 j y hj (by omega) hy hE, fun y hy => absurd hy (Nat.not_lt_zero y)⟩ 36 (Nat.le_refl _)
  generalize stepM F (s.2.1 i) s = s' at W ⊢
  obtain ⟨hB, ⟨hi, hr, hlu⟩, hx, q1, q2, q3, q4, q5, q6⟩ := W
  refine ⟨hB, hx, q1, q2, fun h1 k hk => ?_, q4, fun j y hj hj2 hy hE => ?_⟩
  · have a1 := q3 k hk
    have a2 := q2 i (i + 1) (Nat.le_succ i) h1
    rw [hr] at a2
    omega
  · by_cases e : j = i
    · subst e
      rw [hr] at hE ⊢
      exact q6 y hy hy hE
    · exact q5 j y (by omega) hy hE
theorem bfsN_VI {F : GF} {x0 : Nat} : ∀ f i s, 37 ≤ f + i → VI F x0 i s → ∃ i', VI F x0 i' (bfsN F f i s) ∧ (bfsN F f i s).2.2 ≤ i' := by
  intro f
  induction f with
  | zero =>
    intro i s hf h
    have := h.1.le
    exact ⟨i, h, by show s.2.2 ≤ i; omega⟩
  | succ f ih =>
    intro i s hf h
    unfold bfsN
    by_cases hi : s.2.2 ≤ i
    · rw [if_pos hi]
      exact ⟨i, h, hi⟩
    · rw [if_neg hi]
      exact ih (i + 1) _ (by omega) (step_VI (by omega) h)
theorem bfs0_VI {F : GF} {x : Nat} (hx : x < 36) : VI F x 0 (bfs0 x) := by
  have hl : ∀ y, lab (bfs0 x) y → y = x := by
    intro y h
    by_cases e : y = x
    · exact e
    · exact absurd (if_neg e) h
  have h0 : lb (bfs0 x) x = 0 := by
    show (if x = x then (0 : Int32) else -1).toNatClampNeg = 0
    rw [if_pos rfl]
    rfl
  refine ⟨bfs0_BI hx, ⟨?_, h0⟩, fun y _ h => ⟨0, Nat.zero_lt_one, (hl y h).symm⟩, fun j k _ _ => Nat.le_refl _, fun _ k _ => Nat.le_succ _, fun y _ h => Or.inl (hl y h), fun j y hj => absurd hj (Nat.not_lt_zero j)⟩
  show ¬ (if x = x then (0 : Int32) else -1) = -1
  rw [if_pos rfl]
  decide
def Dist (E : Nat → Nat → Bool) (x : Nat) (d : Nat → Int32) : Prop :=
  d x = nI 0 ∧ (∀ y, y < 36 → d y = -1 ∨ ∃ a, a < 37 ∧ d y = nI a) ∧
  (∀ y a, y < 36 → a < 37 → d y = nI a → (y = x ∧ a = 0) ∨ ∃ z b, z < 36 ∧ b < 37 ∧ E z y = true ∧ d z = nI b ∧ a = b + 1) ∧
  (∀ z y b, z < 36 → y < 36 → b < 37 → d z = nI b → E z y = true → ∃ a, a < 37 ∧ d y = nI a ∧ a ≤ b + 1)
theorem lb_of {s : BS} {y a : Nat} (ha : a < 37) (h : s.1 y = nI a) : lab s y ∧ lb s y = a := by
  refine ⟨?_, ?_⟩
  · unfold lab
    rw [h, nI_eq_neg (by omega)]
    exact fun q => q
  · unfold lb
    rw [h, nI_clamp' (by omega)]
theorem farN_dist {F : GF} {x : Nat} (hx : x < 36) : Dist (Ed F) x (farN F x) := by
  obtain ⟨i, ⟨hB, ⟨hlx, hx0⟩, q1, q2, q3, q4, q5⟩, hi⟩ := bfsN_VI (F := F) (x0 := x) 37 0 (bfs0 x) (by omega) (bfs0_VI hx)
  show Dist (Ed F) x (bfsN F 37 0 (bfs0 x)).1
  generalize bfsN F 37 0 (bfs0 x) = s at *
  have hle := hB.le
  refine ⟨?_, fun y hy => ?_, fun y a hy ha e => ?_, fun z y b hz hy hb e hE => ?_⟩
  · have := (lb_val hB hx hlx).1
    rw [hx0] at this
    exact this
  · rcases hB.2.1 y hy with z | ⟨a, a1, a2⟩
    · exact Or.inl z
    · exact Or.inr ⟨a, by omega, a2⟩
  · obtain ⟨h1, h2⟩ := lb_of ha e
    rcases q4 y hy h1 with z | ⟨z, z1, z2, z3, z4⟩
    · refine Or.inl ⟨z, ?_⟩
      rw [← h2, z]
      exact hx0
    · obtain ⟨w1, w2⟩ := lb_val hB z1 z2
      exact Or.inr ⟨z, lb s z, z1, by omega, z3, w1, by rw [← h2]; exact z4⟩
  · obtain ⟨h1, h2⟩ := lb_of hb e
    obtain ⟨j, hj, ej⟩ := q1 z hz h1
    have h5 := q5 j y (by omega) hj hy (by rw [ej]; exact hE)
    rw [ej, h2] at h5
    obtain ⟨w1, w2⟩ := lb_val hB hy h5.1
    exact ⟨lb s y, by omega, w1, h5.2⟩
theorem dist_le {E : Nat → Nat → Bool} {x : Nat} {d d' : Nat → Int32} (h : Dist E x d) (h' : Dist E x d') : ∀ a y, y < 36 → a < 37 → d y = nI a → ∃ a', a' < 37 ∧ d' y = nI a' ∧ a' ≤ a := by
  intro a
  induction a with
  | zero =>
    intro y hy ha e
    rcases h.2.2.1 y 0 hy ha e with ⟨z, -⟩ | ⟨z, b, -, -, -, -, z5⟩
    · rw [z]
      exact ⟨0, by omega, h'.1, Nat.le_refl _⟩
    · omega
  | succ a ih =>
    intro y hy ha e
    rcases h.2.2.1 y (a + 1) hy ha e with ⟨-, z⟩ | ⟨z, b, z1, z2, z3, z4, z5⟩
    · omega
    · have eb : b = a := by omega
      rw [eb] at z4
      obtain ⟨c, c1, c2, c3⟩ := ih z z1 (by omega) z4
      obtain ⟨g, g1, g2, g3⟩ := h'.2.2.2 z y c z1 hy c1 c2 z3
      exact ⟨g, g1, g2, by omega⟩
theorem dist_eq {E : Nat → Nat → Bool} {x : Nat} {d d' : Nat → Int32} (h : Dist E x d) (h' : Dist E x d') {y : Nat} (hy : y < 36) : d y = d' y := by
  have key : ∀ a, a < 37 → -1 = nI a → False := fun a ha e => by rw [neg_eq_nI (by omega)] at e; exact e
  rcases h.2.1 y hy with z | ⟨a, a1, a2⟩
  · rcases h'.2.1 y hy with z' | ⟨a, a1, a2⟩
    · rw [z, z']
    · obtain ⟨c, c1, c2, -⟩ := dist_le h' h a y hy a1 a2
      exact (key c c1 (z.symm.trans c2)).elim
  · obtain ⟨c, c1, c2, c3⟩ := dist_le h h' a y hy a1 a2
    obtain ⟨g, g1, g2, g3⟩ := dist_le h' h c y hy c1 c2
    have e : nI a = nI g := a2.symm.trans g2
    rw [nI_eq_iff (by omega) (by omega)] at e
    have e2 : a = c := by omega
    rw [a2, c2, e2]
/-- a crossing's place in the mirror, or where it is -/
def mc (b : Bool) (c : Nat) : Nat := if b = true then c - c % 6 + 5 - c % 6 else c
theorem mc_lt {b : Bool} {c : Nat} (h : c < 36) : mc b c < 36 := by
  unfold mc
  split <;> omega
theorem mc_mc {b : Bool} {c : Nat} : mc b (mc b c) = c := by
  unfold mc
  split <;> omega
theorem mc_inj {b : Bool} {c d : Nat} (h : mc b c = mc b d) : c = d := by
  rw [← mc_mc (b := b) (c := c), h, mc_mc]
theorem dist_mir {b : Bool} {E E' : Nat → Nat → Bool} {x : Nat} {d : Nat → Int32} (hE : ∀ x y, x < 36 → y < 36 → E' (mc b x) (mc b y) = E x y) (h : Dist E' (mc b x) d) : Dist E x (fun y => d (mc b y)) := by
  obtain ⟨h1, h2, h3, h4⟩ := h
  refine ⟨h1, fun y hy => h2 _ (mc_lt hy), fun y a hy ha e => ?_, fun z y c hz hy hc e he => ?_⟩
  · rcases h3 _ a (mc_lt hy) ha e with ⟨z, z2⟩ | ⟨z, c, z1, z2, z3, z4, z5⟩
    · exact Or.inl ⟨mc_inj z, z2⟩
    · refine Or.inr ⟨mc b z, c, mc_lt z1, z2, ?_, ?_, z5⟩
      · rw [← hE _ _ (mc_lt z1) hy, mc_mc]
        exact z3
      · show d (mc b (mc b z)) = nI c
        rw [mc_mc]
        exact z4
  · exact h4 _ _ c (mc_lt hz) (mc_lt hy) hc e (by rw [hE _ _ hz hy]; exact he)
theorem farN_mir {b : Bool} {F F' : GF} {x y : Nat} (hE : ∀ x y, x < 36 → y < 36 → Ed F' (mc b x) (mc b y) = Ed F x y) (hx : x < 36) (hy : y < 36) : farN F' (mc b x) (mc b y) = farN F x y := (dist_eq (farN_dist hx) (dist_mir hE (farN_dist (F := F') (mc_lt hx))) hy).symm
