
theorem lu__X9_init {F : GF} {K : GF → Prop} (h : PZ_X9_init F K) : ∃ (F1 : GF), K F1 ∧ (∀ f, f ∉ ([1] : List Nat) → F1 f = F f) ∧ (∀ (K2 : GF → Prop), K2 F1 → PZ_X9_init F K2) ∧ ∀ (K2 : GF → Prop), PZ_X9_init F K2 → K2 F1 := by
  have g : ∀ f, f ∉ ([1] : List Nat) → F f = F f := fun _ _ => rfl
  unfold PZ_X9_init at h
  obtain ⟨v1, h⟩ := h
  obtain ⟨G2, e3, h⟩ := st_all h
  have g := fsg e3 g (by decide)
  obtain ⟨v4, h⟩ := h
  obtain ⟨G5, e6, h⟩ := st_all h
  have g := fsg e6 g (by decide)
  obtain ⟨v7, h⟩ := h
  obtain ⟨G8, e9, h⟩ := st_all h
  have g := fsg e9 g (by decide)
  exact ⟨_, h, g, fun K2 h2 => by unfold PZ_X9_init; exact And.intro v1 (all_g e3 (And.intro v4 (all_g e6 (And.intro v7 (all_g e9 (h2)))))), fun K2 q => by unfold PZ_X9_init at q; have q := q.2; have q := all_h e3 q; have q := q.2; have q := all_h e6 q; have q := q.2; have q := all_h e9 q; exact q⟩
theorem lu__X7_init {F : GF} {K : GF → Prop} (h : PZ_X7_init F K) : ∃ (F1 : GF), K F1 ∧ (∀ f, f ∉ ([6] : List Nat) → F1 f = F f) ∧ (∀ (K2 : GF → Prop), K2 F1 → PZ_X7_init F K2) ∧ ∀ (K2 : GF → Prop), PZ_X7_init F K2 → K2 F1 := by
  have g : ∀ f, f ∉ ([6] : List Nat) → F f = F f := fun _ _ => rfl
  unfold PZ_X7_init at h
  obtain ⟨v1, h⟩ := h
  obtain ⟨G2, e3, h⟩ := st_all h
  have g := fsg e3 g (by decide)
  obtain ⟨v4, h⟩ := h
  obtain ⟨G5, e6, h⟩ := st_all h
  have g := fsg e6 g (by decide)
  obtain ⟨G7, e8, h⟩ := st_all h
  have g := fsg e8 g (by decide)
  exact ⟨_, h, g, fun K2 h2 => by unfold PZ_X7_init; exact And.intro v1 (all_g e3 (And.intro v4 (all_g e6 (all_g e8 (h2))))), fun K2 q => by unfold PZ_X7_init at q; have q := q.2; have q := all_h e3 q; have q := q.2; have q := all_h e6 q; have q := all_h e8 q; exact q⟩
theorem lu__X5_init {F : GF} {K : GF → Prop} (h : PZ_X5_init F K) : ∃ (F1 : GF), K F1 ∧ (∀ f, f ∉ ([12, 13] : List Nat) → F1 f = F f) ∧ (∀ (K2 : GF → Prop), K2 F1 → PZ_X5_init F K2) ∧ ∀ (K2 : GF → Prop), PZ_X5_init F K2 → K2 F1 := by
  have g : ∀ f, f ∉ ([12, 13] : List Nat) → F f = F f := fun _ _ => rfl
  unfold PZ_X5_init at h
  obtain ⟨v1, h⟩ := h
  obtain ⟨G2, e3, h⟩ := st_all h
  have g := fsg e3 g (by decide)
  obtain ⟨v4, h⟩ := h
  obtain ⟨G5, e6, h⟩ := st_all h
  have g := fsg e6 g (by decide)
  obtain ⟨v7, h⟩ := h
  obtain ⟨G8, e9, h⟩ := st_all h
  have g := fsg e9 g (by decide)
  obtain ⟨v10, h⟩ := h
  obtain ⟨G11, e12, h⟩ := st_all h
  have g := ffillg e12 g (by decide)
  exact ⟨_, h, g, fun K2 h2 => by unfold PZ_X5_init; exact And.intro v1 (all_g e3 (And.intro v4 (all_g e6 (And.intro v7 (all_g e9 (And.intro v10 (all_g e12 (h2)))))))), fun K2 q => by unfold PZ_X5_init at q; have q := q.2; have q := all_h e3 q; have q := q.2; have q := all_h e6 q; have q := q.2; have q := all_h e9 q; have q := q.2; have q := all_h e12 q; exact q⟩
theorem lu__X3_init {F : GF} {K : GF → Prop} (h : PZ_X3_init F K) : ∃ (F1 : GF), K F1 ∧ (∀ f, f ∉ ([16] : List Nat) → F1 f = F f) ∧ (∀ (K2 : GF → Prop), K2 F1 → PZ_X3_init F K2) ∧ ∀ (K2 : GF → Prop), PZ_X3_init F K2 → K2 F1 := by
  have g : ∀ f, f ∉ ([16] : List Nat) → F f = F f := fun _ _ => rfl
  unfold PZ_X3_init at h
  obtain ⟨v1, h⟩ := h
  obtain ⟨G2, e3, h⟩ := st_all h
  have g := fsg e3 g (by decide)
  obtain ⟨v4, h⟩ := h
  obtain ⟨G5, e6, h⟩ := st_all h
  have g := fsg e6 g (by decide)
  obtain ⟨v7, h⟩ := h
  obtain ⟨G8, e9, h⟩ := st_all h
  have g := fsg e9 g (by decide)
  obtain ⟨G10, e11, h⟩ := st_all h
  have g := fsg e11 g (by decide)
  exact ⟨_, h, g, fun K2 h2 => by unfold PZ_X3_init; exact And.intro v1 (all_g e3 (And.intro v4 (all_g e6 (And.intro v7 (all_g e9 (all_g e11 (h2))))))), fun K2 q => by unfold PZ_X3_init at q; have q := q.2; have q := all_h e3 q; have q := q.2; have q := all_h e6 q; have q := q.2; have q := all_h e9 q; have q := all_h e11 q; exact q⟩
theorem lu__J5_init_d00df {F : GF} {p1 : Int32} {K : GF → Prop} (h : PZ_J5_init_d00df F p1 K) : ∃ (F1 : GF), K F1 ∧ (∀ f, f ∉ ([25] : List Nat) → F1 f = F f) ∧ (∀ (K2 : GF → Prop), K2 F1 → PZ_J5_init_d00df F p1 K2) ∧ ∀ (K2 : GF → Prop), PZ_J5_init_d00df F p1 K2 → K2 F1 := by
  have g : ∀ f, f ∉ ([25] : List Nat) → F f = F f := fun _ _ => rfl
  unfold PZ_J5_init_d00df at h
  obtain ⟨v1, h⟩ := h
  obtain ⟨v2, h⟩ := h
  obtain ⟨G3, e4, h⟩ := st_all h
  have g := fsg e4 g (by decide)
  obtain ⟨G5, e6, h⟩ := st_all h
  have g := fsg e6 g (by decide)
  exact ⟨_, h, g, fun K2 h2 => by unfold PZ_J5_init_d00df; exact And.intro v1 (And.intro v2 (all_g e4 (all_g e6 (h2)))), fun K2 q => by unfold PZ_J5_init_d00df at q; have q := q.2; have q := q.2; have q := all_h e4 q; have q := all_h e6 q; exact q⟩
theorem lu__J4_init_da8c8 {F : GF} {K : GF → Prop} (h : PZ_J4_init_da8c8 F K) : ∃ (F1 : GF), K F1 ∧ (∀ f, f ∉ ([25] : List Nat) → F1 f = F f) ∧ (∀ (K2 : GF → Prop), K2 F1 → PZ_J4_init_da8c8 F K2) ∧ ∀ (K2 : GF → Prop), PZ_J4_init_da8c8 F K2 → K2 F1 := by
  have g : ∀ f, f ∉ ([25] : List Nat) → F f = F f := fun _ _ => rfl
  unfold PZ_J4_init_da8c8 at h
  obtain ⟨G2, h, g3, b4, ub4⟩ := lu__J5_init_d00df h
  have g := gcomp (by decide) g g3
  exact ⟨_, h, g, fun K2 h2 => by unfold PZ_J4_init_da8c8; exact b4 _ (h2), fun K2 q => by unfold PZ_J4_init_da8c8 at q; have q := ub4 _ q; exact q⟩
theorem lu__X0_init {F : GF} {K : GF → Prop} (h : PZ_X0_init F K) : ∃ (F1 : GF), K F1 ∧ (∀ f, f ∉ ([21, 25] : List Nat) → F1 f = F f) ∧ (∀ (K2 : GF → Prop), K2 F1 → PZ_X0_init F K2) ∧ ∀ (K2 : GF → Prop), PZ_X0_init F K2 → K2 F1 := by
  have g : ∀ f, f ∉ ([21, 25] : List Nat) → F f = F f := fun _ _ => rfl
  unfold PZ_X0_init at h
  obtain ⟨v1, h⟩ := h
  obtain ⟨G2, e3, h⟩ := st_all h
  have g := fsg e3 g (by decide)
  obtain ⟨v4, h⟩ := h
  obtain ⟨G5, e6, h⟩ := st_all h
  have g := fsg e6 g (by decide)
  obtain ⟨v7, h⟩ := h
  obtain ⟨G8, e9, h⟩ := st_all h
  have g := fsg e9 g (by decide)
  obtain ⟨v10, h⟩ := h
  obtain ⟨G12, h, g13, b14, ub14⟩ := lu__J4_init_da8c8 h
  have g := gcomp (by decide) g g13
  obtain ⟨G15, e16, h⟩ := st_all h
  have g := fsg e16 g (by decide)
  obtain ⟨G17, e18, h⟩ := st_all h
  have g := fsg e18 g (by decide)
  exact ⟨_, h, g, fun K2 h2 => by unfold PZ_X0_init; exact And.intro v1 (all_g e3 (And.intro v4 (all_g e6 (And.intro v7 (all_g e9 (And.intro v10 (b14 _ (all_g e16 (all_g e18 (h2)))))))))), fun K2 q => by unfold PZ_X0_init at q; have q := q.2; have q := all_h e3 q; have q := q.2; have q := all_h e6 q; have q := q.2; have q := all_h e9 q; have q := q.2; have q := ub14 _ q; have q := all_h e16 q; have q := all_h e18 q; exact q⟩
theorem lu__X1_init_0 {F : GF} {K : GF → Prop} (h : PZ_X1_init_0 F K) : ∃ (F1 : GF), K F1 ∧ (∀ f, f ∉ ([28, 31] : List Nat) → F1 f = F f) ∧ (∀ (K2 : GF → Prop), K2 F1 → PZ_X1_init_0 F K2) ∧ ∀ (K2 : GF → Prop), PZ_X1_init_0 F K2 → K2 F1 := by
  have g : ∀ f, f ∉ ([28, 31] : List Nat) → F f = F f := fun _ _ => rfl
  unfold PZ_X1_init_0 at h
  obtain ⟨v1, h⟩ := h
  obtain ⟨G2, e3, h⟩ := st_all h
  have g := fsg e3 g (by decide)
  obtain ⟨G4, e5, h⟩ := st_all h
  have g := fsg e5 g (by decide)
  obtain ⟨v6, h⟩ := h
  obtain ⟨G7, e8, h⟩ := st_all h
  have g := fsg e8 g (by decide)
  obtain ⟨v9, h⟩ := h
  obtain ⟨G10, e11, h⟩ := st_all h
  have g := ffillg e11 g (by decide)
  obtain ⟨G12, e13, h⟩ := st_all h
  have g := fsg e13 g (by decide)
  obtain ⟨G14, e15, h⟩ := st_all h
  have g := fsg e15 g (by decide)
  obtain ⟨G16, e17, h⟩ := st_all h
  have g := fsg e17 g (by decide)
  exact ⟨_, h, g, fun K2 h2 => by unfold PZ_X1_init_0; exact And.intro v1 (all_g e3 (all_g e5 (And.intro v6 (all_g e8 (And.intro v9 (all_g e11 (all_g e13 (all_g e15 (all_g e17 (h2)))))))))), fun K2 q => by unfold PZ_X1_init_0 at q; have q := q.2; have q := all_h e3 q; have q := all_h e5 q; have q := q.2; have q := all_h e8 q; have q := q.2; have q := all_h e11 q; have q := all_h e13 q; have q := all_h e15 q; have q := all_h e17 q; exact q⟩
theorem lu__X1_init_1 {F : GF} {K : GF → Prop} (h : PZ_X1_init_1 F K) : ∃ (F1 : GF), K F1 ∧ (∀ f, f ∉ ([28, 31] : List Nat) → F1 f = F f) ∧ (∀ (K2 : GF → Prop), K2 F1 → PZ_X1_init_1 F K2) ∧ ∀ (K2 : GF → Prop), PZ_X1_init_1 F K2 → K2 F1 := by
  have g : ∀ f, f ∉ ([28, 31] : List Nat) → F f = F f := fun _ _ => rfl
  unfold PZ_X1_init_1 at h
  obtain ⟨v1, h⟩ := h
  obtain ⟨G2, e3, h⟩ := st_all h
  have g := fsg e3 g (by decide)
  obtain ⟨G4, e5, h⟩ := st_all h
  have g := fsg e5 g (by decide)
  obtain ⟨v6, h⟩ := h
  obtain ⟨G7, e8, h⟩ := st_all h
  have g := fsg e8 g (by decide)
  obtain ⟨v9, h⟩ := h
  obtain ⟨G10, e11, h⟩ := st_all h
  have g := ffillg e11 g (by decide)
  obtain ⟨G12, e13, h⟩ := st_all h
  have g := fsg e13 g (by decide)
  obtain ⟨G14, e15, h⟩ := st_all h
  have g := fsg e15 g (by decide)
  obtain ⟨G16, e17, h⟩ := st_all h
  have g := fsg e17 g (by decide)
  exact ⟨_, h, g, fun K2 h2 => by unfold PZ_X1_init_1; exact And.intro v1 (all_g e3 (all_g e5 (And.intro v6 (all_g e8 (And.intro v9 (all_g e11 (all_g e13 (all_g e15 (all_g e17 (h2)))))))))), fun K2 q => by unfold PZ_X1_init_1 at q; have q := q.2; have q := all_h e3 q; have q := all_h e5 q; have q := q.2; have q := all_h e8 q; have q := q.2; have q := all_h e11 q; have q := all_h e13 q; have q := all_h e15 q; have q := all_h e17 q; exact q⟩
theorem lu__X1_init_2 {F : GF} {K : GF → Prop} (h : PZ_X1_init_2 F K) : ∃ (F1 : GF), K F1 ∧ (∀ f, f ∉ ([28, 31] : List Nat) → F1 f = F f) ∧ (∀ (K2 : GF → Prop), K2 F1 → PZ_X1_init_2 F K2) ∧ ∀ (K2 : GF → Prop), PZ_X1_init_2 F K2 → K2 F1 := by
  have g : ∀ f, f ∉ ([28, 31] : List Nat) → F f = F f := fun _ _ => rfl
  unfold PZ_X1_init_2 at h
  obtain ⟨v1, h⟩ := h
  obtain ⟨G2, e3, h⟩ := st_all h
  have g := fsg e3 g (by decide)
  obtain ⟨G4, e5, h⟩ := st_all h
  have g := fsg e5 g (by decide)
  obtain ⟨v6, h⟩ := h
  obtain ⟨G7, e8, h⟩ := st_all h
  have g := fsg e8 g (by decide)
  obtain ⟨v9, h⟩ := h
  obtain ⟨G10, e11, h⟩ := st_all h
  have g := ffillg e11 g (by decide)
  obtain ⟨G12, e13, h⟩ := st_all h
  have g := fsg e13 g (by decide)
  obtain ⟨G14, e15, h⟩ := st_all h
  have g := fsg e15 g (by decide)
  obtain ⟨G16, e17, h⟩ := st_all h
  have g := fsg e17 g (by decide)
  exact ⟨_, h, g, fun K2 h2 => by unfold PZ_X1_init_2; exact And.intro v1 (all_g e3 (all_g e5 (And.intro v6 (all_g e8 (And.intro v9 (all_g e11 (all_g e13 (all_g e15 (all_g e17 (h2)))))))))), fun K2 q => by unfold PZ_X1_init_2 at q; have q := q.2; have q := all_h e3 q; have q := all_h e5 q; have q := q.2; have q := all_h e8 q; have q := q.2; have q := all_h e11 q; have q := all_h e13 q; have q := all_h e15 q; have q := all_h e17 q; exact q⟩
theorem lu__X1_init_3 {F : GF} {K : GF → Prop} (h : PZ_X1_init_3 F K) : ∃ (F1 : GF), K F1 ∧ (∀ f, f ∉ ([28, 31] : List Nat) → F1 f = F f) ∧ (∀ (K2 : GF → Prop), K2 F1 → PZ_X1_init_3 F K2) ∧ ∀ (K2 : GF → Prop), PZ_X1_init_3 F K2 → K2 F1 := by
  have g : ∀ f, f ∉ ([28, 31] : List Nat) → F f = F f := fun _ _ => rfl
  unfold PZ_X1_init_3 at h
  obtain ⟨v1, h⟩ := h
  obtain ⟨G2, e3, h⟩ := st_all h
  have g := fsg e3 g (by decide)
  obtain ⟨G4, e5, h⟩ := st_all h
  have g := fsg e5 g (by decide)
  obtain ⟨v6, h⟩ := h
  obtain ⟨G7, e8, h⟩ := st_all h
  have g := fsg e8 g (by decide)
  obtain ⟨v9, h⟩ := h
  obtain ⟨G10, e11, h⟩ := st_all h
  have g := ffillg e11 g (by decide)
  obtain ⟨G12, e13, h⟩ := st_all h
  have g := fsg e13 g (by decide)
  obtain ⟨G14, e15, h⟩ := st_all h
  have g := fsg e15 g (by decide)
  obtain ⟨G16, e17, h⟩ := st_all h
  have g := fsg e17 g (by decide)
  exact ⟨_, h, g, fun K2 h2 => by unfold PZ_X1_init_3; exact And.intro v1 (all_g e3 (all_g e5 (And.intro v6 (all_g e8 (And.intro v9 (all_g e11 (all_g e13 (all_g e15 (all_g e17 (h2)))))))))), fun K2 q => by unfold PZ_X1_init_3 at q; have q := q.2; have q := all_h e3 q; have q := all_h e5 q; have q := q.2; have q := all_h e8 q; have q := q.2; have q := all_h e11 q; have q := all_h e13 q; have q := all_h e15 q; have q := all_h e17 q; exact q⟩
theorem lu__X1_init_4 {F : GF} {K : GF → Prop} (h : PZ_X1_init_4 F K) : ∃ (F1 : GF), K F1 ∧ (∀ f, f ∉ ([28, 31] : List Nat) → F1 f = F f) ∧ (∀ (K2 : GF → Prop), K2 F1 → PZ_X1_init_4 F K2) ∧ ∀ (K2 : GF → Prop), PZ_X1_init_4 F K2 → K2 F1 := by
  have g : ∀ f, f ∉ ([28, 31] : List Nat) → F f = F f := fun _ _ => rfl
  unfold PZ_X1_init_4 at h
  obtain ⟨v1, h⟩ := h
  obtain ⟨G2, e3, h⟩ := st_all h
  have g := fsg e3 g (by decide)
  obtain ⟨G4, e5, h⟩ := st_all h
  have g := fsg e5 g (by decide)
  obtain ⟨v6, h⟩ := h
  obtain ⟨G7, e8, h⟩ := st_all h
  have g := fsg e8 g (by decide)
  obtain ⟨v9, h⟩ := h
  obtain ⟨G10, e11, h⟩ := st_all h
  have g := ffillg e11 g (by decide)
  obtain ⟨G12, e13, h⟩ := st_all h
  have g := fsg e13 g (by decide)
  obtain ⟨G14, e15, h⟩ := st_all h
  have g := fsg e15 g (by decide)
  obtain ⟨G16, e17, h⟩ := st_all h
  have g := fsg e17 g (by decide)
  exact ⟨_, h, g, fun K2 h2 => by unfold PZ_X1_init_4; exact And.intro v1 (all_g e3 (all_g e5 (And.intro v6 (all_g e8 (And.intro v9 (all_g e11 (all_g e13 (all_g e15 (all_g e17 (h2)))))))))), fun K2 q => by unfold PZ_X1_init_4 at q; have q := q.2; have q := all_h e3 q; have q := all_h e5 q; have q := q.2; have q := all_h e8 q; have q := q.2; have q := all_h e11 q; have q := all_h e13 q; have q := all_h e15 q; have q := all_h e17 q; exact q⟩
theorem lu__X2_init {F : GF} {K : GF → Prop} (h : PZ_X2_init F K) : ∃ (F1 : GF), K F1 ∧ (∀ f, f ∉ ([10, 12, 13, 16, 20, 21, 25, 28, 31] : List Nat) → F1 f = F f) ∧ (∀ (K2 : GF → Prop), K2 F1 → PZ_X2_init F K2) ∧ ∀ (K2 : GF → Prop), PZ_X2_init F K2 → K2 F1 := by
  have g : ∀ f, f ∉ ([10, 12, 13, 16, 20, 21, 25, 28, 31] : List Nat) → F f = F f := fun _ _ => rfl
  unfold PZ_X2_init at h
  obtain ⟨G1, e2, h⟩ := st_all h
  have g := fsg e2 g (by decide)
  obtain ⟨G3, e4, h⟩ := st_all h
  have g := fsg e4 g (by decide)
  obtain ⟨G5, e6, h⟩ := st_all h
  have g := fsg e6 g (by decide)
  obtain ⟨G7, e8, h⟩ := st_all h
  have g := fsg e8 g (by decide)
  obtain ⟨G9, e10, h⟩ := st_all h
  have g := fsg e10 g (by decide)
  obtain ⟨v11, h⟩ := h
  obtain ⟨G12, e13, h⟩ := st_all h
  have g := fsg e13 g (by decide)
  obtain ⟨v14, h⟩ := h
  obtain ⟨G16, h, g17, b18, ub18⟩ := lu__X5_init h
  have g := gcomp (by decide) g g17
  obtain ⟨G19, e20, h⟩ := st_all h
  have g := fsg e20 g (by decide)
  obtain ⟨v21, h⟩ := h
  obtain ⟨G23, h, g24, b25, ub25⟩ := lu__X3_init h
  have g := gcomp (by decide) g g24
  obtain ⟨G26, e27, h⟩ := st_all h
  have g := fsg e27 g (by decide)
  obtain ⟨v28, h⟩ := h
  obtain ⟨G29, e30, h⟩ := st_all h
  have g := fsg e30 g (by decide)
  obtain ⟨v31, h⟩ := h
  obtain ⟨G33, h, g34, b35, ub35⟩ := lu__X0_init h
  have g := gcomp (by decide) g g34
  obtain ⟨G36, e37, h⟩ := st_all h
  have g := fsg e37 g (by decide)
  obtain ⟨v38, h⟩ := h
  obtain ⟨v39, h⟩ := h
  obtain ⟨G41, h, g42, b43, ub43⟩ := lu__X1_init_0 h
  have g := gcomp (by decide) g g42
  obtain ⟨G44, e45, h⟩ := st_all h
  have g := fsg e45 g (by decide)
  obtain ⟨v46, h⟩ := h
  obtain ⟨v47, h⟩ := h
  obtain ⟨G49, h, g50, b51, ub51⟩ := lu__X1_init_1 h
  have g := gcomp (by decide) g g50
  obtain ⟨G52, e53, h⟩ := st_all h
  have g := fsg e53 g (by decide)
  obtain ⟨v54, h⟩ := h
  obtain ⟨v55, h⟩ := h
  obtain ⟨G57, h, g58, b59, ub59⟩ := lu__X1_init_2 h
  have g := gcomp (by decide) g g58
  obtain ⟨G60, e61, h⟩ := st_all h
  have g := fsg e61 g (by decide)
  obtain ⟨v62, h⟩ := h
  obtain ⟨v63, h⟩ := h
  obtain ⟨G65, h, g66, b67, ub67⟩ := lu__X1_init_3 h
  have g := gcomp (by decide) g g66
  obtain ⟨G68, e69, h⟩ := st_all h
  have g := fsg e69 g (by decide)
  obtain ⟨v70, h⟩ := h
  obtain ⟨v71, h⟩ := h
  obtain ⟨G73, h, g74, b75, ub75⟩ := lu__X1_init_4 h
  have g := gcomp (by decide) g g74
  obtain ⟨G76, e77, h⟩ := st_all h
  have g := fsg e77 g (by decide)
  exact ⟨_, h, g, fun K2 h2 => by unfold PZ_X2_init; exact all_g e2 (all_g e4 (all_g e6 (all_g e8 (all_g e10 (And.intro v11 (all_g e13 (And.intro v14 (b18 _ (all_g e20 (And.intro v21 (b25 _ (all_g e27 (And.intro v28 (all_g e30 (And.intro v31 (b35 _ (all_g e37 (And.intro v38 (And.intro v39 (b43 _ (all_g e45 (And.intro v46 (And.intro v47 (b51 _ (all_g e53 (And.intro v54 (And.intro v55 (b59 _ (all_g e61 (And.intro v62 (And.intro v63 (b67 _ (all_g e69 (And.intro v70 (And.intro v71 (b75 _ (all_g e77 (h2)))))))))))))))))))))))))))))))))))))), fun K2 q => by unfold PZ_X2_init at q; have q := all_h e2 q; have q := all_h e4 q; have q := all_h e6 q; have q := all_h e8 q; have q := all_h e10 q; have q := q.2; have q := all_h e13 q; have q := q.2; have q := ub18 _ q; have q := all_h e20 q; have q := q.2; have q := ub25 _ q; have q := all_h e27 q; have q := q.2; have q := all_h e30 q; have q := q.2; have q := ub35 _ q; have q := all_h e37 q; have q := q.2; have q := q.2; have q := ub43 _ q; have q := all_h e45 q; have q := q.2; have q := q.2; have q := ub51 _ q; have q := all_h e53 q; have q := q.2; have q := q.2; have q := ub59 _ q; have q := all_h e61 q; have q := q.2; have q := q.2; have q := ub67 _ q; have q := all_h e69 q; have q := q.2; have q := q.2; have q := ub75 _ q; have q := all_h e77 q; exact q⟩
theorem lu__X6_init {F : GF} {K : GF → Prop} (h : PZ_X6_init F K) : ∃ (F1 : GF), K F1 ∧ (∀ f, f ∉ ([27] : List Nat) → F1 f = F f) ∧ (∀ (K2 : GF → Prop), K2 F1 → PZ_X6_init F K2) ∧ ∀ (K2 : GF → Prop), PZ_X6_init F K2 → K2 F1 := by
  have g : ∀ f, f ∉ ([27] : List Nat) → F f = F f := fun _ _ => rfl
  unfold PZ_X6_init at h
  obtain ⟨v1, h⟩ := h
  obtain ⟨G2, e3, h⟩ := st_all h
  have g := fsg e3 g (by decide)
  obtain ⟨v4, h⟩ := h
  obtain ⟨G5, e6, h⟩ := st_all h
  have g := fsg e6 g (by decide)
  obtain ⟨v7, h⟩ := h
  obtain ⟨G8, e9, h⟩ := st_all h
  have g := fsg e9 g (by decide)
  obtain ⟨v10, h⟩ := h
  obtain ⟨G11, e12, h⟩ := st_all h
  have g := fsg e12 g (by decide)
  obtain ⟨G13, e14, h⟩ := st_all h
  have g := fsg e14 g (by decide)
  obtain ⟨G15, e16, h⟩ := st_all h
  have g := fsg e16 g (by decide)
  obtain ⟨G17, e18, h⟩ := st_all h
  have g := fsg e18 g (by decide)
  exact ⟨_, h, g, fun K2 h2 => by unfold PZ_X6_init; exact And.intro v1 (all_g e3 (And.intro v4 (all_g e6 (And.intro v7 (all_g e9 (And.intro v10 (all_g e12 (all_g e14 (all_g e16 (all_g e18 (h2))))))))))), fun K2 q => by unfold PZ_X6_init at q; have q := q.2; have q := all_h e3 q; have q := q.2; have q := all_h e6 q; have q := q.2; have q := all_h e9 q; have q := q.2; have q := all_h e12 q; have q := all_h e14 q; have q := all_h e16 q; have q := all_h e18 q; exact q⟩
theorem lu__X4_init_0 {F : GF} {K : GF → Prop} (h : PZ_X4_init_0 F K) : ∃ (F1 : GF), K F1 ∧ (∀ f, f ∉ ([33] : List Nat) → F1 f = F f) ∧ (∀ (K2 : GF → Prop), K2 F1 → PZ_X4_init_0 F K2) ∧ ∀ (K2 : GF → Prop), PZ_X4_init_0 F K2 → K2 F1 := by
  have g : ∀ f, f ∉ ([33] : List Nat) → F f = F f := fun _ _ => rfl
  unfold PZ_X4_init_0 at h
  obtain ⟨G1, e2, h⟩ := st_all h
  have g := fsg e2 g (by decide)
  obtain ⟨G3, e4, h⟩ := st_all h
  have g := fsg e4 g (by decide)
  obtain ⟨G5, e6, h⟩ := st_all h
  have g := fsg e6 g (by decide)
  exact ⟨_, h, g, fun K2 h2 => by unfold PZ_X4_init_0; exact all_g e2 (all_g e4 (all_g e6 (h2))), fun K2 q => by unfold PZ_X4_init_0 at q; have q := all_h e2 q; have q := all_h e4 q; have q := all_h e6 q; exact q⟩
theorem lu__X4_init_1 {F : GF} {K : GF → Prop} (h : PZ_X4_init_1 F K) : ∃ (F1 : GF), K F1 ∧ (∀ f, f ∉ ([33] : List Nat) → F1 f = F f) ∧ (∀ (K2 : GF → Prop), K2 F1 → PZ_X4_init_1 F K2) ∧ ∀ (K2 : GF → Prop), PZ_X4_init_1 F K2 → K2 F1 := by
  have g : ∀ f, f ∉ ([33] : List Nat) → F f = F f := fun _ _ => rfl
  unfold PZ_X4_init_1 at h
  obtain ⟨G1, e2, h⟩ := st_all h
  have g := fsg e2 g (by decide)
  obtain ⟨G3, e4, h⟩ := st_all h
  have g := fsg e4 g (by decide)
  obtain ⟨G5, e6, h⟩ := st_all h
  have g := fsg e6 g (by decide)
  exact ⟨_, h, g, fun K2 h2 => by unfold PZ_X4_init_1; exact all_g e2 (all_g e4 (all_g e6 (h2))), fun K2 q => by unfold PZ_X4_init_1 at q; have q := all_h e2 q; have q := all_h e4 q; have q := all_h e6 q; exact q⟩
theorem lu__X4_init_2 {F : GF} {K : GF → Prop} (h : PZ_X4_init_2 F K) : ∃ (F1 : GF), K F1 ∧ (∀ f, f ∉ ([33] : List Nat) → F1 f = F f) ∧ (∀ (K2 : GF → Prop), K2 F1 → PZ_X4_init_2 F K2) ∧ ∀ (K2 : GF → Prop), PZ_X4_init_2 F K2 → K2 F1 := by
  have g : ∀ f, f ∉ ([33] : List Nat) → F f = F f := fun _ _ => rfl
  unfold PZ_X4_init_2 at h
  obtain ⟨G1, e2, h⟩ := st_all h
  have g := fsg e2 g (by decide)
  obtain ⟨G3, e4, h⟩ := st_all h
  have g := fsg e4 g (by decide)
  obtain ⟨G5, e6, h⟩ := st_all h
  have g := fsg e6 g (by decide)
  exact ⟨_, h, g, fun K2 h2 => by unfold PZ_X4_init_2; exact all_g e2 (all_g e4 (all_g e6 (h2))), fun K2 q => by unfold PZ_X4_init_2 at q; have q := all_h e2 q; have q := all_h e4 q; have q := all_h e6 q; exact q⟩
theorem lu__X4_init_3 {F : GF} {K : GF → Prop} (h : PZ_X4_init_3 F K) : ∃ (F1 : GF), K F1 ∧ (∀ f, f ∉ ([33] : List Nat) → F1 f = F f) ∧ (∀ (K2 : GF → Prop), K2 F1 → PZ_X4_init_3 F K2) ∧ ∀ (K2 : GF → Prop), PZ_X4_init_3 F K2 → K2 F1 := by
  have g : ∀ f, f ∉ ([33] : List Nat) → F f = F f := fun _ _ => rfl
  unfold PZ_X4_init_3 at h
  obtain ⟨G1, e2, h⟩ := st_all h
  have g := fsg e2 g (by decide)
  obtain ⟨G3, e4, h⟩ := st_all h
  have g := fsg e4 g (by decide)
  obtain ⟨G5, e6, h⟩ := st_all h
  have g := fsg e6 g (by decide)
  exact ⟨_, h, g, fun K2 h2 => by unfold PZ_X4_init_3; exact all_g e2 (all_g e4 (all_g e6 (h2))), fun K2 q => by unfold PZ_X4_init_3 at q; have q := all_h e2 q; have q := all_h e4 q; have q := all_h e6 q; exact q⟩
theorem lu__X4_init_4 {F : GF} {K : GF → Prop} (h : PZ_X4_init_4 F K) : ∃ (F1 : GF), K F1 ∧ (∀ f, f ∉ ([33] : List Nat) → F1 f = F f) ∧ (∀ (K2 : GF → Prop), K2 F1 → PZ_X4_init_4 F K2) ∧ ∀ (K2 : GF → Prop), PZ_X4_init_4 F K2 → K2 F1 := by
  have g : ∀ f, f ∉ ([33] : List Nat) → F f = F f := fun _ _ => rfl
  unfold PZ_X4_init_4 at h
  obtain ⟨G1, e2, h⟩ := st_all h
  have g := fsg e2 g (by decide)
  obtain ⟨G3, e4, h⟩ := st_all h
  have g := fsg e4 g (by decide)
  obtain ⟨G5, e6, h⟩ := st_all h
  have g := fsg e6 g (by decide)
  exact ⟨_, h, g, fun K2 h2 => by unfold PZ_X4_init_4; exact all_g e2 (all_g e4 (all_g e6 (h2))), fun K2 q => by unfold PZ_X4_init_4 at q; have q := all_h e2 q; have q := all_h e4 q; have q := all_h e6 q; exact q⟩
theorem lu__X4_init_5 {F : GF} {K : GF → Prop} (h : PZ_X4_init_5 F K) : ∃ (F1 : GF), K F1 ∧ (∀ f, f ∉ ([33] : List Nat) → F1 f = F f) ∧ (∀ (K2 : GF → Prop), K2 F1 → PZ_X4_init_5 F K2) ∧ ∀ (K2 : GF → Prop), PZ_X4_init_5 F K2 → K2 F1 := by
  have g : ∀ f, f ∉ ([33] : List Nat) → F f = F f := fun _ _ => rfl
  unfold PZ_X4_init_5 at h
  obtain ⟨G1, e2, h⟩ := st_all h
  have g := fsg e2 g (by decide)
  obtain ⟨G3, e4, h⟩ := st_all h
  have g := fsg e4 g (by decide)
  obtain ⟨G5, e6, h⟩ := st_all h
  have g := fsg e6 g (by decide)
  exact ⟨_, h, g, fun K2 h2 => by unfold PZ_X4_init_5; exact all_g e2 (all_g e4 (all_g e6 (h2))), fun K2 q => by unfold PZ_X4_init_5 at q; have q := all_h e2 q; have q := all_h e4 q; have q := all_h e6 q; exact q⟩
theorem lu__X4_init_6 {F : GF} {K : GF → Prop} (h : PZ_X4_init_6 F K) : ∃ (F1 : GF), K F1 ∧ (∀ f, f ∉ ([33] : List Nat) → F1 f = F f) ∧ (∀ (K2 : GF → Prop), K2 F1 → PZ_X4_init_6 F K2) ∧ ∀ (K2 : GF → Prop), PZ_X4_init_6 F K2 → K2 F1 := by
  have g : ∀ f, f ∉ ([33] : List Nat) → F f = F f := fun _ _ => rfl
  unfold PZ_X4_init_6 at h
  obtain ⟨G1, e2, h⟩ := st_all h
  have g := fsg e2 g (by decide)
  obtain ⟨G3, e4, h⟩ := st_all h
  have g := fsg e4 g (by decide)
  obtain ⟨G5, e6, h⟩ := st_all h
  have g := fsg e6 g (by decide)
  exact ⟨_, h, g, fun K2 h2 => by unfold PZ_X4_init_6; exact all_g e2 (all_g e4 (all_g e6 (h2))), fun K2 q => by unfold PZ_X4_init_6 at q; have q := all_h e2 q; have q := all_h e4 q; have q := all_h e6 q; exact q⟩
theorem lu__X4_init_7 {F : GF} {K : GF → Prop} (h : PZ_X4_init_7 F K) : ∃ (F1 : GF), K F1 ∧ (∀ f, f ∉ ([33] : List Nat) → F1 f = F f) ∧ (∀ (K2 : GF → Prop), K2 F1 → PZ_X4_init_7 F K2) ∧ ∀ (K2 : GF → Prop), PZ_X4_init_7 F K2 → K2 F1 := by
  have g : ∀ f, f ∉ ([33] : List Nat) → F f = F f := fun _ _ => rfl
  unfold PZ_X4_init_7 at h
  obtain ⟨G1, e2, h⟩ := st_all h
  have g := fsg e2 g (by decide)
  obtain ⟨G3, e4, h⟩ := st_all h
  have g := fsg e4 g (by decide)
  obtain ⟨G5, e6, h⟩ := st_all h
  have g := fsg e6 g (by decide)
  exact ⟨_, h, g, fun K2 h2 => by unfold PZ_X4_init_7; exact all_g e2 (all_g e4 (all_g e6 (h2))), fun K2 q => by unfold PZ_X4_init_7 at q; have q := all_h e2 q; have q := all_h e4 q; have q := all_h e6 q; exact q⟩
theorem lu__X4_init_8 {F : GF} {K : GF → Prop} (h : PZ_X4_init_8 F K) : ∃ (F1 : GF), K F1 ∧ (∀ f, f ∉ ([33] : List Nat) → F1 f = F f) ∧ (∀ (K2 : GF → Prop), K2 F1 → PZ_X4_init_8 F K2) ∧ ∀ (K2 : GF → Prop), PZ_X4_init_8 F K2 → K2 F1 := by
  have g : ∀ f, f ∉ ([33] : List Nat) → F f = F f := fun _ _ => rfl
  unfold PZ_X4_init_8 at h
  obtain ⟨G1, e2, h⟩ := st_all h
  have g := fsg e2 g (by decide)
  obtain ⟨G3, e4, h⟩ := st_all h
  have g := fsg e4 g (by decide)
  obtain ⟨G5, e6, h⟩ := st_all h
  have g := fsg e6 g (by decide)
  exact ⟨_, h, g, fun K2 h2 => by unfold PZ_X4_init_8; exact all_g e2 (all_g e4 (all_g e6 (h2))), fun K2 q => by unfold PZ_X4_init_8 at q; have q := all_h e2 q; have q := all_h e4 q; have q := all_h e6 q; exact q⟩
theorem lu__X4_init_9 {F : GF} {K : GF → Prop} (h : PZ_X4_init_9 F K) : ∃ (F1 : GF), K F1 ∧ (∀ f, f ∉ ([33] : List Nat) → F1 f = F f) ∧ (∀ (K2 : GF → Prop), K2 F1 → PZ_X4_init_9 F K2) ∧ ∀ (K2 : GF → Prop), PZ_X4_init_9 F K2 → K2 F1 := by
  have g : ∀ f, f ∉ ([33] : List Nat) → F f = F f := fun _ _ => rfl
  unfold PZ_X4_init_9 at h
  obtain ⟨G1, e2, h⟩ := st_all h
  have g := fsg e2 g (by decide)
  obtain ⟨G3, e4, h⟩ := st_all h
  have g := fsg e4 g (by decide)
  obtain ⟨G5, e6, h⟩ := st_all h
  have g := fsg e6 g (by decide)
  exact ⟨_, h, g, fun K2 h2 => by unfold PZ_X4_init_9; exact all_g e2 (all_g e4 (all_g e6 (h2))), fun K2 q => by unfold PZ_X4_init_9 at q; have q := all_h e2 q; have q := all_h e4 q; have q := all_h e6 q; exact q⟩
theorem lu__X4_init_10 {F : GF} {K : GF → Prop} (h : PZ_X4_init_10 F K) : ∃ (F1 : GF), K F1 ∧ (∀ f, f ∉ ([33] : List Nat) → F1 f = F f) ∧ (∀ (K2 : GF → Prop), K2 F1 → PZ_X4_init_10 F K2) ∧ ∀ (K2 : GF → Prop), PZ_X4_init_10 F K2 → K2 F1 := by
  have g : ∀ f, f ∉ ([33] : List Nat) → F f = F f := fun _ _ => rfl
  unfold PZ_X4_init_10 at h
  obtain ⟨G1, e2, h⟩ := st_all h
  have g := fsg e2 g (by decide)
  obtain ⟨G3, e4, h⟩ := st_all h
  have g := fsg e4 g (by decide)
  obtain ⟨G5, e6, h⟩ := st_all h
  have g := fsg e6 g (by decide)
  exact ⟨_, h, g, fun K2 h2 => by unfold PZ_X4_init_10; exact all_g e2 (all_g e4 (all_g e6 (h2))), fun K2 q => by unfold PZ_X4_init_10 at q; have q := all_h e2 q; have q := all_h e4 q; have q := all_h e6 q; exact q⟩
theorem lu__X4_init_11 {F : GF} {K : GF → Prop} (h : PZ_X4_init_11 F K) : ∃ (F1 : GF), K F1 ∧ (∀ f, f ∉ ([33] : List Nat) → F1 f = F f) ∧ (∀ (K2 : GF → Prop), K2 F1 → PZ_X4_init_11 F K2) ∧ ∀ (K2 : GF → Prop), PZ_X4_init_11 F K2 → K2 F1 := by
  have g : ∀ f, f ∉ ([33] : List Nat) → F f = F f := fun _ _ => rfl
  unfold PZ_X4_init_11 at h
  obtain ⟨G1, e2, h⟩ := st_all h
  have g := fsg e2 g (by decide)
  obtain ⟨G3, e4, h⟩ := st_all h
  have g := fsg e4 g (by decide)
  obtain ⟨G5, e6, h⟩ := st_all h
  have g := fsg e6 g (by decide)
  exact ⟨_, h, g, fun K2 h2 => by unfold PZ_X4_init_11; exact all_g e2 (all_g e4 (all_g e6 (h2))), fun K2 q => by unfold PZ_X4_init_11 at q; have q := all_h e2 q; have q := all_h e4 q; have q := all_h e6 q; exact q⟩
theorem lu__X4_init_12 {F : GF} {K : GF → Prop} (h : PZ_X4_init_12 F K) : ∃ (F1 : GF), K F1 ∧ (∀ f, f ∉ ([33] : List Nat) → F1 f = F f) ∧ (∀ (K2 : GF → Prop), K2 F1 → PZ_X4_init_12 F K2) ∧ ∀ (K2 : GF → Prop), PZ_X4_init_12 F K2 → K2 F1 := by
  have g : ∀ f, f ∉ ([33] : List Nat) → F f = F f := fun _ _ => rfl
  unfold PZ_X4_init_12 at h
  obtain ⟨G1, e2, h⟩ := st_all h
  have g := fsg e2 g (by decide)
  obtain ⟨G3, e4, h⟩ := st_all h
  have g := fsg e4 g (by decide)
  obtain ⟨G5, e6, h⟩ := st_all h
  have g := fsg e6 g (by decide)
  exact ⟨_, h, g, fun K2 h2 => by unfold PZ_X4_init_12; exact all_g e2 (all_g e4 (all_g e6 (h2))), fun K2 q => by unfold PZ_X4_init_12 at q; have q := all_h e2 q; have q := all_h e4 q; have q := all_h e6 q; exact q⟩
theorem lu__X4_init_13 {F : GF} {K : GF → Prop} (h : PZ_X4_init_13 F K) : ∃ (F1 : GF), K F1 ∧ (∀ f, f ∉ ([33] : List Nat) → F1 f = F f) ∧ (∀ (K2 : GF → Prop), K2 F1 → PZ_X4_init_13 F K2) ∧ ∀ (K2 : GF → Prop), PZ_X4_init_13 F K2 → K2 F1 := by
  have g : ∀ f, f ∉ ([33] : List Nat) → F f = F f := fun _ _ => rfl
  unfold PZ_X4_init_13 at h
  obtain ⟨G1, e2, h⟩ := st_all h
  have g := fsg e2 g (by decide)
  obtain ⟨G3, e4, h⟩ := st_all h
  have g := fsg e4 g (by decide)
  obtain ⟨G5, e6, h⟩ := st_all h
  have g := fsg e6 g (by decide)
  exact ⟨_, h, g, fun K2 h2 => by unfold PZ_X4_init_13; exact all_g e2 (all_g e4 (all_g e6 (h2))), fun K2 q => by unfold PZ_X4_init_13 at q; have q := all_h e2 q; have q := all_h e4 q; have q := all_h e6 q; exact q⟩
theorem lu__X4_init_14 {F : GF} {K : GF → Prop} (h : PZ_X4_init_14 F K) : ∃ (F1 : GF), K F1 ∧ (∀ f, f ∉ ([33] : List Nat) → F1 f = F f) ∧ (∀ (K2 : GF → Prop), K2 F1 → PZ_X4_init_14 F K2) ∧ ∀ (K2 : GF → Prop), PZ_X4_init_14 F K2 → K2 F1 := by
  have g : ∀ f, f ∉ ([33] : List Nat) → F f = F f := fun _ _ => rfl
  unfold PZ_X4_init_14 at h
  obtain ⟨G1, e2, h⟩ := st_all h
  have g := fsg e2 g (by decide)
  obtain ⟨G3, e4, h⟩ := st_all h
  have g := fsg e4 g (by decide)
  obtain ⟨G5, e6, h⟩ := st_all h
  have g := fsg e6 g (by decide)
  exact ⟨_, h, g, fun K2 h2 => by unfold PZ_X4_init_14; exact all_g e2 (all_g e4 (all_g e6 (h2))), fun K2 q => by unfold PZ_X4_init_14 at q; have q := all_h e2 q; have q := all_h e4 q; have q := all_h e6 q; exact q⟩
theorem lu__X4_init_15 {F : GF} {K : GF → Prop} (h : PZ_X4_init_15 F K) : ∃ (F1 : GF), K F1 ∧ (∀ f, f ∉ ([33] : List Nat) → F1 f = F f) ∧ (∀ (K2 : GF → Prop), K2 F1 → PZ_X4_init_15 F K2) ∧ ∀ (K2 : GF → Prop), PZ_X4_init_15 F K2 → K2 F1 := by
  have g : ∀ f, f ∉ ([33] : List Nat) → F f = F f := fun _ _ => rfl
  unfold PZ_X4_init_15 at h
  obtain ⟨G1, e2, h⟩ := st_all h
  have g := fsg e2 g (by decide)
  obtain ⟨G3, e4, h⟩ := st_all h
  have g := fsg e4 g (by decide)
  obtain ⟨G5, e6, h⟩ := st_all h
  have g := fsg e6 g (by decide)
  exact ⟨_, h, g, fun K2 h2 => by unfold PZ_X4_init_15; exact all_g e2 (all_g e4 (all_g e6 (h2))), fun K2 q => by unfold PZ_X4_init_15 at q; have q := all_h e2 q; have q := all_h e4 q; have q := all_h e6 q; exact q⟩
theorem lu__X4_init_16 {F : GF} {K : GF → Prop} (h : PZ_X4_init_16 F K) : ∃ (F1 : GF), K F1 ∧ (∀ f, f ∉ ([33] : List Nat) → F1 f = F f) ∧ (∀ (K2 : GF → Prop), K2 F1 → PZ_X4_init_16 F K2) ∧ ∀ (K2 : GF → Prop), PZ_X4_init_16 F K2 → K2 F1 := by
  have g : ∀ f, f ∉ ([33] : List Nat) → F f = F f := fun _ _ => rfl
  unfold PZ_X4_init_16 at h
  obtain ⟨G1, e2, h⟩ := st_all h
  have g := fsg e2 g (by decide)
  obtain ⟨G3, e4, h⟩ := st_all h
  have g := fsg e4 g (by decide)
  obtain ⟨G5, e6, h⟩ := st_all h
  have g := fsg e6 g (by decide)
  exact ⟨_, h, g, fun K2 h2 => by unfold PZ_X4_init_16; exact all_g e2 (all_g e4 (all_g e6 (h2))), fun K2 q => by unfold PZ_X4_init_16 at q; have q := all_h e2 q; have q := all_h e4 q; have q := all_h e6 q; exact q⟩
theorem lu__X4_init_17 {F : GF} {K : GF → Prop} (h : PZ_X4_init_17 F K) : ∃ (F1 : GF), K F1 ∧ (∀ f, f ∉ ([33] : List Nat) → F1 f = F f) ∧ (∀ (K2 : GF → Prop), K2 F1 → PZ_X4_init_17 F K2) ∧ ∀ (K2 : GF → Prop), PZ_X4_init_17 F K2 → K2 F1 := by
  have g : ∀ f, f ∉ ([33] : List Nat) → F f = F f := fun _ _ => rfl
  unfold PZ_X4_init_17 at h
  obtain ⟨G1, e2, h⟩ := st_all h
  have g := fsg e2 g (by decide)
  obtain ⟨G3, e4, h⟩ := st_all h
  have g := fsg e4 g (by decide)
  obtain ⟨G5, e6, h⟩ := st_all h
  have g := fsg e6 g (by decide)
  exact ⟨_, h, g, fun K2 h2 => by unfold PZ_X4_init_17; exact all_g e2 (all_g e4 (all_g e6 (h2))), fun K2 q => by unfold PZ_X4_init_17 at q; have q := all_h e2 q; have q := all_h e4 q; have q := all_h e6 q; exact q⟩
theorem lu__X4_init_18 {F : GF} {K : GF → Prop} (h : PZ_X4_init_18 F K) : ∃ (F1 : GF), K F1 ∧ (∀ f, f ∉ ([33] : List Nat) → F1 f = F f) ∧ (∀ (K2 : GF → Prop), K2 F1 → PZ_X4_init_18 F K2) ∧ ∀ (K2 : GF → Prop), PZ_X4_init_18 F K2 → K2 F1 := by
  have g : ∀ f, f ∉ ([33] : List Nat) → F f = F f := fun _ _ => rfl
  unfold PZ_X4_init_18 at h
  obtain ⟨G1, e2, h⟩ := st_all h
  have g := fsg e2 g (by decide)
  obtain ⟨G3, e4, h⟩ := st_all h
  have g := fsg e4 g (by decide)
  obtain ⟨G5, e6, h⟩ := st_all h
  have g := fsg e6 g (by decide)
  exact ⟨_, h, g, fun K2 h2 => by unfold PZ_X4_init_18; exact all_g e2 (all_g e4 (all_g e6 (h2))), fun K2 q => by unfold PZ_X4_init_18 at q; have q := all_h e2 q; have q := all_h e4 q; have q := all_h e6 q; exact q⟩
theorem lu__X4_init_19 {F : GF} {K : GF → Prop} (h : PZ_X4_init_19 F K) : ∃ (F1 : GF), K F1 ∧ (∀ f, f ∉ ([33] : List Nat) → F1 f = F f) ∧ (∀ (K2 : GF → Prop), K2 F1 → PZ_X4_init_19 F K2) ∧ ∀ (K2 : GF → Prop), PZ_X4_init_19 F K2 → K2 F1 := by
  have g : ∀ f, f ∉ ([33] : List Nat) → F f = F f := fun _ _ => rfl
  unfold PZ_X4_init_19 at h
  obtain ⟨G1, e2, h⟩ := st_all h
  have g := fsg e2 g (by decide)
  obtain ⟨G3, e4, h⟩ := st_all h
  have g := fsg e4 g (by decide)
  obtain ⟨G5, e6, h⟩ := st_all h
  have g := fsg e6 g (by decide)
  exact ⟨_, h, g, fun K2 h2 => by unfold PZ_X4_init_19; exact all_g e2 (all_g e4 (all_g e6 (h2))), fun K2 q => by unfold PZ_X4_init_19 at q; have q := all_h e2 q; have q := all_h e4 q; have q := all_h e6 q; exact q⟩
theorem lu__X10_init {F : GF} {K : GF → Prop} (h : PZ_X10_init F K) : ∃ (F1 : GF), K F1 ∧ (∀ f, f ∉ ([0, 1, 5, 6, 10, 12, 13, 16, 20, 21, 25, 27, 28, 31, 33] : List Nat) → F1 f = F f) ∧ (∀ (K2 : GF → Prop), K2 F1 → PZ_X10_init F K2) ∧ ∀ (K2 : GF → Prop), PZ_X10_init F K2 → K2 F1 := by
  have g : ∀ f, f ∉ ([0, 1, 5, 6, 10, 12, 13, 16, 20, 21, 25, 27, 28, 31, 33] : List Nat) → F f = F f := fun _ _ => rfl
  unfold PZ_X10_init at h
  obtain ⟨v1, h⟩ := h
  obtain ⟨G3, h, g4, b5, ub5⟩ := lu__X9_init h
  have g := gcomp (by decide) g g4
  obtain ⟨G6, e7, h⟩ := st_all h
  have g := fsg e7 g (by decide)
  obtain ⟨v8, h⟩ := h
  obtain ⟨G9, e10, h⟩ := st_all h
  have g := fsg e10 g (by decide)
  obtain ⟨G11, e12, h⟩ := st_all h
  have g := fsg e12 g (by decide)
  obtain ⟨v13, h⟩ := h
  obtain ⟨G15, h, g16, b17, ub17⟩ := lu__X7_init h
  have g := gcomp (by decide) g g16
  obtain ⟨G18, e19, h⟩ := st_all h
  have g := fsg e19 g (by decide)
  obtain ⟨v20, h⟩ := h
  obtain ⟨G21, e22, h⟩ := st_all h
  have g := fsg e22 g (by decide)
  obtain ⟨G23, e24, h⟩ := st_all h
  have g := fsg e24 g (by decide)
  obtain ⟨v25, h⟩ := h
  obtain ⟨G27, h, g28, b29, ub29⟩ := lu__X2_init h
  have g := gcomp (by decide) g g28
  obtain ⟨G30, e31, h⟩ := st_all h
  have g := fsg e31 g (by decide)
  obtain ⟨v32, h⟩ := h
  obtain ⟨G34, h, g35, b36, ub36⟩ := lu__X6_init h
  have g := gcomp (by decide) g g35
  obtain ⟨G37, e38, h⟩ := st_all h
  have g := fsg e38 g (by decide)
  obtain ⟨v39, h⟩ := h
  obtain ⟨v40, h⟩ := h
  obtain ⟨G42, h, g43, b44, ub44⟩ := lu__X4_init_0 h
  have g := gcomp (by decide) g g43
  obtain ⟨G45, e46, h⟩ := st_all h
  have g := fsg e46 g (by decide)
  obtain ⟨v47, h⟩ := h
  obtain ⟨v48, h⟩ := h
  obtain ⟨G50, h, g51, b52, ub52⟩ := lu__X4_init_1 h
  have g := gcomp (by decide) g g51
  obtain ⟨G53, e54, h⟩ := st_all h
  have g := fsg e54 g (by decide)
  obtain ⟨v55, h⟩ := h
  obtain ⟨v56, h⟩ := h
  obtain ⟨G58, h, g59, b60, ub60⟩ := lu__X4_init_2 h
  have g := gcomp (by decide) g g59
  obtain ⟨G61, e62, h⟩ := st_all h
  have g := fsg e62 g (by decide)
  obtain ⟨v63, h⟩ := h
  obtain ⟨v64, h⟩ := h
  obtain ⟨G66, h, g67, b68, ub68⟩ := lu__X4_init_3 h
  have g := gcomp (by decide) g g67
  obtain ⟨G69, e70, h⟩ := st_all h
  have g := fsg e70 g (by decide)
  obtain ⟨v71, h⟩ := h
  obtain ⟨v72, h⟩ := h
  obtain ⟨G74, h, g75, b76, ub76⟩ := lu__X4_init_4 h
  have g := gcomp (by decide) g g75
  obtain ⟨G77, e78, h⟩ := st_all h
  have g := fsg e78 g (by decide)
  obtain ⟨v79, h⟩ := h
  obtain ⟨v80, h⟩ := h
  obtain ⟨G82, h, g83, b84, ub84⟩ := lu__X4_init_5 h
  have g := gcomp (by decide) g g83
  obtain ⟨G85, e86, h⟩ := st_all h
  have g := fsg e86 g (by decide)
  obtain ⟨v87, h⟩ := h
  obtain ⟨v88, h⟩ := h
  obtain ⟨G90, h, g91, b92, ub92⟩ := lu__X4_init_6 h
  have g := gcomp (by decide) g g91
  obtain ⟨G93, e94, h⟩ := st_all h
  have g := fsg e94 g (by decide)
  obtain ⟨v95, h⟩ := h
  obtain ⟨v96, h⟩ := h
  obtain ⟨G98, h, g99, b100, ub100⟩ := lu__X4_init_7 h
  have g := gcomp (by decide) g g99
  obtain ⟨G101, e102, h⟩ := st_all h
  have g := fsg e102 g (by decide)
  obtain ⟨v103, h⟩ := h
  obtain ⟨v104, h⟩ := h
  obtain ⟨G106, h, g107, b108, ub108⟩ := lu__X4_init_8 h
  have g := gcomp (by decide) g g107
  obtain ⟨G109, e110, h⟩ := st_all h
  have g := fsg e110 g (by decide)
  obtain ⟨v111, h⟩ := h
  obtain ⟨v112, h⟩ := h
  obtain ⟨G114, h, g115, b116, ub116⟩ := lu__X4_init_9 h
  have g := gcomp (by decide) g g115
  obtain ⟨G117, e118, h⟩ := st_all h
  have g := fsg e118 g (by decide)
  obtain ⟨v119, h⟩ := h
  obtain ⟨v120, h⟩ := h
  obtain ⟨G122, h, g123, b124, ub124⟩ := lu__X4_init_10 h
  have g := gcomp (by decide) g g123
  obtain ⟨G125, e126, h⟩ := st_all h
  have g := fsg e126 g (by decide)
  obtain ⟨v127, h⟩ := h
  obtain ⟨v128, h⟩ := h
  obtain ⟨G130, h, g131, b132, ub132⟩ := lu__X4_init_11 h
  have g := gcomp (by decide) g g131
  obtain ⟨G133, e134, h⟩ := st_all h
  have g := fsg e134 g (by decide)
  obtain ⟨v135, h⟩ := h
  obtain ⟨v136, h⟩ := h
  obtain ⟨G138, h, g139, b140, ub140⟩ := lu__X4_init_12 h
  have g := gcomp (by decide) g g139
  obtain ⟨G141, e142, h⟩ := st_all h
  have g := fsg e142 g (by decide)
  obtain ⟨v143, h⟩ := h
  obtain ⟨v144, h⟩ := h
  obtain ⟨G146, h, g147, b148, ub148⟩ := lu__X4_init_13 h
  have g := gcomp (by decide) g g147
  obtain ⟨G149, e150, h⟩ := st_all h
  have g := fsg e150 g (by decide)
  obtain ⟨v151, h⟩ := h
  obtain ⟨v152, h⟩ := h
  obtain ⟨G154, h, g155, b156, ub156⟩ := lu__X4_init_14 h
  have g := gcomp (by decide) g g155
  obtain ⟨G157, e158, h⟩ := st_all h
  have g := fsg e158 g (by decide)
  obtain ⟨v159, h⟩ := h
  obtain ⟨v160, h⟩ := h
  obtain ⟨G162, h, g163, b164, ub164⟩ := lu__X4_init_15 h
  have g := gcomp (by decide) g g163
  obtain ⟨G165, e166, h⟩ := st_all h
  have g := fsg e166 g (by decide)
  obtain ⟨v167, h⟩ := h
  obtain ⟨v168, h⟩ := h
  obtain ⟨G170, h, g171, b172, ub172⟩ := lu__X4_init_16 h
  have g := gcomp (by decide) g g171
  obtain ⟨G173, e174, h⟩ := st_all h
  have g := fsg e174 g (by decide)
  obtain ⟨v175, h⟩ := h
  obtain ⟨v176, h⟩ := h
  obtain ⟨G178, h, g179, b180, ub180⟩ := lu__X4_init_17 h
  have g := gcomp (by decide) g g179
  obtain ⟨G181, e182, h⟩ := st_all h
  have g := fsg e182 g (by decide)
  obtain ⟨v183, h⟩ := h
  obtain ⟨v184, h⟩ := h
  obtain ⟨G186, h, g187, b188, ub188⟩ := lu__X4_init_18 h
  have g := gcomp (by decide) g g187
  obtain ⟨G189, e190, h⟩ := st_all h
  have g := fsg e190 g (by decide)
  obtain ⟨v191, h⟩ := h
  obtain ⟨v192, h⟩ := h
  obtain ⟨G194, h, g195, b196, ub196⟩ := lu__X4_init_19 h
  have g := gcomp (by decide) g g195
  obtain ⟨G197, e198, h⟩ := st_all h
  have g := fsg e198 g (by decide)
  exact ⟨_, h, g, fun K2 h2 => by unfold PZ_X10_init; exact And.intro v1 (b5 _ (all_g e7 (And.intro v8 (all_g e10 (all_g e12 (And.intro v13 (b17 _ (all_g e19 (And.intro v20 (all_g e22 (all_g e24 (And.intro v25 (b29 _ (all_g e31 (And.intro v32 (b36 _ (all_g e38 (And.intro v39 (And.intro v40 (b44 _ (all_g e46 (And.intro v47 (And.intro v48 (b52 _ (all_g e54 (And.intro v55 (And.intro v56 (b60 _ (all_g e62 (And.intro v63 (And.intro v64 (b68 _ (all_g e70 (And.intro v71 (And.intro v72 (b76 _ (all_g e78 (And.intro v79 (And.intro v80 (b84 _ (all_g e86 (And.intro v87 (And.intro v88 (b92 _ (all_g e94 (And.intro v95 (And.intro v96 (b100 _ (all_g e102 (And.intro v103 (And.intro v104 (b108 _ (all_g e110 (And.intro v111 (And.intro v112 (b116 _ (all_g e118 (And.intro v119 (And.intro v120 (b124 _ (all_g e126 (And.intro v127 (And.intro v128 (b132 _ (all_g e134 (And.intro v135 (And.intro v136 (b140 _ (all_g e142 (And.intro v143 (And.intro v144 (b148 _ (all_g e150 (And.intro v151 (And.intro v152 (b156 _ (all_g e158 (And.intro v159 (And.intro v160 (b164 _ (all_g e166 (And.intro v167 (And.intro v168 (b172 _ (all_g e174 (And.intro v175 (And.intro v176 (b180 _ (all_g e182 (And.intro v183 (And.intro v184 (b188 _ (all_g e190 (And.intro v191 (And.intro v192 (b196 _ (all_g e198 (h2)))))))))))))))))))))))))))))))))))))))))))))))))))))))))))))))))))))))))))))))))))))))))))))))))), fun K2 q => by unfold PZ_X10_init at q; have q := q.2; have q := ub5 _ q; have q := all_h e7 q; have q := q.2; have q := all_h e10 q; have q := all_h e12 q; have q := q.2; have q := ub17 _ q; have q := all_h e19 q; have q := q.2; have q := all_h e22 q; have q := all_h e24 q; have q := q.2; have q := ub29 _ q; have q := all_h e31 q; have q := q.2; have q := ub36 _ q; have q := all_h e38 q; have q := q.2; have q := q.2; have q := ub44 _ q; have q := all_h e46 q; have q := q.2; have q := q.2; have q := ub52 _ q; have q := all_h e54 q; have q := q.2; have q := q.2; have q := ub60 _ q; have q := all_h e62 q; have q := q.2; have q := q.2; have q := ub68 _ q; have q := all_h e70 q; have q := q.2; have q := q.2; have q := ub76 _ q; have q := all_h e78 q; have q := q.2; have q := q.2; have q := ub84 _ q; have q := all_h e86 q; have q := q.2; have q := q.2; have q := ub92 _ q; have q := all_h e94 q; have q := q.2; have q := q.2; have q := ub100 _ q; have q := all_h e102 q; have q := q.2; have q := q.2; have q := ub108 _ q; have q := all_h e110 q; have q := q.2; have q := q.2; have q := ub116 _ q; have q := all_h e118 q; have q := q.2; have q := q.2; have q := ub124 _ q; have q := all_h e126 q; have q := q.2; have q := q.2; have q := ub132 _ q; have q := all_h e134 q; have q := q.2; have q := q.2; have q := ub140 _ q; have q := all_h e142 q; have q := q.2; have q := q.2; have q := ub148 _ q; have q := all_h e150 q; have q := q.2; have q := q.2; have q := ub156 _ q; have q := all_h e158 q; have q := q.2; have q := q.2; have q := ub164 _ q; have q := all_h e166 q; have q := q.2; have q := q.2; have q := ub172 _ q; have q := all_h e174 q; have q := q.2; have q := q.2; have q := ub180 _ q; have q := all_h e182 q; have q := q.2; have q := q.2; have q := ub188 _ q; have q := all_h e190 q; have q := q.2; have q := q.2; have q := ub196 _ q; have q := all_h e198 q; exact q⟩
theorem el__X11_init {F0 : GF} {C : Prop} {F : GF} {K : GF → Prop} (hK : ∀ (z0 : GF), K z0 → Fr F0 z0 → C) (g : Fr F0 F) (h : PZ_X11_init F K) : C := by
  unfold PZ_X11_init at h
  have h := h.2
  obtain ⟨G1, e2, h⟩ := st_all h
  have g3 := Fr.fs4 e2 g (by decide)
  have h := h.2
  obtain ⟨G4, e5, h⟩ := st_all h
  have g6 := Fr.fs4 e5 g3 (by decide)
  have h := h.2
  obtain ⟨G7, e8, h⟩ := st_all h
  have g9 := Fr.fs4 e8 g6 (by decide)
  have h := h.2
  obtain ⟨G10, e11, h⟩ := st_all h
  have g12 := Fr.fs4 e11 g9 (by decide)
  have h := h.2
  obtain ⟨G13, e14, h⟩ := st_all h
  have g15 := Fr.fs4 e14 g12 (by decide)
  have h := h.2
  obtain ⟨G16, e17, h⟩ := st_all h
  have g18 := Fr.fs4 e17 g15 (by decide)
  have h := h.2
  obtain ⟨G19, e20, h⟩ := st_all h
  have g21 := Fr.fs4 e20 g18 (by decide)
  have h := h.2
  obtain ⟨G22, e23, h⟩ := st_all h
  have g24 := Fr.fs4 e23 g21 (by decide)
  have h := h.2
  obtain ⟨G25, e26, h⟩ := st_all h
  have g27 := Fr.fs4 e26 g24 (by decide)
  have h := h.2
  obtain ⟨G28, e29, h⟩ := st_all h
  have g30 := Fr.fs4 e29 g27 (by decide)
  obtain ⟨G31, e32, h⟩ := st_all h
  have g33 := Fr.fs4 e32 g30 (by decide)
  have h := h.2
  obtain ⟨G34, e35, h⟩ := st_all h
  have g36 := Fr.fs4 e35 g33 (by decide)
  have h := h.2
  obtain ⟨G37, e38, h⟩ := st_all h
  have g39 := Fr.fs4 e38 g36 (by decide)
  have h := h.2
  obtain ⟨G40, e41, h⟩ := st_all h
  have g42 := Fr.fs4 e41 g39 (by decide)
  have h := h.2
  obtain ⟨G43, e44, h⟩ := st_all h
  have g45 := Fr.fs4 e44 g42 (by decide)
  have h := h.2
  obtain ⟨G46, e47, h⟩ := st_all h
  have g48 := Fr.fs4 e47 g45 (by decide)
  have h := h.2
  obtain ⟨G49, e50, h⟩ := st_all h
  have g51 := Fr.fs4 e50 g48 (by decide)
  have h := h.2
  obtain ⟨G52, e53, h⟩ := st_all h
  have g54 := Fr.fs4 e53 g51 (by decide)
  have h := h.2
  obtain ⟨G55, e56, h⟩ := st_all h
  have g57 := Fr.fs4 e56 g54 (by decide)
  have h := h.2
  obtain ⟨G58, e59, h⟩ := st_all h
  have g60 := Fr.fs4 e59 g57 (by decide)
  have h := h.2
  obtain ⟨G61, e62, h⟩ := st_all h
  have g63 := Fr.fs4 e62 g60 (by decide)
  have h := h.2
  obtain ⟨G64, e65, h⟩ := st_all h
  have g66 := Fr.fs4 e65 g63 (by decide)
  have h := h.2
  obtain ⟨G67, e68, h⟩ := st_all h
  have g69 := Fr.fs4 e68 g66 (by decide)
  have h := h.2
  obtain ⟨G70, e71, h⟩ := st_all h
  have g72 := Fr.fs4 e71 g69 (by decide)
  have h := h.2
  obtain ⟨G73, e74, h⟩ := st_all h
  have g75 := Fr.fs4 e74 g72 (by decide)
  have h := h.2
  obtain ⟨G76, e77, h⟩ := st_all h
  have g78 := Fr.fs4 e77 g75 (by decide)
  have h := h.2
  obtain ⟨G79, e80, h⟩ := st_all h
  have g81 := Fr.fs4 e80 g78 (by decide)
  have h := h.2
  obtain ⟨G82, e83, h⟩ := st_all h
  have g84 := Fr.fs4 e83 g81 (by decide)
  have h := h.2
  obtain ⟨G85, e86, h⟩ := st_all h
  have g87 := Fr.fs4 e86 g84 (by decide)
  have h := h.2
  obtain ⟨G88, e89, h⟩ := st_all h
  have g90 := Fr.fs4 e89 g87 (by decide)
  have h := h.2
  obtain ⟨G91, e92, h⟩ := st_all h
  have g93 := Fr.fs4 e92 g90 (by decide)
  have h := h.2
  refine el_X11_clears (fun _ h g94 => ?_) g93 h
  exact hK _ h g94
theorem init39 : ∃ F2 : GF, (∀ f, f < 40 → F2 f = zrun (zL.take 166) f) ∧ Inv 0 F2 := by
  have h0 : PZ_X10_init zF (fun F => F = zrun (zL.take 166)) := init_cls rfl
  obtain ⟨F1, e, -, -, u⟩ := lu__X10_init h0
  have h1 := u _ pure_init
  rw [e] at h1
  exact el__X11_init (F0 := zrun (zL.take 166)) (fun F2 q g => ⟨F2, g, q.2.2.2⟩) (fun _ _ => rfl) h1.2
theorem z166_2 (q : Nat) : zrun (zL.take 166) 2 0 q = 0 := by
  rw [zr_row (f := 2) (i := 0) (by decide +kernel)]
  exact zd0 (by decide) q
theorem z166_3 (q : Nat) : zrun (zL.take 166) 3 0 q = 0 := by
  rw [zr_row (f := 3) (i := 0) (by decide +kernel)]
  exact zd0 (by decide) q
theorem z166_6 : zrun (zL.take 166) 6 0 2 = 0 := by decide +kernel
theorem z166_38 : zrun (zL.take 166) 38 0 0 = 0 := by decide +kernel
theorem sx_id {F2 Fz : GF} (g : ∀ f, f < 40 → F2 f = Fz f) (z2 : ∀ q, Fz 2 0 q = 0) (z3 : ∀ q, Fz 3 0 q = 0) (z6 : Fz 6 0 2 = 0) (z38 : Fz 38 0 0 = 0) : Sx true F2 Fz F2 Fz := by
  have b1 : b_bar Fz := fun j _ => Or.inl (z2 j)
  have e2 : F2 2 = Fz 2 := g 2 (by decide)
  have hg : gcn F2 = 0 := by
    unfold gcn
    rw [g 38 (by decide), z38]
    rfl
  refine ⟨fun f hf => ?_, fun f _ => ⟨rfl, rfl⟩, ⟨fun x y hx hy => ?_, ?_, b1⟩, fun y _ => ?_, ⟨0, by omega, ?_, fun s hs => absurd hs (Nat.not_lt_zero s)⟩, fun i hi => ?_⟩
  · refine (g f ?_).symm
    simp only [eqf, Bool.and_eq_true, decide_eq_true_eq] at hf
    exact hf.1
  · rw [Ed_mrN, Ed_mrN, mrN_mir hx hy]
    cases hz : mrN x y with
    | none => rfl
    | some q =>
      show decide (Fz 2 0 (mq true q) = 0) = decide (F2 2 0 q = 0)
      rw [e2, z2, z2]
  · unfold b_bar
    rw [e2]
    exact b1
  · rw [g 3 (by decide), z3, z3]
  · rw [g 6 (by decide), z6]
    rfl
  · rw [hg] at hi
    exact absurd hi (Nat.not_lt_zero i)
theorem ti0 : ∃ S1 : S3, tE (zrun (zL.take 166), zrun (zL.take 166), fun _ => 0) S1 ∧ TI 0 S1 := by
  obtain ⟨F2, g, hI⟩ := init39
  exact ⟨(F2, zrun (zL.take 166), fun _ => 0), ⟨g, fun _ _ => rfl, rfl⟩, hI, F2, zrun (zL.take 166), sx_id g z166_2 z166_3 z166_6 z166_38⟩
