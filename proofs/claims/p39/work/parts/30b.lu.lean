
theorem lu_X9_streetBetween {F : GF} {p0 : Int32} {p1 : Int32} {K : Int32 → GF → Prop} (h : P_X9_streetBetween F p0 p1 K) : ∃ (r : Int32) (F1 : GF), K r F1 ∧ (∀ f, f ∉ ([] : List Nat) → F1 f = F f) ∧ (∀ (K2 : Int32 → GF → Prop), K2 r F1 → P_X9_streetBetween F p0 p1 K2) ∧ ∀ (K2 : Int32 → GF → Prop), P_X9_streetBetween F p0 p1 K2 → K2 r F1 := by
  have g : ∀ f, f ∉ ([] : List Nat) → F f = F f := fun _ _ => rfl
  unfold P_X9_streetBetween at h
  rcases ite_elim h with ⟨c1, h⟩ | ⟨c1, h⟩
  · skip
    unfold P_X9_streetBetween_10 at h
    rcases ite_elim h with ⟨c2, h⟩ | ⟨c2, h⟩
    · skip
      unfold P_X9_streetBetween_21 at h
      rcases ite_elim h with ⟨c3, h⟩ | ⟨c3, h⟩
      · skip
        exact ⟨_, _, h, g, fun K2 h2 => by unfold P_X9_streetBetween; exact ite_pos c1 (by unfold P_X9_streetBetween_10; exact ite_pos c2 (by unfold P_X9_streetBetween_21; exact ite_pos c3 (h2))), fun K2 q => by unfold P_X9_streetBetween at q; have q := ite_poso c1 q; unfold P_X9_streetBetween_10 at q; have q := ite_poso c2 q; unfold P_X9_streetBetween_21 at q; have q := ite_poso c3 q; exact q⟩
      · skip
        rcases ite_elim h with ⟨c4, h⟩ | ⟨c4, h⟩
        · skip
          rcases ite_elim h with ⟨c5, h⟩ | ⟨c5, h⟩
          · skip
            exact ⟨_, _, h, g, fun K2 h2 => by unfold P_X9_streetBetween; exact ite_pos c1 (by unfold P_X9_streetBetween_10; exact ite_pos c2 (by unfold P_X9_streetBetween_21; exact ite_neg c3 (ite_pos c4 (ite_pos c5 (h2))))), fun K2 q => by unfold P_X9_streetBetween at q; have q := ite_poso c1 q; unfold P_X9_streetBetween_10 at q; have q := ite_poso c2 q; unfold P_X9_streetBetween_21 at q; have q := ite_nego c3 q; have q := ite_poso c4 q; have q := ite_poso c5 q; exact q⟩
          · skip
            rcases ite_elim h with ⟨c6, h⟩ | ⟨c6, h⟩
            · skip
              rcases ite_elim h with ⟨c7, h⟩ | ⟨c7, h⟩
              · skip
                exact ⟨_, _, h, g, fun K2 h2 => by unfold P_X9_streetBetween; exact ite_pos c1 (by unfold P_X9_streetBetween_10; exact ite_pos c2 (by unfold P_X9_streetBetween_21; exact ite_neg c3 (ite_pos c4 (ite_neg c5 (ite_pos c6 (ite_pos c7 (h2))))))), fun K2 q => by unfold P_X9_streetBetween at q; have q := ite_poso c1 q; unfold P_X9_streetBetween_10 at q; have q := ite_poso c2 q; unfold P_X9_streetBetween_21 at q; have q := ite_nego c3 q; have q := ite_poso c4 q; have q := ite_nego c5 q; have q := ite_poso c6 q; have q := ite_poso c7 q; exact q⟩
              · skip
                exact ⟨_, _, h, g, fun K2 h2 => by unfold P_X9_streetBetween; exact ite_pos c1 (by unfold P_X9_streetBetween_10; exact ite_pos c2 (by unfold P_X9_streetBetween_21; exact ite_neg c3 (ite_pos c4 (ite_neg c5 (ite_pos c6 (ite_neg c7 (h2))))))), fun K2 q => by unfold P_X9_streetBetween at q; have q := ite_poso c1 q; unfold P_X9_streetBetween_10 at q; have q := ite_poso c2 q; unfold P_X9_streetBetween_21 at q; have q := ite_nego c3 q; have q := ite_poso c4 q; have q := ite_nego c5 q; have q := ite_poso c6 q; have q := ite_nego c7 q; exact q⟩
            · skip
              exact ⟨_, _, h, g, fun K2 h2 => by unfold P_X9_streetBetween; exact ite_pos c1 (by unfold P_X9_streetBetween_10; exact ite_pos c2 (by unfold P_X9_streetBetween_21; exact ite_neg c3 (ite_pos c4 (ite_neg c5 (ite_neg c6 (h2)))))), fun K2 q => by unfold P_X9_streetBetween at q; have q := ite_poso c1 q; unfold P_X9_streetBetween_10 at q; have q := ite_poso c2 q; unfold P_X9_streetBetween_21 at q; have q := ite_nego c3 q; have q := ite_poso c4 q; have q := ite_nego c5 q; have q := ite_nego c6 q; exact q⟩
        · skip
          exact ⟨_, _, h, g, fun K2 h2 => by unfold P_X9_streetBetween; exact ite_pos c1 (by unfold P_X9_streetBetween_10; exact ite_pos c2 (by unfold P_X9_streetBetween_21; exact ite_neg c3 (ite_neg c4 (h2)))), fun K2 q => by unfold P_X9_streetBetween at q; have q := ite_poso c1 q; unfold P_X9_streetBetween_10 at q; have q := ite_poso c2 q; unfold P_X9_streetBetween_21 at q; have q := ite_nego c3 q; have q := ite_nego c4 q; exact q⟩
    · skip
      unfold P_X9_streetBetween_21 at h
      rcases ite_elim h with ⟨c8, h⟩ | ⟨c8, h⟩
      · skip
        exact ⟨_, _, h, g, fun K2 h2 => by unfold P_X9_streetBetween; exact ite_pos c1 (by unfold P_X9_streetBetween_10; exact ite_neg c2 (by unfold P_X9_streetBetween_21; exact ite_pos c8 (h2))), fun K2 q => by unfold P_X9_streetBetween at q; have q := ite_poso c1 q; unfold P_X9_streetBetween_10 at q; have q := ite_nego c2 q; unfold P_X9_streetBetween_21 at q; have q := ite_poso c8 q; exact q⟩
      · skip
        rcases ite_elim h with ⟨c9, h⟩ | ⟨c9, h⟩
        · skip
          rcases ite_elim h with ⟨c10, h⟩ | ⟨c10, h⟩
          · skip
            exact ⟨_, _, h, g, fun K2 h2 => by unfold P_X9_streetBetween; exact ite_pos c1 (by unfold P_X9_streetBetween_10; exact ite_neg c2 (by unfold P_X9_streetBetween_21; exact ite_neg c8 (ite_pos c9 (ite_pos c10 (h2))))), fun K2 q => by unfold P_X9_streetBetween at q; have q := ite_poso c1 q; unfold P_X9_streetBetween_10 at q; have q := ite_nego c2 q; unfold P_X9_streetBetween_21 at q; have q := ite_nego c8 q; have q := ite_poso c9 q; have q := ite_poso c10 q; exact q⟩
          · skip
            rcases ite_elim h with ⟨c11, h⟩ | ⟨c11, h⟩
            · skip
              rcases ite_elim h with ⟨c12, h⟩ | ⟨c12, h⟩
              · skip
                exact ⟨_, _, h, g, fun K2 h2 => by unfold P_X9_streetBetween; exact ite_pos c1 (by unfold P_X9_streetBetween_10; exact ite_neg c2 (by unfold P_X9_streetBetween_21; exact ite_neg c8 (ite_pos c9 (ite_neg c10 (ite_pos c11 (ite_pos c12 (h2))))))), fun K2 q => by unfold P_X9_streetBetween at q; have q := ite_poso c1 q; unfold P_X9_streetBetween_10 at q; have q := ite_nego c2 q; unfold P_X9_streetBetween_21 at q; have q := ite_nego c8 q; have q := ite_poso c9 q; have q := ite_nego c10 q; have q := ite_poso c11 q; have q := ite_poso c12 q; exact q⟩
              · skip
                exact ⟨_, _, h, g, fun K2 h2 => by unfold P_X9_streetBetween; exact ite_pos c1 (by unfold P_X9_streetBetween_10; exact ite_neg c2 (by unfold P_X9_streetBetween_21; exact ite_neg c8 (ite_pos c9 (ite_neg c10 (ite_pos c11 (ite_neg c12 (h2))))))), fun K2 q => by unfold P_X9_streetBetween at q; have q := ite_poso c1 q; unfold P_X9_streetBetween_10 at q; have q := ite_nego c2 q; unfold P_X9_streetBetween_21 at q; have q := ite_nego c8 q; have q := ite_poso c9 q; have q := ite_nego c10 q; have q := ite_poso c11 q; have q := ite_nego c12 q; exact q⟩
            · skip
              exact ⟨_, _, h, g, fun K2 h2 => by unfold P_X9_streetBetween; exact ite_pos c1 (by unfold P_X9_streetBetween_10; exact ite_neg c2 (by unfold P_X9_streetBetween_21; exact ite_neg c8 (ite_pos c9 (ite_neg c10 (ite_neg c11 (h2)))))), fun K2 q => by unfold P_X9_streetBetween at q; have q := ite_poso c1 q; unfold P_X9_streetBetween_10 at q; have q := ite_nego c2 q; unfold P_X9_streetBetween_21 at q; have q := ite_nego c8 q; have q := ite_poso c9 q; have q := ite_nego c10 q; have q := ite_nego c11 q; exact q⟩
        · skip
          exact ⟨_, _, h, g, fun K2 h2 => by unfold P_X9_streetBetween; exact ite_pos c1 (by unfold P_X9_streetBetween_10; exact ite_neg c2 (by unfold P_X9_streetBetween_21; exact ite_neg c8 (ite_neg c9 (h2)))), fun K2 q => by unfold P_X9_streetBetween at q; have q := ite_poso c1 q; unfold P_X9_streetBetween_10 at q; have q := ite_nego c2 q; unfold P_X9_streetBetween_21 at q; have q := ite_nego c8 q; have q := ite_nego c9 q; exact q⟩
  · skip
    unfold P_X9_streetBetween_10 at h
    rcases ite_elim h with ⟨c13, h⟩ | ⟨c13, h⟩
    · skip
      unfold P_X9_streetBetween_21 at h
      rcases ite_elim h with ⟨c14, h⟩ | ⟨c14, h⟩
      · skip
        exact ⟨_, _, h, g, fun K2 h2 => by unfold P_X9_streetBetween; exact ite_neg c1 (by unfold P_X9_streetBetween_10; exact ite_pos c13 (by unfold P_X9_streetBetween_21; exact ite_pos c14 (h2))), fun K2 q => by unfold P_X9_streetBetween at q; have q := ite_nego c1 q; unfold P_X9_streetBetween_10 at q; have q := ite_poso c13 q; unfold P_X9_streetBetween_21 at q; have q := ite_poso c14 q; exact q⟩
      · skip
        rcases ite_elim h with ⟨c15, h⟩ | ⟨c15, h⟩
        · skip
          rcases ite_elim h with ⟨c16, h⟩ | ⟨c16, h⟩
          · skip
            exact ⟨_, _, h, g, fun K2 h2 => by unfold P_X9_streetBetween; exact ite_neg c1 (by unfold P_X9_streetBetween_10; exact ite_pos c13 (by unfold P_X9_streetBetween_21; exact ite_neg c14 (ite_pos c15 (ite_pos c16 (h2))))), fun K2 q => by unfold P_X9_streetBetween at q; have q := ite_nego c1 q; unfold P_X9_streetBetween_10 at q; have q := ite_poso c13 q; unfold P_X9_streetBetween_21 at q; have q := ite_nego c14 q; have q := ite_poso c15 q; have q := ite_poso c16 q; exact q⟩
          · skip
            rcases ite_elim h with ⟨c17, h⟩ | ⟨c17, h⟩
            · skip
              rcases ite_elim h with ⟨c18, h⟩ | ⟨c18, h⟩
              · skip
                exact ⟨_, _, h, g, fun K2 h2 => by unfold P_X9_streetBetween; exact ite_neg c1 (by unfold P_X9_streetBetween_10; exact ite_pos c13 (by unfold P_X9_streetBetween_21; exact ite_neg c14 (ite_pos c15 (ite_neg c16 (ite_pos c17 (ite_pos c18 (h2))))))), fun K2 q => by unfold P_X9_streetBetween at q; have q := ite_nego c1 q; unfold P_X9_streetBetween_10 at q; have q := ite_poso c13 q; unfold P_X9_streetBetween_21 at q; have q := ite_nego c14 q; have q := ite_poso c15 q; have q := ite_nego c16 q; have q := ite_poso c17 q; have q := ite_poso c18 q; exact q⟩
              · skip
                exact ⟨_, _, h, g, fun K2 h2 => by unfold P_X9_streetBetween; exact ite_neg c1 (by unfold P_X9_streetBetween_10; exact ite_pos c13 (by unfold P_X9_streetBetween_21; exact ite_neg c14 (ite_pos c15 (ite_neg c16 (ite_pos c17 (ite_neg c18 (h2))))))), fun K2 q => by unfold P_X9_streetBetween at q; have q := ite_nego c1 q; unfold P_X9_streetBetween_10 at q; have q := ite_poso c13 q; unfold P_X9_streetBetween_21 at q; have q := ite_nego c14 q; have q := ite_poso c15 q; have q := ite_nego c16 q; have q := ite_poso c17 q; have q := ite_nego c18 q; exact q⟩
            · skip
              exact ⟨_, _, h, g, fun K2 h2 => by unfold P_X9_streetBetween; exact ite_neg c1 (by unfold P_X9_streetBetween_10; exact ite_pos c13 (by unfold P_X9_streetBetween_21; exact ite_neg c14 (ite_pos c15 (ite_neg c16 (ite_neg c17 (h2)))))), fun K2 q => by unfold P_X9_streetBetween at q; have q := ite_nego c1 q; unfold P_X9_streetBetween_10 at q; have q := ite_poso c13 q; unfold P_X9_streetBetween_21 at q; have q := ite_nego c14 q; have q := ite_poso c15 q; have q := ite_nego c16 q; have q := ite_nego c17 q; exact q⟩
        · skip
          exact ⟨_, _, h, g, fun K2 h2 => by unfold P_X9_streetBetween; exact ite_neg c1 (by unfold P_X9_streetBetween_10; exact ite_pos c13 (by unfold P_X9_streetBetween_21; exact ite_neg c14 (ite_neg c15 (h2)))), fun K2 q => by unfold P_X9_streetBetween at q; have q := ite_nego c1 q; unfold P_X9_streetBetween_10 at q; have q := ite_poso c13 q; unfold P_X9_streetBetween_21 at q; have q := ite_nego c14 q; have q := ite_nego c15 q; exact q⟩
    · skip
      unfold P_X9_streetBetween_21 at h
      rcases ite_elim h with ⟨c19, h⟩ | ⟨c19, h⟩
      · skip
        exact ⟨_, _, h, g, fun K2 h2 => by unfold P_X9_streetBetween; exact ite_neg c1 (by unfold P_X9_streetBetween_10; exact ite_neg c13 (by unfold P_X9_streetBetween_21; exact ite_pos c19 (h2))), fun K2 q => by unfold P_X9_streetBetween at q; have q := ite_nego c1 q; unfold P_X9_streetBetween_10 at q; have q := ite_nego c13 q; unfold P_X9_streetBetween_21 at q; have q := ite_poso c19 q; exact q⟩
      · skip
        rcases ite_elim h with ⟨c20, h⟩ | ⟨c20, h⟩
        · skip
          rcases ite_elim h with ⟨c21, h⟩ | ⟨c21, h⟩
          · skip
            exact ⟨_, _, h, g, fun K2 h2 => by unfold P_X9_streetBetween; exact ite_neg c1 (by unfold P_X9_streetBetween_10; exact ite_neg c13 (by unfold P_X9_streetBetween_21; exact ite_neg c19 (ite_pos c20 (ite_pos c21 (h2))))), fun K2 q => by unfold P_X9_streetBetween at q; have q := ite_nego c1 q; unfold P_X9_streetBetween_10 at q; have q := ite_nego c13 q; unfold P_X9_streetBetween_21 at q; have q := ite_nego c19 q; have q := ite_poso c20 q; have q := ite_poso c21 q; exact q⟩
          · skip
            rcases ite_elim h with ⟨c22, h⟩ | ⟨c22, h⟩
            · skip
              rcases ite_elim h with ⟨c23, h⟩ | ⟨c23, h⟩
              · skip
                exact ⟨_, _, h, g, fun K2 h2 => by unfold P_X9_streetBetween; exact ite_neg c1 (by unfold P_X9_streetBetween_10; exact ite_neg c13 (by unfold P_X9_streetBetween_21; exact ite_neg c19 (ite_pos c20 (ite_neg c21 (ite_pos c22 (ite_pos c23 (h2))))))), fun K2 q => by unfold P_X9_streetBetween at q; have q := ite_nego c1 q; unfold P_X9_streetBetween_10 at q; have q := ite_nego c13 q; unfold P_X9_streetBetween_21 at q; have q := ite_nego c19 q; have q := ite_poso c20 q; have q := ite_nego c21 q; have q := ite_poso c22 q; have q := ite_poso c23 q; exact q⟩
              · skip
                exact ⟨_, _, h, g, fun K2 h2 => by unfold P_X9_streetBetween; exact ite_neg c1 (by unfold P_X9_streetBetween_10; exact ite_neg c13 (by unfold P_X9_streetBetween_21; exact ite_neg c19 (ite_pos c20 (ite_neg c21 (ite_pos c22 (ite_neg c23 (h2))))))), fun K2 q => by unfold P_X9_streetBetween at q; have q := ite_nego c1 q; unfold P_X9_streetBetween_10 at q; have q := ite_nego c13 q; unfold P_X9_streetBetween_21 at q; have q := ite_nego c19 q; have q := ite_poso c20 q; have q := ite_nego c21 q; have q := ite_poso c22 q; have q := ite_nego c23 q; exact q⟩
            · skip
              exact ⟨_, _, h, g, fun K2 h2 => by unfold P_X9_streetBetween; exact ite_neg c1 (by unfold P_X9_streetBetween_10; exact ite_neg c13 (by unfold P_X9_streetBetween_21; exact ite_neg c19 (ite_pos c20 (ite_neg c21 (ite_neg c22 (h2)))))), fun K2 q => by unfold P_X9_streetBetween at q; have q := ite_nego c1 q; unfold P_X9_streetBetween_10 at q; have q := ite_nego c13 q; unfold P_X9_streetBetween_21 at q; have q := ite_nego c19 q; have q := ite_poso c20 q; have q := ite_nego c21 q; have q := ite_nego c22 q; exact q⟩
        · skip
          exact ⟨_, _, h, g, fun K2 h2 => by unfold P_X9_streetBetween; exact ite_neg c1 (by unfold P_X9_streetBetween_10; exact ite_neg c13 (by unfold P_X9_streetBetween_21; exact ite_neg c19 (ite_neg c20 (h2)))), fun K2 q => by unfold P_X9_streetBetween at q; have q := ite_nego c1 q; unfold P_X9_streetBetween_10 at q; have q := ite_nego c13 q; unfold P_X9_streetBetween_21 at q; have q := ite_nego c19 q; have q := ite_nego c20 q; exact q⟩
theorem lu_X9_reach {F : GF} {p1 : Int32} {p2 : Int32} {p3 : Int32} {K : Int32 → GF → Prop} (h : P_X9_reach F p1 p2 p3 K) : ∃ (r : Int32) (F1 : GF), K r F1 ∧ (∀ f, f ∉ ([3, 4] : List Nat) → F1 f = F f) ∧ (∀ (K2 : Int32 → GF → Prop), K2 r F1 → P_X9_reach F p1 p2 p3 K2) ∧ ∀ (K2 : Int32 → GF → Prop), P_X9_reach F p1 p2 p3 K2 → K2 r F1 := by
  have g : ∀ f, f ∉ ([3, 4] : List Nat) → F f = F f := fun _ _ => rfl
  unfold P_X9_reach at h
  obtain ⟨r1, G2, h, g3, b4, ub4⟩ := lu_X9_streetBetween h
  have g := gcomp (by decide) g g3
  rcases ite_elim h with ⟨c5, h⟩ | ⟨c5, h⟩
  · skip
    exact ⟨_, _, h, g, fun K2 h2 => by unfold P_X9_reach; exact b4 _ (ite_pos c5 (h2)), fun K2 q => by unfold P_X9_reach at q; have q := ub4 _ q; have q := ite_poso c5 q; exact q⟩
  · skip
    obtain ⟨v6, h⟩ := h
    rcases ite_elim h with ⟨c7, h⟩ | ⟨c7, h⟩
    · skip
      obtain ⟨v8, h⟩ := h
      rcases ite_elim h with ⟨c9, h⟩ | ⟨c9, h⟩
      · skip
        rcases ite_elim h with ⟨c10, h⟩ | ⟨c10, h⟩
        · skip
          obtain ⟨v11, h⟩ := h
          obtain ⟨v12, h⟩ := h
          obtain ⟨G13, e14, h⟩ := st_all h
          have g := fsg e14 g (by decide)
          obtain ⟨v15, h⟩ := h
          obtain ⟨G16, e17, h⟩ := st_all h
          have g := fsg e17 g (by decide)
          exact ⟨_, _, h, g, fun K2 h2 => by unfold P_X9_reach; exact b4 _ (ite_neg c5 (And.intro v6 (ite_pos c7 (And.intro v8 (ite_pos c9 (ite_pos c10 (And.intro v11 (And.intro v12 (all_g e14 (And.intro v15 (all_g e17 (h2)))))))))))), fun K2 q => by unfold P_X9_reach at q; have q := ub4 _ q; have q := ite_nego c5 q; have q := q.2; have q := ite_poso c7 q; have q := q.2; have q := ite_poso c9 q; have q := ite_poso c10 q; have q := q.2; have q := q.2; have q := all_h e14 q; have q := q.2; have q := all_h e17 q; exact q⟩
        · skip
          exact ⟨_, _, h, g, fun K2 h2 => by unfold P_X9_reach; exact b4 _ (ite_neg c5 (And.intro v6 (ite_pos c7 (And.intro v8 (ite_pos c9 (ite_neg c10 (h2))))))), fun K2 q => by unfold P_X9_reach at q; have q := ub4 _ q; have q := ite_nego c5 q; have q := q.2; have q := ite_poso c7 q; have q := q.2; have q := ite_poso c9 q; have q := ite_nego c10 q; exact q⟩
      · skip
        exact ⟨_, _, h, g, fun K2 h2 => by unfold P_X9_reach; exact b4 _ (ite_neg c5 (And.intro v6 (ite_pos c7 (And.intro v8 (ite_neg c9 (h2)))))), fun K2 q => by unfold P_X9_reach at q; have q := ub4 _ q; have q := ite_nego c5 q; have q := q.2; have q := ite_poso c7 q; have q := q.2; have q := ite_nego c9 q; exact q⟩
    · skip
      exact ⟨_, _, h, g, fun K2 h2 => by unfold P_X9_reach; exact b4 _ (ite_neg c5 (And.intro v6 (ite_neg c7 (h2)))), fun K2 q => by unfold P_X9_reach at q; have q := ub4 _ q; have q := ite_nego c5 q; have q := q.2; have q := ite_nego c7 q; exact q⟩
theorem lu_X9_measureFrom_37  {K : GF → Prop} : ∀ (n : Nat) (F : GF) (x2 : Int32) (x3 : Int32), P_X9_measureFrom_37 K n F x2 x3 → ∃ (F1 : GF), K F1 ∧ (∀ f, f ∉ ([3, 4] : List Nat) → F1 f = F f) ∧ (∃ m : Nat, ∀ (K2 : GF → Prop), K2 F1 → P_X9_measureFrom_37 K2 m F x2 x3) ∧ ∀ (m : Nat) (K2 : GF → Prop), P_X9_measureFrom_37 K2 m F x2 x3 → K2 F1 := by
  intro n
  induction n with
  | zero => exact fun _ _ _ h => False.elim h
  | succ n ih =>
    intro F x2 x3 h
    have g : ∀ f, f ∉ ([3, 4] : List Nat) → F f = F f := fun _ _ => rfl
    rw [P_X9_measureFrom_37] at h
    rcases ite_elim h with ⟨c1, h⟩ | ⟨c1, h⟩
    · skip
      exact ⟨_, h, g, ⟨0 + 1, fun K2 h2 => by rw [P_X9_measureFrom_37]; exact ite_pos c1 (h2)⟩, fun m K2 q => by
                                cases m with
                                | zero => exact False.elim q
                                | succ m => rw [P_X9_measureFrom_37] at q; have q := ite_poso c1 q; exact q⟩
    · skip
      rcases ite_elim h with ⟨c2, h⟩ | ⟨c2, h⟩
      · skip
        exact ⟨_, h, g, ⟨0 + 1, fun K2 h2 => by rw [P_X9_measureFrom_37]; exact ite_neg c1 (ite_pos c2 (h2))⟩, fun m K2 q => by
                                cases m with
                                | zero => exact False.elim q
                                | succ m => rw [P_X9_measureFrom_37] at q; have q := ite_nego c1 q; have q := ite_poso c2 q; exact q⟩
      · skip
        obtain ⟨v3, h⟩ := h
        obtain ⟨r4, G5, h, g6, b7, ub7⟩ := lu_X9_reach h
        have g := gcomp (by decide) g g6
        obtain ⟨r8, G9, h, g10, b11, ub11⟩ := lu_X9_reach h
        have g := gcomp (by decide) g g10
        obtain ⟨r12, G13, h, g14, b15, ub15⟩ := lu_X9_reach h
        have g := gcomp (by decide) g g14
        obtain ⟨r16, G17, h, g18, b19, ub19⟩ := lu_X9_reach h
        have g := gcomp (by decide) g g18
        obtain ⟨G21, h, g22, ⟨m23, b24⟩, ub24⟩ := ih _ _ _ h
        exact ⟨_, h, gcomp (fun _ h => h) g g22, ⟨m23 + 1, fun K2 h2 => by rw [P_X9_measureFrom_37]; exact ite_neg c1 (ite_neg c2 (And.intro v3 (b7 _ (b11 _ (b15 _ (b19 _ (b24 K2 h2)))))))⟩, fun m K2 q => by
                                cases m with
                                | zero => exact False.elim q
                                | succ m => rw [P_X9_measureFrom_37] at q; have q := ite_nego c1 q; have q := ite_nego c2 q; have q := q.2; have q := ub7 _ q; have q := ub11 _ q; have q := ub15 _ q; have q := ub19 _ q; exact ub24 _ K2 q⟩
theorem lu_X9_measureFrom {F : GF} {p1 : Int32} {K : GF → Prop} (h : P_X9_measureFrom F p1 K) : ∃ (F1 : GF), K F1 ∧ (∀ f, f ∉ ([3, 4] : List Nat) → F1 f = F f) ∧ (∀ (K2 : GF → Prop), K2 F1 → P_X9_measureFrom F p1 K2) ∧ ∀ (K2 : GF → Prop), P_X9_measureFrom F p1 K2 → K2 F1 := by
  have g : ∀ f, f ∉ ([3, 4] : List Nat) → F f = F f := fun _ _ => rfl
  unfold P_X9_measureFrom at h
  obtain ⟨G1, e2, h⟩ := st_all h
  have g := ffillg e2 g (by decide)
  rcases ite_elim h with ⟨c3, h⟩ | ⟨c3, h⟩
  · skip
    exact ⟨_, h, g, fun K2 h2 => by unfold P_X9_measureFrom; exact all_g e2 (ite_pos c3 (h2)), fun K2 q => by unfold P_X9_measureFrom at q; have q := all_h e2 q; have q := ite_poso c3 q; exact q⟩
  · skip
    rcases ite_elim h with ⟨c4, h⟩ | ⟨c4, h⟩
    · skip
      obtain ⟨v5, h⟩ := h
      obtain ⟨G6, e7, h⟩ := st_all h
      have g := fsg e7 g (by decide)
      obtain ⟨v8, h⟩ := h
      obtain ⟨G9, e10, h⟩ := st_all h
      have g := fsg e10 g (by decide)
      obtain ⟨n11, h⟩ := h
      obtain ⟨G13, h, g14, ⟨m15, b16⟩, ub16⟩ := lu_X9_measureFrom_37 _ _ _ _ h
      have g := gcomp (by decide) g g14
      exact ⟨_, h, g, fun K2 h2 => by unfold P_X9_measureFrom; exact all_g e2 (ite_neg c3 (ite_pos c4 (And.intro v5 (all_g e7 (And.intro v8 (all_g e10 (Exists.intro m15 (b16 _ (h2))))))))), fun K2 q => by unfold P_X9_measureFrom at q; have q := all_h e2 q; have q := ite_nego c3 q; have q := ite_poso c4 q; have q := q.2; have q := all_h e7 q; have q := q.2; have q := all_h e10 q; obtain ⟨mm, q⟩ := q; have q := ub16 mm _ q; skip; exact q⟩
    · skip
      exact ⟨_, h, g, fun K2 h2 => by unfold P_X9_measureFrom; exact all_g e2 (ite_neg c3 (ite_neg c4 (h2))), fun K2 q => by unfold P_X9_measureFrom at q; have q := all_h e2 q; have q := ite_nego c3 q; have q := ite_nego c4 q; exact q⟩
