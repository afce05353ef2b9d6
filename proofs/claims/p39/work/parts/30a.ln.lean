theorem ite_poso {c : Prop} [Decidable c] {A B : Prop} (hc : c) (h : if c then A else B) : A := by rw [if_pos hc] at h; exact h
theorem ite_nego {c : Prop} [Decidable c] {A B : Prop} (hc : ¬ c) (h : if c then A else B) : B := by rw [if_neg hc] at h; exact h
theorem all_o {α : Type} {e : α} {P : α → Prop} (h : ∀ x, x = e → P x) : P e := h _ rfl
theorem ite_elim {c : Prop} [Decidable c] {A B : Prop} (h : if c then A else B) : (c ∧ A) ∨ (¬ c ∧ B) := by
  by_cases hc : c
  · exact Or.inl ⟨hc, by rw [if_pos hc] at h; exact h⟩
  · exact Or.inr ⟨hc, by rw [if_neg hc] at h; exact h⟩
theorem ite_pos {c : Prop} [Decidable c] {A B : Prop} (hc : c) (h : A) : if c then A else B := by rw [if_pos hc]; exact h
theorem ite_neg {c : Prop} [Decidable c] {A B : Prop} (hc : ¬ c) (h : B) : if c then A else B := by rw [if_neg hc]; exact h
theorem st_all {α : Type} {e : α} {P : α → Prop} (h : ∀ x, x = e → P x) : ∃ z, z = e ∧ P z := ⟨e, rfl, h _ rfl⟩
theorem all_g {α : Type} {e G : α} {P : α → Prop} (eG : G = e) (h : P G) : ∀ x, x = e → P x := fun x hx => by rw [hx, ← eG]; exact h
theorem all_h {α : Type} {e G : α} {P : α → Prop} (eG : G = e) (h : ∀ x, x = e → P x) : P G := h _ eG
theorem all_i {α : Type} {e : α} {P : α → Prop} (h : P e) : ∀ x, x = e → P x := fun x hx => by rw [hx]; exact h
theorem fsg {W : List Nat} {F0 F G : GF} {f i k : Nat} {v : Int32} (e : G = fs F f i k v) (g : ∀ q, q ∉ W → F q = F0 q) (hf : f ∈ W) : ∀ q, q ∉ W → G q = F0 q := by
  intro q hq
  rw [e, fs_fam (fun z => hq (by rw [z]; exact hf))]
  exact g q hq
theorem ffillg {W : List Nat} {F0 F G : GF} {f i n : Nat} {v : Int32} (e : G = ffill F f i n v) (g : ∀ q, q ∉ W → F q = F0 q) (hf : f ∈ W) : ∀ q, q ∉ W → G q = F0 q := by
  intro q hq
  rw [e]
  funext i1 k1
  unfold ffill
  rw [if_neg (fun h => hq (by rw [h.1]; exact hf)), g q hq]
theorem fnewg {W : List Nat} {F0 F G : GF} (e : G = fnew F) (g : ∀ q, q ∉ W → F q = F0 q) (h38 : 38 ∈ W) (h39 : 39 ∈ W) : ∀ q, q ∉ W → G q = F0 q := fsg e (fsg rfl (fsg rfl (fsg rfl g h39) h39) h39) h38
theorem gcomp {W W1 : List Nat} {F0 F F1 : GF} (hs : ∀ q, q ∈ W1 → q ∈ W) (g : ∀ q, q ∉ W → F q = F0 q) (g1 : ∀ q, q ∉ W1 → F1 q = F q) : ∀ q, q ∉ W → F1 q = F0 q := fun q hq => (g1 q (fun h => hq (hs q h))).trans (g q hq)

theorem ln_X8_init {F : GF} {i0 : Nat} {p1 : Int32} {p2 : Int32} {p3 : Int32} {K : GF → Prop} (h : P_X8_init F i0 p1 p2 p3 K) : ∃ (F1 : GF), K F1 ∧ (∀ f, f ∉ ([39] : List Nat) → F1 f = F f) ∧ (∀ (K2 : GF → Prop), K2 F1 → P_X8_init F i0 p1 p2 p3 K2) := by
  have g : ∀ f, f ∉ ([39] : List Nat) → F f = F f := fun _ _ => rfl
  unfold P_X8_init at h
  obtain ⟨G1, e2, h⟩ := st_all h
  have g := fsg e2 g (by decide)
  obtain ⟨G3, e4, h⟩ := st_all h
  have g := fsg e4 g (by decide)
  obtain ⟨G5, e6, h⟩ := st_all h
  have g := fsg e6 g (by decide)
  exact ⟨_, h, g, fun K2 h2 => by unfold P_X8_init; exact all_g e2 (all_g e4 (all_g e6 (h2)))⟩
theorem ln_X10_needCrossing {F : GF} {p0 : Int32} {K : GF → Prop} {X : String → GF → Prop} (h : P_X10_needCrossing F p0 K X) : (∃ (F1 : GF), K F1 ∧ (∀ f, f ∉ ([] : List Nat) → F1 f = F f) ∧ (∀ (K2 : GF → Prop) (X2 : String → GF → Prop), K2 F1 → P_X10_needCrossing F p0 K2 X2)) ∨ (∃ (e : String) (F1 : GF), X e F1 ∧ (∀ f, f ∉ ([] : List Nat) → F1 f = F f) ∧ (∀ (K2 : GF → Prop) (X2 : String → GF → Prop), X2 e F1 → P_X10_needCrossing F p0 K2 X2)) := by
  have g : ∀ f, f ∉ ([] : List Nat) → F f = F f := fun _ _ => rfl
  unfold P_X10_needCrossing at h
  rcases ite_elim h with ⟨c1, h⟩ | ⟨c1, h⟩
  · skip
    exact Or.inr ⟨_, _, h, g, fun K2 X2 h2 => by unfold P_X10_needCrossing; exact ite_pos c1 (h2)⟩
  · skip
    rcases ite_elim h with ⟨c2, h⟩ | ⟨c2, h⟩
    · skip
      exact Or.inl ⟨_, h, g, fun K2 X2 h2 => by unfold P_X10_needCrossing; exact ite_neg c1 (ite_pos c2 (h2))⟩
    · skip
      exact Or.inr ⟨_, _, h, g, fun K2 X2 h2 => by unfold P_X10_needCrossing; exact ite_neg c1 (ite_neg c2 (h2))⟩
theorem ln_X9_streetBetween {F : GF} {p0 : Int32} {p1 : Int32} {K : Int32 → GF → Prop} (h : P_X9_streetBetween F p0 p1 K) : ∃ (r : Int32) (F1 : GF), K r F1 ∧ (∀ f, f ∉ ([] : List Nat) → F1 f = F f) ∧ (∀ (K2 : Int32 → GF → Prop), K2 r F1 → P_X9_streetBetween F p0 p1 K2) := by
  have g : ∀ f, f ∉ ([] : List Nat) → F f = F f := fun _ _ => rfl
  unfold P_X9_streetBetween at h
  rcases ite_elim h with ⟨c1, h⟩ | ⟨c1, h⟩
  · skip
    unfold P_X9_streetBetween_10 at h
    rcases ite_elim h with ⟨c2, h⟩ | ⟨c2, h⟩
    · skip
      unfold P_X9_streetBetween_21 at h
      rcases ite_elim h with ⟨c3, h⟩ | ⟨c3, h⟩
      · skip
        exact ⟨_, _, h, g, fun K2 h2 => by unfold P_X9_streetBetween; exact ite_pos c1 (by unfold P_X9_streetBetween_10; exact ite_pos c2 (by unfold P_X9_streetBetween_21; exact ite_pos c3 (h2)))⟩
      · skip
        rcases ite_elim h with ⟨c4, h⟩ | ⟨c4, h⟩
        · skip
          rcases ite_elim h with ⟨c5, h⟩ | ⟨c5, h⟩
          · skip
            exact ⟨_, _, h, g, fun K2 h2 => by unfold P_X9_streetBetween; exact ite_pos c1 (by unfold P_X9_streetBetween_10; exact ite_pos c2 (by unfold P_X9_streetBetween_21; exact ite_neg c3 (ite_pos c4 (ite_pos c5 (h2)))))⟩
          · skip
            rcases ite_elim h with ⟨c6, h⟩ | ⟨c6, h⟩
            · skip
              rcases ite_elim h with ⟨c7, h⟩ | ⟨c7, h⟩
              · skip
                exact ⟨_, _, h, g, fun K2 h2 => by unfold P_X9_streetBetween; exact ite_pos c1 (by unfold P_X9_streetBetween_10; exact ite_pos c2 (by unfold P_X9_streetBetween_21; exact ite_neg c3 (ite_pos c4 (ite_neg c5 (ite_pos c6 (ite_pos c7 (h2)))))))⟩
              · skip
                exact ⟨_, _, h, g, fun K2 h2 => by unfold P_X9_streetBetween; exact ite_pos c1 (by unfold P_X9_streetBetween_10; exact ite_pos c2 (by unfold P_X9_streetBetween_21; exact ite_neg c3 (ite_pos c4 (ite_neg c5 (ite_pos c6 (ite_neg c7 (h2)))))))⟩
            · skip
              exact ⟨_, _, h, g, fun K2 h2 => by unfold P_X9_streetBetween; exact ite_pos c1 (by unfold P_X9_streetBetween_10; exact ite_pos c2 (by unfold P_X9_streetBetween_21; exact ite_neg c3 (ite_pos c4 (ite_neg c5 (ite_neg c6 (h2))))))⟩
        · skip
          exact ⟨_, _, h, g, fun K2 h2 => by unfold P_X9_streetBetween; exact ite_pos c1 (by unfold P_X9_streetBetween_10; exact ite_pos c2 (by unfold P_X9_streetBetween_21; exact ite_neg c3 (ite_neg c4 (h2))))⟩
    · skip
      unfold P_X9_streetBetween_21 at h
      rcases ite_elim h with ⟨c8, h⟩ | ⟨c8, h⟩
      · skip
        exact ⟨_, _, h, g, fun K2 h2 => by unfold P_X9_streetBetween; exact ite_pos c1 (by unfold P_X9_streetBetween_10; exact ite_neg c2 (by unfold P_X9_streetBetween_21; exact ite_pos c8 (h2)))⟩
      · skip
        rcases ite_elim h with ⟨c9, h⟩ | ⟨c9, h⟩
        · skip
          rcases ite_elim h with ⟨c10, h⟩ | ⟨c10, h⟩
          · skip
            exact ⟨_, _, h, g, fun K2 h2 => by unfold P_X9_streetBetween; exact ite_pos c1 (by unfold P_X9_streetBetween_10; exact ite_neg c2 (by unfold P_X9_streetBetween_21; exact ite_neg c8 (ite_pos c9 (ite_pos c10 (h2)))))⟩
          · skip
            rcases ite_elim h with ⟨c11, h⟩ | ⟨c11, h⟩
            · skip
              rcases ite_elim h with ⟨c12, h⟩ | ⟨c12, h⟩
              · skip
                exact ⟨_, _, h, g, fun K2 h2 => by unfold P_X9_streetBetween; exact ite_pos c1 (by unfold P_X9_streetBetween_10; exact ite_neg c2 (by unfold P_X9_streetBetween_21; exact ite_neg c8 (ite_pos c9 (ite_neg c10 (ite_pos c11 (ite_pos c12 (h2)))))))⟩
              · skip
                exact ⟨_, _, h, g, fun K2 h2 => by unfold P_X9_streetBetween; exact ite_pos c1 (by unfold P_X9_streetBetween_10; exact ite_neg c2 (by unfold P_X9_streetBetween_21; exact ite_neg c8 (ite_pos c9 (ite_neg c10 (ite_pos c11 (ite_neg c12 (h2)))))))⟩
            · skip
              exact ⟨_, _, h, g, fun K2 h2 => by unfold P_X9_streetBetween; exact ite_pos c1 (by unfold P_X9_streetBetween_10; exact ite_neg c2 (by unfold P_X9_streetBetween_21; exact ite_neg c8 (ite_pos c9 (ite_neg c10 (ite_neg c11 (h2))))))⟩
        · skip
          exact ⟨_, _, h, g, fun K2 h2 => by unfold P_X9_streetBetween; exact ite_pos c1 (by unfold P_X9_streetBetween_10; exact ite_neg c2 (by unfold P_X9_streetBetween_21; exact ite_neg c8 (ite_neg c9 (h2))))⟩
  · skip
    unfold P_X9_streetBetween_10 at h
    rcases ite_elim h with ⟨c13, h⟩ | ⟨c13, h⟩
    · skip
      unfold P_X9_streetBetween_21 at h
      rcases ite_elim h with ⟨c14, h⟩ | ⟨c14, h⟩
      · skip
        exact ⟨_, _, h, g, fun K2 h2 => by unfold P_X9_streetBetween; exact ite_neg c1 (by unfold P_X9_streetBetween_10; exact ite_pos c13 (by unfold P_X9_streetBetween_21; exact ite_pos c14 (h2)))⟩
      · skip
        rcases ite_elim h with ⟨c15, h⟩ | ⟨c15, h⟩
        · skip
          rcases ite_elim h with ⟨c16, h⟩ | ⟨c16, h⟩
          · skip
            exact ⟨_, _, h, g, fun K2 h2 => by unfold P_X9_streetBetween; exact ite_neg c1 (by unfold P_X9_streetBetween_10; exact ite_pos c13 (by unfold P_X9_streetBetween_21; exact ite_neg c14 (ite_pos c15 (ite_pos c16 (h2)))))⟩
          · skip
            rcases ite_elim h with ⟨c17, h⟩ | ⟨c17, h⟩
            · skip
              rcases ite_elim h with ⟨c18, h⟩ | ⟨c18, h⟩
              · skip
                exact ⟨_, _, h, g, fun K2 h2 => by unfold P_X9_streetBetween; exact ite_neg c1 (by unfold P_X9_streetBetween_10; exact ite_pos c13 (by unfold P_X9_streetBetween_21; exact ite_neg c14 (ite_pos c15 (ite_neg c16 (ite_pos c17 (ite_pos c18 (h2)))))))⟩
              · skip
                exact ⟨_, _, h, g, fun K2 h2 => by unfold P_X9_streetBetween; exact ite_neg c1 (by unfold P_X9_streetBetween_10; exact ite_pos c13 (by unfold P_X9_streetBetween_21; exact ite_neg c14 (ite_pos c15 (ite_neg c16 (ite_pos c17 (ite_neg c18 (h2)))))))⟩
            · skip
              exact ⟨_, _, h, g, fun K2 h2 => by unfold P_X9_streetBetween; exact ite_neg c1 (by unfold P_X9_streetBetween_10; exact ite_pos c13 (by unfold P_X9_streetBetween_21; exact ite_neg c14 (ite_pos c15 (ite_neg c16 (ite_neg c17 (h2))))))⟩
        · skip
          exact ⟨_, _, h, g, fun K2 h2 => by unfold P_X9_streetBetween; exact ite_neg c1 (by unfold P_X9_streetBetween_10; exact ite_pos c13 (by unfold P_X9_streetBetween_21; exact ite_neg c14 (ite_neg c15 (h2))))⟩
    · skip
      unfold P_X9_streetBetween_21 at h
      rcases ite_elim h with ⟨c19, h⟩ | ⟨c19, h⟩
      · skip
        exact ⟨_, _, h, g, fun K2 h2 => by unfold P_X9_streetBetween; exact ite_neg c1 (by unfold P_X9_streetBetween_10; exact ite_neg c13 (by unfold P_X9_streetBetween_21; exact ite_pos c19 (h2)))⟩
      · skip
        rcases ite_elim h with ⟨c20, h⟩ | ⟨c20, h⟩
        · skip
          rcases ite_elim h with ⟨c21, h⟩ | ⟨c21, h⟩
          · skip
            exact ⟨_, _, h, g, fun K2 h2 => by unfold P_X9_streetBetween; exact ite_neg c1 (by unfold P_X9_streetBetween_10; exact ite_neg c13 (by unfold P_X9_streetBetween_21; exact ite_neg c19 (ite_pos c20 (ite_pos c21 (h2)))))⟩
          · skip
            rcases ite_elim h with ⟨c22, h⟩ | ⟨c22, h⟩
            · skip
              rcases ite_elim h with ⟨c23, h⟩ | ⟨c23, h⟩
              · skip
                exact ⟨_, _, h, g, fun K2 h2 => by unfold P_X9_streetBetween; exact ite_neg c1 (by unfold P_X9_streetBetween_10; exact ite_neg c13 (by unfold P_X9_streetBetween_21; exact ite_neg c19 (ite_pos c20 (ite_neg c21 (ite_pos c22 (ite_pos c23 (h2)))))))⟩
              · skip
                exact ⟨_, _, h, g, fun K2 h2 => by unfold P_X9_streetBetween; exact ite_neg c1 (by unfold P_X9_streetBetween_10; exact ite_neg c13 (by unfold P_X9_streetBetween_21; exact ite_neg c19 (ite_pos c20 (ite_neg c21 (ite_pos c22 (ite_neg c23 (h2)))))))⟩
            · skip
              exact ⟨_, _, h, g, fun K2 h2 => by unfold P_X9_streetBetween; exact ite_neg c1 (by unfold P_X9_streetBetween_10; exact ite_neg c13 (by unfold P_X9_streetBetween_21; exact ite_neg c19 (ite_pos c20 (ite_neg c21 (ite_neg c22 (h2))))))⟩
        · skip
          exact ⟨_, _, h, g, fun K2 h2 => by unfold P_X9_streetBetween; exact ite_neg c1 (by unfold P_X9_streetBetween_10; exact ite_neg c13 (by unfold P_X9_streetBetween_21; exact ite_neg c19 (ite_neg c20 (h2))))⟩
theorem ln_X9_setBarred {F : GF} {p1 : Int32} {p2 : Int32} {K : Int32 → GF → Prop} (h : P_X9_setBarred F p1 p2 K) : ∃ (r : Int32) (F1 : GF), K r F1 ∧ (∀ f, f ∉ ([2] : List Nat) → F1 f = F f) ∧ (∀ (K2 : Int32 → GF → Prop), K2 r F1 → P_X9_setBarred F p1 p2 K2) := by
  have g : ∀ f, f ∉ ([2] : List Nat) → F f = F f := fun _ _ => rfl
  unfold P_X9_setBarred at h
  rcases ite_elim h with ⟨c1, h⟩ | ⟨c1, h⟩
  · skip
    exact ⟨_, _, h, g, fun K2 h2 => by unfold P_X9_setBarred; exact ite_pos c1 (h2)⟩
  · skip
    rcases ite_elim h with ⟨c2, h⟩ | ⟨c2, h⟩
    · skip
      obtain ⟨v3, h⟩ := h
      obtain ⟨v4, h⟩ := h
      obtain ⟨v5, h⟩ := h
      obtain ⟨G6, e7, h⟩ := st_all h
      have g := fsg e7 g (by decide)
      obtain ⟨v8, h⟩ := h
      exact ⟨_, _, h, g, fun K2 h2 => by unfold P_X9_setBarred; exact ite_neg c1 (ite_pos c2 (And.intro v3 (And.intro v4 (And.intro v5 (all_g e7 (And.intro v8 (h2)))))))⟩
    · skip
      exact ⟨_, _, h, g, fun K2 h2 => by unfold P_X9_setBarred; exact ite_neg c1 (ite_neg c2 (h2))⟩
theorem ln_X10_bar {F : GF} {p1 : Int32} {p2 : Int32} {p3 : Int32} {K : Int32 → GF → Prop} {X : String → GF → Prop} (h : P_X10_bar F p1 p2 p3 K X) : (∃ (r : Int32) (F1 : GF), K r F1 ∧ (∀ f, f ∉ ([2] : List Nat) → F1 f = F f) ∧ (∀ (K2 : Int32 → GF → Prop) (X2 : String → GF → Prop), K2 r F1 → P_X10_bar F p1 p2 p3 K2 X2)) ∨ (∃ (e : String) (F1 : GF), X e F1 ∧ (∀ f, f ∉ ([2] : List Nat) → F1 f = F f) ∧ (∀ (K2 : Int32 → GF → Prop) (X2 : String → GF → Prop), X2 e F1 → P_X10_bar F p1 p2 p3 K2 X2)) := by
  have g : ∀ f, f ∉ ([2] : List Nat) → F f = F f := fun _ _ => rfl
  unfold P_X10_bar at h
  rcases ln_X10_needCrossing h with ⟨G2, h, g3, b4⟩ | ⟨e5, G2, h, g3, b4⟩
  · have g := gcomp (by decide) g g3
    rcases ln_X10_needCrossing h with ⟨G7, h, g8, b9⟩ | ⟨e10, G7, h, g8, b9⟩
    · have g := gcomp (by decide) g g8
      obtain ⟨r11, G12, h, g13, b14⟩ := ln_X9_streetBetween h
      have g := gcomp (by decide) g g13
      rcases ite_elim h with ⟨c15, h⟩ | ⟨c15, h⟩
      · skip
        exact Or.inr ⟨_, _, h, g, fun K2 X2 h2 => by unfold P_X10_bar; exact b4 _ _ (b9 _ _ (b14 _ (ite_pos c15 (h2))))⟩
      · skip
        obtain ⟨r16, G17, h, g18, b19⟩ := ln_X9_setBarred h
        have g := gcomp (by decide) g g18
        obtain ⟨v20, h⟩ := h
        exact Or.inl ⟨_, _, h, g, fun K2 X2 h2 => by unfold P_X10_bar; exact b4 _ _ (b9 _ _ (b14 _ (ite_neg c15 (b19 _ (And.intro v20 (h2))))))⟩
    · have g := gcomp (by decide) g g8
      exact Or.inr ⟨_, _, h, g, fun K2 X2 h2 => by unfold P_X10_bar; exact b4 _ _ (b9 _ _ (h2))⟩
  · have g := gcomp (by decide) g g3
    exact Or.inr ⟨_, _, h, g, fun K2 X2 h2 => by unfold P_X10_bar; exact b4 _ _ (h2)⟩
theorem ln_X9_reach {F : GF} {p1 : Int32} {p2 : Int32} {p3 : Int32} {K : Int32 → GF → Prop} (h : P_X9_reach F p1 p2 p3 K) : ∃ (r : Int32) (F1 : GF), K r F1 ∧ (∀ f, f ∉ ([3, 4] : List Nat) → F1 f = F f) ∧ (∀ (K2 : Int32 → GF → Prop), K2 r F1 → P_X9_reach F p1 p2 p3 K2) := by
  have g : ∀ f, f ∉ ([3, 4] : List Nat) → F f = F f := fun _ _ => rfl
  unfold P_X9_reach at h
  obtain ⟨r1, G2, h, g3, b4⟩ := ln_X9_streetBetween h
  have g := gcomp (by decide) g g3
  rcases ite_elim h with ⟨c5, h⟩ | ⟨c5, h⟩
  · skip
    exact ⟨_, _, h, g, fun K2 h2 => by unfold P_X9_reach; exact b4 _ (ite_pos c5 (h2))⟩
  · skip
    obtain ⟨v6, h⟩ := h
    rcases ite_elim h with ⟨c7, h⟩ | ⟨c7, h⟩
    · skip
      obtain ⟨v8, h⟩ := h
      rcases ite_elim h with ⟨c9, h⟩ | ⟨c9, h⟩
      · skip
        rcases ite_elim h with ⟨c10, h⟩ | ⟨c10, h⟩
        · skip
          obtain ⟨v11, h⟩ := h
          obtain ⟨v12, h⟩ := h
          obtain ⟨G13, e14, h⟩ := st_all h
          have g := fsg e14 g (by decide)
          obtain ⟨v15, h⟩ := h
          obtain ⟨G16, e17, h⟩ := st_all h
          have g := fsg e17 g (by decide)
          exact ⟨_, _, h, g, fun K2 h2 => by unfold P_X9_reach; exact b4 _ (ite_neg c5 (And.intro v6 (ite_pos c7 (And.intro v8 (ite_pos c9 (ite_pos c10 (And.intro v11 (And.intro v12 (all_g e14 (And.intro v15 (all_g e17 (h2))))))))))))⟩
        · skip
          exact ⟨_, _, h, g, fun K2 h2 => by unfold P_X9_reach; exact b4 _ (ite_neg c5 (And.intro v6 (ite_pos c7 (And.intro v8 (ite_pos c9 (ite_neg c10 (h2)))))))⟩
      · skip
        exact ⟨_, _, h, g, fun K2 h2 => by unfold P_X9_reach; exact b4 _ (ite_neg c5 (And.intro v6 (ite_pos c7 (And.intro v8 (ite_neg c9 (h2))))))⟩
    · skip
      exact ⟨_, _, h, g, fun K2 h2 => by unfold P_X9_reach; exact b4 _ (ite_neg c5 (And.intro v6 (ite_neg c7 (h2))))⟩
theorem ln_X9_measureFrom_37  {K : GF → Prop} : ∀ (n : Nat) (F : GF) (x2 : Int32) (x3 : Int32), P_X9_measureFrom_37 K n F x2 x3 → ∃ (F1 : GF), K F1 ∧ (∀ f, f ∉ ([3, 4] : List Nat) → F1 f = F f) ∧ (∃ m : Nat, ∀ (K2 : GF → Prop), K2 F1 → P_X9_measureFrom_37 K2 m F x2 x3) := by
  intro n
  induction n with
  | zero => exact fun _ _ _ h => False.elim h
  | succ n ih =>
    intro F x2 x3 h
    have g : ∀ f, f ∉ ([3, 4] : List Nat) → F f = F f := fun _ _ => rfl
    rw [P_X9_measureFrom_37] at h
    rcases ite_elim h with ⟨c1, h⟩ | ⟨c1, h⟩
    · skip
      exact ⟨_, h, g, ⟨0 + 1, fun K2 h2 => by rw [P_X9_measureFrom_37]; exact ite_pos c1 (h2)⟩⟩
    · skip
      rcases ite_elim h with ⟨c2, h⟩ | ⟨c2, h⟩
      · skip
        exact ⟨_, h, g, ⟨0 + 1, fun K2 h2 => by rw [P_X9_measureFrom_37]; exact ite_neg c1 (ite_pos c2 (h2))⟩⟩
      · skip
        obtain ⟨v3, h⟩ := h
        obtain ⟨r4, G5, h, g6, b7⟩ := ln_X9_reach h
        have g := gcomp (by decide) g g6
        obtain ⟨r8, G9, h, g10, b11⟩ := ln_X9_reach h
        have g := gcomp (by decide) g g10
        obtain ⟨r12, G13, h, g14, b15⟩ := ln_X9_reach h
        have g := gcomp (by decide) g g14
        obtain ⟨r16, G17, h, g18, b19⟩ := ln_X9_reach h
        have g := gcomp (by decide) g g18
        obtain ⟨G21, h, g22, ⟨m23, b24⟩⟩ := ih _ _ _ h
        exact ⟨_, h, gcomp (fun _ h => h) g g22, ⟨m23 + 1, fun K2 h2 => by rw [P_X9_measureFrom_37]; exact ite_neg c1 (ite_neg c2 (And.intro v3 (b7 _ (b11 _ (b15 _ (b19 _ (b24 K2 h2)))))))⟩⟩
theorem ln_X9_measureFrom {F : GF} {p1 : Int32} {K : GF → Prop} (h : P_X9_measureFrom F p1 K) : ∃ (F1 : GF), K F1 ∧ (∀ f, f ∉ ([3, 4] : List Nat) → F1 f = F f) ∧ (∀ (K2 : GF → Prop), K2 F1 → P_X9_measureFrom F p1 K2) := by
  have g : ∀ f, f ∉ ([3, 4] : List Nat) → F f = F f := fun _ _ => rfl
  unfold P_X9_measureFrom at h
  obtain ⟨G1, e2, h⟩ := st_all h
  have g := ffillg e2 g (by decide)
  rcases ite_elim h with ⟨c3, h⟩ | ⟨c3, h⟩
  · skip
    exact ⟨_, h, g, fun K2 h2 => by unfold P_X9_measureFrom; exact all_g e2 (ite_pos c3 (h2))⟩
  · skip
    rcases ite_elim h with ⟨c4, h⟩ | ⟨c4, h⟩
    · skip
      obtain ⟨v5, h⟩ := h
      obtain ⟨G6, e7, h⟩ := st_all h
      have g := fsg e7 g (by decide)
      obtain ⟨v8, h⟩ := h
      obtain ⟨G9, e10, h⟩ := st_all h
      have g := fsg e10 g (by decide)
      obtain ⟨n11, h⟩ := h
      obtain ⟨G13, h, g14, ⟨m15, b16⟩⟩ := ln_X9_measureFrom_37 _ _ _ _ h
      have g := gcomp (by decide) g g14
      exact ⟨_, h, g, fun K2 h2 => by unfold P_X9_measureFrom; exact all_g e2 (ite_neg c3 (ite_pos c4 (And.intro v5 (all_g e7 (And.intro v8 (all_g e10 (Exists.intro m15 (b16 _ (h2)))))))))⟩
    · skip
      exact ⟨_, h, g, fun K2 h2 => by unfold P_X9_measureFrom; exact all_g e2 (ite_neg c3 (ite_neg c4 (h2)))⟩
theorem ln_X9_measuredTo {F : GF} {p1 : Int32} {K : Int32 → GF → Prop} (h : P_X9_measuredTo F p1 K) : ∃ (r : Int32) (F1 : GF), K r F1 ∧ (∀ f, f ∉ ([] : List Nat) → F1 f = F f) ∧ (∀ (K2 : Int32 → GF → Prop), K2 r F1 → P_X9_measuredTo F p1 K2) := by
  have g : ∀ f, f ∉ ([] : List Nat) → F f = F f := fun _ _ => rfl
  unfold P_X9_measuredTo at h
  rcases ite_elim h with ⟨c1, h⟩ | ⟨c1, h⟩
  · skip
    exact ⟨_, _, h, g, fun K2 h2 => by unfold P_X9_measuredTo; exact ite_pos c1 (h2)⟩
  · skip
    rcases ite_elim h with ⟨c2, h⟩ | ⟨c2, h⟩
    · skip
      obtain ⟨v3, h⟩ := h
      exact ⟨_, _, h, g, fun K2 h2 => by unfold P_X9_measuredTo; exact ite_neg c1 (ite_pos c2 (And.intro v3 (h2)))⟩
    · skip
      exact ⟨_, _, h, g, fun K2 h2 => by unfold P_X9_measuredTo; exact ite_neg c1 (ite_neg c2 (h2))⟩
theorem ln_X10_way {F : GF} {p1 : Int32} {p2 : Int32} {K : Int32 → GF → Prop} {X : String → GF → Prop} (h : P_X10_way F p1 p2 K X) : (∃ (r : Int32) (F1 : GF), K r F1 ∧ (∀ f, f ∉ ([3, 4] : List Nat) → F1 f = F f) ∧ (∀ (K2 : Int32 → GF → Prop) (X2 : String → GF → Prop), K2 r F1 → P_X10_way F p1 p2 K2 X2)) ∨ (∃ (e : String) (F1 : GF), X e F1 ∧ (∀ f, f ∉ ([3, 4] : List Nat) → F1 f = F f) ∧ (∀ (K2 : Int32 → GF → Prop) (X2 : String → GF → Prop), X2 e F1 → P_X10_way F p1 p2 K2 X2)) := by
  have g : ∀ f, f ∉ ([3, 4] : List Nat) → F f = F f := fun _ _ => rfl
  unfold P_X10_way at h
  rcases ln_X10_needCrossing h with ⟨G2, h, g3, b4⟩ | ⟨e5, G2, h, g3, b4⟩
  · have g := gcomp (by decide) g g3
    rcases ln_X10_needCrossing h with ⟨G7, h, g8, b9⟩ | ⟨e10, G7, h, g8, b9⟩
    · have g := gcomp (by decide) g g8
      obtain ⟨G12, h, g13, b14⟩ := ln_X9_measureFrom h
      have g := gcomp (by decide) g g13
      obtain ⟨r15, G16, h, g17, b18⟩ := ln_X9_measuredTo h
      have g := gcomp (by decide) g g17
      exact Or.inl ⟨_, _, h, g, fun K2 X2 h2 => by unfold P_X10_way; exact b4 _ _ (b9 _ _ (b14 _ (b18 _ (h2))))⟩
    · have g := gcomp (by decide) g g8
      exact Or.inr ⟨_, _, h, g, fun K2 X2 h2 => by unfold P_X10_way; exact b4 _ _ (b9 _ _ (h2))⟩
  · have g := gcomp (by decide) g g3
    exact Or.inr ⟨_, _, h, g, fun K2 X2 h2 => by unfold P_X10_way; exact b4 _ _ (h2)⟩
theorem ln_X10_needRange {F : GF} {p0 : Int32} {p1 : Int32} {p2 : Int32} {K : GF → Prop} {X : String → GF → Prop} (h : P_X10_needRange F p0 p1 p2 K X) : (∃ (F1 : GF), K F1 ∧ (∀ f, f ∉ ([] : List Nat) → F1 f = F f) ∧ (∀ (K2 : GF → Prop) (X2 : String → GF → Prop), K2 F1 → P_X10_needRange F p0 p1 p2 K2 X2)) ∨ (∃ (e : String) (F1 : GF), X e F1 ∧ (∀ f, f ∉ ([] : List Nat) → F1 f = F f) ∧ (∀ (K2 : GF → Prop) (X2 : String → GF → Prop), X2 e F1 → P_X10_needRange F p0 p1 p2 K2 X2)) := by
  have g : ∀ f, f ∉ ([] : List Nat) → F f = F f := fun _ _ => rfl
  unfold P_X10_needRange at h
  rcases ite_elim h with ⟨c1, h⟩ | ⟨c1, h⟩
  · skip
    exact Or.inr ⟨_, _, h, g, fun K2 X2 h2 => by unfold P_X10_needRange; exact ite_pos c1 (h2)⟩
  · skip
    rcases ite_elim h with ⟨c2, h⟩ | ⟨c2, h⟩
    · skip
      exact Or.inl ⟨_, h, g, fun K2 X2 h2 => by unfold P_X10_needRange; exact ite_neg c1 (ite_pos c2 (h2))⟩
    · skip
      exact Or.inr ⟨_, _, h, g, fun K2 X2 h2 => by unfold P_X10_needRange; exact ite_neg c1 (ite_neg c2 (h2))⟩
theorem ln_X7_add {F : GF} {p1 : Int32} {p2 : Int32} {K : Int32 → GF → Prop} (h : P_X7_add F p1 p2 K) : ∃ (r : Int32) (F1 : GF), K r F1 ∧ (∀ f, f ∉ ([6, 7, 8] : List Nat) → F1 f = F f) ∧ (∀ (K2 : Int32 → GF → Prop), K2 r F1 → P_X7_add F p1 p2 K2) := by
  have g : ∀ f, f ∉ ([6, 7, 8] : List Nat) → F f = F f := fun _ _ => rfl
  unfold P_X7_add at h
  rcases ite_elim h with ⟨c1, h⟩ | ⟨c1, h⟩
  · skip
    obtain ⟨v2, h⟩ := h
    obtain ⟨G3, e4, h⟩ := st_all h
    have g := fsg e4 g (by decide)
    obtain ⟨v5, h⟩ := h
    obtain ⟨G6, e7, h⟩ := st_all h
    have g := fsg e7 g (by decide)
    obtain ⟨G8, e9, h⟩ := st_all h
    have g := fsg e9 g (by decide)
    exact ⟨_, _, h, g, fun K2 h2 => by unfold P_X7_add; exact ite_pos c1 (And.intro v2 (all_g e4 (And.intro v5 (all_g e7 (all_g e9 (h2))))))⟩
  · skip
    exact ⟨_, _, h, g, fun K2 h2 => by unfold P_X7_add; exact ite_neg c1 (h2)⟩
theorem ln_X10_station {F : GF} {p1 : Int32} {p2 : Int32} {K : Int32 → GF → Prop} {X : String → GF → Prop} (h : P_X10_station F p1 p2 K X) : (∃ (r : Int32) (F1 : GF), K r F1 ∧ (∀ f, f ∉ ([6, 7, 8] : List Nat) → F1 f = F f) ∧ (∀ (K2 : Int32 → GF → Prop) (X2 : String → GF → Prop), K2 r F1 → P_X10_station F p1 p2 K2 X2)) ∨ (∃ (e : String) (F1 : GF), X e F1 ∧ (∀ f, f ∉ ([6, 7, 8] : List Nat) → F1 f = F f) ∧ (∀ (K2 : Int32 → GF → Prop) (X2 : String → GF → Prop), X2 e F1 → P_X10_station F p1 p2 K2 X2)) := by
  have g : ∀ f, f ∉ ([6, 7, 8] : List Nat) → F f = F f := fun _ _ => rfl
  unfold P_X10_station at h
  rcases ln_X10_needCrossing h with ⟨G2, h, g3, b4⟩ | ⟨e5, G2, h, g3, b4⟩
  · have g := gcomp (by decide) g g3
    rcases ln_X10_needRange h with ⟨G7, h, g8, b9⟩ | ⟨e10, G7, h, g8, b9⟩
    · have g := gcomp (by decide) g g8
      rcases ite_elim h with ⟨c11, h⟩ | ⟨c11, h⟩
      · skip
        obtain ⟨r12, G13, h, g14, b15⟩ := ln_X7_add h
        have g := gcomp (by decide) g g14
        exact Or.inl ⟨_, _, h, g, fun K2 X2 h2 => by unfold P_X10_station; exact b4 _ _ (b9 _ _ (ite_pos c11 (b15 _ (h2))))⟩
      · skip
        exact Or.inr ⟨_, _, h, g, fun K2 X2 h2 => by unfold P_X10_station; exact b4 _ _ (b9 _ _ (ite_neg c11 (h2)))⟩
    · have g := gcomp (by decide) g g8
      exact Or.inr ⟨_, _, h, g, fun K2 X2 h2 => by unfold P_X10_station; exact b4 _ _ (b9 _ _ (h2))⟩
  · have g := gcomp (by decide) g g3
    exact Or.inr ⟨_, _, h, g, fun K2 X2 h2 => by unfold P_X10_station; exact b4 _ _ (h2)⟩
theorem ln_X10_needStation {F : GF} {p1 : Int32} {K : GF → Prop} {X : String → GF → Prop} (h : P_X10_needStation F p1 K X) : (∃ (F1 : GF), K F1 ∧ (∀ f, f ∉ ([] : List Nat) → F1 f = F f) ∧ (∀ (K2 : GF → Prop) (X2 : String → GF → Prop), K2 F1 → P_X10_needStation F p1 K2 X2)) ∨ (∃ (e : String) (F1 : GF), X e F1 ∧ (∀ f, f ∉ ([] : List Nat) → F1 f = F f) ∧ (∀ (K2 : GF → Prop) (X2 : String → GF → Prop), X2 e F1 → P_X10_needStation F p1 K2 X2)) := by
  have g : ∀ f, f ∉ ([] : List Nat) → F f = F f := fun _ _ => rfl
  unfold P_X10_needStation at h
  rcases ite_elim h with ⟨c1, h⟩ | ⟨c1, h⟩
  · skip
    exact Or.inr ⟨_, _, h, g, fun K2 X2 h2 => by unfold P_X10_needStation; exact ite_pos c1 (h2)⟩
  · skip
    rcases ite_elim h with ⟨c2, h⟩ | ⟨c2, h⟩
    · skip
      exact Or.inl ⟨_, h, g, fun K2 X2 h2 => by unfold P_X10_needStation; exact ite_neg c1 (ite_pos c2 (h2))⟩
    · skip
      exact Or.inr ⟨_, _, h, g, fun K2 X2 h2 => by unfold P_X10_needStation; exact ite_neg c1 (ite_neg c2 (h2))⟩
theorem ln_X10_setSeats {F : GF} {p1 : Int32} {p2 : Int32} {K : Int32 → GF → Prop} {X : String → GF → Prop} (h : P_X10_setSeats F p1 p2 K X) : (∃ (r : Int32) (F1 : GF), K r F1 ∧ (∀ f, f ∉ ([8] : List Nat) → F1 f = F f) ∧ (∀ (K2 : Int32 → GF → Prop) (X2 : String → GF → Prop), K2 r F1 → P_X10_setSeats F p1 p2 K2 X2)) ∨ (∃ (e : String) (F1 : GF), X e F1 ∧ (∀ f, f ∉ ([8] : List Nat) → F1 f = F f) ∧ (∀ (K2 : Int32 → GF → Prop) (X2 : String → GF → Prop), X2 e F1 → P_X10_setSeats F p1 p2 K2 X2)) := by
  have g : ∀ f, f ∉ ([8] : List Nat) → F f = F f := fun _ _ => rfl
  unfold P_X10_setSeats at h
  rcases ln_X10_needStation h with ⟨G2, h, g3, b4⟩ | ⟨e5, G2, h, g3, b4⟩
  · have g := gcomp (by decide) g g3
    rcases ln_X10_needRange h with ⟨G7, h, g8, b9⟩ | ⟨e10, G7, h, g8, b9⟩
    · have g := gcomp (by decide) g g8
      obtain ⟨v11, h⟩ := h
      obtain ⟨v12, h⟩ := h
      obtain ⟨G13, e14, h⟩ := st_all h
      have g := fsg e14 g (by decide)
      exact Or.inl ⟨_, _, h, g, fun K2 X2 h2 => by unfold P_X10_setSeats; exact b4 _ _ (b9 _ _ (And.intro v11 (And.intro v12 (all_g e14 (h2)))))⟩
    · have g := gcomp (by decide) g g8
      exact Or.inr ⟨_, _, h, g, fun K2 X2 h2 => by unfold P_X10_setSeats; exact b4 _ _ (b9 _ _ (h2))⟩
  · have g := gcomp (by decide) g g3
    exact Or.inr ⟨_, _, h, g, fun K2 X2 h2 => by unfold P_X10_setSeats; exact b4 _ _ (h2)⟩
theorem ln_X10_person {F : GF} {p1 : Int32} {p2 : Int32} {K : Int32 → GF → Prop} {X : String → GF → Prop} (h : P_X10_person F p1 p2 K X) : (∃ (r : Int32) (F1 : GF), K r F1 ∧ (∀ f, f ∉ ([0, 33, 38, 39] : List Nat) → F1 f = F f) ∧ (∀ (K2 : Int32 → GF → Prop) (X2 : String → GF → Prop), K2 r F1 → P_X10_person F p1 p2 K2 X2)) ∨ (∃ (e : String) (F1 : GF), X e F1 ∧ (∀ f, f ∉ ([0, 33, 38, 39] : List Nat) → F1 f = F f) ∧ (∀ (K2 : Int32 → GF → Prop) (X2 : String → GF → Prop), X2 e F1 → P_X10_person F p1 p2 K2 X2)) := by
  have g : ∀ f, f ∉ ([0, 33, 38, 39] : List Nat) → F f = F f := fun _ _ => rfl
  unfold P_X10_person at h
  rcases ln_X10_needCrossing h with ⟨G2, h, g3, b4⟩ | ⟨e5, G2, h, g3, b4⟩
  · have g := gcomp (by decide) g g3
    rcases ln_X10_needRange h with ⟨G7, h, g8, b9⟩ | ⟨e10, G7, h, g8, b9⟩
    · have g := gcomp (by decide) g g8
      rcases ite_elim h with ⟨c11, h⟩ | ⟨c11, h⟩
      · skip
        obtain ⟨v12, h⟩ := h
        obtain ⟨G13, e14, h⟩ := st_all h
        have g := fsg e14 g (by decide)
        obtain ⟨v15, h⟩ := h
        obtain ⟨v16, h⟩ := h
        obtain ⟨G17, e18, h⟩ := st_all h
        have g := fnewg e18 g (by decide) (by decide)
        obtain ⟨G20, h, g21, b22⟩ := ln_X8_init h
        have g := gcomp (by decide) g g21
        obtain ⟨G23, e24, h⟩ := st_all h
        have g := fsg e24 g (by decide)
        obtain ⟨G25, e26, h⟩ := st_all h
        have g := fsg e26 g (by decide)
        exact Or.inl ⟨_, _, h, g, fun K2 X2 h2 => by unfold P_X10_person; exact b4 _ _ (b9 _ _ (ite_pos c11 (And.intro v12 (all_g e14 (And.intro v15 (And.intro v16 (all_g e18 (b22 _ (all_g e24 (all_g e26 (h2)))))))))))⟩
      · skip
        exact Or.inr ⟨_, _, h, g, fun K2 X2 h2 => by unfold P_X10_person; exact b4 _ _ (b9 _ _ (ite_neg c11 (h2)))⟩
    · have g := gcomp (by decide) g g8
      exact Or.inr ⟨_, _, h, g, fun K2 X2 h2 => by unfold P_X10_person; exact b4 _ _ (b9 _ _ (h2))⟩
  · have g := gcomp (by decide) g g3
    exact Or.inr ⟨_, _, h, g, fun K2 X2 h2 => by unfold P_X10_person; exact b4 _ _ (h2)⟩
theorem ln_X10_needPerson {F : GF} {p1 : Int32} {K : GF → Prop} {X : String → GF → Prop} (h : P_X10_needPerson F p1 K X) : (∃ (F1 : GF), K F1 ∧ (∀ f, f ∉ ([] : List Nat) → F1 f = F f) ∧ (∀ (K2 : GF → Prop) (X2 : String → GF → Prop), K2 F1 → P_X10_needPerson F p1 K2 X2)) ∨ (∃ (e : String) (F1 : GF), X e F1 ∧ (∀ f, f ∉ ([] : List Nat) → F1 f = F f) ∧ (∀ (K2 : GF → Prop) (X2 : String → GF → Prop), X2 e F1 → P_X10_needPerson F p1 K2 X2)) := by
  have g : ∀ f, f ∉ ([] : List Nat) → F f = F f := fun _ _ => rfl
  unfold P_X10_needPerson at h
  rcases ite_elim h with ⟨c1, h⟩ | ⟨c1, h⟩
  · skip
    exact Or.inr ⟨_, _, h, g, fun K2 X2 h2 => by unfold P_X10_needPerson; exact ite_pos c1 (h2)⟩
  · skip
    rcases ite_elim h with ⟨c2, h⟩ | ⟨c2, h⟩
    · skip
      exact Or.inl ⟨_, h, g, fun K2 X2 h2 => by unfold P_X10_needPerson; exact ite_neg c1 (ite_pos c2 (h2))⟩
    · skip
      exact Or.inr ⟨_, _, h, g, fun K2 X2 h2 => by unfold P_X10_needPerson; exact ite_neg c1 (ite_neg c2 (h2))⟩
theorem ln_X10_personAt {F : GF} {p1 : Int32} {K : Nat → GF → Prop} {X : String → GF → Prop} (h : P_X10_personAt F p1 K X) : (∃ (r : Nat) (F1 : GF), K r F1 ∧ (∀ f, f ∉ ([] : List Nat) → F1 f = F f) ∧ (∀ (K2 : Nat → GF → Prop) (X2 : String → GF → Prop), K2 r F1 → P_X10_personAt F p1 K2 X2)) ∨ (∃ (e : String) (F1 : GF), X e F1 ∧ (∀ f, f ∉ ([] : List Nat) → F1 f = F f) ∧ (∀ (K2 : Nat → GF → Prop) (X2 : String → GF → Prop), X2 e F1 → P_X10_personAt F p1 K2 X2)) := by
  have g : ∀ f, f ∉ ([] : List Nat) → F f = F f := fun _ _ => rfl
  unfold P_X10_personAt at h
  rcases ln_X10_needPerson h with ⟨G2, h, g3, b4⟩ | ⟨e5, G2, h, g3, b4⟩
  · have g := gcomp (by decide) g g3
    obtain ⟨v6, h⟩ := h
    exact Or.inl ⟨_, _, h, g, fun K2 X2 h2 => by unfold P_X10_personAt; exact b4 _ _ (And.intro v6 (h2))⟩
  · have g := gcomp (by decide) g g3
    exact Or.inr ⟨_, _, h, g, fun K2 X2 h2 => by unfold P_X10_personAt; exact b4 _ _ (h2)⟩
theorem ln_X10_needAlive {F : GF} {i0 : Nat} {K : GF → Prop} {X : String → GF → Prop} (h : P_X10_needAlive F i0 K X) : (∃ (F1 : GF), K F1 ∧ (∀ f, f ∉ ([] : List Nat) → F1 f = F f) ∧ (∀ (K2 : GF → Prop) (X2 : String → GF → Prop), K2 F1 → P_X10_needAlive F i0 K2 X2)) ∨ (∃ (e : String) (F1 : GF), X e F1 ∧ (∀ f, f ∉ ([] : List Nat) → F1 f = F f) ∧ (∀ (K2 : GF → Prop) (X2 : String → GF → Prop), X2 e F1 → P_X10_needAlive F i0 K2 X2)) := by
  have g : ∀ f, f ∉ ([] : List Nat) → F f = F f := fun _ _ => rfl
  unfold P_X10_needAlive at h
  rcases ite_elim h with ⟨c1, h⟩ | ⟨c1, h⟩
  · skip
    exact Or.inl ⟨_, h, g, fun K2 X2 h2 => by unfold P_X10_needAlive; exact ite_pos c1 (h2)⟩
  · skip
    exact Or.inr ⟨_, _, h, g, fun K2 X2 h2 => by unfold P_X10_needAlive; exact ite_neg c1 (h2)⟩
theorem ln_X4_crossingOn_5 {i0 : Nat} {K : Int32 → GF → Prop} : ∀ (n : Nat) (F : GF) (x1 : Int32) (x2 : Int32), P_X4_crossingOn_5 i0 K n F x1 x2 → ∃ (r : Int32) (F1 : GF), K r F1 ∧ (∀ f, f ∉ ([] : List Nat) → F1 f = F f) ∧ (∃ m : Nat, ∀ (K2 : Int32 → GF → Prop), K2 r F1 → P_X4_crossingOn_5 i0 K2 m F x1 x2) := by
  intro n
  induction n with
  | zero => exact fun _ _ _ h => False.elim h
  | succ n ih =>
    intro F x1 x2 h
    have g : ∀ f, f ∉ ([] : List Nat) → F f = F f := fun _ _ => rfl
    rw [P_X4_crossingOn_5] at h
    rcases ite_elim h with ⟨c1, h⟩ | ⟨c1, h⟩
    · skip
      exact ⟨_, _, h, g, ⟨0 + 1, fun K2 h2 => by rw [P_X4_crossingOn_5]; exact ite_pos c1 (h2)⟩⟩
    · skip
      obtain ⟨v2, h⟩ := h
      rcases ite_elim h with ⟨c3, h⟩ | ⟨c3, h⟩
      · skip
        obtain ⟨v4, h⟩ := h
        obtain ⟨r5, G6, h, g7, ⟨m8, b9⟩⟩ := ih _ _ _ h
        exact ⟨_, _, h, gcomp (fun _ h => h) g g7, ⟨m8 + 1, fun K2 h2 => by rw [P_X4_crossingOn_5]; exact ite_neg c1 (And.intro v2 (ite_pos c3 (And.intro v4 (b9 K2 h2))))⟩⟩
      · skip
        obtain ⟨v10, h⟩ := h
        exact ⟨_, _, h, g, ⟨0 + 1, fun K2 h2 => by rw [P_X4_crossingOn_5]; exact ite_neg c1 (And.intro v2 (ite_neg c3 (And.intro v10 (h2))))⟩⟩
theorem ln_X4_crossingOn {F : GF} {i0 : Nat} {p1 : Int32} {K : Int32 → GF → Prop} (h : P_X4_crossingOn F i0 p1 K) : ∃ (r : Int32) (F1 : GF), K r F1 ∧ (∀ f, f ∉ ([] : List Nat) → F1 f = F f) ∧ (∀ (K2 : Int32 → GF → Prop), K2 r F1 → P_X4_crossingOn F i0 p1 K2) := by
  have g : ∀ f, f ∉ ([] : List Nat) → F f = F f := fun _ _ => rfl
  unfold P_X4_crossingOn at h
  obtain ⟨n1, h⟩ := h
  obtain ⟨r2, G3, h, g4, ⟨m5, b6⟩⟩ := ln_X4_crossingOn_5 _ _ _ _ h
  have g := gcomp (by decide) g g4
  exact ⟨_, _, h, g, fun K2 h2 => by unfold P_X4_crossingOn; exact Exists.intro m5 (b6 _ (h2))⟩
theorem ln_X10_move {F : GF} {p1 : Int32} {p2 : Int32} {K : Int32 → GF → Prop} {X : String → GF → Prop} (h : P_X10_move F p1 p2 K X) : (∃ (r : Int32) (F1 : GF), K r F1 ∧ (∀ f, f ∉ ([33, 38, 39] : List Nat) → F1 f = F f) ∧ (∀ (K2 : Int32 → GF → Prop) (X2 : String → GF → Prop), K2 r F1 → P_X10_move F p1 p2 K2 X2)) ∨ (∃ (e : String) (F1 : GF), X e F1 ∧ (∀ f, f ∉ ([33, 38, 39] : List Nat) → F1 f = F f) ∧ (∀ (K2 : Int32 → GF → Prop) (X2 : String → GF → Prop), X2 e F1 → P_X10_move F p1 p2 K2 X2)) := by
  have g : ∀ f, f ∉ ([33, 38, 39] : List Nat) → F f = F f := fun _ _ => rfl
  unfold P_X10_move at h
  rcases ln_X10_personAt h with ⟨r1, G2, h, g3, b4⟩ | ⟨e5, G2, h, g3, b4⟩
  · have g := gcomp (by decide) g g3
    rcases ln_X10_needCrossing h with ⟨G7, h, g8, b9⟩ | ⟨e10, G7, h, g8, b9⟩
    · have g := gcomp (by decide) g g8
      rcases ln_X10_needAlive h with ⟨G12, h, g13, b14⟩ | ⟨e15, G12, h, g13, b14⟩
      · have g := gcomp (by decide) g g13
        obtain ⟨r16, G17, h, g18, b19⟩ := ln_X4_crossingOn h
        have g := gcomp (by decide) g g18
        obtain ⟨v20, h⟩ := h
        obtain ⟨G21, e22, h⟩ := st_all h
        have g := fnewg e22 g (by decide) (by decide)
        obtain ⟨G24, h, g25, b26⟩ := ln_X8_init h
        have g := gcomp (by decide) g g25
        obtain ⟨G27, e28, h⟩ := st_all h
        have g := fsg e28 g (by decide)
        exact Or.inl ⟨_, _, h, g, fun K2 X2 h2 => by unfold P_X10_move; exact b4 _ _ (b9 _ _ (b14 _ _ (b19 _ (And.intro v20 (all_g e22 (b26 _ (all_g e28 (h2))))))))⟩
      · have g := gcomp (by decide) g g13
        exact Or.inr ⟨_, _, h, g, fun K2 X2 h2 => by unfold P_X10_move; exact b4 _ _ (b9 _ _ (b14 _ _ (h2)))⟩
    · have g := gcomp (by decide) g g8
      exact Or.inr ⟨_, _, h, g, fun K2 X2 h2 => by unfold P_X10_move; exact b4 _ _ (b9 _ _ (h2))⟩
  · have g := gcomp (by decide) g g3
    exact Or.inr ⟨_, _, h, g, fun K2 X2 h2 => by unfold P_X10_move; exact b4 _ _ (h2)⟩
theorem ln_X3_sealedOf_2  {K : Int32 → GF → Prop} : ∀ (n : Nat) (F : GF) (x1 : Int32) (x2 : Int32), P_X3_sealedOf_2 K n F x1 x2 → ∃ (r : Int32) (F1 : GF), K r F1 ∧ (∀ f, f ∉ ([] : List Nat) → F1 f = F f) ∧ (∃ m : Nat, ∀ (K2 : Int32 → GF → Prop), K2 r F1 → P_X3_sealedOf_2 K2 m F x1 x2) := by
  intro n
  induction n with
  | zero => exact fun _ _ _ h => False.elim h
  | succ n ih =>
    intro F x1 x2 h
    have g : ∀ f, f ∉ ([] : List Nat) → F f = F f := fun _ _ => rfl
    rw [P_X3_sealedOf_2] at h
    rcases ite_elim h with ⟨c1, h⟩ | ⟨c1, h⟩
    · skip
      exact ⟨_, _, h, g, ⟨0 + 1, fun K2 h2 => by rw [P_X3_sealedOf_2]; exact ite_pos c1 (h2)⟩⟩
    · skip
      obtain ⟨v2, h⟩ := h
      rcases ite_elim h with ⟨c3, h⟩ | ⟨c3, h⟩
      · skip
        obtain ⟨v4, h⟩ := h
        rcases ite_elim h with ⟨c5, h⟩ | ⟨c5, h⟩
        · skip
          exact ⟨_, _, h, g, ⟨0 + 1, fun K2 h2 => by rw [P_X3_sealedOf_2]; exact ite_neg c1 (And.intro v2 (ite_pos c3 (And.intro v4 (ite_pos c5 (h2)))))⟩⟩
        · skip
          unfold P_X3_sealedOf_31 at h
          obtain ⟨r6, G7, h, g8, ⟨m9, b10⟩⟩ := ih _ _ _ h
          exact ⟨_, _, h, gcomp (fun _ h => h) g g8, ⟨m9 + 1, fun K2 h2 => by rw [P_X3_sealedOf_2]; exact ite_neg c1 (And.intro v2 (ite_pos c3 (And.intro v4 (ite_neg c5 (by unfold P_X3_sealedOf_31; exact b10 K2 h2)))))⟩⟩
      · skip
        unfold P_X3_sealedOf_31 at h
        obtain ⟨r11, G12, h, g13, ⟨m14, b15⟩⟩ := ih _ _ _ h
        exact ⟨_, _, h, gcomp (fun _ h => h) g g13, ⟨m14 + 1, fun K2 h2 => by rw [P_X3_sealedOf_2]; exact ite_neg c1 (And.intro v2 (ite_neg c3 (by unfold P_X3_sealedOf_31; exact b15 K2 h2)))⟩⟩
theorem ln_X3_sealedOf {F : GF} {p1 : Int32} {K : Int32 → GF → Prop} (h : P_X3_sealedOf F p1 K) : ∃ (r : Int32) (F1 : GF), K r F1 ∧ (∀ f, f ∉ ([] : List Nat) → F1 f = F f) ∧ (∀ (K2 : Int32 → GF → Prop), K2 r F1 → P_X3_sealedOf F p1 K2) := by
  have g : ∀ f, f ∉ ([] : List Nat) → F f = F f := fun _ _ => rfl
  unfold P_X3_sealedOf at h
  obtain ⟨n1, h⟩ := h
  obtain ⟨r2, G3, h, g4, ⟨m5, b6⟩⟩ := ln_X3_sealedOf_2 _ _ _ _ h
  have g := gcomp (by decide) g g4
  exact ⟨_, _, h, g, fun K2 h2 => by unfold P_X3_sealedOf; exact Exists.intro m5 (b6 _ (h2))⟩
theorem ln_X0_write {F : GF} {p1 : Int32} {p2 : Int32} {p3 : Int32} {K : GF → Prop} (h : P_X0_write F p1 p2 p3 K) : ∃ (F1 : GF), K F1 ∧ (∀ f, f ∉ ([21, 22, 23, 24] : List Nat) → F1 f = F f) ∧ (∀ (K2 : GF → Prop), K2 F1 → P_X0_write F p1 p2 p3 K2) := by
  have g : ∀ f, f ∉ ([21, 22, 23, 24] : List Nat) → F f = F f := fun _ _ => rfl
  unfold P_X0_write at h
  rcases ite_elim h with ⟨c1, h⟩ | ⟨c1, h⟩
  · skip
    obtain ⟨v2, h⟩ := h
    obtain ⟨G3, e4, h⟩ := st_all h
    have g := fsg e4 g (by decide)
    obtain ⟨v5, h⟩ := h
    obtain ⟨G6, e7, h⟩ := st_all h
    have g := fsg e7 g (by decide)
    obtain ⟨v8, h⟩ := h
    obtain ⟨G9, e10, h⟩ := st_all h
    have g := fsg e10 g (by decide)
    obtain ⟨G11, e12, h⟩ := st_all h
    have g := fsg e12 g (by decide)
    exact ⟨_, h, g, fun K2 h2 => by unfold P_X0_write; exact ite_pos c1 (And.intro v2 (all_g e4 (And.intro v5 (all_g e7 (And.intro v8 (all_g e10 (all_g e12 (h2))))))))⟩
  · skip
    exact ⟨_, h, g, fun K2 h2 => by unfold P_X0_write; exact ite_neg c1 (h2)⟩
theorem ln_X10_voidEnvelopeOf {F : GF} {p1 : Int32} {K : Int32 → GF → Prop} (h : P_X10_voidEnvelopeOf F p1 K) : ∃ (r : Int32) (F1 : GF), K r F1 ∧ (∀ f, f ∉ ([19, 21, 22, 23, 24] : List Nat) → F1 f = F f) ∧ (∀ (K2 : Int32 → GF → Prop), K2 r F1 → P_X10_voidEnvelopeOf F p1 K2) := by
  have g : ∀ f, f ∉ ([19, 21, 22, 23, 24] : List Nat) → F f = F f := fun _ _ => rfl
  unfold P_X10_voidEnvelopeOf at h
  obtain ⟨r1, G2, h, g3, b4⟩ := ln_X3_sealedOf h
  have g := gcomp (by decide) g g3
  rcases ite_elim h with ⟨c5, h⟩ | ⟨c5, h⟩
  · skip
    exact ⟨_, _, h, g, fun K2 h2 => by unfold P_X10_voidEnvelopeOf; exact b4 _ (ite_pos c5 (h2))⟩
  · skip
    obtain ⟨v6, h⟩ := h
    obtain ⟨G7, e8, h⟩ := st_all h
    have g := fsg e8 g (by decide)
    obtain ⟨G10, h, g11, b12⟩ := ln_X0_write h
    have g := gcomp (by decide) g g11
    exact ⟨_, _, h, g, fun K2 h2 => by unfold P_X10_voidEnvelopeOf; exact b4 _ (ite_neg c5 (And.intro v6 (all_g e8 (b12 _ (h2)))))⟩
theorem ln_X10_die {F : GF} {p1 : Int32} {K : Int32 → GF → Prop} {X : String → GF → Prop} (h : P_X10_die F p1 K X) : (∃ (r : Int32) (F1 : GF), K r F1 ∧ (∀ f, f ∉ ([19, 21, 22, 23, 24, 33] : List Nat) → F1 f = F f) ∧ (∀ (K2 : Int32 → GF → Prop) (X2 : String → GF → Prop), K2 r F1 → P_X10_die F p1 K2 X2)) ∨ (∃ (e : String) (F1 : GF), X e F1 ∧ (∀ f, f ∉ ([19, 21, 22, 23, 24, 33] : List Nat) → F1 f = F f) ∧ (∀ (K2 : Int32 → GF → Prop) (X2 : String → GF → Prop), X2 e F1 → P_X10_die F p1 K2 X2)) := by
  have g : ∀ f, f ∉ ([19, 21, 22, 23, 24, 33] : List Nat) → F f = F f := fun _ _ => rfl
  unfold P_X10_die at h
  rcases ln_X10_personAt h with ⟨r1, G2, h, g3, b4⟩ | ⟨e5, G2, h, g3, b4⟩
  · have g := gcomp (by decide) g g3
    rcases ln_X10_needAlive h with ⟨G7, h, g8, b9⟩ | ⟨e10, G7, h, g8, b9⟩
    · have g := gcomp (by decide) g g8
      obtain ⟨G11, e12, h⟩ := st_all h
      have g := fsg e12 g (by decide)
      obtain ⟨r13, G14, h, g15, b16⟩ := ln_X10_voidEnvelopeOf h
      have g := gcomp (by decide) g g15
      obtain ⟨v17, h⟩ := h
      exact Or.inl ⟨_, _, h, g, fun K2 X2 h2 => by unfold P_X10_die; exact b4 _ _ (b9 _ _ (all_g e12 (b16 _ (And.intro v17 (h2)))))⟩
    · have g := gcomp (by decide) g g8
      exact Or.inr ⟨_, _, h, g, fun K2 X2 h2 => by unfold P_X10_die; exact b4 _ _ (b9 _ _ (h2))⟩
  · have g := gcomp (by decide) g g3
    exact Or.inr ⟨_, _, h, g, fun K2 X2 h2 => by unfold P_X10_die; exact b4 _ _ (h2)⟩
theorem ln_X10_dwells {F : GF} {p1 : Int32} {p2 : Int32} {K : Int32 → GF → Prop} {X : String → GF → Prop} (h : P_X10_dwells F p1 p2 K X) : (∃ (r : Int32) (F1 : GF), K r F1 ∧ (∀ f, f ∉ ([] : List Nat) → F1 f = F f) ∧ (∀ (K2 : Int32 → GF → Prop) (X2 : String → GF → Prop), K2 r F1 → P_X10_dwells F p1 p2 K2 X2)) ∨ (∃ (e : String) (F1 : GF), X e F1 ∧ (∀ f, f ∉ ([] : List Nat) → F1 f = F f) ∧ (∀ (K2 : Int32 → GF → Prop) (X2 : String → GF → Prop), X2 e F1 → P_X10_dwells F p1 p2 K2 X2)) := by
  have g : ∀ f, f ∉ ([] : List Nat) → F f = F f := fun _ _ => rfl
  unfold P_X10_dwells at h
  rcases ln_X10_personAt h with ⟨r1, G2, h, g3, b4⟩ | ⟨e5, G2, h, g3, b4⟩
  · have g := gcomp (by decide) g g3
    rcases ln_X10_needRange h with ⟨G7, h, g8, b9⟩ | ⟨e10, G7, h, g8, b9⟩
    · have g := gcomp (by decide) g g8
      obtain ⟨r11, G12, h, g13, b14⟩ := ln_X4_crossingOn h
      have g := gcomp (by decide) g g13
      exact Or.inl ⟨_, _, h, g, fun K2 X2 h2 => by unfold P_X10_dwells; exact b4 _ _ (b9 _ _ (b14 _ (h2)))⟩
    · have g := gcomp (by decide) g g8
      exact Or.inr ⟨_, _, h, g, fun K2 X2 h2 => by unfold P_X10_dwells; exact b4 _ _ (b9 _ _ (h2))⟩
  · have g := gcomp (by decide) g g3
    exact Or.inr ⟨_, _, h, g, fun K2 X2 h2 => by unfold P_X10_dwells; exact b4 _ _ (h2)⟩
theorem ln_X5_clear_18  {K : GF → Prop} : ∀ (n : Nat) (F : GF) (x1 : Int32), P_X5_clear_18 K n F x1 → ∃ (F1 : GF), K F1 ∧ (∀ f, f ∉ ([15] : List Nat) → F1 f = F f) ∧ (∃ m : Nat, ∀ (K2 : GF → Prop), K2 F1 → P_X5_clear_18 K2 m F x1) := by
  intro n
  induction n with
  | zero => exact fun _ _ h => False.elim h
  | succ n ih =>
    intro F x1 h
    have g : ∀ f, f ∉ ([15] : List Nat) → F f = F f := fun _ _ => rfl
    rw [P_X5_clear_18] at h
    rcases ite_elim h with ⟨c1, h⟩ | ⟨c1, h⟩
    · skip
      exact ⟨_, h, g, ⟨0 + 1, fun K2 h2 => by rw [P_X5_clear_18]; exact ite_pos c1 (h2)⟩⟩
    · skip
      obtain ⟨v2, h⟩ := h
      obtain ⟨G3, e4, h⟩ := st_all h
      have g := fsg e4 g (by decide)
      obtain ⟨G6, h, g7, ⟨m8, b9⟩⟩ := ih _ _ h
      exact ⟨_, h, gcomp (fun _ h => h) g g7, ⟨m8 + 1, fun K2 h2 => by rw [P_X5_clear_18]; exact ite_neg c1 (And.intro v2 (all_g e4 (b9 K2 h2)))⟩⟩
theorem ln_X5_clear {F : GF} {K : GF → Prop} (h : P_X5_clear F K) : ∃ (F1 : GF), K F1 ∧ (∀ f, f ∉ ([13, 14, 15] : List Nat) → F1 f = F f) ∧ (∀ (K2 : GF → Prop), K2 F1 → P_X5_clear F K2) := by
  have g : ∀ f, f ∉ ([13, 14, 15] : List Nat) → F f = F f := fun _ _ => rfl
  unfold P_X5_clear at h
  obtain ⟨G1, e2, h⟩ := st_all h
  have g := ffillg e2 g (by decide)
  obtain ⟨G3, e4, h⟩ := st_all h
  have g := ffillg e4 g (by decide)
  obtain ⟨n5, h⟩ := h
  obtain ⟨G7, h, g8, ⟨m9, b10⟩⟩ := ln_X5_clear_18 _ _ _ h
  have g := gcomp (by decide) g g8
  exact ⟨_, h, g, fun K2 h2 => by unfold P_X5_clear; exact all_g e2 (all_g e4 (Exists.intro m9 (b10 _ (h2))))⟩
theorem ln_X1_clear {F : GF} {i0 : Nat} {K : GF → Prop} (h : P_X1_clear F i0 K) : ∃ (F1 : GF), K F1 ∧ (∀ f, f ∉ ([28] : List Nat) → F1 f = F f) ∧ (∀ (K2 : GF → Prop), K2 F1 → P_X1_clear F i0 K2) := by
  have g : ∀ f, f ∉ ([28] : List Nat) → F f = F f := fun _ _ => rfl
  unfold P_X1_clear at h
  obtain ⟨G1, e2, h⟩ := st_all h
  have g := fsg e2 g (by decide)
  obtain ⟨G3, e4, h⟩ := st_all h
  have g := fsg e4 g (by decide)
  obtain ⟨G5, e6, h⟩ := st_all h
  have g := fsg e6 g (by decide)
  exact ⟨_, h, g, fun K2 h2 => by unfold P_X1_clear; exact all_g e2 (all_g e4 (all_g e6 (h2)))⟩
theorem ln_X2_start_51  {K : GF → Prop} : ∀ (n : Nat) (F : GF) (x4 : Int32), P_X2_start_51 K n F x4 → ∃ (F1 : GF), K F1 ∧ (∀ f, f ∉ ([21, 28] : List Nat) → F1 f = F f) ∧ (∃ m : Nat, ∀ (K2 : GF → Prop), K2 F1 → P_X2_start_51 K2 m F x4) := by
  intro n
  induction n with
  | zero => exact fun _ _ h => False.elim h
  | succ n ih =>
    intro F x4 h
    have g : ∀ f, f ∉ ([21, 28] : List Nat) → F f = F f := fun _ _ => rfl
    rw [P_X2_start_51] at h
    rcases ite_elim h with ⟨c1, h⟩ | ⟨c1, h⟩
    · skip
      obtain ⟨G2, e3, h⟩ := st_all h
      have g := fsg e3 g (by decide)
      exact ⟨_, h, g, ⟨0 + 1, fun K2 h2 => by rw [P_X2_start_51]; exact ite_pos c1 (all_g e3 (h2))⟩⟩
    · skip
      obtain ⟨v4, h⟩ := h
      obtain ⟨G6, h, g7, b8⟩ := ln_X1_clear h
      have g := gcomp (by decide) g g7
      obtain ⟨G10, h, g11, ⟨m12, b13⟩⟩ := ih _ _ h
      exact ⟨_, h, gcomp (fun _ h => h) g g11, ⟨m12 + 1, fun K2 h2 => by rw [P_X2_start_51]; exact ite_neg c1 (And.intro v4 (b8 _ (b13 K2 h2)))⟩⟩
theorem ln_X2_start {F : GF} {p1 : Int32} {p2 : Int32} {p3 : Int32} {K : GF → Prop} (h : P_X2_start F p1 p2 p3 K) : ∃ (F1 : GF), K F1 ∧ (∀ f, f ∉ ([10, 11, 13, 14, 15, 16, 21, 28] : List Nat) → F1 f = F f) ∧ (∀ (K2 : GF → Prop), K2 F1 → P_X2_start F p1 p2 p3 K2) := by
  have g : ∀ f, f ∉ ([10, 11, 13, 14, 15, 16, 21, 28] : List Nat) → F f = F f := fun _ _ => rfl
  unfold P_X2_start at h
  obtain ⟨G1, e2, h⟩ := st_all h
  have g := fsg e2 g (by decide)
  obtain ⟨G3, e4, h⟩ := st_all h
  have g := fsg e4 g (by decide)
  obtain ⟨G5, e6, h⟩ := st_all h
  have g := fsg e6 g (by decide)
  obtain ⟨v7, h⟩ := h
  obtain ⟨G8, e9, h⟩ := st_all h
  have g := fsg e9 g (by decide)
  obtain ⟨G10, e11, h⟩ := st_all h
  have g := fsg e11 g (by decide)
  obtain ⟨G12, e13, h⟩ := st_all h
  have g := ffillg e13 g (by decide)
  obtain ⟨G15, h, g16, b17⟩ := ln_X5_clear h
  have g := gcomp (by decide) g g16
  obtain ⟨G18, e19, h⟩ := st_all h
  have g := fsg e19 g (by decide)
  obtain ⟨n20, h⟩ := h
  obtain ⟨G22, h, g23, ⟨m24, b25⟩⟩ := ln_X2_start_51 _ _ _ h
  have g := gcomp (by decide) g g23
  exact ⟨_, h, g, fun K2 h2 => by unfold P_X2_start; exact all_g e2 (all_g e4 (all_g e6 (And.intro v7 (all_g e9 (all_g e11 (all_g e13 (b17 _ (all_g e19 (Exists.intro m24 (b25 _ (h2)))))))))))⟩
theorem ln_X10_call {F : GF} {p1 : Int32} {p2 : Int32} {p3 : Int32} {K : Int32 → GF → Prop} {X : String → GF → Prop} (h : P_X10_call F p1 p2 p3 K X) : (∃ (r : Int32) (F1 : GF), K r F1 ∧ (∀ f, f ∉ ([10, 11, 13, 14, 15, 16, 21, 28] : List Nat) → F1 f = F f) ∧ (∀ (K2 : Int32 → GF → Prop) (X2 : String → GF → Prop), K2 r F1 → P_X10_call F p1 p2 p3 K2 X2)) ∨ (∃ (e : String) (F1 : GF), X e F1 ∧ (∀ f, f ∉ ([10, 11, 13, 14, 15, 16, 21, 28] : List Nat) → F1 f = F f) ∧ (∀ (K2 : Int32 → GF → Prop) (X2 : String → GF → Prop), X2 e F1 → P_X10_call F p1 p2 p3 K2 X2)) := by
  have g : ∀ f, f ∉ ([10, 11, 13, 14, 15, 16, 21, 28] : List Nat) → F f = F f := fun _ _ => rfl
  unfold P_X10_call at h
  rcases ln_X10_needRange h with ⟨G2, h, g3, b4⟩ | ⟨e5, G2, h, g3, b4⟩
  · have g := gcomp (by decide) g g3
    rcases ln_X10_needRange h with ⟨G7, h, g8, b9⟩ | ⟨e10, G7, h, g8, b9⟩
    · have g := gcomp (by decide) g g8
      rcases ite_elim h with ⟨c11, h⟩ | ⟨c11, h⟩
      · skip
        unfold P_X10_call_46 at h
        rcases ite_elim h with ⟨c12, h⟩ | ⟨c12, h⟩
        · skip
          exact Or.inr ⟨_, _, h, g, fun K2 X2 h2 => by unfold P_X10_call; exact b4 _ _ (b9 _ _ (ite_pos c11 (by unfold P_X10_call_46; exact ite_pos c12 (h2))))⟩
        · skip
          rcases ite_elim h with ⟨c13, h⟩ | ⟨c13, h⟩
          · skip
            obtain ⟨G15, h, g16, b17⟩ := ln_X2_start h
            have g := gcomp (by decide) g g16
            exact Or.inl ⟨_, _, h, g, fun K2 X2 h2 => by unfold P_X10_call; exact b4 _ _ (b9 _ _ (ite_pos c11 (by unfold P_X10_call_46; exact ite_neg c12 (ite_pos c13 (b17 _ (h2))))))⟩
          · skip
            exact Or.inr ⟨_, _, h, g, fun K2 X2 h2 => by unfold P_X10_call; exact b4 _ _ (b9 _ _ (ite_pos c11 (by unfold P_X10_call_46; exact ite_neg c12 (ite_neg c13 (h2)))))⟩
      · skip
        rcases ite_elim h with ⟨c18, h⟩ | ⟨c18, h⟩
        · skip
          unfold P_X10_call_46 at h
          rcases ite_elim h with ⟨c19, h⟩ | ⟨c19, h⟩
          · skip
            exact Or.inr ⟨_, _, h, g, fun K2 X2 h2 => by unfold P_X10_call; exact b4 _ _ (b9 _ _ (ite_neg c11 (ite_pos c18 (by unfold P_X10_call_46; exact ite_pos c19 (h2)))))⟩
          · skip
            rcases ite_elim h with ⟨c20, h⟩ | ⟨c20, h⟩
            · skip
              obtain ⟨G22, h, g23, b24⟩ := ln_X2_start h
              have g := gcomp (by decide) g g23
              exact Or.inl ⟨_, _, h, g, fun K2 X2 h2 => by unfold P_X10_call; exact b4 _ _ (b9 _ _ (ite_neg c11 (ite_pos c18 (by unfold P_X10_call_46; exact ite_neg c19 (ite_pos c20 (b24 _ (h2)))))))⟩
            · skip
              exact Or.inr ⟨_, _, h, g, fun K2 X2 h2 => by unfold P_X10_call; exact b4 _ _ (b9 _ _ (ite_neg c11 (ite_pos c18 (by unfold P_X10_call_46; exact ite_neg c19 (ite_neg c20 (h2))))))⟩
        · skip
          exact Or.inr ⟨_, _, h, g, fun K2 X2 h2 => by unfold P_X10_call; exact b4 _ _ (b9 _ _ (ite_neg c11 (ite_neg c18 (h2))))⟩
    · have g := gcomp (by decide) g g8
      exact Or.inr ⟨_, _, h, g, fun K2 X2 h2 => by unfold P_X10_call; exact b4 _ _ (b9 _ _ (h2))⟩
  · have g := gcomp (by decide) g g3
    exact Or.inr ⟨_, _, h, g, fun K2 X2 h2 => by unfold P_X10_call; exact b4 _ _ (h2)⟩
theorem ln_X10_needParty {F : GF} {p0 : Int32} {K : GF → Prop} {X : String → GF → Prop} (h : P_X10_needParty F p0 K X) : (∃ (F1 : GF), K F1 ∧ (∀ f, f ∉ ([] : List Nat) → F1 f = F f) ∧ (∀ (K2 : GF → Prop) (X2 : String → GF → Prop), K2 F1 → P_X10_needParty F p0 K2 X2)) ∨ (∃ (e : String) (F1 : GF), X e F1 ∧ (∀ f, f ∉ ([] : List Nat) → F1 f = F f) ∧ (∀ (K2 : GF → Prop) (X2 : String → GF → Prop), X2 e F1 → P_X10_needParty F p0 K2 X2)) := by
  have g : ∀ f, f ∉ ([] : List Nat) → F f = F f := fun _ _ => rfl
  unfold P_X10_needParty at h
  rcases ite_elim h with ⟨c1, h⟩ | ⟨c1, h⟩
  · skip
    exact Or.inr ⟨_, _, h, g, fun K2 X2 h2 => by unfold P_X10_needParty; exact ite_pos c1 (h2)⟩
  · skip
    rcases ite_elim h with ⟨c2, h⟩ | ⟨c2, h⟩
    · skip
      exact Or.inl ⟨_, h, g, fun K2 X2 h2 => by unfold P_X10_needParty; exact ite_neg c1 (ite_pos c2 (h2))⟩
    · skip
      exact Or.inr ⟨_, _, h, g, fun K2 X2 h2 => by unfold P_X10_needParty; exact ite_neg c1 (ite_neg c2 (h2))⟩
theorem ln_X10_seed {F : GF} {p1 : Int32} {p2 : Int32} {K : Int32 → GF → Prop} {X : String → GF → Prop} (h : P_X10_seed F p1 p2 K X) : (∃ (r : Int32) (F1 : GF), K r F1 ∧ (∀ f, f ∉ ([11] : List Nat) → F1 f = F f) ∧ (∀ (K2 : Int32 → GF → Prop) (X2 : String → GF → Prop), K2 r F1 → P_X10_seed F p1 p2 K2 X2)) ∨ (∃ (e : String) (F1 : GF), X e F1 ∧ (∀ f, f ∉ ([11] : List Nat) → F1 f = F f) ∧ (∀ (K2 : Int32 → GF → Prop) (X2 : String → GF → Prop), X2 e F1 → P_X10_seed F p1 p2 K2 X2)) := by
  have g : ∀ f, f ∉ ([11] : List Nat) → F f = F f := fun _ _ => rfl
  unfold P_X10_seed at h
  rcases ln_X10_needParty h with ⟨G2, h, g3, b4⟩ | ⟨e5, G2, h, g3, b4⟩
  · have g := gcomp (by decide) g g3
    rcases ln_X10_needRange h with ⟨G7, h, g8, b9⟩ | ⟨e10, G7, h, g8, b9⟩
    · have g := gcomp (by decide) g g8
      rcases ite_elim h with ⟨c11, h⟩ | ⟨c11, h⟩
      · skip
        unfold P_X10_seed_44 at h
        obtain ⟨v12, h⟩ := h
        obtain ⟨v13, h⟩ := h
        obtain ⟨G14, e15, h⟩ := st_all h
        have g := fsg e15 g (by decide)
        exact Or.inl ⟨_, _, h, g, fun K2 X2 h2 => by unfold P_X10_seed; exact b4 _ _ (b9 _ _ (ite_pos c11 (by unfold P_X10_seed_44; exact And.intro v12 (And.intro v13 (all_g e15 (h2))))))⟩
      · skip
        rcases ite_elim h with ⟨c16, h⟩ | ⟨c16, h⟩
        · skip
          unfold P_X10_seed_44 at h
          obtain ⟨v17, h⟩ := h
          obtain ⟨v18, h⟩ := h
          obtain ⟨G19, e20, h⟩ := st_all h
          have g := fsg e20 g (by decide)
          exact Or.inl ⟨_, _, h, g, fun K2 X2 h2 => by unfold P_X10_seed; exact b4 _ _ (b9 _ _ (ite_neg c11 (ite_pos c16 (by unfold P_X10_seed_44; exact And.intro v17 (And.intro v18 (all_g e20 (h2)))))))⟩
        · skip
          exact Or.inr ⟨_, _, h, g, fun K2 X2 h2 => by unfold P_X10_seed; exact b4 _ _ (b9 _ _ (ite_neg c11 (ite_neg c16 (h2))))⟩
    · have g := gcomp (by decide) g g8
      exact Or.inr ⟨_, _, h, g, fun K2 X2 h2 => by unfold P_X10_seed; exact b4 _ _ (b9 _ _ (h2))⟩
  · have g := gcomp (by decide) g g3
    exact Or.inr ⟨_, _, h, g, fun K2 X2 h2 => by unfold P_X10_seed; exact b4 _ _ (h2)⟩
theorem ln_X5_peopleAt {F : GF} {p1 : Int32} {K : Int32 → GF → Prop} (h : P_X5_peopleAt F p1 K) : ∃ (r : Int32) (F1 : GF), K r F1 ∧ (∀ f, f ∉ ([] : List Nat) → F1 f = F f) ∧ (∀ (K2 : Int32 → GF → Prop), K2 r F1 → P_X5_peopleAt F p1 K2) := by
  have g : ∀ f, f ∉ ([] : List Nat) → F f = F f := fun _ _ => rfl
  unfold P_X5_peopleAt at h
  rcases ite_elim h with ⟨c1, h⟩ | ⟨c1, h⟩
  · skip
    exact ⟨_, _, h, g, fun K2 h2 => by unfold P_X5_peopleAt; exact ite_pos c1 (h2)⟩
  · skip
    rcases ite_elim h with ⟨c2, h⟩ | ⟨c2, h⟩
    · skip
      obtain ⟨v3, h⟩ := h
      exact ⟨_, _, h, g, fun K2 h2 => by unfold P_X5_peopleAt; exact ite_neg c1 (ite_pos c2 (And.intro v3 (h2)))⟩
    · skip
      exact ⟨_, _, h, g, fun K2 h2 => by unfold P_X5_peopleAt; exact ite_neg c1 (ite_neg c2 (h2))⟩
theorem ln_X10_nearestWithSeat_6  {K : Int32 → GF → Prop} : ∀ (n : Nat) (F : GF) (x1 : Int32) (x2 : Int32) (x3 : Int32), P_X10_nearestWithSeat_6 K n F x1 x2 x3 → ∃ (r : Int32) (F1 : GF), K r F1 ∧ (∀ f, f ∉ ([] : List Nat) → F1 f = F f) ∧ (∃ m : Nat, ∀ (K2 : Int32 → GF → Prop), K2 r F1 → P_X10_nearestWithSeat_6 K2 m F x1 x2 x3) := by
  intro n
  induction n with
  | zero => exact fun _ _ _ _ h => False.elim h
  | succ n ih =>
    intro F x1 x2 x3 h
    have g : ∀ f, f ∉ ([] : List Nat) → F f = F f := fun _ _ => rfl
    rw [P_X10_nearestWithSeat_6] at h
    rcases ite_elim h with ⟨c1, h⟩ | ⟨c1, h⟩
    · skip
      exact ⟨_, _, h, g, ⟨0 + 1, fun K2 h2 => by rw [P_X10_nearestWithSeat_6]; exact ite_pos c1 (h2)⟩⟩
    · skip
      obtain ⟨v2, h⟩ := h
      obtain ⟨r3, G4, h, g5, b6⟩ := ln_X9_measuredTo h
      have g := gcomp (by decide) g g5
      obtain ⟨r7, G8, h, g9, b10⟩ := ln_X5_peopleAt h
      have g := gcomp (by decide) g g9
      obtain ⟨v11, h⟩ := h
      rcases ite_elim h with ⟨c12, h⟩ | ⟨c12, h⟩
      · skip
        unfold P_X10_nearestWithSeat_63 at h
        rcases ite_elim h with ⟨c13, h⟩ | ⟨c13, h⟩
        · skip
          unfold P_X10_nearestWithSeat_92 at h
          obtain ⟨r14, G15, h, g16, ⟨m17, b18⟩⟩ := ih _ _ _ _ h
          exact ⟨_, _, h, gcomp (fun _ h => h) g g16, ⟨m17 + 1, fun K2 h2 => by rw [P_X10_nearestWithSeat_6]; exact ite_neg c1 (And.intro v2 (b6 _ (b10 _ (And.intro v11 (ite_pos c12 (by unfold P_X10_nearestWithSeat_63; exact ite_pos c13 (by unfold P_X10_nearestWithSeat_92; exact b18 K2 h2)))))))⟩⟩
        · skip
          rcases ite_elim h with ⟨c19, h⟩ | ⟨c19, h⟩
          · skip
            unfold P_X10_nearestWithSeat_92 at h
            obtain ⟨r20, G21, h, g22, ⟨m23, b24⟩⟩ := ih _ _ _ _ h
            exact ⟨_, _, h, gcomp (fun _ h => h) g g22, ⟨m23 + 1, fun K2 h2 => by rw [P_X10_nearestWithSeat_6]; exact ite_neg c1 (And.intro v2 (b6 _ (b10 _ (And.intro v11 (ite_pos c12 (by unfold P_X10_nearestWithSeat_63; exact ite_neg c13 (ite_pos c19 (by unfold P_X10_nearestWithSeat_92; exact b24 K2 h2))))))))⟩⟩
          · skip
            rcases ite_elim h with ⟨c25, h⟩ | ⟨c25, h⟩
            · skip
              unfold P_X10_nearestWithSeat_87 at h
              unfold P_X10_nearestWithSeat_92 at h
              obtain ⟨r26, G27, h, g28, ⟨m29, b30⟩⟩ := ih _ _ _ _ h
              exact ⟨_, _, h, gcomp (fun _ h => h) g g28, ⟨m29 + 1, fun K2 h2 => by rw [P_X10_nearestWithSeat_6]; exact ite_neg c1 (And.intro v2 (b6 _ (b10 _ (And.intro v11 (ite_pos c12 (by unfold P_X10_nearestWithSeat_63; exact ite_neg c13 (ite_neg c19 (ite_pos c25 (by unfold P_X10_nearestWithSeat_87; exact by unfold P_X10_nearestWithSeat_92; exact b30 K2 h2)))))))))⟩⟩
            · skip
              rcases ite_elim h with ⟨c31, h⟩ | ⟨c31, h⟩
              · skip
                unfold P_X10_nearestWithSeat_92 at h
                obtain ⟨r32, G33, h, g34, ⟨m35, b36⟩⟩ := ih _ _ _ _ h
                exact ⟨_, _, h, gcomp (fun _ h => h) g g34, ⟨m35 + 1, fun K2 h2 => by rw [P_X10_nearestWithSeat_6]; exact ite_neg c1 (And.intro v2 (b6 _ (b10 _ (And.intro v11 (ite_pos c12 (by unfold P_X10_nearestWithSeat_63; exact ite_neg c13 (ite_neg c19 (ite_neg c25 (ite_pos c31 (by unfold P_X10_nearestWithSeat_92; exact b36 K2 h2))))))))))⟩⟩
              · skip
                unfold P_X10_nearestWithSeat_87 at h
                unfold P_X10_nearestWithSeat_92 at h
                obtain ⟨r37, G38, h, g39, ⟨m40, b41⟩⟩ := ih _ _ _ _ h
                exact ⟨_, _, h, gcomp (fun _ h => h) g g39, ⟨m40 + 1, fun K2 h2 => by rw [P_X10_nearestWithSeat_6]; exact ite_neg c1 (And.intro v2 (b6 _ (b10 _ (And.intro v11 (ite_pos c12 (by unfold P_X10_nearestWithSeat_63; exact ite_neg c13 (ite_neg c19 (ite_neg c25 (ite_neg c31 (by unfold P_X10_nearestWithSeat_87; exact by unfold P_X10_nearestWithSeat_92; exact b41 K2 h2))))))))))⟩⟩
      · skip
        unfold P_X10_nearestWithSeat_63 at h
        rcases ite_elim h with ⟨c42, h⟩ | ⟨c42, h⟩
        · skip
          unfold P_X10_nearestWithSeat_92 at h
          obtain ⟨r43, G44, h, g45, ⟨m46, b47⟩⟩ := ih _ _ _ _ h
          exact ⟨_, _, h, gcomp (fun _ h => h) g g45, ⟨m46 + 1, fun K2 h2 => by rw [P_X10_nearestWithSeat_6]; exact ite_neg c1 (And.intro v2 (b6 _ (b10 _ (And.intro v11 (ite_neg c12 (by unfold P_X10_nearestWithSeat_63; exact ite_pos c42 (by unfold P_X10_nearestWithSeat_92; exact b47 K2 h2)))))))⟩⟩
        · skip
          rcases ite_elim h with ⟨c48, h⟩ | ⟨c48, h⟩
          · skip
            unfold P_X10_nearestWithSeat_92 at h
            obtain ⟨r49, G50, h, g51, ⟨m52, b53⟩⟩ := ih _ _ _ _ h
            exact ⟨_, _, h, gcomp (fun _ h => h) g g51, ⟨m52 + 1, fun K2 h2 => by rw [P_X10_nearestWithSeat_6]; exact ite_neg c1 (And.intro v2 (b6 _ (b10 _ (And.intro v11 (ite_neg c12 (by unfold P_X10_nearestWithSeat_63; exact ite_neg c42 (ite_pos c48 (by unfold P_X10_nearestWithSeat_92; exact b53 K2 h2))))))))⟩⟩
          · skip
            rcases ite_elim h with ⟨c54, h⟩ | ⟨c54, h⟩
            · skip
              unfold P_X10_nearestWithSeat_87 at h
              unfold P_X10_nearestWithSeat_92 at h
              obtain ⟨r55, G56, h, g57, ⟨m58, b59⟩⟩ := ih _ _ _ _ h
              exact ⟨_, _, h, gcomp (fun _ h => h) g g57, ⟨m58 + 1, fun K2 h2 => by rw [P_X10_nearestWithSeat_6]; exact ite_neg c1 (And.intro v2 (b6 _ (b10 _ (And.intro v11 (ite_neg c12 (by unfold P_X10_nearestWithSeat_63; exact ite_neg c42 (ite_neg c48 (ite_pos c54 (by unfold P_X10_nearestWithSeat_87; exact by unfold P_X10_nearestWithSeat_92; exact b59 K2 h2)))))))))⟩⟩
            · skip
              rcases ite_elim h with ⟨c60, h⟩ | ⟨c60, h⟩
              · skip
                unfold P_X10_nearestWithSeat_92 at h
                obtain ⟨r61, G62, h, g63, ⟨m64, b65⟩⟩ := ih _ _ _ _ h
                exact ⟨_, _, h, gcomp (fun _ h => h) g g63, ⟨m64 + 1, fun K2 h2 => by rw [P_X10_nearestWithSeat_6]; exact ite_neg c1 (And.intro v2 (b6 _ (b10 _ (And.intro v11 (ite_neg c12 (by unfold P_X10_nearestWithSeat_63; exact ite_neg c42 (ite_neg c48 (ite_neg c54 (ite_pos c60 (by unfold P_X10_nearestWithSeat_92; exact b65 K2 h2))))))))))⟩⟩
              · skip
                unfold P_X10_nearestWithSeat_87 at h
                unfold P_X10_nearestWithSeat_92 at h
                obtain ⟨r66, G67, h, g68, ⟨m69, b70⟩⟩ := ih _ _ _ _ h
                exact ⟨_, _, h, gcomp (fun _ h => h) g g68, ⟨m69 + 1, fun K2 h2 => by rw [P_X10_nearestWithSeat_6]; exact ite_neg c1 (And.intro v2 (b6 _ (b10 _ (And.intro v11 (ite_neg c12 (by unfold P_X10_nearestWithSeat_63; exact ite_neg c42 (ite_neg c48 (ite_neg c54 (ite_neg c60 (by unfold P_X10_nearestWithSeat_87; exact by unfold P_X10_nearestWithSeat_92; exact b70 K2 h2))))))))))⟩⟩
theorem ln_X10_nearestWithSeat {F : GF} {K : Int32 → GF → Prop} (h : P_X10_nearestWithSeat F K) : ∃ (r : Int32) (F1 : GF), K r F1 ∧ (∀ f, f ∉ ([] : List Nat) → F1 f = F f) ∧ (∀ (K2 : Int32 → GF → Prop), K2 r F1 → P_X10_nearestWithSeat F K2) := by
  have g : ∀ f, f ∉ ([] : List Nat) → F f = F f := fun _ _ => rfl
  unfold P_X10_nearestWithSeat at h
  obtain ⟨n1, h⟩ := h
  obtain ⟨r2, G3, h, g4, ⟨m5, b6⟩⟩ := ln_X10_nearestWithSeat_6 _ _ _ _ _ h
  have g := gcomp (by decide) g g4
  exact ⟨_, _, h, g, fun K2 h2 => by unfold P_X10_nearestWithSeat; exact Exists.intro m5 (b6 _ (h2))⟩
theorem ln_X10_emptiestWithWay_6  {K : Int32 → GF → Prop} : ∀ (n : Nat) (F : GF) (x1 : Int32) (x2 : Int32) (x3 : Int32), P_X10_emptiestWithWay_6 K n F x1 x2 x3 → ∃ (r : Int32) (F1 : GF), K r F1 ∧ (∀ f, f ∉ ([] : List Nat) → F1 f = F f) ∧ (∃ m : Nat, ∀ (K2 : Int32 → GF → Prop), K2 r F1 → P_X10_emptiestWithWay_6 K2 m F x1 x2 x3) := by
  intro n
  induction n with
  | zero => exact fun _ _ _ _ h => False.elim h
  | succ n ih =>
    intro F x1 x2 x3 h
    have g : ∀ f, f ∉ ([] : List Nat) → F f = F f := fun _ _ => rfl
    rw [P_X10_emptiestWithWay_6] at h
    rcases ite_elim h with ⟨c1, h⟩ | ⟨c1, h⟩
    · skip
      exact ⟨_, _, h, g, ⟨0 + 1, fun K2 h2 => by rw [P_X10_emptiestWithWay_6]; exact ite_pos c1 (h2)⟩⟩
    · skip
      obtain ⟨v2, h⟩ := h
      obtain ⟨r3, G4, h, g5, b6⟩ := ln_X9_measuredTo h
      have g := gcomp (by decide) g g5
      obtain ⟨r7, G8, h, g9, b10⟩ := ln_X5_peopleAt h
      have g := gcomp (by decide) g g9
      rcases ite_elim h with ⟨c11, h⟩ | ⟨c11, h⟩
      · skip
        unfold P_X10_emptiestWithWay_70 at h
        obtain ⟨r12, G13, h, g14, ⟨m15, b16⟩⟩ := ih _ _ _ _ h
        exact ⟨_, _, h, gcomp (fun _ h => h) g g14, ⟨m15 + 1, fun K2 h2 => by rw [P_X10_emptiestWithWay_6]; exact ite_neg c1 (And.intro v2 (b6 _ (b10 _ (ite_pos c11 (by unfold P_X10_emptiestWithWay_70; exact b16 K2 h2)))))⟩⟩
      · skip
        rcases ite_elim h with ⟨c17, h⟩ | ⟨c17, h⟩
        · skip
          unfold P_X10_emptiestWithWay_65 at h
          unfold P_X10_emptiestWithWay_70 at h
          obtain ⟨r18, G19, h, g20, ⟨m21, b22⟩⟩ := ih _ _ _ _ h
          exact ⟨_, _, h, gcomp (fun _ h => h) g g20, ⟨m21 + 1, fun K2 h2 => by rw [P_X10_emptiestWithWay_6]; exact ite_neg c1 (And.intro v2 (b6 _ (b10 _ (ite_neg c11 (ite_pos c17 (by unfold P_X10_emptiestWithWay_65; exact by unfold P_X10_emptiestWithWay_70; exact b22 K2 h2))))))⟩⟩
        · skip
          rcases ite_elim h with ⟨c23, h⟩ | ⟨c23, h⟩
          · skip
            unfold P_X10_emptiestWithWay_70 at h
            obtain ⟨r24, G25, h, g26, ⟨m27, b28⟩⟩ := ih _ _ _ _ h
            exact ⟨_, _, h, gcomp (fun _ h => h) g g26, ⟨m27 + 1, fun K2 h2 => by rw [P_X10_emptiestWithWay_6]; exact ite_neg c1 (And.intro v2 (b6 _ (b10 _ (ite_neg c11 (ite_neg c17 (ite_pos c23 (by unfold P_X10_emptiestWithWay_70; exact b28 K2 h2)))))))⟩⟩
          · skip
            unfold P_X10_emptiestWithWay_65 at h
            unfold P_X10_emptiestWithWay_70 at h
            obtain ⟨r29, G30, h, g31, ⟨m32, b33⟩⟩ := ih _ _ _ _ h
            exact ⟨_, _, h, gcomp (fun _ h => h) g g31, ⟨m32 + 1, fun K2 h2 => by rw [P_X10_emptiestWithWay_6]; exact ite_neg c1 (And.intro v2 (b6 _ (b10 _ (ite_neg c11 (ite_neg c17 (ite_neg c23 (by unfold P_X10_emptiestWithWay_65; exact by unfold P_X10_emptiestWithWay_70; exact b33 K2 h2)))))))⟩⟩
theorem ln_X10_emptiestWithWay {F : GF} {K : Int32 → GF → Prop} (h : P_X10_emptiestWithWay F K) : ∃ (r : Int32) (F1 : GF), K r F1 ∧ (∀ f, f ∉ ([] : List Nat) → F1 f = F f) ∧ (∀ (K2 : Int32 → GF → Prop), K2 r F1 → P_X10_emptiestWithWay F K2) := by
  have g : ∀ f, f ∉ ([] : List Nat) → F f = F f := fun _ _ => rfl
  unfold P_X10_emptiestWithWay at h
  obtain ⟨n1, h⟩ := h
  obtain ⟨r2, G3, h, g4, ⟨m5, b6⟩⟩ := ln_X10_emptiestWithWay_6 _ _ _ _ _ h
  have g := gcomp (by decide) g g4
  exact ⟨_, _, h, g, fun K2 h2 => by unfold P_X10_emptiestWithWay; exact Exists.intro m5 (b6 _ (h2))⟩
theorem ln_X10_chooseStation {F : GF} {K : Int32 → GF → Prop} (h : P_X10_chooseStation F K) : ∃ (r : Int32) (F1 : GF), K r F1 ∧ (∀ f, f ∉ ([] : List Nat) → F1 f = F f) ∧ (∀ (K2 : Int32 → GF → Prop), K2 r F1 → P_X10_chooseStation F K2) := by
  have g : ∀ f, f ∉ ([] : List Nat) → F f = F f := fun _ _ => rfl
  unfold P_X10_chooseStation at h
  obtain ⟨r1, G2, h, g3, b4⟩ := ln_X10_nearestWithSeat h
  have g := gcomp (by decide) g g3
  rcases ite_elim h with ⟨c5, h⟩ | ⟨c5, h⟩
  · skip
    obtain ⟨r6, G7, h, g8, b9⟩ := ln_X10_emptiestWithWay h
    have g := gcomp (by decide) g g8
    rcases ite_elim h with ⟨c10, h⟩ | ⟨c10, h⟩
    · skip
      exact ⟨_, _, h, g, fun K2 h2 => by unfold P_X10_chooseStation; exact b4 _ (ite_pos c5 (b9 _ (ite_pos c10 (h2))))⟩
    · skip
      exact ⟨_, _, h, g, fun K2 h2 => by unfold P_X10_chooseStation; exact b4 _ (ite_pos c5 (b9 _ (ite_neg c10 (h2))))⟩
  · skip
    exact ⟨_, _, h, g, fun K2 h2 => by unfold P_X10_chooseStation; exact b4 _ (ite_neg c5 (h2))⟩
theorem ln_X5_enter {F : GF} {p1 : Int32} {p2 : Int32} {K : GF → Prop} (h : P_X5_enter F p1 p2 K) : ∃ (F1 : GF), K F1 ∧ (∀ f, f ∉ ([13, 14] : List Nat) → F1 f = F f) ∧ (∀ (K2 : GF → Prop), K2 F1 → P_X5_enter F p1 p2 K2) := by
  have g : ∀ f, f ∉ ([13, 14] : List Nat) → F f = F f := fun _ _ => rfl
  unfold P_X5_enter at h
  rcases ite_elim h with ⟨c1, h⟩ | ⟨c1, h⟩
  · skip
    exact ⟨_, h, g, fun K2 h2 => by unfold P_X5_enter; exact ite_pos c1 (h2)⟩
  · skip
    rcases ite_elim h with ⟨c2, h⟩ | ⟨c2, h⟩
    · skip
      exact ⟨_, h, g, fun K2 h2 => by unfold P_X5_enter; exact ite_neg c1 (ite_pos c2 (h2))⟩
    · skip
      rcases ite_elim h with ⟨c3, h⟩ | ⟨c3, h⟩
      · skip
        exact ⟨_, h, g, fun K2 h2 => by unfold P_X5_enter; exact ite_neg c1 (ite_neg c2 (ite_pos c3 (h2)))⟩
      · skip
        rcases ite_elim h with ⟨c4, h⟩ | ⟨c4, h⟩
        · skip
          obtain ⟨v5, h⟩ := h
          obtain ⟨G6, e7, h⟩ := st_all h
          have g := fsg e7 g (by decide)
          obtain ⟨v8, h⟩ := h
          obtain ⟨v9, h⟩ := h
          obtain ⟨G10, e11, h⟩ := st_all h
          have g := fsg e11 g (by decide)
          exact ⟨_, h, g, fun K2 h2 => by unfold P_X5_enter; exact ite_neg c1 (ite_neg c2 (ite_neg c3 (ite_pos c4 (And.intro v5 (all_g e7 (And.intro v8 (And.intro v9 (all_g e11 (h2)))))))))⟩
        · skip
          exact ⟨_, h, g, fun K2 h2 => by unfold P_X5_enter; exact ite_neg c1 (ite_neg c2 (ite_neg c3 (ite_neg c4 (h2))))⟩
theorem ln_X10_makeRoll_27  {K : GF → Prop} : ∀ (n : Nat) (F : GF) (x1 : Int32) (x2 : Int32), P_X10_makeRoll_27 K n F x1 x2 → ∃ (F1 : GF), K F1 ∧ (∀ f, f ∉ ([3, 4, 13, 14] : List Nat) → F1 f = F f) ∧ (∃ m : Nat, ∀ (K2 : GF → Prop), K2 F1 → P_X10_makeRoll_27 K2 m F x1 x2) := by
  intro n
  induction n with
  | zero => exact fun _ _ _ h => False.elim h
  | succ n ih =>
    intro F x1 x2 h
    have g : ∀ f, f ∉ ([3, 4, 13, 14] : List Nat) → F f = F f := fun _ _ => rfl
    rw [P_X10_makeRoll_27] at h
    rcases ite_elim h with ⟨c1, h⟩ | ⟨c1, h⟩
    · skip
      exact ⟨_, h, g, ⟨0 + 1, fun K2 h2 => by rw [P_X10_makeRoll_27]; exact ite_pos c1 (h2)⟩⟩
    · skip
      obtain ⟨v2, h⟩ := h
      rcases ite_elim h with ⟨c3, h⟩ | ⟨c3, h⟩
      · skip
        rcases ite_elim h with ⟨c4, h⟩ | ⟨c4, h⟩
        · skip
          unfold P_X10_makeRoll_90 at h
          obtain ⟨G6, h, g7, ⟨m8, b9⟩⟩ := ih _ _ _ h
          exact ⟨_, h, gcomp (fun _ h => h) g g7, ⟨m8 + 1, fun K2 h2 => by rw [P_X10_makeRoll_27]; exact ite_neg c1 (And.intro v2 (ite_pos c3 (ite_pos c4 (by unfold P_X10_makeRoll_90; exact b9 K2 h2))))⟩⟩
        · skip
          obtain ⟨r10, G11, h, g12, b13⟩ := ln_X4_crossingOn h
          have g := gcomp (by decide) g g12
          obtain ⟨G15, h, g16, b17⟩ := ln_X9_measureFrom h
          have g := gcomp (by decide) g g16
          obtain ⟨r18, G19, h, g20, b21⟩ := ln_X10_chooseStation h
          have g := gcomp (by decide) g g20
          obtain ⟨G23, h, g24, b25⟩ := ln_X5_enter h
          have g := gcomp (by decide) g g24
          unfold P_X10_makeRoll_90 at h
          obtain ⟨G27, h, g28, ⟨m29, b30⟩⟩ := ih _ _ _ h
          exact ⟨_, h, gcomp (fun _ h => h) g g28, ⟨m29 + 1, fun K2 h2 => by rw [P_X10_makeRoll_27]; exact ite_neg c1 (And.intro v2 (ite_pos c3 (ite_neg c4 (b13 _ (b17 _ (b21 _ (b25 _ (by unfold P_X10_makeRoll_90; exact b30 K2 h2))))))))⟩⟩
      · skip
        unfold P_X10_makeRoll_90 at h
        obtain ⟨G32, h, g33, ⟨m34, b35⟩⟩ := ih _ _ _ h
        exact ⟨_, h, gcomp (fun _ h => h) g g33, ⟨m34 + 1, fun K2 h2 => by rw [P_X10_makeRoll_27]; exact ite_neg c1 (And.intro v2 (ite_neg c3 (by unfold P_X10_makeRoll_90; exact b35 K2 h2)))⟩⟩
theorem ln_X10_makeRoll {F : GF} {K : GF → Prop} (h : P_X10_makeRoll F K) : ∃ (F1 : GF), K F1 ∧ (∀ f, f ∉ ([3, 4, 10, 13, 14] : List Nat) → F1 f = F f) ∧ (∀ (K2 : GF → Prop), K2 F1 → P_X10_makeRoll F K2) := by
  have g : ∀ f, f ∉ ([3, 4, 10, 13, 14] : List Nat) → F f = F f := fun _ _ => rfl
  unfold P_X10_makeRoll at h
  obtain ⟨G1, e2, h⟩ := st_all h
  have g := fsg e2 g (by decide)
  obtain ⟨n3, h⟩ := h
  obtain ⟨G5, h, g6, ⟨m7, b8⟩⟩ := ln_X10_makeRoll_27 _ _ _ _ h
  have g := gcomp (by decide) g g6
  exact ⟨_, h, g, fun K2 h2 => by unfold P_X10_makeRoll; exact all_g e2 (Exists.intro m7 (b8 _ (h2)))⟩
theorem ln_X5_stationFor {F : GF} {p1 : Int32} {K : Int32 → GF → Prop} (h : P_X5_stationFor F p1 K) : ∃ (r : Int32) (F1 : GF), K r F1 ∧ (∀ f, f ∉ ([] : List Nat) → F1 f = F f) ∧ (∀ (K2 : Int32 → GF → Prop), K2 r F1 → P_X5_stationFor F p1 K2) := by
  have g : ∀ f, f ∉ ([] : List Nat) → F f = F f := fun _ _ => rfl
  unfold P_X5_stationFor at h
  rcases ite_elim h with ⟨c1, h⟩ | ⟨c1, h⟩
  · skip
    exact ⟨_, _, h, g, fun K2 h2 => by unfold P_X5_stationFor; exact ite_pos c1 (h2)⟩
  · skip
    rcases ite_elim h with ⟨c2, h⟩ | ⟨c2, h⟩
    · skip
      obtain ⟨v3, h⟩ := h
      exact ⟨_, _, h, g, fun K2 h2 => by unfold P_X5_stationFor; exact ite_neg c1 (ite_pos c2 (And.intro v3 (h2)))⟩
    · skip
      exact ⟨_, _, h, g, fun K2 h2 => by unfold P_X5_stationFor; exact ite_neg c1 (ite_neg c2 (h2))⟩
theorem ln_X1_put {F : GF} {i0 : Nat} {p1 : Int32} {K : GF → Prop} (h : P_X1_put F i0 p1 K) : ∃ (F1 : GF), K F1 ∧ (∀ f, f ∉ ([28, 29] : List Nat) → F1 f = F f) ∧ (∀ (K2 : GF → Prop), K2 F1 → P_X1_put F i0 p1 K2) := by
  have g : ∀ f, f ∉ ([28, 29] : List Nat) → F f = F f := fun _ _ => rfl
  unfold P_X1_put at h
  rcases ite_elim h with ⟨c1, h⟩ | ⟨c1, h⟩
  · skip
    exact ⟨_, h, g, fun K2 h2 => by unfold P_X1_put; exact ite_pos c1 (h2)⟩
  · skip
    obtain ⟨v2, h⟩ := h
    obtain ⟨G3, e4, h⟩ := st_all h
    have g := fsg e4 g (by decide)
    obtain ⟨G5, e6, h⟩ := st_all h
    have g := fsg e6 g (by decide)
    exact ⟨_, h, g, fun K2 h2 => by unfold P_X1_put; exact ite_neg c1 (And.intro v2 (all_g e4 (all_g e6 (h2))))⟩
theorem ln_X2_castFor {F : GF} {p1 : Int32} {p2 : Int32} {K : GF → Prop} (h : P_X2_castFor F p1 p2 K) : ∃ (F1 : GF), K F1 ∧ (∀ f, f ∉ ([15, 28, 29] : List Nat) → F1 f = F f) ∧ (∀ (K2 : GF → Prop), K2 F1 → P_X2_castFor F p1 p2 K2) := by
  have g : ∀ f, f ∉ ([15, 28, 29] : List Nat) → F f = F f := fun _ _ => rfl
  unfold P_X2_castFor at h
  obtain ⟨r1, G2, h, g3, b4⟩ := ln_X5_stationFor h
  have g := gcomp (by decide) g g3
  rcases ite_elim h with ⟨c5, h⟩ | ⟨c5, h⟩
  · skip
    exact ⟨_, h, g, fun K2 h2 => by unfold P_X2_castFor; exact b4 _ (ite_pos c5 (h2))⟩
  · skip
    rcases ite_elim h with ⟨c6, h⟩ | ⟨c6, h⟩
    · skip
      obtain ⟨v7, h⟩ := h
      obtain ⟨G9, h, g10, b11⟩ := ln_X1_put h
      have g := gcomp (by decide) g g10
      obtain ⟨v12, h⟩ := h
      obtain ⟨G13, e14, h⟩ := st_all h
      have g := fsg e14 g (by decide)
      exact ⟨_, h, g, fun K2 h2 => by unfold P_X2_castFor; exact b4 _ (ite_neg c5 (ite_pos c6 (And.intro v7 (b11 _ (And.intro v12 (all_g e14 (h2)))))))⟩
    · skip
      exact ⟨_, h, g, fun K2 h2 => by unfold P_X2_castFor; exact b4 _ (ite_neg c5 (ite_neg c6 (h2)))⟩
theorem ln_X2_openEnvelope {F : GF} {p1 : Int32} {p2 : Int32} {K : GF → Prop} (h : P_X2_openEnvelope F p1 p2 K) : ∃ (F1 : GF), K F1 ∧ (∀ f, f ∉ ([15, 19, 21, 22, 23, 24, 28, 29] : List Nat) → F1 f = F f) ∧ (∀ (K2 : GF → Prop), K2 F1 → P_X2_openEnvelope F p1 p2 K2) := by
  have g : ∀ f, f ∉ ([15, 19, 21, 22, 23, 24, 28, 29] : List Nat) → F f = F f := fun _ _ => rfl
  unfold P_X2_openEnvelope at h
  rcases ite_elim h with ⟨c1, h⟩ | ⟨c1, h⟩
  · skip
    exact ⟨_, h, g, fun K2 h2 => by unfold P_X2_openEnvelope; exact ite_pos c1 (h2)⟩
  · skip
    rcases ite_elim h with ⟨c2, h⟩ | ⟨c2, h⟩
    · skip
      obtain ⟨v3, h⟩ := h
      obtain ⟨v4, h⟩ := h
      obtain ⟨G5, e6, h⟩ := st_all h
      have g := fsg e6 g (by decide)
      obtain ⟨G8, h, g9, b10⟩ := ln_X0_write h
      have g := gcomp (by decide) g g9
      obtain ⟨v11, h⟩ := h
      obtain ⟨G13, h, g14, b15⟩ := ln_X2_castFor h
      have g := gcomp (by decide) g g14
      exact ⟨_, h, g, fun K2 h2 => by unfold P_X2_openEnvelope; exact ite_neg c1 (ite_pos c2 (And.intro v3 (And.intro v4 (all_g e6 (b10 _ (And.intro v11 (b15 _ (h2))))))))⟩
    · skip
      exact ⟨_, h, g, fun K2 h2 => by unfold P_X2_openEnvelope; exact ite_neg c1 (ite_neg c2 (h2))⟩
theorem ln_X2_openAllSealed_2  {K : GF → Prop} : ∀ (n : Nat) (F : GF) (x1 : Int32), P_X2_openAllSealed_2 K n F x1 → ∃ (F1 : GF), K F1 ∧ (∀ f, f ∉ ([15, 19, 21, 22, 23, 24, 28, 29] : List Nat) → F1 f = F f) ∧ (∃ m : Nat, ∀ (K2 : GF → Prop), K2 F1 → P_X2_openAllSealed_2 K2 m F x1) := by
  intro n
  induction n with
  | zero => exact fun _ _ h => False.elim h
  | succ n ih =>
    intro F x1 h
    have g : ∀ f, f ∉ ([15, 19, 21, 22, 23, 24, 28, 29] : List Nat) → F f = F f := fun _ _ => rfl
    rw [P_X2_openAllSealed_2] at h
    rcases ite_elim h with ⟨c1, h⟩ | ⟨c1, h⟩
    · skip
      exact ⟨_, h, g, ⟨0 + 1, fun K2 h2 => by rw [P_X2_openAllSealed_2]; exact ite_pos c1 (h2)⟩⟩
    · skip
      obtain ⟨v2, h⟩ := h
      rcases ite_elim h with ⟨c3, h⟩ | ⟨c3, h⟩
      · skip
        obtain ⟨G5, h, g6, b7⟩ := ln_X2_openEnvelope h
        have g := gcomp (by decide) g g6
        unfold P_X2_openAllSealed_32 at h
        obtain ⟨G9, h, g10, ⟨m11, b12⟩⟩ := ih _ _ h
        exact ⟨_, h, gcomp (fun _ h => h) g g10, ⟨m11 + 1, fun K2 h2 => by rw [P_X2_openAllSealed_2]; exact ite_neg c1 (And.intro v2 (ite_pos c3 (b7 _ (by unfold P_X2_openAllSealed_32; exact b12 K2 h2))))⟩⟩
      · skip
        unfold P_X2_openAllSealed_32 at h
        obtain ⟨G14, h, g15, ⟨m16, b17⟩⟩ := ih _ _ h
        exact ⟨_, h, gcomp (fun _ h => h) g g15, ⟨m16 + 1, fun K2 h2 => by rw [P_X2_openAllSealed_2]; exact ite_neg c1 (And.intro v2 (ite_neg c3 (by unfold P_X2_openAllSealed_32; exact b17 K2 h2)))⟩⟩
theorem ln_X2_openAllSealed {F : GF} {K : GF → Prop} (h : P_X2_openAllSealed F K) : ∃ (F1 : GF), K F1 ∧ (∀ f, f ∉ ([15, 19, 21, 22, 23, 24, 28, 29] : List Nat) → F1 f = F f) ∧ (∀ (K2 : GF → Prop), K2 F1 → P_X2_openAllSealed F K2) := by
  have g : ∀ f, f ∉ ([15, 19, 21, 22, 23, 24, 28, 29] : List Nat) → F f = F f := fun _ _ => rfl
  unfold P_X2_openAllSealed at h
  obtain ⟨n1, h⟩ := h
  obtain ⟨G3, h, g4, ⟨m5, b6⟩⟩ := ln_X2_openAllSealed_2 _ _ _ h
  have g := gcomp (by decide) g g4
  exact ⟨_, h, g, fun K2 h2 => by unfold P_X2_openAllSealed; exact Exists.intro m5 (b6 _ (h2))⟩
theorem ln_X10_beginDay {F : GF} {K : GF → Prop} (h : P_X10_beginDay F K) : ∃ (F1 : GF), K F1 ∧ (∀ f, f ∉ ([3, 4, 10, 13, 14, 15, 19, 21, 22, 23, 24, 28, 29] : List Nat) → F1 f = F f) ∧ (∀ (K2 : GF → Prop), K2 F1 → P_X10_beginDay F K2) := by
  have g : ∀ f, f ∉ ([3, 4, 10, 13, 14, 15, 19, 21, 22, 23, 24, 28, 29] : List Nat) → F f = F f := fun _ _ => rfl
  unfold P_X10_beginDay at h
  rcases ite_elim h with ⟨c1, h⟩ | ⟨c1, h⟩
  · skip
    rcases ite_elim h with ⟨c2, h⟩ | ⟨c2, h⟩
    · skip
      obtain ⟨G4, h, g5, b6⟩ := ln_X10_makeRoll h
      have g := gcomp (by decide) g g5
      obtain ⟨G7, e8, h⟩ := st_all h
      have g := fsg e8 g (by decide)
      exact ⟨_, h, g, fun K2 h2 => by unfold P_X10_beginDay; exact ite_pos c1 (ite_pos c2 (b6 _ (all_g e8 (h2))))⟩
    · skip
      unfold P_X10_beginDay_45 at h
      rcases ite_elim h with ⟨c9, h⟩ | ⟨c9, h⟩
      · skip
        rcases ite_elim h with ⟨c10, h⟩ | ⟨c10, h⟩
        · skip
          obtain ⟨G11, e12, h⟩ := st_all h
          have g := fsg e12 g (by decide)
          exact ⟨_, h, g, fun K2 h2 => by unfold P_X10_beginDay; exact ite_pos c1 (ite_neg c2 (by unfold P_X10_beginDay_45; exact ite_pos c9 (ite_pos c10 (all_g e12 (h2)))))⟩
        · skip
          unfold P_X10_beginDay_81 at h
          rcases ite_elim h with ⟨c13, h⟩ | ⟨c13, h⟩
          · skip
            rcases ite_elim h with ⟨c14, h⟩ | ⟨c14, h⟩
            · skip
              obtain ⟨G16, h, g17, b18⟩ := ln_X2_openAllSealed h
              have g := gcomp (by decide) g g17
              obtain ⟨G19, e20, h⟩ := st_all h
              have g := fsg e20 g (by decide)
              exact ⟨_, h, g, fun K2 h2 => by unfold P_X10_beginDay; exact ite_pos c1 (ite_neg c2 (by unfold P_X10_beginDay_45; exact ite_pos c9 (ite_neg c10 (by unfold P_X10_beginDay_81; exact ite_pos c13 (ite_pos c14 (b18 _ (all_g e20 (h2))))))))⟩
            · skip
              exact ⟨_, h, g, fun K2 h2 => by unfold P_X10_beginDay; exact ite_pos c1 (ite_neg c2 (by unfold P_X10_beginDay_45; exact ite_pos c9 (ite_neg c10 (by unfold P_X10_beginDay_81; exact ite_pos c13 (ite_neg c14 (h2))))))⟩
          · skip
            exact ⟨_, h, g, fun K2 h2 => by unfold P_X10_beginDay; exact ite_pos c1 (ite_neg c2 (by unfold P_X10_beginDay_45; exact ite_pos c9 (ite_neg c10 (by unfold P_X10_beginDay_81; exact ite_neg c13 (h2)))))⟩
      · skip
        unfold P_X10_beginDay_81 at h
        rcases ite_elim h with ⟨c21, h⟩ | ⟨c21, h⟩
        · skip
          rcases ite_elim h with ⟨c22, h⟩ | ⟨c22, h⟩
          · skip
            obtain ⟨G24, h, g25, b26⟩ := ln_X2_openAllSealed h
            have g := gcomp (by decide) g g25
            obtain ⟨G27, e28, h⟩ := st_all h
            have g := fsg e28 g (by decide)
            exact ⟨_, h, g, fun K2 h2 => by unfold P_X10_beginDay; exact ite_pos c1 (ite_neg c2 (by unfold P_X10_beginDay_45; exact ite_neg c9 (by unfold P_X10_beginDay_81; exact ite_pos c21 (ite_pos c22 (b26 _ (all_g e28 (h2)))))))⟩
          · skip
            exact ⟨_, h, g, fun K2 h2 => by unfold P_X10_beginDay; exact ite_pos c1 (ite_neg c2 (by unfold P_X10_beginDay_45; exact ite_neg c9 (by unfold P_X10_beginDay_81; exact ite_pos c21 (ite_neg c22 (h2)))))⟩
        · skip
          exact ⟨_, h, g, fun K2 h2 => by unfold P_X10_beginDay; exact ite_pos c1 (ite_neg c2 (by unfold P_X10_beginDay_45; exact ite_neg c9 (by unfold P_X10_beginDay_81; exact ite_neg c21 (h2))))⟩
  · skip
    unfold P_X10_beginDay_45 at h
    rcases ite_elim h with ⟨c29, h⟩ | ⟨c29, h⟩
    · skip
      rcases ite_elim h with ⟨c30, h⟩ | ⟨c30, h⟩
      · skip
        obtain ⟨G31, e32, h⟩ := st_all h
        have g := fsg e32 g (by decide)
        exact ⟨_, h, g, fun K2 h2 => by unfold P_X10_beginDay; exact ite_neg c1 (by unfold P_X10_beginDay_45; exact ite_pos c29 (ite_pos c30 (all_g e32 (h2))))⟩
      · skip
        unfold P_X10_beginDay_81 at h
        rcases ite_elim h with ⟨c33, h⟩ | ⟨c33, h⟩
        · skip
          rcases ite_elim h with ⟨c34, h⟩ | ⟨c34, h⟩
          · skip
            obtain ⟨G36, h, g37, b38⟩ := ln_X2_openAllSealed h
            have g := gcomp (by decide) g g37
            obtain ⟨G39, e40, h⟩ := st_all h
            have g := fsg e40 g (by decide)
            exact ⟨_, h, g, fun K2 h2 => by unfold P_X10_beginDay; exact ite_neg c1 (by unfold P_X10_beginDay_45; exact ite_pos c29 (ite_neg c30 (by unfold P_X10_beginDay_81; exact ite_pos c33 (ite_pos c34 (b38 _ (all_g e40 (h2)))))))⟩
          · skip
            exact ⟨_, h, g, fun K2 h2 => by unfold P_X10_beginDay; exact ite_neg c1 (by unfold P_X10_beginDay_45; exact ite_pos c29 (ite_neg c30 (by unfold P_X10_beginDay_81; exact ite_pos c33 (ite_neg c34 (h2)))))⟩
        · skip
          exact ⟨_, h, g, fun K2 h2 => by unfold P_X10_beginDay; exact ite_neg c1 (by unfold P_X10_beginDay_45; exact ite_pos c29 (ite_neg c30 (by unfold P_X10_beginDay_81; exact ite_neg c33 (h2))))⟩
    · skip
      unfold P_X10_beginDay_81 at h
      rcases ite_elim h with ⟨c41, h⟩ | ⟨c41, h⟩
      · skip
        rcases ite_elim h with ⟨c42, h⟩ | ⟨c42, h⟩
        · skip
          obtain ⟨G44, h, g45, b46⟩ := ln_X2_openAllSealed h
          have g := gcomp (by decide) g g45
          obtain ⟨G47, e48, h⟩ := st_all h
          have g := fsg e48 g (by decide)
          exact ⟨_, h, g, fun K2 h2 => by unfold P_X10_beginDay; exact ite_neg c1 (by unfold P_X10_beginDay_45; exact ite_neg c29 (by unfold P_X10_beginDay_81; exact ite_pos c41 (ite_pos c42 (b46 _ (all_g e48 (h2))))))⟩
        · skip
          exact ⟨_, h, g, fun K2 h2 => by unfold P_X10_beginDay; exact ite_neg c1 (by unfold P_X10_beginDay_45; exact ite_neg c29 (by unfold P_X10_beginDay_81; exact ite_pos c41 (ite_neg c42 (h2))))⟩
      · skip
        exact ⟨_, h, g, fun K2 h2 => by unfold P_X10_beginDay; exact ite_neg c1 (by unfold P_X10_beginDay_45; exact ite_neg c29 (by unfold P_X10_beginDay_81; exact ite_neg c41 (h2)))⟩
theorem ln_X10_advance_31  {K : Int32 → GF → Prop} {X : String → GF → Prop} : ∀ (n : Nat) (F : GF) (x1 : Int32) (x2 : Int32), P_X10_advance_31 K X n F x1 x2 → (∃ (r : Int32) (F1 : GF), K r F1 ∧ (∀ f, f ∉ ([0, 3, 4, 10, 13, 14, 15, 19, 21, 22, 23, 24, 28, 29] : List Nat) → F1 f = F f) ∧ (∃ m : Nat, ∀ (K2 : Int32 → GF → Prop) (X2 : String → GF → Prop), K2 r F1 → P_X10_advance_31 K2 X2 m F x1 x2)) ∨ (∃ (e : String) (F1 : GF), X e F1 ∧ (∀ f, f ∉ ([0, 3, 4, 10, 13, 14, 15, 19, 21, 22, 23, 24, 28, 29] : List Nat) → F1 f = F f) ∧ (∃ m : Nat, ∀ (K2 : Int32 → GF → Prop) (X2 : String → GF → Prop), X2 e F1 → P_X10_advance_31 K2 X2 m F x1 x2)) := by
  intro n
  induction n with
  | zero => exact fun _ _ _ h => False.elim h
  | succ n ih =>
    intro F x1 x2 h
    have g : ∀ f, f ∉ ([0, 3, 4, 10, 13, 14, 15, 19, 21, 22, 23, 24, 28, 29] : List Nat) → F f = F f := fun _ _ => rfl
    rw [P_X10_advance_31] at h
    rcases ite_elim h with ⟨c1, h⟩ | ⟨c1, h⟩
    · skip
      exact Or.inl ⟨_, _, h, g, ⟨0 + 1, fun K2 X2 h2 => by rw [P_X10_advance_31]; exact ite_pos c1 (h2)⟩⟩
    · skip
      obtain ⟨G2, e3, h⟩ := st_all h
      have g := fsg e3 g (by decide)
      obtain ⟨G5, h, g6, b7⟩ := ln_X10_beginDay h
      have g := gcomp (by decide) g g6
      rcases ih _ _ _ h with ⟨r8, G9, h, g10, ⟨m11, b12⟩⟩ | ⟨e13, G9, h, g10, ⟨m11, b12⟩⟩
      · exact Or.inl ⟨_, _, h, gcomp (fun _ h => h) g g10, ⟨m11 + 1, fun K2 X2 h2 => by rw [P_X10_advance_31]; exact ite_neg c1 (all_g e3 (b7 _ (b12 K2 X2 h2)))⟩⟩
      · exact Or.inr ⟨_, _, h, gcomp (fun _ h => h) g g10, ⟨m11 + 1, fun K2 X2 h2 => by rw [P_X10_advance_31]; exact ite_neg c1 (all_g e3 (b7 _ (b12 K2 X2 h2)))⟩⟩
theorem ln_X10_advance {F : GF} {p1 : Int32} {K : Int32 → GF → Prop} {X : String → GF → Prop} (h : P_X10_advance F p1 K X) : (∃ (r : Int32) (F1 : GF), K r F1 ∧ (∀ f, f ∉ ([0, 3, 4, 10, 13, 14, 15, 19, 21, 22, 23, 24, 28, 29] : List Nat) → F1 f = F f) ∧ (∀ (K2 : Int32 → GF → Prop) (X2 : String → GF → Prop), K2 r F1 → P_X10_advance F p1 K2 X2)) ∨ (∃ (e : String) (F1 : GF), X e F1 ∧ (∀ f, f ∉ ([0, 3, 4, 10, 13, 14, 15, 19, 21, 22, 23, 24, 28, 29] : List Nat) → F1 f = F f) ∧ (∀ (K2 : Int32 → GF → Prop) (X2 : String → GF → Prop), X2 e F1 → P_X10_advance F p1 K2 X2)) := by
  have g : ∀ f, f ∉ ([0, 3, 4, 10, 13, 14, 15, 19, 21, 22, 23, 24, 28, 29] : List Nat) → F f = F f := fun _ _ => rfl
  unfold P_X10_advance at h
  rcases ln_X10_needRange h with ⟨G2, h, g3, b4⟩ | ⟨e5, G2, h, g3, b4⟩
  · have g := gcomp (by decide) g g3
    rcases ite_elim h with ⟨c6, h⟩ | ⟨c6, h⟩
    · skip
      obtain ⟨n7, h⟩ := h
      rcases ln_X10_advance_31 _ _ _ _ h with ⟨r8, G9, h, g10, ⟨m11, b12⟩⟩ | ⟨e13, G9, h, g10, ⟨m11, b12⟩⟩
      · skip
        have g := gcomp (by decide) g g10
        exact Or.inl ⟨_, _, h, g, fun K2 X2 h2 => by unfold P_X10_advance; exact b4 _ _ (ite_pos c6 (Exists.intro m11 (b12 _ _ (h2))))⟩
      · skip
        have g := gcomp (by decide) g g10
        exact Or.inr ⟨_, _, h, g, fun K2 X2 h2 => by unfold P_X10_advance; exact b4 _ _ (ite_pos c6 (Exists.intro m11 (b12 _ _ (h2))))⟩
    · skip
      exact Or.inr ⟨_, _, h, g, fun K2 X2 h2 => by unfold P_X10_advance; exact b4 _ _ (ite_neg c6 (h2))⟩
  · have g := gcomp (by decide) g g3
    exact Or.inr ⟨_, _, h, g, fun K2 X2 h2 => by unfold P_X10_advance; exact b4 _ _ (h2)⟩
theorem ln_X10_today {F : GF} {K : Int32 → GF → Prop} (h : P_X10_today F K) : ∃ (r : Int32) (F1 : GF), K r F1 ∧ (∀ f, f ∉ ([] : List Nat) → F1 f = F f) ∧ (∀ (K2 : Int32 → GF → Prop), K2 r F1 → P_X10_today F K2) := by
  have g : ∀ f, f ∉ ([] : List Nat) → F f = F f := fun _ _ => rfl
  unfold P_X10_today at h
  exact ⟨_, _, h, g, fun K2 h2 => by unfold P_X10_today; exact h2⟩
theorem ln_X10_stage {F : GF} {K : Int32 → GF → Prop} (h : P_X10_stage F K) : ∃ (r : Int32) (F1 : GF), K r F1 ∧ (∀ f, f ∉ ([] : List Nat) → F1 f = F f) ∧ (∀ (K2 : Int32 → GF → Prop), K2 r F1 → P_X10_stage F K2) := by
  have g : ∀ f, f ∉ ([] : List Nat) → F f = F f := fun _ _ => rfl
  unfold P_X10_stage at h
  exact ⟨_, _, h, g, fun K2 h2 => by unfold P_X10_stage; exact h2⟩
theorem ln_X10_isOnRoll {F : GF} {p1 : Int32} {K : Int32 → GF → Prop} {X : String → GF → Prop} (h : P_X10_isOnRoll F p1 K X) : (∃ (r : Int32) (F1 : GF), K r F1 ∧ (∀ f, f ∉ ([] : List Nat) → F1 f = F f) ∧ (∀ (K2 : Int32 → GF → Prop) (X2 : String → GF → Prop), K2 r F1 → P_X10_isOnRoll F p1 K2 X2)) ∨ (∃ (e : String) (F1 : GF), X e F1 ∧ (∀ f, f ∉ ([] : List Nat) → F1 f = F f) ∧ (∀ (K2 : Int32 → GF → Prop) (X2 : String → GF → Prop), X2 e F1 → P_X10_isOnRoll F p1 K2 X2)) := by
  have g : ∀ f, f ∉ ([] : List Nat) → F f = F f := fun _ _ => rfl
  unfold P_X10_isOnRoll at h
  rcases ln_X10_needPerson h with ⟨G2, h, g3, b4⟩ | ⟨e5, G2, h, g3, b4⟩
  · have g := gcomp (by decide) g g3
    obtain ⟨r6, G7, h, g8, b9⟩ := ln_X5_stationFor h
    have g := gcomp (by decide) g g8
    rcases ite_elim h with ⟨c10, h⟩ | ⟨c10, h⟩
    · skip
      exact Or.inl ⟨_, _, h, g, fun K2 X2 h2 => by unfold P_X10_isOnRoll; exact b4 _ _ (b9 _ (ite_pos c10 (h2)))⟩
    · skip
      exact Or.inl ⟨_, _, h, g, fun K2 X2 h2 => by unfold P_X10_isOnRoll; exact b4 _ _ (b9 _ (ite_neg c10 (h2)))⟩
  · have g := gcomp (by decide) g g3
    exact Or.inr ⟨_, _, h, g, fun K2 X2 h2 => by unfold P_X10_isOnRoll; exact b4 _ _ (h2)⟩
theorem ln_X10_stationOf {F : GF} {p1 : Int32} {K : Int32 → GF → Prop} {X : String → GF → Prop} (h : P_X10_stationOf F p1 K X) : (∃ (r : Int32) (F1 : GF), K r F1 ∧ (∀ f, f ∉ ([] : List Nat) → F1 f = F f) ∧ (∀ (K2 : Int32 → GF → Prop) (X2 : String → GF → Prop), K2 r F1 → P_X10_stationOf F p1 K2 X2)) ∨ (∃ (e : String) (F1 : GF), X e F1 ∧ (∀ f, f ∉ ([] : List Nat) → F1 f = F f) ∧ (∀ (K2 : Int32 → GF → Prop) (X2 : String → GF → Prop), X2 e F1 → P_X10_stationOf F p1 K2 X2)) := by
  have g : ∀ f, f ∉ ([] : List Nat) → F f = F f := fun _ _ => rfl
  unfold P_X10_stationOf at h
  rcases ln_X10_needPerson h with ⟨G2, h, g3, b4⟩ | ⟨e5, G2, h, g3, b4⟩
  · have g := gcomp (by decide) g g3
    obtain ⟨r6, G7, h, g8, b9⟩ := ln_X5_stationFor h
    have g := gcomp (by decide) g g8
    exact Or.inl ⟨_, _, h, g, fun K2 X2 h2 => by unfold P_X10_stationOf; exact b4 _ _ (b9 _ (h2))⟩
  · have g := gcomp (by decide) g g3
    exact Or.inr ⟨_, _, h, g, fun K2 X2 h2 => by unfold P_X10_stationOf; exact b4 _ _ (h2)⟩
theorem ln_X10_peopleOf {F : GF} {p1 : Int32} {K : Int32 → GF → Prop} {X : String → GF → Prop} (h : P_X10_peopleOf F p1 K X) : (∃ (r : Int32) (F1 : GF), K r F1 ∧ (∀ f, f ∉ ([] : List Nat) → F1 f = F f) ∧ (∀ (K2 : Int32 → GF → Prop) (X2 : String → GF → Prop), K2 r F1 → P_X10_peopleOf F p1 K2 X2)) ∨ (∃ (e : String) (F1 : GF), X e F1 ∧ (∀ f, f ∉ ([] : List Nat) → F1 f = F f) ∧ (∀ (K2 : Int32 → GF → Prop) (X2 : String → GF → Prop), X2 e F1 → P_X10_peopleOf F p1 K2 X2)) := by
  have g : ∀ f, f ∉ ([] : List Nat) → F f = F f := fun _ _ => rfl
  unfold P_X10_peopleOf at h
  rcases ln_X10_needStation h with ⟨G2, h, g3, b4⟩ | ⟨e5, G2, h, g3, b4⟩
  · have g := gcomp (by decide) g g3
    obtain ⟨r6, G7, h, g8, b9⟩ := ln_X5_peopleAt h
    have g := gcomp (by decide) g g8
    exact Or.inl ⟨_, _, h, g, fun K2 X2 h2 => by unfold P_X10_peopleOf; exact b4 _ _ (b9 _ (h2))⟩
  · have g := gcomp (by decide) g g3
    exact Or.inr ⟨_, _, h, g, fun K2 X2 h2 => by unfold P_X10_peopleOf; exact b4 _ _ (h2)⟩
theorem ln_X10_needStage {F : GF} {p1 : Int32} {K : GF → Prop} {X : String → GF → Prop} (h : P_X10_needStage F p1 K X) : (∃ (F1 : GF), K F1 ∧ (∀ f, f ∉ ([] : List Nat) → F1 f = F f) ∧ (∀ (K2 : GF → Prop) (X2 : String → GF → Prop), K2 F1 → P_X10_needStage F p1 K2 X2)) ∨ (∃ (e : String) (F1 : GF), X e F1 ∧ (∀ f, f ∉ ([] : List Nat) → F1 f = F f) ∧ (∀ (K2 : GF → Prop) (X2 : String → GF → Prop), X2 e F1 → P_X10_needStage F p1 K2 X2)) := by
  have g : ∀ f, f ∉ ([] : List Nat) → F f = F f := fun _ _ => rfl
  unfold P_X10_needStage at h
  rcases ite_elim h with ⟨c1, h⟩ | ⟨c1, h⟩
  · skip
    exact Or.inl ⟨_, h, g, fun K2 X2 h2 => by unfold P_X10_needStage; exact ite_pos c1 (h2)⟩
  · skip
    exact Or.inr ⟨_, _, h, g, fun K2 X2 h2 => by unfold P_X10_needStage; exact ite_neg c1 (h2)⟩
theorem ln_X10_needOnRoll {F : GF} {p1 : Int32} {K : GF → Prop} {X : String → GF → Prop} (h : P_X10_needOnRoll F p1 K X) : (∃ (F1 : GF), K F1 ∧ (∀ f, f ∉ ([] : List Nat) → F1 f = F f) ∧ (∀ (K2 : GF → Prop) (X2 : String → GF → Prop), K2 F1 → P_X10_needOnRoll F p1 K2 X2)) ∨ (∃ (e : String) (F1 : GF), X e F1 ∧ (∀ f, f ∉ ([] : List Nat) → F1 f = F f) ∧ (∀ (K2 : GF → Prop) (X2 : String → GF → Prop), X2 e F1 → P_X10_needOnRoll F p1 K2 X2)) := by
  have g : ∀ f, f ∉ ([] : List Nat) → F f = F f := fun _ _ => rfl
  unfold P_X10_needOnRoll at h
  obtain ⟨r1, G2, h, g3, b4⟩ := ln_X5_stationFor h
  have g := gcomp (by decide) g g3
  rcases ite_elim h with ⟨c5, h⟩ | ⟨c5, h⟩
  · skip
    exact Or.inr ⟨_, _, h, g, fun K2 X2 h2 => by unfold P_X10_needOnRoll; exact b4 _ (ite_pos c5 (h2))⟩
  · skip
    exact Or.inl ⟨_, h, g, fun K2 X2 h2 => by unfold P_X10_needOnRoll; exact b4 _ (ite_neg c5 (h2))⟩
theorem ln_X3_add {F : GF} {p1 : Int32} {p2 : Int32} {K : Int32 → GF → Prop} (h : P_X3_add F p1 p2 K) : ∃ (r : Int32) (F1 : GF), K r F1 ∧ (∀ f, f ∉ ([16, 17, 18, 19] : List Nat) → F1 f = F f) ∧ (∀ (K2 : Int32 → GF → Prop), K2 r F1 → P_X3_add F p1 p2 K2) := by
  have g : ∀ f, f ∉ ([16, 17, 18, 19] : List Nat) → F f = F f := fun _ _ => rfl
  unfold P_X3_add at h
  rcases ite_elim h with ⟨c1, h⟩ | ⟨c1, h⟩
  · skip
    obtain ⟨v2, h⟩ := h
    obtain ⟨G3, e4, h⟩ := st_all h
    have g := fsg e4 g (by decide)
    obtain ⟨v5, h⟩ := h
    obtain ⟨G6, e7, h⟩ := st_all h
    have g := fsg e7 g (by decide)
    obtain ⟨v8, h⟩ := h
    obtain ⟨G9, e10, h⟩ := st_all h
    have g := fsg e10 g (by decide)
    obtain ⟨G11, e12, h⟩ := st_all h
    have g := fsg e12 g (by decide)
    exact ⟨_, _, h, g, fun K2 h2 => by unfold P_X3_add; exact ite_pos c1 (And.intro v2 (all_g e4 (And.intro v5 (all_g e7 (And.intro v8 (all_g e10 (all_g e12 (h2))))))))⟩
  · skip
    exact ⟨_, _, h, g, fun K2 h2 => by unfold P_X3_add; exact ite_neg c1 (h2)⟩
theorem ln_X10_early {F : GF} {p1 : Int32} {p2 : Int32} {K : Int32 → GF → Prop} {X : String → GF → Prop} (h : P_X10_early F p1 p2 K X) : (∃ (r : Int32) (F1 : GF), K r F1 ∧ (∀ f, f ∉ ([16, 17, 18, 19, 21, 22, 23, 24] : List Nat) → F1 f = F f) ∧ (∀ (K2 : Int32 → GF → Prop) (X2 : String → GF → Prop), K2 r F1 → P_X10_early F p1 p2 K2 X2)) ∨ (∃ (e : String) (F1 : GF), X e F1 ∧ (∀ f, f ∉ ([16, 17, 18, 19, 21, 22, 23, 24] : List Nat) → F1 f = F f) ∧ (∀ (K2 : Int32 → GF → Prop) (X2 : String → GF → Prop), X2 e F1 → P_X10_early F p1 p2 K2 X2)) := by
  have g : ∀ f, f ∉ ([16, 17, 18, 19, 21, 22, 23, 24] : List Nat) → F f = F f := fun _ _ => rfl
  unfold P_X10_early at h
  rcases ln_X10_personAt h with ⟨r1, G2, h, g3, b4⟩ | ⟨e5, G2, h, g3, b4⟩
  · have g := gcomp (by decide) g g3
    rcases ln_X10_needRange h with ⟨G7, h, g8, b9⟩ | ⟨e10, G7, h, g8, b9⟩
    · have g := gcomp (by decide) g g8
      rcases ln_X10_needStage h with ⟨G12, h, g13, b14⟩ | ⟨e15, G12, h, g13, b14⟩
      · have g := gcomp (by decide) g g13
        rcases ln_X10_needAlive h with ⟨G17, h, g18, b19⟩ | ⟨e20, G17, h, g18, b19⟩
        · have g := gcomp (by decide) g g18
          rcases ln_X10_needOnRoll h with ⟨G22, h, g23, b24⟩ | ⟨e25, G22, h, g23, b24⟩
          · have g := gcomp (by decide) g g23
            rcases ite_elim h with ⟨c26, h⟩ | ⟨c26, h⟩
            · skip
              obtain ⟨r27, G28, h, g29, b30⟩ := ln_X10_voidEnvelopeOf h
              have g := gcomp (by decide) g g29
              obtain ⟨G32, h, g33, b34⟩ := ln_X0_write h
              have g := gcomp (by decide) g g33
              obtain ⟨r35, G36, h, g37, b38⟩ := ln_X3_add h
              have g := gcomp (by decide) g g37
              exact Or.inl ⟨_, _, h, g, fun K2 X2 h2 => by unfold P_X10_early; exact b4 _ _ (b9 _ _ (b14 _ _ (b19 _ _ (b24 _ _ (ite_pos c26 (b30 _ (b34 _ (b38 _ (h2)))))))))⟩
            · skip
              exact Or.inr ⟨_, _, h, g, fun K2 X2 h2 => by unfold P_X10_early; exact b4 _ _ (b9 _ _ (b14 _ _ (b19 _ _ (b24 _ _ (ite_neg c26 (h2))))))⟩
          · have g := gcomp (by decide) g g23
            exact Or.inr ⟨_, _, h, g, fun K2 X2 h2 => by unfold P_X10_early; exact b4 _ _ (b9 _ _ (b14 _ _ (b19 _ _ (b24 _ _ (h2)))))⟩
        · have g := gcomp (by decide) g g18
          exact Or.inr ⟨_, _, h, g, fun K2 X2 h2 => by unfold P_X10_early; exact b4 _ _ (b9 _ _ (b14 _ _ (b19 _ _ (h2))))⟩
      · have g := gcomp (by decide) g g13
        exact Or.inr ⟨_, _, h, g, fun K2 X2 h2 => by unfold P_X10_early; exact b4 _ _ (b9 _ _ (b14 _ _ (h2)))⟩
    · have g := gcomp (by decide) g g8
      exact Or.inr ⟨_, _, h, g, fun K2 X2 h2 => by unfold P_X10_early; exact b4 _ _ (b9 _ _ (h2))⟩
  · have g := gcomp (by decide) g g3
    exact Or.inr ⟨_, _, h, g, fun K2 X2 h2 => by unfold P_X10_early; exact b4 _ _ (h2)⟩
theorem ln_X10_vote {F : GF} {p1 : Int32} {p2 : Int32} {p3 : Int32} {K : Int32 → GF → Prop} {X : String → GF → Prop} (h : P_X10_vote F p1 p2 p3 K X) : (∃ (r : Int32) (F1 : GF), K r F1 ∧ (∀ f, f ∉ ([15, 19, 21, 22, 23, 24, 28, 29] : List Nat) → F1 f = F f) ∧ (∀ (K2 : Int32 → GF → Prop) (X2 : String → GF → Prop), K2 r F1 → P_X10_vote F p1 p2 p3 K2 X2)) ∨ (∃ (e : String) (F1 : GF), X e F1 ∧ (∀ f, f ∉ ([15, 19, 21, 22, 23, 24, 28, 29] : List Nat) → F1 f = F f) ∧ (∀ (K2 : Int32 → GF → Prop) (X2 : String → GF → Prop), X2 e F1 → P_X10_vote F p1 p2 p3 K2 X2)) := by
  have g : ∀ f, f ∉ ([15, 19, 21, 22, 23, 24, 28, 29] : List Nat) → F f = F f := fun _ _ => rfl
  unfold P_X10_vote at h
  rcases ln_X10_personAt h with ⟨r1, G2, h, g3, b4⟩ | ⟨e5, G2, h, g3, b4⟩
  · have g := gcomp (by decide) g g3
    rcases ln_X10_needStation h with ⟨G7, h, g8, b9⟩ | ⟨e10, G7, h, g8, b9⟩
    · have g := gcomp (by decide) g g8
      rcases ln_X10_needRange h with ⟨G12, h, g13, b14⟩ | ⟨e15, G12, h, g13, b14⟩
      · have g := gcomp (by decide) g g13
        rcases ln_X10_needStage h with ⟨G17, h, g18, b19⟩ | ⟨e20, G17, h, g18, b19⟩
        · have g := gcomp (by decide) g g18
          rcases ln_X10_needAlive h with ⟨G22, h, g23, b24⟩ | ⟨e25, G22, h, g23, b24⟩
          · have g := gcomp (by decide) g g23
            rcases ln_X10_needOnRoll h with ⟨G27, h, g28, b29⟩ | ⟨e30, G27, h, g28, b29⟩
            · have g := gcomp (by decide) g g28
              obtain ⟨v31, h⟩ := h
              rcases ite_elim h with ⟨c32, h⟩ | ⟨c32, h⟩
              · skip
                obtain ⟨r33, G34, h, g35, b36⟩ := ln_X5_stationFor h
                have g := gcomp (by decide) g g35
                rcases ite_elim h with ⟨c37, h⟩ | ⟨c37, h⟩
                · skip
                  obtain ⟨r38, G39, h, g40, b41⟩ := ln_X10_voidEnvelopeOf h
                  have g := gcomp (by decide) g g40
                  obtain ⟨G43, h, g44, b45⟩ := ln_X0_write h
                  have g := gcomp (by decide) g g44
                  obtain ⟨G47, h, g48, b49⟩ := ln_X2_castFor h
                  have g := gcomp (by decide) g g48
                  obtain ⟨v50, h⟩ := h
                  exact Or.inl ⟨_, _, h, g, fun K2 X2 h2 => by unfold P_X10_vote; exact b4 _ _ (b9 _ _ (b14 _ _ (b19 _ _ (b24 _ _ (b29 _ _ (And.intro v31 (ite_pos c32 (b36 _ (ite_pos c37 (b41 _ (b45 _ (b49 _ (And.intro v50 (h2))))))))))))))⟩
                · skip
                  exact Or.inr ⟨_, _, h, g, fun K2 X2 h2 => by unfold P_X10_vote; exact b4 _ _ (b9 _ _ (b14 _ _ (b19 _ _ (b24 _ _ (b29 _ _ (And.intro v31 (ite_pos c32 (b36 _ (ite_neg c37 (h2))))))))))⟩
              · skip
                exact Or.inr ⟨_, _, h, g, fun K2 X2 h2 => by unfold P_X10_vote; exact b4 _ _ (b9 _ _ (b14 _ _ (b19 _ _ (b24 _ _ (b29 _ _ (And.intro v31 (ite_neg c32 (h2))))))))⟩
            · have g := gcomp (by decide) g g28
              exact Or.inr ⟨_, _, h, g, fun K2 X2 h2 => by unfold P_X10_vote; exact b4 _ _ (b9 _ _ (b14 _ _ (b19 _ _ (b24 _ _ (b29 _ _ (h2))))))⟩
          · have g := gcomp (by decide) g g23
            exact Or.inr ⟨_, _, h, g, fun K2 X2 h2 => by unfold P_X10_vote; exact b4 _ _ (b9 _ _ (b14 _ _ (b19 _ _ (b24 _ _ (h2)))))⟩
        · have g := gcomp (by decide) g g18
          exact Or.inr ⟨_, _, h, g, fun K2 X2 h2 => by unfold P_X10_vote; exact b4 _ _ (b9 _ _ (b14 _ _ (b19 _ _ (h2))))⟩
      · have g := gcomp (by decide) g g13
        exact Or.inr ⟨_, _, h, g, fun K2 X2 h2 => by unfold P_X10_vote; exact b4 _ _ (b9 _ _ (b14 _ _ (h2)))⟩
    · have g := gcomp (by decide) g g8
      exact Or.inr ⟨_, _, h, g, fun K2 X2 h2 => by unfold P_X10_vote; exact b4 _ _ (b9 _ _ (h2))⟩
  · have g := gcomp (by decide) g g3
    exact Or.inr ⟨_, _, h, g, fun K2 X2 h2 => by unfold P_X10_vote; exact b4 _ _ (h2)⟩
theorem ln_X10_open {F : GF} {p1 : Int32} {K : Int32 → GF → Prop} {X : String → GF → Prop} (h : P_X10_open F p1 K X) : (∃ (r : Int32) (F1 : GF), K r F1 ∧ (∀ f, f ∉ ([15, 19, 21, 22, 23, 24, 28, 29] : List Nat) → F1 f = F f) ∧ (∀ (K2 : Int32 → GF → Prop) (X2 : String → GF → Prop), K2 r F1 → P_X10_open F p1 K2 X2)) ∨ (∃ (e : String) (F1 : GF), X e F1 ∧ (∀ f, f ∉ ([15, 19, 21, 22, 23, 24, 28, 29] : List Nat) → F1 f = F f) ∧ (∀ (K2 : Int32 → GF → Prop) (X2 : String → GF → Prop), X2 e F1 → P_X10_open F p1 K2 X2)) := by
  have g : ∀ f, f ∉ ([15, 19, 21, 22, 23, 24, 28, 29] : List Nat) → F f = F f := fun _ _ => rfl
  unfold P_X10_open at h
  rcases ln_X10_needPerson h with ⟨G2, h, g3, b4⟩ | ⟨e5, G2, h, g3, b4⟩
  · have g := gcomp (by decide) g g3
    rcases ln_X10_needStage h with ⟨G7, h, g8, b9⟩ | ⟨e10, G7, h, g8, b9⟩
    · have g := gcomp (by decide) g g8
      obtain ⟨r11, G12, h, g13, b14⟩ := ln_X3_sealedOf h
      have g := gcomp (by decide) g g13
      rcases ite_elim h with ⟨c15, h⟩ | ⟨c15, h⟩
      · skip
        exact Or.inr ⟨_, _, h, g, fun K2 X2 h2 => by unfold P_X10_open; exact b4 _ _ (b9 _ _ (b14 _ (ite_pos c15 (h2))))⟩
      · skip
        obtain ⟨G17, h, g18, b19⟩ := ln_X2_openEnvelope h
        have g := gcomp (by decide) g g18
        exact Or.inl ⟨_, _, h, g, fun K2 X2 h2 => by unfold P_X10_open; exact b4 _ _ (b9 _ _ (b14 _ (ite_neg c15 (b19 _ (h2)))))⟩
    · have g := gcomp (by decide) g g8
      exact Or.inr ⟨_, _, h, g, fun K2 X2 h2 => by unfold P_X10_open; exact b4 _ _ (b9 _ _ (h2))⟩
  · have g := gcomp (by decide) g g3
    exact Or.inr ⟨_, _, h, g, fun K2 X2 h2 => by unfold P_X10_open; exact b4 _ _ (h2)⟩
theorem ln_X10_envelopes {F : GF} {K : Int32 → GF → Prop} (h : P_X10_envelopes F K) : ∃ (r : Int32) (F1 : GF), K r F1 ∧ (∀ f, f ∉ ([] : List Nat) → F1 f = F f) ∧ (∀ (K2 : Int32 → GF → Prop), K2 r F1 → P_X10_envelopes F K2) := by
  have g : ∀ f, f ∉ ([] : List Nat) → F f = F f := fun _ _ => rfl
  unfold P_X10_envelopes at h
  exact ⟨_, _, h, g, fun K2 h2 => by unfold P_X10_envelopes; exact h2⟩
theorem ln_X10_needEnvelope {F : GF} {p1 : Int32} {K : GF → Prop} {X : String → GF → Prop} (h : P_X10_needEnvelope F p1 K X) : (∃ (F1 : GF), K F1 ∧ (∀ f, f ∉ ([] : List Nat) → F1 f = F f) ∧ (∀ (K2 : GF → Prop) (X2 : String → GF → Prop), K2 F1 → P_X10_needEnvelope F p1 K2 X2)) ∨ (∃ (e : String) (F1 : GF), X e F1 ∧ (∀ f, f ∉ ([] : List Nat) → F1 f = F f) ∧ (∀ (K2 : GF → Prop) (X2 : String → GF → Prop), X2 e F1 → P_X10_needEnvelope F p1 K2 X2)) := by
  have g : ∀ f, f ∉ ([] : List Nat) → F f = F f := fun _ _ => rfl
  unfold P_X10_needEnvelope at h
  rcases ite_elim h with ⟨c1, h⟩ | ⟨c1, h⟩
  · skip
    exact Or.inr ⟨_, _, h, g, fun K2 X2 h2 => by unfold P_X10_needEnvelope; exact ite_pos c1 (h2)⟩
  · skip
    rcases ite_elim h with ⟨c2, h⟩ | ⟨c2, h⟩
    · skip
      exact Or.inl ⟨_, h, g, fun K2 X2 h2 => by unfold P_X10_needEnvelope; exact ite_neg c1 (ite_pos c2 (h2))⟩
    · skip
      exact Or.inr ⟨_, _, h, g, fun K2 X2 h2 => by unfold P_X10_needEnvelope; exact ite_neg c1 (ite_neg c2 (h2))⟩
theorem ln_X10_stateOf {F : GF} {p1 : Int32} {K : Int32 → GF → Prop} {X : String → GF → Prop} (h : P_X10_stateOf F p1 K X) : (∃ (r : Int32) (F1 : GF), K r F1 ∧ (∀ f, f ∉ ([] : List Nat) → F1 f = F f) ∧ (∀ (K2 : Int32 → GF → Prop) (X2 : String → GF → Prop), K2 r F1 → P_X10_stateOf F p1 K2 X2)) ∨ (∃ (e : String) (F1 : GF), X e F1 ∧ (∀ f, f ∉ ([] : List Nat) → F1 f = F f) ∧ (∀ (K2 : Int32 → GF → Prop) (X2 : String → GF → Prop), X2 e F1 → P_X10_stateOf F p1 K2 X2)) := by
  have g : ∀ f, f ∉ ([] : List Nat) → F f = F f := fun _ _ => rfl
  unfold P_X10_stateOf at h
  rcases ln_X10_needEnvelope h with ⟨G2, h, g3, b4⟩ | ⟨e5, G2, h, g3, b4⟩
  · have g := gcomp (by decide) g g3
    obtain ⟨v6, h⟩ := h
    exact Or.inl ⟨_, _, h, g, fun K2 X2 h2 => by unfold P_X10_stateOf; exact b4 _ _ (And.intro v6 (h2))⟩
  · have g := gcomp (by decide) g g3
    exact Or.inr ⟨_, _, h, g, fun K2 X2 h2 => by unfold P_X10_stateOf; exact b4 _ _ (h2)⟩
theorem ln_X10_personOf {F : GF} {p1 : Int32} {K : Int32 → GF → Prop} {X : String → GF → Prop} (h : P_X10_personOf F p1 K X) : (∃ (r : Int32) (F1 : GF), K r F1 ∧ (∀ f, f ∉ ([] : List Nat) → F1 f = F f) ∧ (∀ (K2 : Int32 → GF → Prop) (X2 : String → GF → Prop), K2 r F1 → P_X10_personOf F p1 K2 X2)) ∨ (∃ (e : String) (F1 : GF), X e F1 ∧ (∀ f, f ∉ ([] : List Nat) → F1 f = F f) ∧ (∀ (K2 : Int32 → GF → Prop) (X2 : String → GF → Prop), X2 e F1 → P_X10_personOf F p1 K2 X2)) := by
  have g : ∀ f, f ∉ ([] : List Nat) → F f = F f := fun _ _ => rfl
  unfold P_X10_personOf at h
  rcases ln_X10_needEnvelope h with ⟨G2, h, g3, b4⟩ | ⟨e5, G2, h, g3, b4⟩
  · have g := gcomp (by decide) g g3
    obtain ⟨v6, h⟩ := h
    exact Or.inl ⟨_, _, h, g, fun K2 X2 h2 => by unfold P_X10_personOf; exact b4 _ _ (And.intro v6 (h2))⟩
  · have g := gcomp (by decide) g g3
    exact Or.inr ⟨_, _, h, g, fun K2 X2 h2 => by unfold P_X10_personOf; exact b4 _ _ (h2)⟩
theorem ln_X10_ballots {F : GF} {p1 : Int32} {K : Int32 → GF → Prop} {X : String → GF → Prop} (h : P_X10_ballots F p1 K X) : (∃ (r : Int32) (F1 : GF), K r F1 ∧ (∀ f, f ∉ ([] : List Nat) → F1 f = F f) ∧ (∀ (K2 : Int32 → GF → Prop) (X2 : String → GF → Prop), K2 r F1 → P_X10_ballots F p1 K2 X2)) ∨ (∃ (e : String) (F1 : GF), X e F1 ∧ (∀ f, f ∉ ([] : List Nat) → F1 f = F f) ∧ (∀ (K2 : Int32 → GF → Prop) (X2 : String → GF → Prop), X2 e F1 → P_X10_ballots F p1 K2 X2)) := by
  have g : ∀ f, f ∉ ([] : List Nat) → F f = F f := fun _ _ => rfl
  unfold P_X10_ballots at h
  rcases ln_X10_needStation h with ⟨G2, h, g3, b4⟩ | ⟨e5, G2, h, g3, b4⟩
  · have g := gcomp (by decide) g g3
    obtain ⟨v6, h⟩ := h
    exact Or.inl ⟨_, _, h, g, fun K2 X2 h2 => by unfold P_X10_ballots; exact b4 _ _ (And.intro v6 (h2))⟩
  · have g := gcomp (by decide) g g3
    exact Or.inr ⟨_, _, h, g, fun K2 X2 h2 => by unfold P_X10_ballots; exact b4 _ _ (h2)⟩
theorem ln_X10_needClerk {F : GF} {p0 : Int32} {K : GF → Prop} {X : String → GF → Prop} (h : P_X10_needClerk F p0 K X) : (∃ (F1 : GF), K F1 ∧ (∀ f, f ∉ ([] : List Nat) → F1 f = F f) ∧ (∀ (K2 : GF → Prop) (X2 : String → GF → Prop), K2 F1 → P_X10_needClerk F p0 K2 X2)) ∨ (∃ (e : String) (F1 : GF), X e F1 ∧ (∀ f, f ∉ ([] : List Nat) → F1 f = F f) ∧ (∀ (K2 : GF → Prop) (X2 : String → GF → Prop), X2 e F1 → P_X10_needClerk F p0 K2 X2)) := by
  have g : ∀ f, f ∉ ([] : List Nat) → F f = F f := fun _ _ => rfl
  unfold P_X10_needClerk at h
  rcases ite_elim h with ⟨c1, h⟩ | ⟨c1, h⟩
  · skip
    exact Or.inr ⟨_, _, h, g, fun K2 X2 h2 => by unfold P_X10_needClerk; exact ite_pos c1 (h2)⟩
  · skip
    rcases ite_elim h with ⟨c2, h⟩ | ⟨c2, h⟩
    · skip
      exact Or.inl ⟨_, h, g, fun K2 X2 h2 => by unfold P_X10_needClerk; exact ite_neg c1 (ite_pos c2 (h2))⟩
    · skip
      exact Or.inr ⟨_, _, h, g, fun K2 X2 h2 => by unfold P_X10_needClerk; exact ite_neg c1 (ite_neg c2 (h2))⟩
theorem ln_X10_setSlip {F : GF} {p1 : Int32} {p2 : Int32} {K : Int32 → GF → Prop} {X : String → GF → Prop} (h : P_X10_setSlip F p1 p2 K X) : (∃ (r : Int32) (F1 : GF), K r F1 ∧ (∀ f, f ∉ ([9] : List Nat) → F1 f = F f) ∧ (∀ (K2 : Int32 → GF → Prop) (X2 : String → GF → Prop), K2 r F1 → P_X10_setSlip F p1 p2 K2 X2)) ∨ (∃ (e : String) (F1 : GF), X e F1 ∧ (∀ f, f ∉ ([9] : List Nat) → F1 f = F f) ∧ (∀ (K2 : Int32 → GF → Prop) (X2 : String → GF → Prop), X2 e F1 → P_X10_setSlip F p1 p2 K2 X2)) := by
  have g : ∀ f, f ∉ ([9] : List Nat) → F f = F f := fun _ _ => rfl
  unfold P_X10_setSlip at h
  rcases ln_X10_needClerk h with ⟨G2, h, g3, b4⟩ | ⟨e5, G2, h, g3, b4⟩
  · have g := gcomp (by decide) g g3
    rcases ln_X10_needRange h with ⟨G7, h, g8, b9⟩ | ⟨e10, G7, h, g8, b9⟩
    · have g := gcomp (by decide) g g8
      rcases ite_elim h with ⟨c11, h⟩ | ⟨c11, h⟩
      · skip
        exact Or.inr ⟨_, _, h, g, fun K2 X2 h2 => by unfold P_X10_setSlip; exact b4 _ _ (b9 _ _ (ite_pos c11 (h2)))⟩
      · skip
        obtain ⟨v12, h⟩ := h
        obtain ⟨v13, h⟩ := h
        obtain ⟨G14, e15, h⟩ := st_all h
        have g := fsg e15 g (by decide)
        exact Or.inl ⟨_, _, h, g, fun K2 X2 h2 => by unfold P_X10_setSlip; exact b4 _ _ (b9 _ _ (ite_neg c11 (And.intro v12 (And.intro v13 (all_g e15 (h2))))))⟩
    · have g := gcomp (by decide) g g8
      exact Or.inr ⟨_, _, h, g, fun K2 X2 h2 => by unfold P_X10_setSlip; exact b4 _ _ (b9 _ _ (h2))⟩
  · have g := gcomp (by decide) g g3
    exact Or.inr ⟨_, _, h, g, fun K2 X2 h2 => by unfold P_X10_setSlip; exact b4 _ _ (h2)⟩
theorem ln_X1_hasNumbers {F : GF} {i0 : Nat} {K : Int32 → GF → Prop} (h : P_X1_hasNumbers F i0 K) : ∃ (r : Int32) (F1 : GF), K r F1 ∧ (∀ f, f ∉ ([] : List Nat) → F1 f = F f) ∧ (∀ (K2 : Int32 → GF → Prop), K2 r F1 → P_X1_hasNumbers F i0 K2) := by
  have g : ∀ f, f ∉ ([] : List Nat) → F f = F f := fun _ _ => rfl
  unfold P_X1_hasNumbers at h
  rcases ite_elim h with ⟨c1, h⟩ | ⟨c1, h⟩
  · skip
    exact ⟨_, _, h, g, fun K2 h2 => by unfold P_X1_hasNumbers; exact ite_pos c1 (h2)⟩
  · skip
    exact ⟨_, _, h, g, fun K2 h2 => by unfold P_X1_hasNumbers; exact ite_neg c1 (h2)⟩
theorem ln_X1_readBallots_7 {i0 : Nat} {j0 : Nat} {K : GF → Prop} : ∀ (n : Nat) (F : GF) (x2 : Int32) (x3 : Int32), P_X1_readBallots_7 i0 j0 K n F x2 x3 → ∃ (F1 : GF), K F1 ∧ (∀ f, f ∉ ([32] : List Nat) → F1 f = F f) ∧ (∃ m : Nat, ∀ (K2 : GF → Prop), K2 F1 → P_X1_readBallots_7 i0 j0 K2 m F x2 x3) := by
  intro n
  induction n with
  | zero => exact fun _ _ _ h => False.elim h
  | succ n ih =>
    intro F x2 x3 h
    have g : ∀ f, f ∉ ([32] : List Nat) → F f = F f := fun _ _ => rfl
    rw [P_X1_readBallots_7] at h
    rcases ite_elim h with ⟨c1, h⟩ | ⟨c1, h⟩
    · skip
      exact ⟨_, h, g, ⟨0 + 1, fun K2 h2 => by rw [P_X1_readBallots_7]; exact ite_pos c1 (h2)⟩⟩
    · skip
      rcases ite_elim h with ⟨c2, h⟩ | ⟨c2, h⟩
      · skip
        unfold P_X1_readBallots_31 at h
        unfold P_X1_readBallots_32 at h
        rcases ite_elim h with ⟨c3, h⟩ | ⟨c3, h⟩
        · skip
          obtain ⟨v4, h⟩ := h
          unfold P_X1_readBallots_59 at h
          rcases ite_elim h with ⟨c5, h⟩ | ⟨c5, h⟩
          · skip
            unfold P_X1_readBallots_81 at h
            obtain ⟨G7, h, g8, ⟨m9, b10⟩⟩ := ih _ _ _ h
            exact ⟨_, h, gcomp (fun _ h => h) g g8, ⟨m9 + 1, fun K2 h2 => by rw [P_X1_readBallots_7]; exact ite_neg c1 (ite_pos c2 (by unfold P_X1_readBallots_31; exact by unfold P_X1_readBallots_32; exact ite_pos c3 (And.intro v4 (by unfold P_X1_readBallots_59; exact ite_pos c5 (by unfold P_X1_readBallots_81; exact b10 K2 h2)))))⟩⟩
          · skip
            rcases ite_elim h with ⟨c11, h⟩ | ⟨c11, h⟩
            · skip
              unfold P_X1_readBallots_81 at h
              obtain ⟨G13, h, g14, ⟨m15, b16⟩⟩ := ih _ _ _ h
              exact ⟨_, h, gcomp (fun _ h => h) g g14, ⟨m15 + 1, fun K2 h2 => by rw [P_X1_readBallots_7]; exact ite_neg c1 (ite_pos c2 (by unfold P_X1_readBallots_31; exact by unfold P_X1_readBallots_32; exact ite_pos c3 (And.intro v4 (by unfold P_X1_readBallots_59; exact ite_neg c5 (ite_pos c11 (by unfold P_X1_readBallots_81; exact b16 K2 h2))))))⟩⟩
            · skip
              obtain ⟨v17, h⟩ := h
              obtain ⟨v18, h⟩ := h
              obtain ⟨G19, e20, h⟩ := st_all h
              have g := fsg e20 g (by decide)
              unfold P_X1_readBallots_81 at h
              obtain ⟨G22, h, g23, ⟨m24, b25⟩⟩ := ih _ _ _ h
              exact ⟨_, h, gcomp (fun _ h => h) g g23, ⟨m24 + 1, fun K2 h2 => by rw [P_X1_readBallots_7]; exact ite_neg c1 (ite_pos c2 (by unfold P_X1_readBallots_31; exact by unfold P_X1_readBallots_32; exact ite_pos c3 (And.intro v4 (by unfold P_X1_readBallots_59; exact ite_neg c5 (ite_neg c11 (And.intro v17 (And.intro v18 (all_g e20 (by unfold P_X1_readBallots_81; exact b25 K2 h2)))))))))⟩⟩
        · skip
          obtain ⟨v26, h⟩ := h
          unfold P_X1_readBallots_59 at h
          rcases ite_elim h with ⟨c27, h⟩ | ⟨c27, h⟩
          · skip
            unfold P_X1_readBallots_81 at h
            obtain ⟨G29, h, g30, ⟨m31, b32⟩⟩ := ih _ _ _ h
            exact ⟨_, h, gcomp (fun _ h => h) g g30, ⟨m31 + 1, fun K2 h2 => by rw [P_X1_readBallots_7]; exact ite_neg c1 (ite_pos c2 (by unfold P_X1_readBallots_31; exact by unfold P_X1_readBallots_32; exact ite_neg c3 (And.intro v26 (by unfold P_X1_readBallots_59; exact ite_pos c27 (by unfold P_X1_readBallots_81; exact b32 K2 h2)))))⟩⟩
          · skip
            rcases ite_elim h with ⟨c33, h⟩ | ⟨c33, h⟩
            · skip
              unfold P_X1_readBallots_81 at h
              obtain ⟨G35, h, g36, ⟨m37, b38⟩⟩ := ih _ _ _ h
              exact ⟨_, h, gcomp (fun _ h => h) g g36, ⟨m37 + 1, fun K2 h2 => by rw [P_X1_readBallots_7]; exact ite_neg c1 (ite_pos c2 (by unfold P_X1_readBallots_31; exact by unfold P_X1_readBallots_32; exact ite_neg c3 (And.intro v26 (by unfold P_X1_readBallots_59; exact ite_neg c27 (ite_pos c33 (by unfold P_X1_readBallots_81; exact b38 K2 h2))))))⟩⟩
            · skip
              obtain ⟨v39, h⟩ := h
              obtain ⟨v40, h⟩ := h
              obtain ⟨G41, e42, h⟩ := st_all h
              have g := fsg e42 g (by decide)
              unfold P_X1_readBallots_81 at h
              obtain ⟨G44, h, g45, ⟨m46, b47⟩⟩ := ih _ _ _ h
              exact ⟨_, h, gcomp (fun _ h => h) g g45, ⟨m46 + 1, fun K2 h2 => by rw [P_X1_readBallots_7]; exact ite_neg c1 (ite_pos c2 (by unfold P_X1_readBallots_31; exact by unfold P_X1_readBallots_32; exact ite_neg c3 (And.intro v26 (by unfold P_X1_readBallots_59; exact ite_neg c27 (ite_neg c33 (And.intro v39 (And.intro v40 (all_g e42 (by unfold P_X1_readBallots_81; exact b47 K2 h2)))))))))⟩⟩
      · skip
        obtain ⟨v48, h⟩ := h
        rcases ite_elim h with ⟨c49, h⟩ | ⟨c49, h⟩
        · skip
          unfold P_X1_readBallots_32 at h
          rcases ite_elim h with ⟨c50, h⟩ | ⟨c50, h⟩
          · skip
            obtain ⟨v51, h⟩ := h
            unfold P_X1_readBallots_59 at h
            rcases ite_elim h with ⟨c52, h⟩ | ⟨c52, h⟩
            · skip
              unfold P_X1_readBallots_81 at h
              obtain ⟨G54, h, g55, ⟨m56, b57⟩⟩ := ih _ _ _ h
              exact ⟨_, h, gcomp (fun _ h => h) g g55, ⟨m56 + 1, fun K2 h2 => by rw [P_X1_readBallots_7]; exact ite_neg c1 (ite_neg c2 (And.intro v48 (ite_pos c49 (by unfold P_X1_readBallots_32; exact ite_pos c50 (And.intro v51 (by unfold P_X1_readBallots_59; exact ite_pos c52 (by unfold P_X1_readBallots_81; exact b57 K2 h2)))))))⟩⟩
            · skip
              rcases ite_elim h with ⟨c58, h⟩ | ⟨c58, h⟩
              · skip
                unfold P_X1_readBallots_81 at h
                obtain ⟨G60, h, g61, ⟨m62, b63⟩⟩ := ih _ _ _ h
                exact ⟨_, h, gcomp (fun _ h => h) g g61, ⟨m62 + 1, fun K2 h2 => by rw [P_X1_readBallots_7]; exact ite_neg c1 (ite_neg c2 (And.intro v48 (ite_pos c49 (by unfold P_X1_readBallots_32; exact ite_pos c50 (And.intro v51 (by unfold P_X1_readBallots_59; exact ite_neg c52 (ite_pos c58 (by unfold P_X1_readBallots_81; exact b63 K2 h2))))))))⟩⟩
              · skip
                obtain ⟨v64, h⟩ := h
                obtain ⟨v65, h⟩ := h
                obtain ⟨G66, e67, h⟩ := st_all h
                have g := fsg e67 g (by decide)
                unfold P_X1_readBallots_81 at h
                obtain ⟨G69, h, g70, ⟨m71, b72⟩⟩ := ih _ _ _ h
                exact ⟨_, h, gcomp (fun _ h => h) g g70, ⟨m71 + 1, fun K2 h2 => by rw [P_X1_readBallots_7]; exact ite_neg c1 (ite_neg c2 (And.intro v48 (ite_pos c49 (by unfold P_X1_readBallots_32; exact ite_pos c50 (And.intro v51 (by unfold P_X1_readBallots_59; exact ite_neg c52 (ite_neg c58 (And.intro v64 (And.intro v65 (all_g e67 (by unfold P_X1_readBallots_81; exact b72 K2 h2)))))))))))⟩⟩
          · skip
            obtain ⟨v73, h⟩ := h
            unfold P_X1_readBallots_59 at h
            rcases ite_elim h with ⟨c74, h⟩ | ⟨c74, h⟩
            · skip
              unfold P_X1_readBallots_81 at h
              obtain ⟨G76, h, g77, ⟨m78, b79⟩⟩ := ih _ _ _ h
              exact ⟨_, h, gcomp (fun _ h => h) g g77, ⟨m78 + 1, fun K2 h2 => by rw [P_X1_readBallots_7]; exact ite_neg c1 (ite_neg c2 (And.intro v48 (ite_pos c49 (by unfold P_X1_readBallots_32; exact ite_neg c50 (And.intro v73 (by unfold P_X1_readBallots_59; exact ite_pos c74 (by unfold P_X1_readBallots_81; exact b79 K2 h2)))))))⟩⟩
            · skip
              rcases ite_elim h with ⟨c80, h⟩ | ⟨c80, h⟩
              · skip
                unfold P_X1_readBallots_81 at h
                obtain ⟨G82, h, g83, ⟨m84, b85⟩⟩ := ih _ _ _ h
                exact ⟨_, h, gcomp (fun _ h => h) g g83, ⟨m84 + 1, fun K2 h2 => by rw [P_X1_readBallots_7]; exact ite_neg c1 (ite_neg c2 (And.intro v48 (ite_pos c49 (by unfold P_X1_readBallots_32; exact ite_neg c50 (And.intro v73 (by unfold P_X1_readBallots_59; exact ite_neg c74 (ite_pos c80 (by unfold P_X1_readBallots_81; exact b85 K2 h2))))))))⟩⟩
              · skip
                obtain ⟨v86, h⟩ := h
                obtain ⟨v87, h⟩ := h
                obtain ⟨G88, e89, h⟩ := st_all h
                have g := fsg e89 g (by decide)
                unfold P_X1_readBallots_81 at h
                obtain ⟨G91, h, g92, ⟨m93, b94⟩⟩ := ih _ _ _ h
                exact ⟨_, h, gcomp (fun _ h => h) g g92, ⟨m93 + 1, fun K2 h2 => by rw [P_X1_readBallots_7]; exact ite_neg c1 (ite_neg c2 (And.intro v48 (ite_pos c49 (by unfold P_X1_readBallots_32; exact ite_neg c50 (And.intro v73 (by unfold P_X1_readBallots_59; exact ite_neg c74 (ite_neg c80 (And.intro v86 (And.intro v87 (all_g e89 (by unfold P_X1_readBallots_81; exact b94 K2 h2)))))))))))⟩⟩
        · skip
          unfold P_X1_readBallots_31 at h
          unfold P_X1_readBallots_32 at h
          rcases ite_elim h with ⟨c95, h⟩ | ⟨c95, h⟩
          · skip
            obtain ⟨v96, h⟩ := h
            unfold P_X1_readBallots_59 at h
            rcases ite_elim h with ⟨c97, h⟩ | ⟨c97, h⟩
            · skip
              unfold P_X1_readBallots_81 at h
              obtain ⟨G99, h, g100, ⟨m101, b102⟩⟩ := ih _ _ _ h
              exact ⟨_, h, gcomp (fun _ h => h) g g100, ⟨m101 + 1, fun K2 h2 => by rw [P_X1_readBallots_7]; exact ite_neg c1 (ite_neg c2 (And.intro v48 (ite_neg c49 (by unfold P_X1_readBallots_31; exact by unfold P_X1_readBallots_32; exact ite_pos c95 (And.intro v96 (by unfold P_X1_readBallots_59; exact ite_pos c97 (by unfold P_X1_readBallots_81; exact b102 K2 h2)))))))⟩⟩
            · skip
              rcases ite_elim h with ⟨c103, h⟩ | ⟨c103, h⟩
              · skip
                unfold P_X1_readBallots_81 at h
                obtain ⟨G105, h, g106, ⟨m107, b108⟩⟩ := ih _ _ _ h
                exact ⟨_, h, gcomp (fun _ h => h) g g106, ⟨m107 + 1, fun K2 h2 => by rw [P_X1_readBallots_7]; exact ite_neg c1 (ite_neg c2 (And.intro v48 (ite_neg c49 (by unfold P_X1_readBallots_31; exact by unfold P_X1_readBallots_32; exact ite_pos c95 (And.intro v96 (by unfold P_X1_readBallots_59; exact ite_neg c97 (ite_pos c103 (by unfold P_X1_readBallots_81; exact b108 K2 h2))))))))⟩⟩
              · skip
                obtain ⟨v109, h⟩ := h
                obtain ⟨v110, h⟩ := h
                obtain ⟨G111, e112, h⟩ := st_all h
                have g := fsg e112 g (by decide)
                unfold P_X1_readBallots_81 at h
                obtain ⟨G114, h, g115, ⟨m116, b117⟩⟩ := ih _ _ _ h
                exact ⟨_, h, gcomp (fun _ h => h) g g115, ⟨m116 + 1, fun K2 h2 => by rw [P_X1_readBallots_7]; exact ite_neg c1 (ite_neg c2 (And.intro v48 (ite_neg c49 (by unfold P_X1_readBallots_31; exact by unfold P_X1_readBallots_32; exact ite_pos c95 (And.intro v96 (by unfold P_X1_readBallots_59; exact ite_neg c97 (ite_neg c103 (And.intro v109 (And.intro v110 (all_g e112 (by unfold P_X1_readBallots_81; exact b117 K2 h2)))))))))))⟩⟩
          · skip
            obtain ⟨v118, h⟩ := h
            unfold P_X1_readBallots_59 at h
            rcases ite_elim h with ⟨c119, h⟩ | ⟨c119, h⟩
            · skip
              unfold P_X1_readBallots_81 at h
              obtain ⟨G121, h, g122, ⟨m123, b124⟩⟩ := ih _ _ _ h
              exact ⟨_, h, gcomp (fun _ h => h) g g122, ⟨m123 + 1, fun K2 h2 => by rw [P_X1_readBallots_7]; exact ite_neg c1 (ite_neg c2 (And.intro v48 (ite_neg c49 (by unfold P_X1_readBallots_31; exact by unfold P_X1_readBallots_32; exact ite_neg c95 (And.intro v118 (by unfold P_X1_readBallots_59; exact ite_pos c119 (by unfold P_X1_readBallots_81; exact b124 K2 h2)))))))⟩⟩
            · skip
              rcases ite_elim h with ⟨c125, h⟩ | ⟨c125, h⟩
              · skip
                unfold P_X1_readBallots_81 at h
                obtain ⟨G127, h, g128, ⟨m129, b130⟩⟩ := ih _ _ _ h
                exact ⟨_, h, gcomp (fun _ h => h) g g128, ⟨m129 + 1, fun K2 h2 => by rw [P_X1_readBallots_7]; exact ite_neg c1 (ite_neg c2 (And.intro v48 (ite_neg c49 (by unfold P_X1_readBallots_31; exact by unfold P_X1_readBallots_32; exact ite_neg c95 (And.intro v118 (by unfold P_X1_readBallots_59; exact ite_neg c119 (ite_pos c125 (by unfold P_X1_readBallots_81; exact b130 K2 h2))))))))⟩⟩
              · skip
                obtain ⟨v131, h⟩ := h
                obtain ⟨v132, h⟩ := h
                obtain ⟨G133, e134, h⟩ := st_all h
                have g := fsg e134 g (by decide)
                unfold P_X1_readBallots_81 at h
                obtain ⟨G136, h, g137, ⟨m138, b139⟩⟩ := ih _ _ _ h
                exact ⟨_, h, gcomp (fun _ h => h) g g137, ⟨m138 + 1, fun K2 h2 => by rw [P_X1_readBallots_7]; exact ite_neg c1 (ite_neg c2 (And.intro v48 (ite_neg c49 (by unfold P_X1_readBallots_31; exact by unfold P_X1_readBallots_32; exact ite_neg c95 (And.intro v118 (by unfold P_X1_readBallots_59; exact ite_neg c119 (ite_neg c125 (And.intro v131 (And.intro v132 (all_g e134 (by unfold P_X1_readBallots_81; exact b139 K2 h2)))))))))))⟩⟩
theorem ln_X1_readBallots {F : GF} {i0 : Nat} {j0 : Nat} {p2 : Int32} {K : GF → Prop} (h : P_X1_readBallots F i0 j0 p2 K) : ∃ (F1 : GF), K F1 ∧ (∀ f, f ∉ ([32] : List Nat) → F1 f = F f) ∧ (∀ (K2 : GF → Prop), K2 F1 → P_X1_readBallots F i0 j0 p2 K2) := by
  have g : ∀ f, f ∉ ([32] : List Nat) → F f = F f := fun _ _ => rfl
  unfold P_X1_readBallots at h
  obtain ⟨G1, e2, h⟩ := st_all h
  have g := ffillg e2 g (by decide)
  obtain ⟨n3, h⟩ := h
  obtain ⟨G5, h, g6, ⟨m7, b8⟩⟩ := ln_X1_readBallots_7 _ _ _ _ h
  have g := gcomp (by decide) g g6
  exact ⟨_, h, g, fun K2 h2 => by unfold P_X1_readBallots; exact all_g e2 (Exists.intro m7 (b8 _ (h2)))⟩
theorem ln_X1_isAlike_2 {j0 : Nat} {j1 : Nat} {K : Int32 → GF → Prop} : ∀ (n : Nat) (F : GF) (x2 : Int32), P_X1_isAlike_2 j0 j1 K n F x2 → ∃ (r : Int32) (F1 : GF), K r F1 ∧ (∀ f, f ∉ ([] : List Nat) → F1 f = F f) ∧ (∃ m : Nat, ∀ (K2 : Int32 → GF → Prop), K2 r F1 → P_X1_isAlike_2 j0 j1 K2 m F x2) := by
  intro n
  induction n with
  | zero => exact fun _ _ h => False.elim h
  | succ n ih =>
    intro F x2 h
    have g : ∀ f, f ∉ ([] : List Nat) → F f = F f := fun _ _ => rfl
    rw [P_X1_isAlike_2] at h
    rcases ite_elim h with ⟨c1, h⟩ | ⟨c1, h⟩
    · skip
      exact ⟨_, _, h, g, ⟨0 + 1, fun K2 h2 => by rw [P_X1_isAlike_2]; exact ite_pos c1 (h2)⟩⟩
    · skip
      rcases ite_elim h with ⟨c2, h⟩ | ⟨c2, h⟩
      · skip
        exact ⟨_, _, h, g, ⟨0 + 1, fun K2 h2 => by rw [P_X1_isAlike_2]; exact ite_neg c1 (ite_pos c2 (h2))⟩⟩
      · skip
        obtain ⟨v3, h⟩ := h
        obtain ⟨v4, h⟩ := h
        rcases ite_elim h with ⟨c5, h⟩ | ⟨c5, h⟩
        · skip
          obtain ⟨r6, G7, h, g8, ⟨m9, b10⟩⟩ := ih _ _ h
          exact ⟨_, _, h, gcomp (fun _ h => h) g g8, ⟨m9 + 1, fun K2 h2 => by rw [P_X1_isAlike_2]; exact ite_neg c1 (ite_neg c2 (And.intro v3 (And.intro v4 (ite_pos c5 (b10 K2 h2)))))⟩⟩
        · skip
          exact ⟨_, _, h, g, ⟨0 + 1, fun K2 h2 => by rw [P_X1_isAlike_2]; exact ite_neg c1 (ite_neg c2 (And.intro v3 (And.intro v4 (ite_neg c5 (h2)))))⟩⟩
theorem ln_X1_isAlike {F : GF} {j0 : Nat} {j1 : Nat} {K : Int32 → GF → Prop} (h : P_X1_isAlike F j0 j1 K) : ∃ (r : Int32) (F1 : GF), K r F1 ∧ (∀ f, f ∉ ([] : List Nat) → F1 f = F f) ∧ (∀ (K2 : Int32 → GF → Prop), K2 r F1 → P_X1_isAlike F j0 j1 K2) := by
  have g : ∀ f, f ∉ ([] : List Nat) → F f = F f := fun _ _ => rfl
  unfold P_X1_isAlike at h
  obtain ⟨n1, h⟩ := h
  obtain ⟨r2, G3, h, g4, ⟨m5, b6⟩⟩ := ln_X1_isAlike_2 _ _ _ h
  have g := gcomp (by decide) g g4
  exact ⟨_, _, h, g, fun K2 h2 => by unfold P_X1_isAlike; exact Exists.intro m5 (b6 _ (h2))⟩
theorem ln_X1_countBy_36 {i0 : Nat} {K : GF → Prop} : ∀ (n : Nat) (F : GF) (x1 : Int32) (x3 : Int32), P_X1_countBy_36 i0 K n F x1 x3 → ∃ (F1 : GF), K F1 ∧ (∀ f, f ∉ ([28] : List Nat) → F1 f = F f) ∧ (∃ m : Nat, ∀ (K2 : GF → Prop), K2 F1 → P_X1_countBy_36 i0 K2 m F x1 x3) := by
  intro n
  induction n with
  | zero => exact fun _ _ _ h => False.elim h
  | succ n ih =>
    intro F x1 x3 h
    have g : ∀ f, f ∉ ([28] : List Nat) → F f = F f := fun _ _ => rfl
    rw [P_X1_countBy_36] at h
    rcases ite_elim h with ⟨c1, h⟩ | ⟨c1, h⟩
    · skip
      obtain ⟨G2, e3, h⟩ := st_all h
      have g := fsg e3 g (by decide)
      exact ⟨_, h, g, ⟨0 + 1, fun K2 h2 => by rw [P_X1_countBy_36]; exact ite_pos c1 (all_g e3 (h2))⟩⟩
    · skip
      obtain ⟨v4, h⟩ := h
      rcases ite_elim h with ⟨c5, h⟩ | ⟨c5, h⟩
      · skip
        unfold P_X1_countBy_83 at h
        obtain ⟨G7, h, g8, ⟨m9, b10⟩⟩ := ih _ _ _ h
        exact ⟨_, h, gcomp (fun _ h => h) g g8, ⟨m9 + 1, fun K2 h2 => by rw [P_X1_countBy_36]; exact ite_neg c1 (And.intro v4 (ite_pos c5 (by unfold P_X1_countBy_83; exact b10 K2 h2)))⟩⟩
      · skip
        obtain ⟨v11, h⟩ := h
        obtain ⟨v12, h⟩ := h
        obtain ⟨r13, G14, h, g15, b16⟩ := ln_X1_isAlike h
        have g := gcomp (by decide) g g15
        rcases ite_elim h with ⟨c17, h⟩ | ⟨c17, h⟩
        · skip
          unfold P_X1_countBy_83 at h
          obtain ⟨G19, h, g20, ⟨m21, b22⟩⟩ := ih _ _ _ h
          exact ⟨_, h, gcomp (fun _ h => h) g g20, ⟨m21 + 1, fun K2 h2 => by rw [P_X1_countBy_36]; exact ite_neg c1 (And.intro v4 (ite_neg c5 (And.intro v11 (And.intro v12 (b16 _ (ite_pos c17 (by unfold P_X1_countBy_83; exact b22 K2 h2)))))))⟩⟩
        · skip
          obtain ⟨G23, e24, h⟩ := st_all h
          have g := fsg e24 g (by decide)
          unfold P_X1_countBy_83 at h
          obtain ⟨G26, h, g27, ⟨m28, b29⟩⟩ := ih _ _ _ h
          exact ⟨_, h, gcomp (fun _ h => h) g g27, ⟨m28 + 1, fun K2 h2 => by rw [P_X1_countBy_36]; exact ite_neg c1 (And.intro v4 (ite_neg c5 (And.intro v11 (And.intro v12 (b16 _ (ite_neg c17 (all_g e24 (by unfold P_X1_countBy_83; exact b29 K2 h2))))))))⟩⟩
theorem ln_X1_countBy {F : GF} {i0 : Nat} {p1 : Int32} {p2 : Int32} {K : GF → Prop} (h : P_X1_countBy F i0 p1 p2 K) : ∃ (F1 : GF), K F1 ∧ (∀ f, f ∉ ([28, 30, 32] : List Nat) → F1 f = F f) ∧ (∀ (K2 : GF → Prop), K2 F1 → P_X1_countBy F i0 p1 p2 K2) := by
  have g : ∀ f, f ∉ ([28, 30, 32] : List Nat) → F f = F f := fun _ _ => rfl
  unfold P_X1_countBy at h
  rcases ite_elim h with ⟨c1, h⟩ | ⟨c1, h⟩
  · skip
    obtain ⟨v2, h⟩ := h
    obtain ⟨G3, e4, h⟩ := st_all h
    have g := fsg e4 g (by decide)
    obtain ⟨v5, h⟩ := h
    obtain ⟨G7, h, g8, b9⟩ := ln_X1_readBallots h
    have g := gcomp (by decide) g g8
    obtain ⟨n10, h⟩ := h
    obtain ⟨G12, h, g13, ⟨m14, b15⟩⟩ := ln_X1_countBy_36 _ _ _ _ h
    have g := gcomp (by decide) g g13
    exact ⟨_, h, g, fun K2 h2 => by unfold P_X1_countBy; exact ite_pos c1 (And.intro v2 (all_g e4 (And.intro v5 (b9 _ (Exists.intro m14 (b15 _ (h2)))))))⟩
  · skip
    exact ⟨_, h, g, fun K2 h2 => by unfold P_X1_countBy; exact ite_neg c1 (h2)⟩
theorem ln_X2_isAllSettled_2  {K : Int32 → GF → Prop} : ∀ (n : Nat) (F : GF) (x1 : Int32), P_X2_isAllSettled_2 K n F x1 → ∃ (r : Int32) (F1 : GF), K r F1 ∧ (∀ f, f ∉ ([] : List Nat) → F1 f = F f) ∧ (∃ m : Nat, ∀ (K2 : Int32 → GF → Prop), K2 r F1 → P_X2_isAllSettled_2 K2 m F x1) := by
  intro n
  induction n with
  | zero => exact fun _ _ h => False.elim h
  | succ n ih =>
    intro F x1 h
    have g : ∀ f, f ∉ ([] : List Nat) → F f = F f := fun _ _ => rfl
    rw [P_X2_isAllSettled_2] at h
    rcases ite_elim h with ⟨c1, h⟩ | ⟨c1, h⟩
    · skip
      exact ⟨_, _, h, g, ⟨0 + 1, fun K2 h2 => by rw [P_X2_isAllSettled_2]; exact ite_pos c1 (h2)⟩⟩
    · skip
      obtain ⟨v2, h⟩ := h
      obtain ⟨r3, G4, h, g5, b6⟩ := ln_X1_hasNumbers h
      have g := gcomp (by decide) g g5
      rcases ite_elim h with ⟨c7, h⟩ | ⟨c7, h⟩
      · skip
        exact ⟨_, _, h, g, ⟨0 + 1, fun K2 h2 => by rw [P_X2_isAllSettled_2]; exact ite_neg c1 (And.intro v2 (b6 _ (ite_pos c7 (h2))))⟩⟩
      · skip
        obtain ⟨r8, G9, h, g10, ⟨m11, b12⟩⟩ := ih _ _ h
        exact ⟨_, _, h, gcomp (fun _ h => h) g g10, ⟨m11 + 1, fun K2 h2 => by rw [P_X2_isAllSettled_2]; exact ite_neg c1 (And.intro v2 (b6 _ (ite_neg c7 (b12 K2 h2))))⟩⟩
theorem ln_X2_isAllSettled {F : GF} {K : Int32 → GF → Prop} (h : P_X2_isAllSettled F K) : ∃ (r : Int32) (F1 : GF), K r F1 ∧ (∀ f, f ∉ ([] : List Nat) → F1 f = F f) ∧ (∀ (K2 : Int32 → GF → Prop), K2 r F1 → P_X2_isAllSettled F K2) := by
  have g : ∀ f, f ∉ ([] : List Nat) → F f = F f := fun _ _ => rfl
  unfold P_X2_isAllSettled at h
  obtain ⟨n1, h⟩ := h
  obtain ⟨r2, G3, h, g4, ⟨m5, b6⟩⟩ := ln_X2_isAllSettled_2 _ _ _ h
  have g := gcomp (by decide) g g4
  exact ⟨_, _, h, g, fun K2 h2 => by unfold P_X2_isAllSettled; exact Exists.intro m5 (b6 _ (h2))⟩
theorem ln_X10_count {F : GF} {p1 : Int32} {p2 : Int32} {K : Int32 → GF → Prop} {X : String → GF → Prop} (h : P_X10_count F p1 p2 K X) : (∃ (r : Int32) (F1 : GF), K r F1 ∧ (∀ f, f ∉ ([10, 21, 22, 23, 24, 28, 30, 32] : List Nat) → F1 f = F f) ∧ (∀ (K2 : Int32 → GF → Prop) (X2 : String → GF → Prop), K2 r F1 → P_X10_count F p1 p2 K2 X2)) ∨ (∃ (e : String) (F1 : GF), X e F1 ∧ (∀ f, f ∉ ([10, 21, 22, 23, 24, 28, 30, 32] : List Nat) → F1 f = F f) ∧ (∀ (K2 : Int32 → GF → Prop) (X2 : String → GF → Prop), X2 e F1 → P_X10_count F p1 p2 K2 X2)) := by
  have g : ∀ f, f ∉ ([10, 21, 22, 23, 24, 28, 30, 32] : List Nat) → F f = F f := fun _ _ => rfl
  unfold P_X10_count at h
  rcases ln_X10_needStation h with ⟨G2, h, g3, b4⟩ | ⟨e5, G2, h, g3, b4⟩
  · have g := gcomp (by decide) g g3
    rcases ln_X10_needClerk h with ⟨G7, h, g8, b9⟩ | ⟨e10, G7, h, g8, b9⟩
    · have g := gcomp (by decide) g g8
      rcases ln_X10_needStage h with ⟨G12, h, g13, b14⟩ | ⟨e15, G12, h, g13, b14⟩
      · have g := gcomp (by decide) g g13
        obtain ⟨v16, h⟩ := h
        rcases ite_elim h with ⟨c17, h⟩ | ⟨c17, h⟩
        · skip
          obtain ⟨r18, G19, h, g20, b21⟩ := ln_X1_hasNumbers h
          have g := gcomp (by decide) g g20
          rcases ite_elim h with ⟨c22, h⟩ | ⟨c22, h⟩
          · skip
            rcases ite_elim h with ⟨c23, h⟩ | ⟨c23, h⟩
            · skip
              obtain ⟨G25, h, g26, b27⟩ := ln_X0_write h
              have g := gcomp (by decide) g g26
              obtain ⟨v28, h⟩ := h
              obtain ⟨G30, h, g31, b32⟩ := ln_X1_countBy h
              have g := gcomp (by decide) g g31
              obtain ⟨r33, G34, h, g35, b36⟩ := ln_X2_isAllSettled h
              have g := gcomp (by decide) g g35
              rcases ite_elim h with ⟨c37, h⟩ | ⟨c37, h⟩
              · skip
                unfold P_X10_count_128 at h
                obtain ⟨r38, G39, h, g40, b41⟩ := ln_X1_hasNumbers h
                have g := gcomp (by decide) g g40
                obtain ⟨v42, h⟩ := h
                exact Or.inl ⟨_, _, h, g, fun K2 X2 h2 => by unfold P_X10_count; exact b4 _ _ (b9 _ _ (b14 _ _ (And.intro v16 (ite_pos c17 (b21 _ (ite_pos c22 (ite_pos c23 (b27 _ (And.intro v28 (b32 _ (b36 _ (ite_pos c37 (by unfold P_X10_count_128; exact b41 _ (And.intro v42 (h2)))))))))))))))⟩
              · skip
                obtain ⟨G43, e44, h⟩ := st_all h
                have g := fsg e44 g (by decide)
                unfold P_X10_count_128 at h
                obtain ⟨r45, G46, h, g47, b48⟩ := ln_X1_hasNumbers h
                have g := gcomp (by decide) g g47
                obtain ⟨v49, h⟩ := h
                exact Or.inl ⟨_, _, h, g, fun K2 X2 h2 => by unfold P_X10_count; exact b4 _ _ (b9 _ _ (b14 _ _ (And.intro v16 (ite_pos c17 (b21 _ (ite_pos c22 (ite_pos c23 (b27 _ (And.intro v28 (b32 _ (b36 _ (ite_neg c37 (all_g e44 (by unfold P_X10_count_128; exact b48 _ (And.intro v49 (h2))))))))))))))))⟩
            · skip
              exact Or.inr ⟨_, _, h, g, fun K2 X2 h2 => by unfold P_X10_count; exact b4 _ _ (b9 _ _ (b14 _ _ (And.intro v16 (ite_pos c17 (b21 _ (ite_pos c22 (ite_neg c23 (h2))))))))⟩
          · skip
            exact Or.inr ⟨_, _, h, g, fun K2 X2 h2 => by unfold P_X10_count; exact b4 _ _ (b9 _ _ (b14 _ _ (And.intro v16 (ite_pos c17 (b21 _ (ite_neg c22 (h2)))))))⟩
        · skip
          exact Or.inr ⟨_, _, h, g, fun K2 X2 h2 => by unfold P_X10_count; exact b4 _ _ (b9 _ _ (b14 _ _ (And.intro v16 (ite_neg c17 (h2)))))⟩
      · have g := gcomp (by decide) g g13
        exact Or.inr ⟨_, _, h, g, fun K2 X2 h2 => by unfold P_X10_count; exact b4 _ _ (b9 _ _ (b14 _ _ (h2)))⟩
    · have g := gcomp (by decide) g g8
      exact Or.inr ⟨_, _, h, g, fun K2 X2 h2 => by unfold P_X10_count; exact b4 _ _ (b9 _ _ (h2))⟩
  · have g := gcomp (by decide) g g3
    exact Or.inr ⟨_, _, h, g, fun K2 X2 h2 => by unfold P_X10_count; exact b4 _ _ (h2)⟩
theorem ln_X1_dropCounts {F : GF} {i0 : Nat} {K : Int32 → GF → Prop} (h : P_X1_dropCounts F i0 K) : ∃ (r : Int32) (F1 : GF), K r F1 ∧ (∀ f, f ∉ ([28] : List Nat) → F1 f = F f) ∧ (∀ (K2 : Int32 → GF → Prop), K2 r F1 → P_X1_dropCounts F i0 K2) := by
  have g : ∀ f, f ∉ ([28] : List Nat) → F f = F f := fun _ _ => rfl
  unfold P_X1_dropCounts at h
  obtain ⟨G1, e2, h⟩ := st_all h
  have g := fsg e2 g (by decide)
  obtain ⟨G3, e4, h⟩ := st_all h
  have g := fsg e4 g (by decide)
  exact ⟨_, _, h, g, fun K2 h2 => by unfold P_X1_dropCounts; exact all_g e2 (all_g e4 (h2))⟩
theorem ln_X10_recount {F : GF} {p1 : Int32} {K : Int32 → GF → Prop} {X : String → GF → Prop} (h : P_X10_recount F p1 K X) : (∃ (r : Int32) (F1 : GF), K r F1 ∧ (∀ f, f ∉ ([28] : List Nat) → F1 f = F f) ∧ (∀ (K2 : Int32 → GF → Prop) (X2 : String → GF → Prop), K2 r F1 → P_X10_recount F p1 K2 X2)) ∨ (∃ (e : String) (F1 : GF), X e F1 ∧ (∀ f, f ∉ ([28] : List Nat) → F1 f = F f) ∧ (∀ (K2 : Int32 → GF → Prop) (X2 : String → GF → Prop), X2 e F1 → P_X10_recount F p1 K2 X2)) := by
  have g : ∀ f, f ∉ ([28] : List Nat) → F f = F f := fun _ _ => rfl
  unfold P_X10_recount at h
  rcases ln_X10_needStation h with ⟨G2, h, g3, b4⟩ | ⟨e5, G2, h, g3, b4⟩
  · have g := gcomp (by decide) g g3
    rcases ln_X10_needStage h with ⟨G7, h, g8, b9⟩ | ⟨e10, G7, h, g8, b9⟩
    · have g := gcomp (by decide) g g8
      obtain ⟨v11, h⟩ := h
      obtain ⟨r12, G13, h, g14, b15⟩ := ln_X1_dropCounts h
      have g := gcomp (by decide) g g14
      exact Or.inl ⟨_, _, h, g, fun K2 X2 h2 => by unfold P_X10_recount; exact b4 _ _ (b9 _ _ (And.intro v11 (b15 _ (h2))))⟩
    · have g := gcomp (by decide) g g8
      exact Or.inr ⟨_, _, h, g, fun K2 X2 h2 => by unfold P_X10_recount; exact b4 _ _ (b9 _ _ (h2))⟩
  · have g := gcomp (by decide) g g3
    exact Or.inr ⟨_, _, h, g, fun K2 X2 h2 => by unfold P_X10_recount; exact b4 _ _ (h2)⟩
theorem ln_X10_isSettled {F : GF} {p1 : Int32} {K : Int32 → GF → Prop} {X : String → GF → Prop} (h : P_X10_isSettled F p1 K X) : (∃ (r : Int32) (F1 : GF), K r F1 ∧ (∀ f, f ∉ ([] : List Nat) → F1 f = F f) ∧ (∀ (K2 : Int32 → GF → Prop) (X2 : String → GF → Prop), K2 r F1 → P_X10_isSettled F p1 K2 X2)) ∨ (∃ (e : String) (F1 : GF), X e F1 ∧ (∀ f, f ∉ ([] : List Nat) → F1 f = F f) ∧ (∀ (K2 : Int32 → GF → Prop) (X2 : String → GF → Prop), X2 e F1 → P_X10_isSettled F p1 K2 X2)) := by
  have g : ∀ f, f ∉ ([] : List Nat) → F f = F f := fun _ _ => rfl
  unfold P_X10_isSettled at h
  rcases ln_X10_needStation h with ⟨G2, h, g3, b4⟩ | ⟨e5, G2, h, g3, b4⟩
  · have g := gcomp (by decide) g g3
    obtain ⟨v6, h⟩ := h
    obtain ⟨r7, G8, h, g9, b10⟩ := ln_X1_hasNumbers h
    have g := gcomp (by decide) g g9
    obtain ⟨v11, h⟩ := h
    exact Or.inl ⟨_, _, h, g, fun K2 X2 h2 => by unfold P_X10_isSettled; exact b4 _ _ (And.intro v6 (b10 _ (And.intro v11 (h2))))⟩
  · have g := gcomp (by decide) g g3
    exact Or.inr ⟨_, _, h, g, fun K2 X2 h2 => by unfold P_X10_isSettled; exact b4 _ _ (h2)⟩
theorem ln_X1_settledNumber {F : GF} {i0 : Nat} {p1 : Int32} {K : Int32 → GF → Prop} (h : P_X1_settledNumber F i0 p1 K) : ∃ (r : Int32) (F1 : GF), K r F1 ∧ (∀ f, f ∉ ([] : List Nat) → F1 f = F f) ∧ (∀ (K2 : Int32 → GF → Prop), K2 r F1 → P_X1_settledNumber F i0 p1 K2) := by
  have g : ∀ f, f ∉ ([] : List Nat) → F f = F f := fun _ _ => rfl
  unfold P_X1_settledNumber at h
  rcases ite_elim h with ⟨c1, h⟩ | ⟨c1, h⟩
  · skip
    exact ⟨_, _, h, g, fun K2 h2 => by unfold P_X1_settledNumber; exact ite_pos c1 (h2)⟩
  · skip
    rcases ite_elim h with ⟨c2, h⟩ | ⟨c2, h⟩
    · skip
      exact ⟨_, _, h, g, fun K2 h2 => by unfold P_X1_settledNumber; exact ite_neg c1 (ite_pos c2 (h2))⟩
    · skip
      rcases ite_elim h with ⟨c3, h⟩ | ⟨c3, h⟩
      · skip
        exact ⟨_, _, h, g, fun K2 h2 => by unfold P_X1_settledNumber; exact ite_neg c1 (ite_neg c2 (ite_pos c3 (h2)))⟩
      · skip
        rcases ite_elim h with ⟨c4, h⟩ | ⟨c4, h⟩
        · skip
          obtain ⟨v5, h⟩ := h
          obtain ⟨v6, h⟩ := h
          exact ⟨_, _, h, g, fun K2 h2 => by unfold P_X1_settledNumber; exact ite_neg c1 (ite_neg c2 (ite_neg c3 (ite_pos c4 (And.intro v5 (And.intro v6 (h2))))))⟩
        · skip
          exact ⟨_, _, h, g, fun K2 h2 => by unfold P_X1_settledNumber; exact ite_neg c1 (ite_neg c2 (ite_neg c3 (ite_neg c4 (h2))))⟩
theorem ln_X10_numberOf {F : GF} {p1 : Int32} {p2 : Int32} {K : Int32 → GF → Prop} {X : String → GF → Prop} (h : P_X10_numberOf F p1 p2 K X) : (∃ (r : Int32) (F1 : GF), K r F1 ∧ (∀ f, f ∉ ([] : List Nat) → F1 f = F f) ∧ (∀ (K2 : Int32 → GF → Prop) (X2 : String → GF → Prop), K2 r F1 → P_X10_numberOf F p1 p2 K2 X2)) ∨ (∃ (e : String) (F1 : GF), X e F1 ∧ (∀ f, f ∉ ([] : List Nat) → F1 f = F f) ∧ (∀ (K2 : Int32 → GF → Prop) (X2 : String → GF → Prop), X2 e F1 → P_X10_numberOf F p1 p2 K2 X2)) := by
  have g : ∀ f, f ∉ ([] : List Nat) → F f = F f := fun _ _ => rfl
  unfold P_X10_numberOf at h
  rcases ln_X10_needStation h with ⟨G2, h, g3, b4⟩ | ⟨e5, G2, h, g3, b4⟩
  · have g := gcomp (by decide) g g3
    rcases ln_X10_needRange h with ⟨G7, h, g8, b9⟩ | ⟨e10, G7, h, g8, b9⟩
    · have g := gcomp (by decide) g g8
      obtain ⟨v11, h⟩ := h
      obtain ⟨r12, G13, h, g14, b15⟩ := ln_X1_settledNumber h
      have g := gcomp (by decide) g g14
      exact Or.inl ⟨_, _, h, g, fun K2 X2 h2 => by unfold P_X10_numberOf; exact b4 _ _ (b9 _ _ (And.intro v11 (b15 _ (h2))))⟩
    · have g := gcomp (by decide) g g8
      exact Or.inr ⟨_, _, h, g, fun K2 X2 h2 => by unfold P_X10_numberOf; exact b4 _ _ (b9 _ _ (h2))⟩
  · have g := gcomp (by decide) g g3
    exact Or.inr ⟨_, _, h, g, fun K2 X2 h2 => by unfold P_X10_numberOf; exact b4 _ _ (h2)⟩
theorem ln_X1_ballotsFor_4 {i0 : Nat} {K : Int32 → GF → Prop} : ∀ (n : Nat) (F : GF) (x1 : Int32) (x2 : Int32) (x3 : Int32), P_X1_ballotsFor_4 i0 K n F x1 x2 x3 → ∃ (r : Int32) (F1 : GF), K r F1 ∧ (∀ f, f ∉ ([] : List Nat) → F1 f = F f) ∧ (∃ m : Nat, ∀ (K2 : Int32 → GF → Prop), K2 r F1 → P_X1_ballotsFor_4 i0 K2 m F x1 x2 x3) := by
  intro n
  induction n with
  | zero => exact fun _ _ _ _ h => False.elim h
  | succ n ih =>
    intro F x1 x2 x3 h
    have g : ∀ f, f ∉ ([] : List Nat) → F f = F f := fun _ _ => rfl
    rw [P_X1_ballotsFor_4] at h
    rcases ite_elim h with ⟨c1, h⟩ | ⟨c1, h⟩
    · skip
      exact ⟨_, _, h, g, ⟨0 + 1, fun K2 h2 => by rw [P_X1_ballotsFor_4]; exact ite_pos c1 (h2)⟩⟩
    · skip
      obtain ⟨v2, h⟩ := h
      rcases ite_elim h with ⟨c3, h⟩ | ⟨c3, h⟩
      · skip
        unfold P_X1_ballotsFor_25 at h
        obtain ⟨r4, G5, h, g6, ⟨m7, b8⟩⟩ := ih _ _ _ _ h
        exact ⟨_, _, h, gcomp (fun _ h => h) g g6, ⟨m7 + 1, fun K2 h2 => by rw [P_X1_ballotsFor_4]; exact ite_neg c1 (And.intro v2 (ite_pos c3 (by unfold P_X1_ballotsFor_25; exact b8 K2 h2)))⟩⟩
      · skip
        unfold P_X1_ballotsFor_25 at h
        obtain ⟨r9, G10, h, g11, ⟨m12, b13⟩⟩ := ih _ _ _ _ h
        exact ⟨_, _, h, gcomp (fun _ h => h) g g11, ⟨m12 + 1, fun K2 h2 => by rw [P_X1_ballotsFor_4]; exact ite_neg c1 (And.intro v2 (ite_neg c3 (by unfold P_X1_ballotsFor_25; exact b13 K2 h2)))⟩⟩
theorem ln_X1_ballotsFor {F : GF} {i0 : Nat} {p1 : Int32} {K : Int32 → GF → Prop} (h : P_X1_ballotsFor F i0 p1 K) : ∃ (r : Int32) (F1 : GF), K r F1 ∧ (∀ f, f ∉ ([] : List Nat) → F1 f = F f) ∧ (∀ (K2 : Int32 → GF → Prop), K2 r F1 → P_X1_ballotsFor F i0 p1 K2) := by
  have g : ∀ f, f ∉ ([] : List Nat) → F f = F f := fun _ _ => rfl
  unfold P_X1_ballotsFor at h
  obtain ⟨n1, h⟩ := h
  obtain ⟨r2, G3, h, g4, ⟨m5, b6⟩⟩ := ln_X1_ballotsFor_4 _ _ _ _ _ h
  have g := gcomp (by decide) g g4
  exact ⟨_, _, h, g, fun K2 h2 => by unfold P_X1_ballotsFor; exact Exists.intro m5 (b6 _ (h2))⟩
theorem ln_X1_lostByReading_13 {i0 : Nat} {K : Int32 → GF → Prop} : ∀ (n : Nat) (F : GF) (x1 : Int32) (x2 : Int32), P_X1_lostByReading_13 i0 K n F x1 x2 → ∃ (r : Int32) (F1 : GF), K r F1 ∧ (∀ f, f ∉ ([] : List Nat) → F1 f = F f) ∧ (∃ m : Nat, ∀ (K2 : Int32 → GF → Prop), K2 r F1 → P_X1_lostByReading_13 i0 K2 m F x1 x2) := by
  intro n
  induction n with
  | zero => exact fun _ _ _ h => False.elim h
  | succ n ih =>
    intro F x1 x2 h
    have g : ∀ f, f ∉ ([] : List Nat) → F f = F f := fun _ _ => rfl
    rw [P_X1_lostByReading_13] at h
    rcases ite_elim h with ⟨c1, h⟩ | ⟨c1, h⟩
    · skip
      exact ⟨_, _, h, g, ⟨0 + 1, fun K2 h2 => by rw [P_X1_lostByReading_13]; exact ite_pos c1 (h2)⟩⟩
    · skip
      obtain ⟨r2, G3, h, g4, b5⟩ := ln_X1_ballotsFor h
      have g := gcomp (by decide) g g4
      obtain ⟨r6, G7, h, g8, b9⟩ := ln_X1_settledNumber h
      have g := gcomp (by decide) g g8
      have h := h _ rfl
      obtain ⟨r10, G11, h, g12, ⟨m13, b14⟩⟩ := ih _ _ _ h
      exact ⟨_, _, h, gcomp (fun _ h => h) g g12, ⟨m13 + 1, fun K2 h2 => by rw [P_X1_lostByReading_13]; exact ite_neg c1 (b5 _ (b9 _ (all_i (b14 K2 h2))))⟩⟩
theorem ln_X1_lostByReading {F : GF} {i0 : Nat} {K : Int32 → GF → Prop} (h : P_X1_lostByReading F i0 K) : ∃ (r : Int32) (F1 : GF), K r F1 ∧ (∀ f, f ∉ ([] : List Nat) → F1 f = F f) ∧ (∀ (K2 : Int32 → GF → Prop), K2 r F1 → P_X1_lostByReading F i0 K2) := by
  have g : ∀ f, f ∉ ([] : List Nat) → F f = F f := fun _ _ => rfl
  unfold P_X1_lostByReading at h
  obtain ⟨r1, G2, h, g3, b4⟩ := ln_X1_hasNumbers h
  have g := gcomp (by decide) g g3
  rcases ite_elim h with ⟨c5, h⟩ | ⟨c5, h⟩
  · skip
    exact ⟨_, _, h, g, fun K2 h2 => by unfold P_X1_lostByReading; exact b4 _ (ite_pos c5 (h2))⟩
  · skip
    obtain ⟨n6, h⟩ := h
    obtain ⟨r7, G8, h, g9, ⟨m10, b11⟩⟩ := ln_X1_lostByReading_13 _ _ _ _ h
    have g := gcomp (by decide) g g9
    exact ⟨_, _, h, g, fun K2 h2 => by unfold P_X1_lostByReading; exact b4 _ (ite_neg c5 (Exists.intro m10 (b11 _ (h2))))⟩
theorem ln_X10_misread {F : GF} {p1 : Int32} {K : Int32 → GF → Prop} {X : String → GF → Prop} (h : P_X10_misread F p1 K X) : (∃ (r : Int32) (F1 : GF), K r F1 ∧ (∀ f, f ∉ ([] : List Nat) → F1 f = F f) ∧ (∀ (K2 : Int32 → GF → Prop) (X2 : String → GF → Prop), K2 r F1 → P_X10_misread F p1 K2 X2)) ∨ (∃ (e : String) (F1 : GF), X e F1 ∧ (∀ f, f ∉ ([] : List Nat) → F1 f = F f) ∧ (∀ (K2 : Int32 → GF → Prop) (X2 : String → GF → Prop), X2 e F1 → P_X10_misread F p1 K2 X2)) := by
  have g : ∀ f, f ∉ ([] : List Nat) → F f = F f := fun _ _ => rfl
  unfold P_X10_misread at h
  rcases ln_X10_needStation h with ⟨G2, h, g3, b4⟩ | ⟨e5, G2, h, g3, b4⟩
  · have g := gcomp (by decide) g g3
    obtain ⟨v6, h⟩ := h
    obtain ⟨r7, G8, h, g9, b10⟩ := ln_X1_lostByReading h
    have g := gcomp (by decide) g g9
    exact Or.inl ⟨_, _, h, g, fun K2 X2 h2 => by unfold P_X10_misread; exact b4 _ _ (And.intro v6 (b10 _ (h2)))⟩
  · have g := gcomp (by decide) g g3
    exact Or.inr ⟨_, _, h, g, fun K2 X2 h2 => by unfold P_X10_misread; exact b4 _ _ (h2)⟩
theorem ln_X2_numbersFor_4  {K : Int32 → GF → Prop} : ∀ (n : Nat) (F : GF) (x1 : Int32) (x2 : Int32) (x3 : Int32), P_X2_numbersFor_4 K n F x1 x2 x3 → ∃ (r : Int32) (F1 : GF), K r F1 ∧ (∀ f, f ∉ ([] : List Nat) → F1 f = F f) ∧ (∃ m : Nat, ∀ (K2 : Int32 → GF → Prop), K2 r F1 → P_X2_numbersFor_4 K2 m F x1 x2 x3) := by
  intro n
  induction n with
  | zero => exact fun _ _ _ _ h => False.elim h
  | succ n ih =>
    intro F x1 x2 x3 h
    have g : ∀ f, f ∉ ([] : List Nat) → F f = F f := fun _ _ => rfl
    rw [P_X2_numbersFor_4] at h
    rcases ite_elim h with ⟨c1, h⟩ | ⟨c1, h⟩
    · skip
      exact ⟨_, _, h, g, ⟨0 + 1, fun K2 h2 => by rw [P_X2_numbersFor_4]; exact ite_pos c1 (h2)⟩⟩
    · skip
      obtain ⟨v2, h⟩ := h
      obtain ⟨r3, G4, h, g5, b6⟩ := ln_X1_settledNumber h
      have g := gcomp (by decide) g g5
      obtain ⟨r7, G8, h, g9, ⟨m10, b11⟩⟩ := ih _ _ _ _ h
      exact ⟨_, _, h, gcomp (fun _ h => h) g g9, ⟨m10 + 1, fun K2 h2 => by rw [P_X2_numbersFor_4]; exact ite_neg c1 (And.intro v2 (b6 _ (b11 K2 h2)))⟩⟩
theorem ln_X2_numbersFor {F : GF} {p1 : Int32} {K : Int32 → GF → Prop} (h : P_X2_numbersFor F p1 K) : ∃ (r : Int32) (F1 : GF), K r F1 ∧ (∀ f, f ∉ ([] : List Nat) → F1 f = F f) ∧ (∀ (K2 : Int32 → GF → Prop), K2 r F1 → P_X2_numbersFor F p1 K2) := by
  have g : ∀ f, f ∉ ([] : List Nat) → F f = F f := fun _ _ => rfl
  unfold P_X2_numbersFor at h
  obtain ⟨n1, h⟩ := h
  obtain ⟨r2, G3, h, g4, ⟨m5, b6⟩⟩ := ln_X2_numbersFor_4 _ _ _ _ _ h
  have g := gcomp (by decide) g g4
  exact ⟨_, _, h, g, fun K2 h2 => by unfold P_X2_numbersFor; exact Exists.intro m5 (b6 _ (h2))⟩
theorem ln_X10_votes {F : GF} {p1 : Int32} {K : Int32 → GF → Prop} {X : String → GF → Prop} (h : P_X10_votes F p1 K X) : (∃ (r : Int32) (F1 : GF), K r F1 ∧ (∀ f, f ∉ ([] : List Nat) → F1 f = F f) ∧ (∀ (K2 : Int32 → GF → Prop) (X2 : String → GF → Prop), K2 r F1 → P_X10_votes F p1 K2 X2)) ∨ (∃ (e : String) (F1 : GF), X e F1 ∧ (∀ f, f ∉ ([] : List Nat) → F1 f = F f) ∧ (∀ (K2 : Int32 → GF → Prop) (X2 : String → GF → Prop), X2 e F1 → P_X10_votes F p1 K2 X2)) := by
  have g : ∀ f, f ∉ ([] : List Nat) → F f = F f := fun _ _ => rfl
  unfold P_X10_votes at h
  rcases ln_X10_needParty h with ⟨G2, h, g3, b4⟩ | ⟨e5, G2, h, g3, b4⟩
  · have g := gcomp (by decide) g g3
    rcases ite_elim h with ⟨c6, h⟩ | ⟨c6, h⟩
    · skip
      obtain ⟨r7, G8, h, g9, b10⟩ := ln_X2_numbersFor h
      have g := gcomp (by decide) g g9
      exact Or.inl ⟨_, _, h, g, fun K2 X2 h2 => by unfold P_X10_votes; exact b4 _ _ (ite_pos c6 (b10 _ (h2)))⟩
    · skip
      exact Or.inl ⟨_, _, h, g, fun K2 X2 h2 => by unfold P_X10_votes; exact b4 _ _ (ite_neg c6 (h2))⟩
  · have g := gcomp (by decide) g g3
    exact Or.inr ⟨_, _, h, g, fun K2 X2 h2 => by unfold P_X10_votes; exact b4 _ _ (h2)⟩
theorem ln_X2_sumOfSeeds_4  {K : Int32 → GF → Prop} : ∀ (n : Nat) (F : GF) (x1 : Int32) (x2 : Int32), P_X2_sumOfSeeds_4 K n F x1 x2 → ∃ (r : Int32) (F1 : GF), K r F1 ∧ (∀ f, f ∉ ([] : List Nat) → F1 f = F f) ∧ (∃ m : Nat, ∀ (K2 : Int32 → GF → Prop), K2 r F1 → P_X2_sumOfSeeds_4 K2 m F x1 x2) := by
  intro n
  induction n with
  | zero => exact fun _ _ _ h => False.elim h
  | succ n ih =>
    intro F x1 x2 h
    have g : ∀ f, f ∉ ([] : List Nat) → F f = F f := fun _ _ => rfl
    rw [P_X2_sumOfSeeds_4] at h
    rcases ite_elim h with ⟨c1, h⟩ | ⟨c1, h⟩
    · skip
      exact ⟨_, _, h, g, ⟨0 + 1, fun K2 h2 => by rw [P_X2_sumOfSeeds_4]; exact ite_pos c1 (h2)⟩⟩
    · skip
      obtain ⟨v2, h⟩ := h
      have h := h _ rfl
      obtain ⟨r3, G4, h, g5, ⟨m6, b7⟩⟩ := ih _ _ _ h
      exact ⟨_, _, h, gcomp (fun _ h => h) g g5, ⟨m6 + 1, fun K2 h2 => by rw [P_X2_sumOfSeeds_4]; exact ite_neg c1 (And.intro v2 (all_i (b7 K2 h2)))⟩⟩
theorem ln_X2_sumOfSeeds {F : GF} {K : Int32 → GF → Prop} (h : P_X2_sumOfSeeds F K) : ∃ (r : Int32) (F1 : GF), K r F1 ∧ (∀ f, f ∉ ([] : List Nat) → F1 f = F f) ∧ (∀ (K2 : Int32 → GF → Prop), K2 r F1 → P_X2_sumOfSeeds F K2) := by
  have g : ∀ f, f ∉ ([] : List Nat) → F f = F f := fun _ _ => rfl
  unfold P_X2_sumOfSeeds at h
  obtain ⟨n1, h⟩ := h
  obtain ⟨r2, G3, h, g4, ⟨m5, b6⟩⟩ := ln_X2_sumOfSeeds_4 _ _ _ _ h
  have g := gcomp (by decide) g g4
  exact ⟨_, _, h, g, fun K2 h2 => by unfold P_X2_sumOfSeeds; exact Exists.intro m5 (b6 _ (h2))⟩
theorem ln_X6_divisor {F : GF} {p1 : Int32} {p2 : Int32} {K : Int32 → GF → Prop} (h : P_X6_divisor F p1 p2 K) : ∃ (r : Int32) (F1 : GF), K r F1 ∧ (∀ f, f ∉ ([] : List Nat) → F1 f = F f) ∧ (∀ (K2 : Int32 → GF → Prop), K2 r F1 → P_X6_divisor F p1 p2 K2) := by
  have g : ∀ f, f ∉ ([] : List Nat) → F f = F f := fun _ _ => rfl
  unfold P_X6_divisor at h
  rcases ite_elim h with ⟨c1, h⟩ | ⟨c1, h⟩
  · skip
    obtain ⟨v2, h⟩ := h
    exact ⟨_, _, h, g, fun K2 h2 => by unfold P_X6_divisor; exact ite_pos c1 (And.intro v2 (h2))⟩
  · skip
    obtain ⟨v3, h⟩ := h
    exact ⟨_, _, h, g, fun K2 h2 => by unfold P_X6_divisor; exact ite_neg c1 (And.intro v3 (h2))⟩
theorem ln_J6_compare_7cf53 {F : GF} {p0 : Int32} {p1 : Int32} {K : Int32 → GF → Prop} (h : P_J6_compare_7cf53 F p0 p1 K) : ∃ (r : Int32) (F1 : GF), K r F1 ∧ (∀ f, f ∉ ([] : List Nat) → F1 f = F f) ∧ (∀ (K2 : Int32 → GF → Prop), K2 r F1 → P_J6_compare_7cf53 F p0 p1 K2) := by
  have g : ∀ f, f ∉ ([] : List Nat) → F f = F f := fun _ _ => rfl
  unfold P_J6_compare_7cf53 at h
  rcases ite_elim h with ⟨c1, h⟩ | ⟨c1, h⟩
  · skip
    rcases ite_elim h with ⟨c2, h⟩ | ⟨c2, h⟩
    · skip
      exact ⟨_, _, h, g, fun K2 h2 => by unfold P_J6_compare_7cf53; exact ite_pos c1 (ite_pos c2 (h2))⟩
    · skip
      exact ⟨_, _, h, g, fun K2 h2 => by unfold P_J6_compare_7cf53; exact ite_pos c1 (ite_neg c2 (h2))⟩
  · skip
    exact ⟨_, _, h, g, fun K2 h2 => by unfold P_J6_compare_7cf53; exact ite_neg c1 (h2)⟩
theorem ln_X6_compareQuotients {F : GF} {p1 : Int32} {p2 : Int32} {p3 : Int32} {K : Int32 → GF → Prop} (h : P_X6_compareQuotients F p1 p2 p3 K) : ∃ (r : Int32) (F1 : GF), K r F1 ∧ (∀ f, f ∉ ([] : List Nat) → F1 f = F f) ∧ (∀ (K2 : Int32 → GF → Prop), K2 r F1 → P_X6_compareQuotients F p1 p2 p3 K2) := by
  have g : ∀ f, f ∉ ([] : List Nat) → F f = F f := fun _ _ => rfl
  unfold P_X6_compareQuotients at h
  obtain ⟨v1, h⟩ := h
  obtain ⟨r2, G3, h, g4, b5⟩ := ln_X6_divisor h
  have g := gcomp (by decide) g g4
  obtain ⟨v6, h⟩ := h
  obtain ⟨r7, G8, h, g9, b10⟩ := ln_X6_divisor h
  have g := gcomp (by decide) g g9
  obtain ⟨r11, G12, h, g13, b14⟩ := ln_J6_compare_7cf53 h
  have g := gcomp (by decide) g g13
  exact ⟨_, _, h, g, fun K2 h2 => by unfold P_X6_compareQuotients; exact And.intro v1 (b5 _ (And.intro v6 (b10 _ (b14 _ (h2)))))⟩
theorem ln_X6_findGreatest_4  {K : Int32 → GF → Prop} : ∀ (n : Nat) (F : GF) (x1 : Int32) (x2 : Int32) (x3 : Int32), P_X6_findGreatest_4 K n F x1 x2 x3 → ∃ (r : Int32) (F1 : GF), K r F1 ∧ (∀ f, f ∉ ([37] : List Nat) → F1 f = F f) ∧ (∃ m : Nat, ∀ (K2 : Int32 → GF → Prop), K2 r F1 → P_X6_findGreatest_4 K2 m F x1 x2 x3) := by
  intro n
  induction n with
  | zero => exact fun _ _ _ _ h => False.elim h
  | succ n ih =>
    intro F x1 x2 x3 h
    have g : ∀ f, f ∉ ([37] : List Nat) → F f = F f := fun _ _ => rfl
    rw [P_X6_findGreatest_4] at h
    rcases ite_elim h with ⟨c1, h⟩ | ⟨c1, h⟩
    · skip
      exact ⟨_, _, h, g, ⟨0 + 1, fun K2 h2 => by rw [P_X6_findGreatest_4]; exact ite_pos c1 (h2)⟩⟩
    · skip
      obtain ⟨v2, h⟩ := h
      rcases ite_elim h with ⟨c3, h⟩ | ⟨c3, h⟩
      · skip
        rcases ite_elim h with ⟨c4, h⟩ | ⟨c4, h⟩
        · skip
          unfold P_X6_findGreatest_41 at h
          rcases ite_elim h with ⟨c5, h⟩ | ⟨c5, h⟩
          · skip
            unfold P_X6_findGreatest_50 at h
            rcases ite_elim h with ⟨c6, h⟩ | ⟨c6, h⟩
            · skip
              unfold P_X6_findGreatest_70 at h
              obtain ⟨r7, G8, h, g9, ⟨m10, b11⟩⟩ := ih _ _ _ _ h
              exact ⟨_, _, h, gcomp (fun _ h => h) g g9, ⟨m10 + 1, fun K2 h2 => by rw [P_X6_findGreatest_4]; exact ite_neg c1 (And.intro v2 (ite_pos c3 (ite_pos c4 (by unfold P_X6_findGreatest_41; exact ite_pos c5 (by unfold P_X6_findGreatest_50; exact ite_pos c6 (by unfold P_X6_findGreatest_70; exact b11 K2 h2))))))⟩⟩
            · skip
              rcases ite_elim h with ⟨c12, h⟩ | ⟨c12, h⟩
              · skip
                unfold P_X6_findGreatest_70 at h
                obtain ⟨r13, G14, h, g15, ⟨m16, b17⟩⟩ := ih _ _ _ _ h
                exact ⟨_, _, h, gcomp (fun _ h => h) g g15, ⟨m16 + 1, fun K2 h2 => by rw [P_X6_findGreatest_4]; exact ite_neg c1 (And.intro v2 (ite_pos c3 (ite_pos c4 (by unfold P_X6_findGreatest_41; exact ite_pos c5 (by unfold P_X6_findGreatest_50; exact ite_neg c6 (ite_pos c12 (by unfold P_X6_findGreatest_70; exact b17 K2 h2)))))))⟩⟩
              · skip
                obtain ⟨v18, h⟩ := h
                obtain ⟨G19, e20, h⟩ := st_all h
                have g := fsg e20 g (by decide)
                unfold P_X6_findGreatest_70 at h
                obtain ⟨r21, G22, h, g23, ⟨m24, b25⟩⟩ := ih _ _ _ _ h
                exact ⟨_, _, h, gcomp (fun _ h => h) g g23, ⟨m24 + 1, fun K2 h2 => by rw [P_X6_findGreatest_4]; exact ite_neg c1 (And.intro v2 (ite_pos c3 (ite_pos c4 (by unfold P_X6_findGreatest_41; exact ite_pos c5 (by unfold P_X6_findGreatest_50; exact ite_neg c6 (ite_neg c12 (And.intro v18 (all_g e20 (by unfold P_X6_findGreatest_70; exact b25 K2 h2)))))))))⟩⟩
          · skip
            unfold P_X6_findGreatest_50 at h
            rcases ite_elim h with ⟨c26, h⟩ | ⟨c26, h⟩
            · skip
              unfold P_X6_findGreatest_70 at h
              obtain ⟨r27, G28, h, g29, ⟨m30, b31⟩⟩ := ih _ _ _ _ h
              exact ⟨_, _, h, gcomp (fun _ h => h) g g29, ⟨m30 + 1, fun K2 h2 => by rw [P_X6_findGreatest_4]; exact ite_neg c1 (And.intro v2 (ite_pos c3 (ite_pos c4 (by unfold P_X6_findGreatest_41; exact ite_neg c5 (by unfold P_X6_findGreatest_50; exact ite_pos c26 (by unfold P_X6_findGreatest_70; exact b31 K2 h2))))))⟩⟩
            · skip
              rcases ite_elim h with ⟨c32, h⟩ | ⟨c32, h⟩
              · skip
                unfold P_X6_findGreatest_70 at h
                obtain ⟨r33, G34, h, g35, ⟨m36, b37⟩⟩ := ih _ _ _ _ h
                exact ⟨_, _, h, gcomp (fun _ h => h) g g35, ⟨m36 + 1, fun K2 h2 => by rw [P_X6_findGreatest_4]; exact ite_neg c1 (And.intro v2 (ite_pos c3 (ite_pos c4 (by unfold P_X6_findGreatest_41; exact ite_neg c5 (by unfold P_X6_findGreatest_50; exact ite_neg c26 (ite_pos c32 (by unfold P_X6_findGreatest_70; exact b37 K2 h2)))))))⟩⟩
              · skip
                obtain ⟨v38, h⟩ := h
                obtain ⟨G39, e40, h⟩ := st_all h
                have g := fsg e40 g (by decide)
                unfold P_X6_findGreatest_70 at h
                obtain ⟨r41, G42, h, g43, ⟨m44, b45⟩⟩ := ih _ _ _ _ h
                exact ⟨_, _, h, gcomp (fun _ h => h) g g43, ⟨m44 + 1, fun K2 h2 => by rw [P_X6_findGreatest_4]; exact ite_neg c1 (And.intro v2 (ite_pos c3 (ite_pos c4 (by unfold P_X6_findGreatest_41; exact ite_neg c5 (by unfold P_X6_findGreatest_50; exact ite_neg c26 (ite_neg c32 (And.intro v38 (all_g e40 (by unfold P_X6_findGreatest_70; exact b45 K2 h2)))))))))⟩⟩
        · skip
          obtain ⟨v46, h⟩ := h
          obtain ⟨r47, G48, h, g49, b50⟩ := ln_X6_compareQuotients h
          have g := gcomp (by decide) g g49
          unfold P_X6_findGreatest_41 at h
          rcases ite_elim h with ⟨c51, h⟩ | ⟨c51, h⟩
          · skip
            unfold P_X6_findGreatest_50 at h
            rcases ite_elim h with ⟨c52, h⟩ | ⟨c52, h⟩
            · skip
              unfold P_X6_findGreatest_70 at h
              obtain ⟨r53, G54, h, g55, ⟨m56, b57⟩⟩ := ih _ _ _ _ h
              exact ⟨_, _, h, gcomp (fun _ h => h) g g55, ⟨m56 + 1, fun K2 h2 => by rw [P_X6_findGreatest_4]; exact ite_neg c1 (And.intro v2 (ite_pos c3 (ite_neg c4 (And.intro v46 (b50 _ (by unfold P_X6_findGreatest_41; exact ite_pos c51 (by unfold P_X6_findGreatest_50; exact ite_pos c52 (by unfold P_X6_findGreatest_70; exact b57 K2 h2))))))))⟩⟩
            · skip
              rcases ite_elim h with ⟨c58, h⟩ | ⟨c58, h⟩
              · skip
                unfold P_X6_findGreatest_70 at h
                obtain ⟨r59, G60, h, g61, ⟨m62, b63⟩⟩ := ih _ _ _ _ h
                exact ⟨_, _, h, gcomp (fun _ h => h) g g61, ⟨m62 + 1, fun K2 h2 => by rw [P_X6_findGreatest_4]; exact ite_neg c1 (And.intro v2 (ite_pos c3 (ite_neg c4 (And.intro v46 (b50 _ (by unfold P_X6_findGreatest_41; exact ite_pos c51 (by unfold P_X6_findGreatest_50; exact ite_neg c52 (ite_pos c58 (by unfold P_X6_findGreatest_70; exact b63 K2 h2)))))))))⟩⟩
              · skip
                obtain ⟨v64, h⟩ := h
                obtain ⟨G65, e66, h⟩ := st_all h
                have g := fsg e66 g (by decide)
                unfold P_X6_findGreatest_70 at h
                obtain ⟨r67, G68, h, g69, ⟨m70, b71⟩⟩ := ih _ _ _ _ h
                exact ⟨_, _, h, gcomp (fun _ h => h) g g69, ⟨m70 + 1, fun K2 h2 => by rw [P_X6_findGreatest_4]; exact ite_neg c1 (And.intro v2 (ite_pos c3 (ite_neg c4 (And.intro v46 (b50 _ (by unfold P_X6_findGreatest_41; exact ite_pos c51 (by unfold P_X6_findGreatest_50; exact ite_neg c52 (ite_neg c58 (And.intro v64 (all_g e66 (by unfold P_X6_findGreatest_70; exact b71 K2 h2)))))))))))⟩⟩
          · skip
            unfold P_X6_findGreatest_50 at h
            rcases ite_elim h with ⟨c72, h⟩ | ⟨c72, h⟩
            · skip
              unfold P_X6_findGreatest_70 at h
              obtain ⟨r73, G74, h, g75, ⟨m76, b77⟩⟩ := ih _ _ _ _ h
              exact ⟨_, _, h, gcomp (fun _ h => h) g g75, ⟨m76 + 1, fun K2 h2 => by rw [P_X6_findGreatest_4]; exact ite_neg c1 (And.intro v2 (ite_pos c3 (ite_neg c4 (And.intro v46 (b50 _ (by unfold P_X6_findGreatest_41; exact ite_neg c51 (by unfold P_X6_findGreatest_50; exact ite_pos c72 (by unfold P_X6_findGreatest_70; exact b77 K2 h2))))))))⟩⟩
            · skip
              rcases ite_elim h with ⟨c78, h⟩ | ⟨c78, h⟩
              · skip
                unfold P_X6_findGreatest_70 at h
                obtain ⟨r79, G80, h, g81, ⟨m82, b83⟩⟩ := ih _ _ _ _ h
                exact ⟨_, _, h, gcomp (fun _ h => h) g g81, ⟨m82 + 1, fun K2 h2 => by rw [P_X6_findGreatest_4]; exact ite_neg c1 (And.intro v2 (ite_pos c3 (ite_neg c4 (And.intro v46 (b50 _ (by unfold P_X6_findGreatest_41; exact ite_neg c51 (by unfold P_X6_findGreatest_50; exact ite_neg c72 (ite_pos c78 (by unfold P_X6_findGreatest_70; exact b83 K2 h2)))))))))⟩⟩
              · skip
                obtain ⟨v84, h⟩ := h
                obtain ⟨G85, e86, h⟩ := st_all h
                have g := fsg e86 g (by decide)
                unfold P_X6_findGreatest_70 at h
                obtain ⟨r87, G88, h, g89, ⟨m90, b91⟩⟩ := ih _ _ _ _ h
                exact ⟨_, _, h, gcomp (fun _ h => h) g g89, ⟨m90 + 1, fun K2 h2 => by rw [P_X6_findGreatest_4]; exact ite_neg c1 (And.intro v2 (ite_pos c3 (ite_neg c4 (And.intro v46 (b50 _ (by unfold P_X6_findGreatest_41; exact ite_neg c51 (by unfold P_X6_findGreatest_50; exact ite_neg c72 (ite_neg c78 (And.intro v84 (all_g e86 (by unfold P_X6_findGreatest_70; exact b91 K2 h2)))))))))))⟩⟩
      · skip
        unfold P_X6_findGreatest_70 at h
        obtain ⟨r92, G93, h, g94, ⟨m95, b96⟩⟩ := ih _ _ _ _ h
        exact ⟨_, _, h, gcomp (fun _ h => h) g g94, ⟨m95 + 1, fun K2 h2 => by rw [P_X6_findGreatest_4]; exact ite_neg c1 (And.intro v2 (ite_neg c3 (by unfold P_X6_findGreatest_70; exact b96 K2 h2)))⟩⟩
theorem ln_X6_findGreatest {F : GF} {p1 : Int32} {K : Int32 → GF → Prop} (h : P_X6_findGreatest F p1 K) : ∃ (r : Int32) (F1 : GF), K r F1 ∧ (∀ f, f ∉ ([37] : List Nat) → F1 f = F f) ∧ (∀ (K2 : Int32 → GF → Prop), K2 r F1 → P_X6_findGreatest F p1 K2) := by
  have g : ∀ f, f ∉ ([37] : List Nat) → F f = F f := fun _ _ => rfl
  unfold P_X6_findGreatest at h
  obtain ⟨n1, h⟩ := h
  obtain ⟨r2, G3, h, g4, ⟨m5, b6⟩⟩ := ln_X6_findGreatest_4 _ _ _ _ _ h
  have g := gcomp (by decide) g g4
  exact ⟨_, _, h, g, fun K2 h2 => by unfold P_X6_findGreatest; exact Exists.intro m5 (b6 _ (h2))⟩
theorem ln_X6_drawLot {F : GF} {p1 : Int32} {K : Int32 → GF → Prop} (h : P_X6_drawLot F p1 K) : ∃ (r : Int32) (F1 : GF), K r F1 ∧ (∀ f, f ∉ ([27] : List Nat) → F1 f = F f) ∧ (∀ (K2 : Int32 → GF → Prop), K2 r F1 → P_X6_drawLot F p1 K2) := by
  have g : ∀ f, f ∉ ([27] : List Nat) → F f = F f := fun _ _ => rfl
  unfold P_X6_drawLot at h
  obtain ⟨G1, e2, h⟩ := st_all h
  have g := fsg e2 g (by decide)
  obtain ⟨G3, e4, h⟩ := st_all h
  have g := fsg e4 g (by decide)
  rcases ite_elim h with ⟨c5, h⟩ | ⟨c5, h⟩
  · skip
    exact ⟨_, _, h, g, fun K2 h2 => by unfold P_X6_drawLot; exact all_g e2 (all_g e4 (ite_pos c5 (h2)))⟩
  · skip
    obtain ⟨v6, h⟩ := h
    exact ⟨_, _, h, g, fun K2 h2 => by unfold P_X6_drawLot; exact all_g e2 (all_g e4 (ite_neg c5 (And.intro v6 (h2))))⟩
theorem ln_X6_nextParty {F : GF} {p1 : Int32} {K : Int32 → GF → Prop} (h : P_X6_nextParty F p1 K) : ∃ (r : Int32) (F1 : GF), K r F1 ∧ (∀ f, f ∉ ([27, 37] : List Nat) → F1 f = F f) ∧ (∀ (K2 : Int32 → GF → Prop), K2 r F1 → P_X6_nextParty F p1 K2) := by
  have g : ∀ f, f ∉ ([27, 37] : List Nat) → F f = F f := fun _ _ => rfl
  unfold P_X6_nextParty at h
  obtain ⟨r1, G2, h, g3, b4⟩ := ln_X6_findGreatest h
  have g := gcomp (by decide) g g3
  rcases ite_elim h with ⟨c5, h⟩ | ⟨c5, h⟩
  · skip
    rcases ite_elim h with ⟨c6, h⟩ | ⟨c6, h⟩
    · skip
      obtain ⟨v7, h⟩ := h
      exact ⟨_, _, h, g, fun K2 h2 => by unfold P_X6_nextParty; exact b4 _ (ite_pos c5 (ite_pos c6 (And.intro v7 (h2))))⟩
    · skip
      obtain ⟨r8, G9, h, g10, b11⟩ := ln_X6_drawLot h
      have g := gcomp (by decide) g g10
      rcases ite_elim h with ⟨c12, h⟩ | ⟨c12, h⟩
      · skip
        exact ⟨_, _, h, g, fun K2 h2 => by unfold P_X6_nextParty; exact b4 _ (ite_pos c5 (ite_neg c6 (b11 _ (ite_pos c12 (h2)))))⟩
      · skip
        rcases ite_elim h with ⟨c13, h⟩ | ⟨c13, h⟩
        · skip
          obtain ⟨v14, h⟩ := h
          exact ⟨_, _, h, g, fun K2 h2 => by unfold P_X6_nextParty; exact b4 _ (ite_pos c5 (ite_neg c6 (b11 _ (ite_neg c12 (ite_pos c13 (And.intro v14 (h2)))))))⟩
        · skip
          exact ⟨_, _, h, g, fun K2 h2 => by unfold P_X6_nextParty; exact b4 _ (ite_pos c5 (ite_neg c6 (b11 _ (ite_neg c12 (ite_neg c13 (h2))))))⟩
  · skip
    exact ⟨_, _, h, g, fun K2 h2 => by unfold P_X6_nextParty; exact b4 _ (ite_neg c5 (h2))⟩
theorem ln_X6_give_26  {K : GF → Prop} : ∀ (n : Nat) (F : GF) (x1 : Int32) (x2 : Int32) (x4 : Int32), P_X6_give_26 K n F x1 x2 x4 → ∃ (F1 : GF), K F1 ∧ (∀ f, f ∉ ([27, 35, 36, 37] : List Nat) → F1 f = F f) ∧ (∃ m : Nat, ∀ (K2 : GF → Prop), K2 F1 → P_X6_give_26 K2 m F x1 x2 x4) := by
  intro n
  induction n with
  | zero => exact fun _ _ _ _ h => False.elim h
  | succ n ih =>
    intro F x1 x2 x4 h
    have g : ∀ f, f ∉ ([27, 35, 36, 37] : List Nat) → F f = F f := fun _ _ => rfl
    rw [P_X6_give_26] at h
    rcases ite_elim h with ⟨c1, h⟩ | ⟨c1, h⟩
    · skip
      exact ⟨_, h, g, ⟨0 + 1, fun K2 h2 => by rw [P_X6_give_26]; exact ite_pos c1 (h2)⟩⟩
    · skip
      rcases ite_elim h with ⟨c2, h⟩ | ⟨c2, h⟩
      · skip
        exact ⟨_, h, g, ⟨0 + 1, fun K2 h2 => by rw [P_X6_give_26]; exact ite_neg c1 (ite_pos c2 (h2))⟩⟩
      · skip
        obtain ⟨r3, G4, h, g5, b6⟩ := ln_X6_nextParty h
        have g := gcomp (by decide) g g5
        rcases ite_elim h with ⟨c7, h⟩ | ⟨c7, h⟩
        · skip
          exact ⟨_, h, g, ⟨0 + 1, fun K2 h2 => by rw [P_X6_give_26]; exact ite_neg c1 (ite_neg c2 (b6 _ (ite_pos c7 (h2))))⟩⟩
        · skip
          rcases ite_elim h with ⟨c8, h⟩ | ⟨c8, h⟩
          · skip
            obtain ⟨v9, h⟩ := h
            obtain ⟨G10, e11, h⟩ := st_all h
            have g := fsg e11 g (by decide)
            obtain ⟨v12, h⟩ := h
            obtain ⟨v13, h⟩ := h
            obtain ⟨G14, e15, h⟩ := st_all h
            have g := fsg e15 g (by decide)
            obtain ⟨G16, e17, h⟩ := st_all h
            have g := fsg e17 g (by decide)
            obtain ⟨G19, h, g20, ⟨m21, b22⟩⟩ := ih _ _ _ _ h
            exact ⟨_, h, gcomp (fun _ h => h) g g20, ⟨m21 + 1, fun K2 h2 => by rw [P_X6_give_26]; exact ite_neg c1 (ite_neg c2 (b6 _ (ite_neg c7 (ite_pos c8 (And.intro v9 (all_g e11 (And.intro v12 (And.intro v13 (all_g e15 (all_g e17 (b22 K2 h2)))))))))))⟩⟩
          · skip
            exact ⟨_, h, g, ⟨0 + 1, fun K2 h2 => by rw [P_X6_give_26]; exact ite_neg c1 (ite_neg c2 (b6 _ (ite_neg c7 (ite_neg c8 (h2)))))⟩⟩
theorem ln_X6_give {F : GF} {p1 : Int32} {p2 : Int32} {p3 : Int32} {K : GF → Prop} (h : P_X6_give F p1 p2 p3 K) : ∃ (F1 : GF), K F1 ∧ (∀ f, f ∉ ([27, 35, 36, 37] : List Nat) → F1 f = F f) ∧ (∀ (K2 : GF → Prop), K2 F1 → P_X6_give F p1 p2 p3 K2) := by
  have g : ∀ f, f ∉ ([27, 35, 36, 37] : List Nat) → F f = F f := fun _ _ => rfl
  unfold P_X6_give at h
  obtain ⟨G1, e2, h⟩ := st_all h
  have g := ffillg e2 g (by decide)
  obtain ⟨G3, e4, h⟩ := st_all h
  have g := fsg e4 g (by decide)
  obtain ⟨G5, e6, h⟩ := st_all h
  have g := fsg e6 g (by decide)
  obtain ⟨G7, e8, h⟩ := st_all h
  have g := fsg e8 g (by decide)
  obtain ⟨n9, h⟩ := h
  obtain ⟨G11, h, g12, ⟨m13, b14⟩⟩ := ln_X6_give_26 _ _ _ _ _ h
  have g := gcomp (by decide) g g12
  exact ⟨_, h, g, fun K2 h2 => by unfold P_X6_give; exact all_g e2 (all_g e4 (all_g e6 (all_g e8 (Exists.intro m13 (b14 _ (h2))))))⟩
theorem ln_X10_giveByNumbers_2  {K : GF → Prop} : ∀ (n : Nat) (F : GF) (x1 : Int32), P_X10_giveByNumbers_2 K n F x1 → ∃ (F1 : GF), K F1 ∧ (∀ f, f ∉ ([27, 34, 35, 36, 37] : List Nat) → F1 f = F f) ∧ (∃ m : Nat, ∀ (K2 : GF → Prop), K2 F1 → P_X10_giveByNumbers_2 K2 m F x1) := by
  intro n
  induction n with
  | zero => exact fun _ _ h => False.elim h
  | succ n ih =>
    intro F x1 h
    have g : ∀ f, f ∉ ([27, 34, 35, 36, 37] : List Nat) → F f = F f := fun _ _ => rfl
    rw [P_X10_giveByNumbers_2] at h
    rcases ite_elim h with ⟨c1, h⟩ | ⟨c1, h⟩
    · skip
      obtain ⟨r2, G3, h, g4, b5⟩ := ln_X2_sumOfSeeds h
      have g := gcomp (by decide) g g4
      obtain ⟨G7, h, g8, b9⟩ := ln_X6_give h
      have g := gcomp (by decide) g g8
      exact ⟨_, h, g, ⟨0 + 1, fun K2 h2 => by rw [P_X10_giveByNumbers_2]; exact ite_pos c1 (b5 _ (b9 _ (h2)))⟩⟩
    · skip
      obtain ⟨r10, G11, h, g12, b13⟩ := ln_X2_numbersFor h
      have g := gcomp (by decide) g g12
      obtain ⟨v14, h⟩ := h
      obtain ⟨G15, e16, h⟩ := st_all h
      have g := fsg e16 g (by decide)
      obtain ⟨G18, h, g19, ⟨m20, b21⟩⟩ := ih _ _ h
      exact ⟨_, h, gcomp (fun _ h => h) g g19, ⟨m20 + 1, fun K2 h2 => by rw [P_X10_giveByNumbers_2]; exact ite_neg c1 (b13 _ (And.intro v14 (all_g e16 (b21 K2 h2))))⟩⟩
theorem ln_X10_giveByNumbers {F : GF} {K : GF → Prop} (h : P_X10_giveByNumbers F K) : ∃ (F1 : GF), K F1 ∧ (∀ f, f ∉ ([27, 34, 35, 36, 37] : List Nat) → F1 f = F f) ∧ (∀ (K2 : GF → Prop), K2 F1 → P_X10_giveByNumbers F K2) := by
  have g : ∀ f, f ∉ ([27, 34, 35, 36, 37] : List Nat) → F f = F f := fun _ _ => rfl
  unfold P_X10_giveByNumbers at h
  obtain ⟨n1, h⟩ := h
  obtain ⟨G3, h, g4, ⟨m5, b6⟩⟩ := ln_X10_giveByNumbers_2 _ _ _ h
  have g := gcomp (by decide) g g4
  exact ⟨_, h, g, fun K2 h2 => by unfold P_X10_giveByNumbers; exact Exists.intro m5 (b6 _ (h2))⟩
theorem ln_X10_seats {F : GF} {p1 : Int32} {K : Int32 → GF → Prop} {X : String → GF → Prop} (h : P_X10_seats F p1 K X) : (∃ (r : Int32) (F1 : GF), K r F1 ∧ (∀ f, f ∉ ([27, 34, 35, 36, 37] : List Nat) → F1 f = F f) ∧ (∀ (K2 : Int32 → GF → Prop) (X2 : String → GF → Prop), K2 r F1 → P_X10_seats F p1 K2 X2)) ∨ (∃ (e : String) (F1 : GF), X e F1 ∧ (∀ f, f ∉ ([27, 34, 35, 36, 37] : List Nat) → F1 f = F f) ∧ (∀ (K2 : Int32 → GF → Prop) (X2 : String → GF → Prop), X2 e F1 → P_X10_seats F p1 K2 X2)) := by
  have g : ∀ f, f ∉ ([27, 34, 35, 36, 37] : List Nat) → F f = F f := fun _ _ => rfl
  unfold P_X10_seats at h
  rcases ln_X10_needParty h with ⟨G2, h, g3, b4⟩ | ⟨e5, G2, h, g3, b4⟩
  · have g := gcomp (by decide) g g3
    rcases ite_elim h with ⟨c6, h⟩ | ⟨c6, h⟩
    · skip
      obtain ⟨G8, h, g9, b10⟩ := ln_X10_giveByNumbers h
      have g := gcomp (by decide) g g9
      obtain ⟨v11, h⟩ := h
      exact Or.inl ⟨_, _, h, g, fun K2 X2 h2 => by unfold P_X10_seats; exact b4 _ _ (ite_pos c6 (b10 _ (And.intro v11 (h2))))⟩
    · skip
      exact Or.inl ⟨_, _, h, g, fun K2 X2 h2 => by unfold P_X10_seats; exact b4 _ _ (ite_neg c6 (h2))⟩
  · have g := gcomp (by decide) g g3
    exact Or.inr ⟨_, _, h, g, fun K2 X2 h2 => by unfold P_X10_seats; exact b4 _ _ (h2)⟩
theorem ln_X6_partyAt {F : GF} {p1 : Int32} {K : Int32 → GF → Prop} (h : P_X6_partyAt F p1 K) : ∃ (r : Int32) (F1 : GF), K r F1 ∧ (∀ f, f ∉ ([] : List Nat) → F1 f = F f) ∧ (∀ (K2 : Int32 → GF → Prop), K2 r F1 → P_X6_partyAt F p1 K2) := by
  have g : ∀ f, f ∉ ([] : List Nat) → F f = F f := fun _ _ => rfl
  unfold P_X6_partyAt at h
  rcases ite_elim h with ⟨c1, h⟩ | ⟨c1, h⟩
  · skip
    exact ⟨_, _, h, g, fun K2 h2 => by unfold P_X6_partyAt; exact ite_pos c1 (h2)⟩
  · skip
    rcases ite_elim h with ⟨c2, h⟩ | ⟨c2, h⟩
    · skip
      exact ⟨_, _, h, g, fun K2 h2 => by unfold P_X6_partyAt; exact ite_neg c1 (ite_pos c2 (h2))⟩
    · skip
      rcases ite_elim h with ⟨c3, h⟩ | ⟨c3, h⟩
      · skip
        obtain ⟨v4, h⟩ := h
        exact ⟨_, _, h, g, fun K2 h2 => by unfold P_X6_partyAt; exact ite_neg c1 (ite_neg c2 (ite_pos c3 (And.intro v4 (h2))))⟩
      · skip
        exact ⟨_, _, h, g, fun K2 h2 => by unfold P_X6_partyAt; exact ite_neg c1 (ite_neg c2 (ite_neg c3 (h2)))⟩
theorem ln_X10_seatAt {F : GF} {p1 : Int32} {K : Int32 → GF → Prop} {X : String → GF → Prop} (h : P_X10_seatAt F p1 K X) : (∃ (r : Int32) (F1 : GF), K r F1 ∧ (∀ f, f ∉ ([27, 34, 35, 36, 37] : List Nat) → F1 f = F f) ∧ (∀ (K2 : Int32 → GF → Prop) (X2 : String → GF → Prop), K2 r F1 → P_X10_seatAt F p1 K2 X2)) ∨ (∃ (e : String) (F1 : GF), X e F1 ∧ (∀ f, f ∉ ([27, 34, 35, 36, 37] : List Nat) → F1 f = F f) ∧ (∀ (K2 : Int32 → GF → Prop) (X2 : String → GF → Prop), X2 e F1 → P_X10_seatAt F p1 K2 X2)) := by
  have g : ∀ f, f ∉ ([27, 34, 35, 36, 37] : List Nat) → F f = F f := fun _ _ => rfl
  unfold P_X10_seatAt at h
  rcases ite_elim h with ⟨c1, h⟩ | ⟨c1, h⟩
  · skip
    rcases ite_elim h with ⟨c2, h⟩ | ⟨c2, h⟩
    · skip
      obtain ⟨G4, h, g5, b6⟩ := ln_X10_giveByNumbers h
      have g := gcomp (by decide) g g5
      obtain ⟨r7, G8, h, g9, b10⟩ := ln_X6_partyAt h
      have g := gcomp (by decide) g g9
      exact Or.inl ⟨_, _, h, g, fun K2 X2 h2 => by unfold P_X10_seatAt; exact ite_pos c1 (ite_pos c2 (b6 _ (b10 _ (h2))))⟩
    · skip
      exact Or.inl ⟨_, _, h, g, fun K2 X2 h2 => by unfold P_X10_seatAt; exact ite_pos c1 (ite_neg c2 (h2))⟩
  · skip
    exact Or.inr ⟨_, _, h, g, fun K2 X2 h2 => by unfold P_X10_seatAt; exact ite_neg c1 (h2)⟩
theorem ln_X10_lots {F : GF} {K : Int32 → GF → Prop} (h : P_X10_lots F K) : ∃ (r : Int32) (F1 : GF), K r F1 ∧ (∀ f, f ∉ ([27, 34, 35, 36, 37] : List Nat) → F1 f = F f) ∧ (∀ (K2 : Int32 → GF → Prop), K2 r F1 → P_X10_lots F K2) := by
  have g : ∀ f, f ∉ ([27, 34, 35, 36, 37] : List Nat) → F f = F f := fun _ _ => rfl
  unfold P_X10_lots at h
  rcases ite_elim h with ⟨c1, h⟩ | ⟨c1, h⟩
  · skip
    obtain ⟨G3, h, g4, b5⟩ := ln_X10_giveByNumbers h
    have g := gcomp (by decide) g g4
    exact ⟨_, _, h, g, fun K2 h2 => by unfold P_X10_lots; exact ite_pos c1 (b5 _ (h2))⟩
  · skip
    exact ⟨_, _, h, g, fun K2 h2 => by unfold P_X10_lots; exact ite_neg c1 (h2)⟩
theorem ln_X2_ballotsFor_4  {K : Int32 → GF → Prop} : ∀ (n : Nat) (F : GF) (x1 : Int32) (x2 : Int32) (x3 : Int32), P_X2_ballotsFor_4 K n F x1 x2 x3 → ∃ (r : Int32) (F1 : GF), K r F1 ∧ (∀ f, f ∉ ([] : List Nat) → F1 f = F f) ∧ (∃ m : Nat, ∀ (K2 : Int32 → GF → Prop), K2 r F1 → P_X2_ballotsFor_4 K2 m F x1 x2 x3) := by
  intro n
  induction n with
  | zero => exact fun _ _ _ _ h => False.elim h
  | succ n ih =>
    intro F x1 x2 x3 h
    have g : ∀ f, f ∉ ([] : List Nat) → F f = F f := fun _ _ => rfl
    rw [P_X2_ballotsFor_4] at h
    rcases ite_elim h with ⟨c1, h⟩ | ⟨c1, h⟩
    · skip
      exact ⟨_, _, h, g, ⟨0 + 1, fun K2 h2 => by rw [P_X2_ballotsFor_4]; exact ite_pos c1 (h2)⟩⟩
    · skip
      obtain ⟨v2, h⟩ := h
      obtain ⟨r3, G4, h, g5, b6⟩ := ln_X1_ballotsFor h
      have g := gcomp (by decide) g g5
      obtain ⟨r7, G8, h, g9, ⟨m10, b11⟩⟩ := ih _ _ _ _ h
      exact ⟨_, _, h, gcomp (fun _ h => h) g g9, ⟨m10 + 1, fun K2 h2 => by rw [P_X2_ballotsFor_4]; exact ite_neg c1 (And.intro v2 (b6 _ (b11 K2 h2)))⟩⟩
theorem ln_X2_ballotsFor {F : GF} {p1 : Int32} {K : Int32 → GF → Prop} (h : P_X2_ballotsFor F p1 K) : ∃ (r : Int32) (F1 : GF), K r F1 ∧ (∀ f, f ∉ ([] : List Nat) → F1 f = F f) ∧ (∀ (K2 : Int32 → GF → Prop), K2 r F1 → P_X2_ballotsFor F p1 K2) := by
  have g : ∀ f, f ∉ ([] : List Nat) → F f = F f := fun _ _ => rfl
  unfold P_X2_ballotsFor at h
  obtain ⟨n1, h⟩ := h
  obtain ⟨r2, G3, h, g4, ⟨m5, b6⟩⟩ := ln_X2_ballotsFor_4 _ _ _ _ _ h
  have g := gcomp (by decide) g g4
  exact ⟨_, _, h, g, fun K2 h2 => by unfold P_X2_ballotsFor; exact Exists.intro m5 (b6 _ (h2))⟩
theorem ln_X10_giveByBallots_2  {K : GF → Prop} : ∀ (n : Nat) (F : GF) (x1 : Int32), P_X10_giveByBallots_2 K n F x1 → ∃ (F1 : GF), K F1 ∧ (∀ f, f ∉ ([27, 34, 35, 36, 37] : List Nat) → F1 f = F f) ∧ (∃ m : Nat, ∀ (K2 : GF → Prop), K2 F1 → P_X10_giveByBallots_2 K2 m F x1) := by
  intro n
  induction n with
  | zero => exact fun _ _ h => False.elim h
  | succ n ih =>
    intro F x1 h
    have g : ∀ f, f ∉ ([27, 34, 35, 36, 37] : List Nat) → F f = F f := fun _ _ => rfl
    rw [P_X10_giveByBallots_2] at h
    rcases ite_elim h with ⟨c1, h⟩ | ⟨c1, h⟩
    · skip
      obtain ⟨r2, G3, h, g4, b5⟩ := ln_X2_sumOfSeeds h
      have g := gcomp (by decide) g g4
      obtain ⟨G7, h, g8, b9⟩ := ln_X6_give h
      have g := gcomp (by decide) g g8
      exact ⟨_, h, g, ⟨0 + 1, fun K2 h2 => by rw [P_X10_giveByBallots_2]; exact ite_pos c1 (b5 _ (b9 _ (h2)))⟩⟩
    · skip
      obtain ⟨r10, G11, h, g12, b13⟩ := ln_X2_ballotsFor h
      have g := gcomp (by decide) g g12
      obtain ⟨v14, h⟩ := h
      obtain ⟨G15, e16, h⟩ := st_all h
      have g := fsg e16 g (by decide)
      obtain ⟨G18, h, g19, ⟨m20, b21⟩⟩ := ih _ _ h
      exact ⟨_, h, gcomp (fun _ h => h) g g19, ⟨m20 + 1, fun K2 h2 => by rw [P_X10_giveByBallots_2]; exact ite_neg c1 (b13 _ (And.intro v14 (all_g e16 (b21 K2 h2))))⟩⟩
theorem ln_X10_giveByBallots {F : GF} {K : GF → Prop} (h : P_X10_giveByBallots F K) : ∃ (F1 : GF), K F1 ∧ (∀ f, f ∉ ([27, 34, 35, 36, 37] : List Nat) → F1 f = F f) ∧ (∀ (K2 : GF → Prop), K2 F1 → P_X10_giveByBallots F K2) := by
  have g : ∀ f, f ∉ ([27, 34, 35, 36, 37] : List Nat) → F f = F f := fun _ _ => rfl
  unfold P_X10_giveByBallots at h
  obtain ⟨n1, h⟩ := h
  obtain ⟨G3, h, g4, ⟨m5, b6⟩⟩ := ln_X10_giveByBallots_2 _ _ _ h
  have g := gcomp (by decide) g g4
  exact ⟨_, h, g, fun K2 h2 => by unfold P_X10_giveByBallots; exact Exists.intro m5 (b6 _ (h2))⟩
theorem ln_X10_seatsByBallots {F : GF} {p1 : Int32} {K : Int32 → GF → Prop} {X : String → GF → Prop} (h : P_X10_seatsByBallots F p1 K X) : (∃ (r : Int32) (F1 : GF), K r F1 ∧ (∀ f, f ∉ ([27, 34, 35, 36, 37] : List Nat) → F1 f = F f) ∧ (∀ (K2 : Int32 → GF → Prop) (X2 : String → GF → Prop), K2 r F1 → P_X10_seatsByBallots F p1 K2 X2)) ∨ (∃ (e : String) (F1 : GF), X e F1 ∧ (∀ f, f ∉ ([27, 34, 35, 36, 37] : List Nat) → F1 f = F f) ∧ (∀ (K2 : Int32 → GF → Prop) (X2 : String → GF → Prop), X2 e F1 → P_X10_seatsByBallots F p1 K2 X2)) := by
  have g : ∀ f, f ∉ ([27, 34, 35, 36, 37] : List Nat) → F f = F f := fun _ _ => rfl
  unfold P_X10_seatsByBallots at h
  rcases ln_X10_needParty h with ⟨G2, h, g3, b4⟩ | ⟨e5, G2, h, g3, b4⟩
  · have g := gcomp (by decide) g g3
    rcases ite_elim h with ⟨c6, h⟩ | ⟨c6, h⟩
    · skip
      unfold P_X10_seatsByBallots_28 at h
      obtain ⟨G8, h, g9, b10⟩ := ln_X10_giveByBallots h
      have g := gcomp (by decide) g g9
      obtain ⟨v11, h⟩ := h
      exact Or.inl ⟨_, _, h, g, fun K2 X2 h2 => by unfold P_X10_seatsByBallots; exact b4 _ _ (ite_pos c6 (by unfold P_X10_seatsByBallots_28; exact b10 _ (And.intro v11 (h2))))⟩
    · skip
      rcases ite_elim h with ⟨c12, h⟩ | ⟨c12, h⟩
      · skip
        unfold P_X10_seatsByBallots_28 at h
        obtain ⟨G14, h, g15, b16⟩ := ln_X10_giveByBallots h
        have g := gcomp (by decide) g g15
        obtain ⟨v17, h⟩ := h
        exact Or.inl ⟨_, _, h, g, fun K2 X2 h2 => by unfold P_X10_seatsByBallots; exact b4 _ _ (ite_neg c6 (ite_pos c12 (by unfold P_X10_seatsByBallots_28; exact b16 _ (And.intro v17 (h2)))))⟩
      · skip
        exact Or.inl ⟨_, _, h, g, fun K2 X2 h2 => by unfold P_X10_seatsByBallots; exact b4 _ _ (ite_neg c6 (ite_neg c12 (h2)))⟩
  · have g := gcomp (by decide) g g3
    exact Or.inr ⟨_, _, h, g, fun K2 X2 h2 => by unfold P_X10_seatsByBallots; exact b4 _ _ (h2)⟩
theorem ln_X10_notes {F : GF} {K : Int32 → GF → Prop} (h : P_X10_notes F K) : ∃ (r : Int32) (F1 : GF), K r F1 ∧ (∀ f, f ∉ ([] : List Nat) → F1 f = F f) ∧ (∀ (K2 : Int32 → GF → Prop), K2 r F1 → P_X10_notes F K2) := by
  have g : ∀ f, f ∉ ([] : List Nat) → F f = F f := fun _ _ => rfl
  unfold P_X10_notes at h
  exact ⟨_, _, h, g, fun K2 h2 => by unfold P_X10_notes; exact h2⟩
theorem ln_J5_ensureCapacityInternal_d00df {F : GF} {p1 : Int32} {K : GF → Prop} (h : P_J5_ensureCapacityInternal_d00df F p1 K) : ∃ (F1 : GF), K F1 ∧ (∀ f, f ∉ ([] : List Nat) → F1 f = F f) ∧ (∀ (K2 : GF → Prop), K2 F1 → P_J5_ensureCapacityInternal_d00df F p1 K2) := by
  have g : ∀ f, f ∉ ([] : List Nat) → F f = F f := fun _ _ => rfl
  unfold P_J5_ensureCapacityInternal_d00df at h
  have h := h _ rfl
  rcases ite_elim h with ⟨c1, h⟩ | ⟨c1, h⟩
  · skip
    exact ⟨_, h, g, fun K2 h2 => by unfold P_J5_ensureCapacityInternal_d00df; exact all_i (ite_pos c1 (h2))⟩
  · skip
    exact False.elim h
theorem ln_J5_isLatin1_aae02 {F : GF} {K : Int32 → GF → Prop} (h : P_J5_isLatin1_aae02 F K) : ∃ (r : Int32) (F1 : GF), K r F1 ∧ (∀ f, f ∉ ([] : List Nat) → F1 f = F f) ∧ (∀ (K2 : Int32 → GF → Prop), K2 r F1 → P_J5_isLatin1_aae02 F K2) := by
  have g : ∀ f, f ∉ ([] : List Nat) → F f = F f := fun _ _ => rfl
  unfold P_J5_isLatin1_aae02 at h
  rcases ite_elim h with ⟨c1, h⟩ | ⟨c1, h⟩
  · skip
    exact ⟨_, _, h, g, fun K2 h2 => by unfold P_J5_isLatin1_aae02; exact ite_pos c1 (h2)⟩
  · skip
    rcases ite_elim h with ⟨c2, h⟩ | ⟨c2, h⟩
    · skip
      exact ⟨_, _, h, g, fun K2 h2 => by unfold P_J5_isLatin1_aae02; exact ite_neg c1 (ite_pos c2 (h2))⟩
    · skip
      exact ⟨_, _, h, g, fun K2 h2 => by unfold P_J5_isLatin1_aae02; exact ite_neg c1 (ite_neg c2 (h2))⟩
theorem ln_J5_setLength_d00df {F : GF} {p1 : Int32} {K : GF → Prop} (h : P_J5_setLength_d00df F p1 K) : ∃ (F1 : GF), K F1 ∧ (∀ f, f ∉ ([25] : List Nat) → F1 f = F f) ∧ (∀ (K2 : GF → Prop), K2 F1 → P_J5_setLength_d00df F p1 K2) := by
  have g : ∀ f, f ∉ ([25] : List Nat) → F f = F f := fun _ _ => rfl
  unfold P_J5_setLength_d00df at h
  rcases ite_elim h with ⟨c1, h⟩ | ⟨c1, h⟩
  · skip
    obtain ⟨G3, h, g4, b5⟩ := ln_J5_ensureCapacityInternal_d00df h
    have g := gcomp (by decide) g g4
    rcases ite_elim h with ⟨c6, h⟩ | ⟨c6, h⟩
    · skip
      rcases ite_elim h with ⟨c7, h⟩ | ⟨c7, h⟩
      · skip
        unfold P_J5_setLength_d00df_76 at h
        obtain ⟨G8, e9, h⟩ := st_all h
        have g := fsg e9 g (by decide)
        exact ⟨_, h, g, fun K2 h2 => by unfold P_J5_setLength_d00df; exact ite_pos c1 (b5 _ (ite_pos c6 (ite_pos c7 (by unfold P_J5_setLength_d00df_76; exact all_g e9 (h2)))))⟩
      · skip
        obtain ⟨G10, e11, h⟩ := st_all h
        have g := fsg e11 g (by decide)
        unfold P_J5_setLength_d00df_76 at h
        obtain ⟨G12, e13, h⟩ := st_all h
        have g := fsg e13 g (by decide)
        exact ⟨_, h, g, fun K2 h2 => by unfold P_J5_setLength_d00df; exact ite_pos c1 (b5 _ (ite_pos c6 (ite_neg c7 (all_g e11 (by unfold P_J5_setLength_d00df_76; exact all_g e13 (h2))))))⟩
    · skip
      obtain ⟨r14, G15, h, g16, b17⟩ := ln_J5_isLatin1_aae02 h
      have g := gcomp (by decide) g g16
      rcases ite_elim h with ⟨c18, h⟩ | ⟨c18, h⟩
      · skip
        exact False.elim h
      · skip
        exact False.elim h
  · skip
    exact False.elim h
theorem ln_J4_setLength_d00df {F : GF} {p1 : Int32} {K : GF → Prop} (h : P_J4_setLength_d00df F p1 K) : ∃ (F1 : GF), K F1 ∧ (∀ f, f ∉ ([25] : List Nat) → F1 f = F f) ∧ (∀ (K2 : GF → Prop), K2 F1 → P_J4_setLength_d00df F p1 K2) := by
  have g : ∀ f, f ∉ ([25] : List Nat) → F f = F f := fun _ _ => rfl
  unfold P_J4_setLength_d00df at h
  obtain ⟨G2, h, g3, b4⟩ := ln_J5_setLength_d00df h
  have g := gcomp (by decide) g g3
  exact ⟨_, h, g, fun K2 h2 => by unfold P_J4_setLength_d00df; exact b4 _ (h2)⟩
theorem ln_J6_stringSize_0f7a4_16  {K : Int32 → GF → Prop} : ∀ (n : Nat) (F : GF) (x0 : Int32) (x1 : Int32) (x2 : Int32) (x3 : Int32), P_J6_stringSize_0f7a4_16 K n F x0 x1 x2 x3 → ∃ (r : Int32) (F1 : GF), K r F1 ∧ (∀ f, f ∉ ([] : List Nat) → F1 f = F f) ∧ (∃ m : Nat, ∀ (K2 : Int32 → GF → Prop), K2 r F1 → P_J6_stringSize_0f7a4_16 K2 m F x0 x1 x2 x3) := by
  intro n
  induction n with
  | zero => exact fun _ _ _ _ _ h => False.elim h
  | succ n ih =>
    intro F x0 x1 x2 x3 h
    have g : ∀ f, f ∉ ([] : List Nat) → F f = F f := fun _ _ => rfl
    rw [P_J6_stringSize_0f7a4_16] at h
    rcases ite_elim h with ⟨c1, h⟩ | ⟨c1, h⟩
    · skip
      exact ⟨_, _, h, g, ⟨0 + 1, fun K2 h2 => by rw [P_J6_stringSize_0f7a4_16]; exact ite_pos c1 (h2)⟩⟩
    · skip
      rcases ite_elim h with ⟨c2, h⟩ | ⟨c2, h⟩
      · skip
        obtain ⟨r3, G4, h, g5, ⟨m6, b7⟩⟩ := ih _ _ _ _ _ h
        exact ⟨_, _, h, gcomp (fun _ h => h) g g5, ⟨m6 + 1, fun K2 h2 => by rw [P_J6_stringSize_0f7a4_16]; exact ite_neg c1 (ite_pos c2 (b7 K2 h2))⟩⟩
      · skip
        exact ⟨_, _, h, g, ⟨0 + 1, fun K2 h2 => by rw [P_J6_stringSize_0f7a4_16]; exact ite_neg c1 (ite_neg c2 (h2))⟩⟩
theorem ln_J6_stringSize_0f7a4 {F : GF} {p0 : Int32} {K : Int32 → GF → Prop} (h : P_J6_stringSize_0f7a4 F p0 K) : ∃ (r : Int32) (F1 : GF), K r F1 ∧ (∀ f, f ∉ ([] : List Nat) → F1 f = F f) ∧ (∀ (K2 : Int32 → GF → Prop), K2 r F1 → P_J6_stringSize_0f7a4 F p0 K2) := by
  have g : ∀ f, f ∉ ([] : List Nat) → F f = F f := fun _ _ => rfl
  unfold P_J6_stringSize_0f7a4 at h
  rcases ite_elim h with ⟨c1, h⟩ | ⟨c1, h⟩
  · skip
    unfold P_J6_stringSize_0f7a4_11 at h
    obtain ⟨n2, h⟩ := h
    obtain ⟨r3, G4, h, g5, ⟨m6, b7⟩⟩ := ln_J6_stringSize_0f7a4_16 _ _ _ _ _ _ h
    have g := gcomp (by decide) g g5
    exact ⟨_, _, h, g, fun K2 h2 => by unfold P_J6_stringSize_0f7a4; exact ite_pos c1 (by unfold P_J6_stringSize_0f7a4_11; exact Exists.intro m6 (b7 _ (h2)))⟩
  · skip
    unfold P_J6_stringSize_0f7a4_11 at h
    obtain ⟨n8, h⟩ := h
    obtain ⟨r9, G10, h, g11, ⟨m12, b13⟩⟩ := ln_J6_stringSize_0f7a4_16 _ _ _ _ _ _ h
    have g := gcomp (by decide) g g11
    exact ⟨_, _, h, g, fun K2 h2 => by unfold P_J6_stringSize_0f7a4; exact ite_neg c1 (by unfold P_J6_stringSize_0f7a4_11; exact Exists.intro m12 (b13 _ (h2)))⟩
theorem ln_J6_getChars_ba4f3_22  {K : Int32 → GF → Prop} : ∀ (n : Nat) (F : GF) (x0 : Int32) (x5 : Int32) (x6 : Int32), P_J6_getChars_ba4f3_22 K n F x0 x5 x6 → ∃ (r : Int32) (F1 : GF), K r F1 ∧ (∀ f, f ∉ ([26] : List Nat) → F1 f = F f) ∧ (∃ m : Nat, ∀ (K2 : Int32 → GF → Prop), K2 r F1 → P_J6_getChars_ba4f3_22 K2 m F x0 x5 x6) := by
  intro n
  induction n with
  | zero => exact fun _ _ _ _ h => False.elim h
  | succ n ih =>
    intro F x0 x5 x6 h
    have g : ∀ f, f ∉ ([26] : List Nat) → F f = F f := fun _ _ => rfl
    rw [P_J6_getChars_ba4f3_22] at h
    rcases ite_elim h with ⟨c1, h⟩ | ⟨c1, h⟩
    · skip
      obtain ⟨v2, h⟩ := h
      obtain ⟨v3, h⟩ := h
      obtain ⟨G4, e5, h⟩ := st_all h
      have g := fsg e5 g (by decide)
      rcases ite_elim h with ⟨c6, h⟩ | ⟨c6, h⟩
      · skip
        unfold P_J6_getChars_ba4f3_104 at h
        rcases ite_elim h with ⟨c7, h⟩ | ⟨c7, h⟩
        · skip
          exact ⟨_, _, h, g, ⟨0 + 1, fun K2 h2 => by rw [P_J6_getChars_ba4f3_22]; exact ite_pos c1 (And.intro v2 (And.intro v3 (all_g e5 (ite_pos c6 (by unfold P_J6_getChars_ba4f3_104; exact ite_pos c7 (h2))))))⟩⟩
        · skip
          obtain ⟨v8, h⟩ := h
          obtain ⟨G9, e10, h⟩ := st_all h
          have g := fsg e10 g (by decide)
          exact ⟨_, _, h, g, ⟨0 + 1, fun K2 h2 => by rw [P_J6_getChars_ba4f3_22]; exact ite_pos c1 (And.intro v2 (And.intro v3 (all_g e5 (ite_pos c6 (by unfold P_J6_getChars_ba4f3_104; exact ite_neg c7 (And.intro v8 (all_g e10 (h2))))))))⟩⟩
      · skip
        obtain ⟨v11, h⟩ := h
        obtain ⟨v12, h⟩ := h
        obtain ⟨G13, e14, h⟩ := st_all h
        have g := fsg e14 g (by decide)
        unfold P_J6_getChars_ba4f3_104 at h
        rcases ite_elim h with ⟨c15, h⟩ | ⟨c15, h⟩
        · skip
          exact ⟨_, _, h, g, ⟨0 + 1, fun K2 h2 => by rw [P_J6_getChars_ba4f3_22]; exact ite_pos c1 (And.intro v2 (And.intro v3 (all_g e5 (ite_neg c6 (And.intro v11 (And.intro v12 (all_g e14 (by unfold P_J6_getChars_ba4f3_104; exact ite_pos c15 (h2)))))))))⟩⟩
        · skip
          obtain ⟨v16, h⟩ := h
          obtain ⟨G17, e18, h⟩ := st_all h
          have g := fsg e18 g (by decide)
          exact ⟨_, _, h, g, ⟨0 + 1, fun K2 h2 => by rw [P_J6_getChars_ba4f3_22]; exact ite_pos c1 (And.intro v2 (And.intro v3 (all_g e5 (ite_neg c6 (And.intro v11 (And.intro v12 (all_g e14 (by unfold P_J6_getChars_ba4f3_104; exact ite_neg c15 (And.intro v16 (all_g e18 (h2)))))))))))⟩⟩
    · skip
      obtain ⟨v19, h⟩ := h
      obtain ⟨v20, h⟩ := h
      obtain ⟨G21, e22, h⟩ := st_all h
      have g := fsg e22 g (by decide)
      obtain ⟨v23, h⟩ := h
      obtain ⟨v24, h⟩ := h
      obtain ⟨G25, e26, h⟩ := st_all h
      have g := fsg e26 g (by decide)
      obtain ⟨r27, G28, h, g29, ⟨m30, b31⟩⟩ := ih _ _ _ _ h
      exact ⟨_, _, h, gcomp (fun _ h => h) g g29, ⟨m30 + 1, fun K2 h2 => by rw [P_J6_getChars_ba4f3_22]; exact ite_neg c1 (And.intro v19 (And.intro v20 (all_g e22 (And.intro v23 (And.intro v24 (all_g e26 (b31 K2 h2)))))))⟩⟩
theorem ln_J6_getChars_ba4f3 {F : GF} {p0 : Int32} {p1 : Int32} {K : Int32 → GF → Prop} (h : P_J6_getChars_ba4f3 F p0 p1 K) : ∃ (r : Int32) (F1 : GF), K r F1 ∧ (∀ f, f ∉ ([26] : List Nat) → F1 f = F f) ∧ (∀ (K2 : Int32 → GF → Prop), K2 r F1 → P_J6_getChars_ba4f3 F p0 p1 K2) := by
  have g : ∀ f, f ∉ ([26] : List Nat) → F f = F f := fun _ _ => rfl
  unfold P_J6_getChars_ba4f3 at h
  rcases ite_elim h with ⟨c1, h⟩ | ⟨c1, h⟩
  · skip
    unfold P_J6_getChars_ba4f3_12 at h
    rcases ite_elim h with ⟨c2, h⟩ | ⟨c2, h⟩
    · skip
      obtain ⟨n3, h⟩ := h
      obtain ⟨r4, G5, h, g6, ⟨m7, b8⟩⟩ := ln_J6_getChars_ba4f3_22 _ _ _ _ _ h
      have g := gcomp (by decide) g g6
      exact ⟨_, _, h, g, fun K2 h2 => by unfold P_J6_getChars_ba4f3; exact ite_pos c1 (by unfold P_J6_getChars_ba4f3_12; exact ite_pos c2 (Exists.intro m7 (b8 _ (h2))))⟩
    · skip
      obtain ⟨n9, h⟩ := h
      obtain ⟨r10, G11, h, g12, ⟨m13, b14⟩⟩ := ln_J6_getChars_ba4f3_22 _ _ _ _ _ h
      have g := gcomp (by decide) g g12
      exact ⟨_, _, h, g, fun K2 h2 => by unfold P_J6_getChars_ba4f3; exact ite_pos c1 (by unfold P_J6_getChars_ba4f3_12; exact ite_neg c2 (Exists.intro m13 (b14 _ (h2))))⟩
  · skip
    unfold P_J6_getChars_ba4f3_12 at h
    rcases ite_elim h with ⟨c15, h⟩ | ⟨c15, h⟩
    · skip
      obtain ⟨n16, h⟩ := h
      obtain ⟨r17, G18, h, g19, ⟨m20, b21⟩⟩ := ln_J6_getChars_ba4f3_22 _ _ _ _ _ h
      have g := gcomp (by decide) g g19
      exact ⟨_, _, h, g, fun K2 h2 => by unfold P_J6_getChars_ba4f3; exact ite_neg c1 (by unfold P_J6_getChars_ba4f3_12; exact ite_pos c15 (Exists.intro m20 (b21 _ (h2))))⟩
    · skip
      obtain ⟨n22, h⟩ := h
      obtain ⟨r23, G24, h, g25, ⟨m26, b27⟩⟩ := ln_J6_getChars_ba4f3_22 _ _ _ _ _ h
      have g := gcomp (by decide) g g25
      exact ⟨_, _, h, g, fun K2 h2 => by unfold P_J6_getChars_ba4f3; exact ite_neg c1 (by unfold P_J6_getChars_ba4f3_12; exact ite_neg c15 (Exists.intro m26 (b27 _ (h2))))⟩
theorem ln_J5_append_c97b9 {F : GF} {p1 : Int32} {K : Nat → GF → Prop} (h : P_J5_append_c97b9 F p1 K) : ∃ (r : Nat) (F1 : GF), K r F1 ∧ (∀ f, f ∉ ([25, 26] : List Nat) → F1 f = F f) ∧ (∀ (K2 : Nat → GF → Prop), K2 r F1 → P_J5_append_c97b9 F p1 K2) := by
  have g : ∀ f, f ∉ ([25, 26] : List Nat) → F f = F f := fun _ _ => rfl
  unfold P_J5_append_c97b9 at h
  obtain ⟨r1, G2, h, g3, b4⟩ := ln_J6_stringSize_0f7a4 h
  have g := gcomp (by decide) g g3
  obtain ⟨G6, h, g7, b8⟩ := ln_J5_ensureCapacityInternal_d00df h
  have g := gcomp (by decide) g g7
  obtain ⟨r9, G10, h, g11, b12⟩ := ln_J5_isLatin1_aae02 h
  have g := gcomp (by decide) g g11
  rcases ite_elim h with ⟨c13, h⟩ | ⟨c13, h⟩
  · skip
    exact False.elim h
  · skip
    obtain ⟨r14, G15, h, g16, b17⟩ := ln_J6_getChars_ba4f3 h
    have g := gcomp (by decide) g g16
    unfold P_J5_append_c97b9_48 at h
    obtain ⟨G18, e19, h⟩ := st_all h
    have g := fsg e19 g (by decide)
    exact ⟨_, _, h, g, fun K2 h2 => by unfold P_J5_append_c97b9; exact b4 _ (b8 _ (b12 _ (ite_neg c13 (b17 _ (by unfold P_J5_append_c97b9_48; exact all_g e19 (h2))))))⟩
theorem ln_J4_append_bf812 {F : GF} {p1 : Int32} {K : Nat → GF → Prop} (h : P_J4_append_bf812 F p1 K) : ∃ (r : Nat) (F1 : GF), K r F1 ∧ (∀ f, f ∉ ([25, 26] : List Nat) → F1 f = F f) ∧ (∀ (K2 : Nat → GF → Prop), K2 r F1 → P_J4_append_bf812 F p1 K2) := by
  have g : ∀ f, f ∉ ([25, 26] : List Nat) → F f = F f := fun _ _ => rfl
  unfold P_J4_append_bf812 at h
  obtain ⟨r1, G2, h, g3, b4⟩ := ln_J5_append_c97b9 h
  have g := gcomp (by decide) g g3
  exact ⟨_, _, h, g, fun K2 h2 => by unfold P_J4_append_bf812; exact b4 _ (h2)⟩
theorem ln_J1_canEncode_fc78d {F : GF} {p0 : Int32} {K : Int32 → GF → Prop} (h : P_J1_canEncode_fc78d F p0 K) : ∃ (r : Int32) (F1 : GF), K r F1 ∧ (∀ f, f ∉ ([] : List Nat) → F1 f = F f) ∧ (∀ (K2 : Int32 → GF → Prop), K2 r F1 → P_J1_canEncode_fc78d F p0 K2) := by
  have g : ∀ f, f ∉ ([] : List Nat) → F f = F f := fun _ _ => rfl
  unfold P_J1_canEncode_fc78d at h
  rcases ite_elim h with ⟨c1, h⟩ | ⟨c1, h⟩
  · skip
    exact ⟨_, _, h, g, fun K2 h2 => by unfold P_J1_canEncode_fc78d; exact ite_pos c1 (h2)⟩
  · skip
    exact ⟨_, _, h, g, fun K2 h2 => by unfold P_J1_canEncode_fc78d; exact ite_neg c1 (h2)⟩
theorem ln_J5_append_3fe6f {F : GF} {p1 : Int32} {K : Nat → GF → Prop} (h : P_J5_append_3fe6f F p1 K) : ∃ (r : Nat) (F1 : GF), K r F1 ∧ (∀ f, f ∉ ([25, 26] : List Nat) → F1 f = F f) ∧ (∀ (K2 : Nat → GF → Prop), K2 r F1 → P_J5_append_3fe6f F p1 K2) := by
  have g : ∀ f, f ∉ ([25, 26] : List Nat) → F f = F f := fun _ _ => rfl
  unfold P_J5_append_3fe6f at h
  obtain ⟨G2, h, g3, b4⟩ := ln_J5_ensureCapacityInternal_d00df h
  have g := gcomp (by decide) g g3
  obtain ⟨r5, G6, h, g7, b8⟩ := ln_J5_isLatin1_aae02 h
  have g := gcomp (by decide) g g7
  rcases ite_elim h with ⟨c9, h⟩ | ⟨c9, h⟩
  · skip
    unfold P_J5_append_3fe6f_45 at h
    obtain ⟨r10, G11, h, g12, b13⟩ := ln_J5_isLatin1_aae02 h
    have g := gcomp (by decide) g g12
    rcases ite_elim h with ⟨c14, h⟩ | ⟨c14, h⟩
    · skip
      unfold P_J5_append_3fe6f_56 at h
      obtain ⟨G15, e16, h⟩ := st_all h
      have g := fsg e16 g (by decide)
      exact False.elim h
    · skip
      exact False.elim h
  · skip
    obtain ⟨r17, G18, h, g19, b20⟩ := ln_J1_canEncode_fc78d h
    have g := gcomp (by decide) g g19
    rcases ite_elim h with ⟨c21, h⟩ | ⟨c21, h⟩
    · skip
      unfold P_J5_append_3fe6f_45 at h
      obtain ⟨r22, G23, h, g24, b25⟩ := ln_J5_isLatin1_aae02 h
      have g := gcomp (by decide) g g24
      rcases ite_elim h with ⟨c26, h⟩ | ⟨c26, h⟩
      · skip
        unfold P_J5_append_3fe6f_56 at h
        obtain ⟨G27, e28, h⟩ := st_all h
        have g := fsg e28 g (by decide)
        exact False.elim h
      · skip
        exact False.elim h
    · skip
      obtain ⟨G29, e30, h⟩ := st_all h
      have g := fsg e30 g (by decide)
      obtain ⟨v31, h⟩ := h
      obtain ⟨G32, e33, h⟩ := st_all h
      have g := fsg e33 g (by decide)
      exact ⟨_, _, h, g, fun K2 h2 => by unfold P_J5_append_3fe6f; exact b4 _ (b8 _ (ite_neg c9 (b20 _ (ite_neg c21 (all_g e30 (And.intro v31 (all_g e33 (h2))))))))⟩
theorem ln_J4_append_cf468 {F : GF} {p1 : Int32} {K : Nat → GF → Prop} (h : P_J4_append_cf468 F p1 K) : ∃ (r : Nat) (F1 : GF), K r F1 ∧ (∀ f, f ∉ ([25, 26] : List Nat) → F1 f = F f) ∧ (∀ (K2 : Nat → GF → Prop), K2 r F1 → P_J4_append_cf468 F p1 K2) := by
  have g : ∀ f, f ∉ ([25, 26] : List Nat) → F f = F f := fun _ _ => rfl
  unfold P_J4_append_cf468 at h
  obtain ⟨r1, G2, h, g3, b4⟩ := ln_J5_append_3fe6f h
  have g := gcomp (by decide) g g3
  exact ⟨_, _, h, g, fun K2 h2 => by unfold P_J4_append_cf468; exact b4 _ (h2)⟩
theorem ln_J5_length_8abf5 {F : GF} {K : Int32 → GF → Prop} (h : P_J5_length_8abf5 F K) : ∃ (r : Int32) (F1 : GF), K r F1 ∧ (∀ f, f ∉ ([] : List Nat) → F1 f = F f) ∧ (∀ (K2 : Int32 → GF → Prop), K2 r F1 → P_J5_length_8abf5 F K2) := by
  have g : ∀ f, f ∉ ([] : List Nat) → F f = F f := fun _ _ => rfl
  unfold P_J5_length_8abf5 at h
  exact ⟨_, _, h, g, fun K2 h2 => by unfold P_J5_length_8abf5; exact h2⟩
theorem ln_J4_length_8abf5 {F : GF} {K : Int32 → GF → Prop} (h : P_J4_length_8abf5 F K) : ∃ (r : Int32) (F1 : GF), K r F1 ∧ (∀ f, f ∉ ([] : List Nat) → F1 f = F f) ∧ (∀ (K2 : Int32 → GF → Prop), K2 r F1 → P_J4_length_8abf5 F K2) := by
  have g : ∀ f, f ∉ ([] : List Nat) → F f = F f := fun _ _ => rfl
  unfold P_J4_length_8abf5 at h
  obtain ⟨r1, G2, h, g3, b4⟩ := ln_J5_length_8abf5 h
  have g := gcomp (by decide) g g3
  exact ⟨_, _, h, g, fun K2 h2 => by unfold P_J4_length_8abf5; exact b4 _ (h2)⟩
theorem ln_J0_checkIndex_df160 {F : GF} {p0 : Int32} {p1 : Int32} {K : GF → Prop} (h : P_J0_checkIndex_df160 F p0 p1 K) : ∃ (F1 : GF), K F1 ∧ (∀ f, f ∉ ([] : List Nat) → F1 f = F f) ∧ (∀ (K2 : GF → Prop), K2 F1 → P_J0_checkIndex_df160 F p0 p1 K2) := by
  have g : ∀ f, f ∉ ([] : List Nat) → F f = F f := fun _ _ => rfl
  unfold P_J0_checkIndex_df160 at h
  obtain ⟨v1, h⟩ := h
  exact ⟨_, h, g, fun K2 h2 => by unfold P_J0_checkIndex_df160; exact And.intro v1 (h2)⟩
theorem ln_J5_charAt_5068e {F : GF} {p1 : Int32} {K : Int32 → GF → Prop} (h : P_J5_charAt_5068e F p1 K) : ∃ (r : Int32) (F1 : GF), K r F1 ∧ (∀ f, f ∉ ([] : List Nat) → F1 f = F f) ∧ (∀ (K2 : Int32 → GF → Prop), K2 r F1 → P_J5_charAt_5068e F p1 K2) := by
  have g : ∀ f, f ∉ ([] : List Nat) → F f = F f := fun _ _ => rfl
  unfold P_J5_charAt_5068e at h
  have h := h _ rfl
  obtain ⟨G2, h, g3, b4⟩ := ln_J0_checkIndex_df160 h
  have g := gcomp (by decide) g g3
  rcases ite_elim h with ⟨c5, h⟩ | ⟨c5, h⟩
  · skip
    obtain ⟨v6, h⟩ := h
    obtain ⟨v7, h⟩ := h
    exact ⟨_, _, h, g, fun K2 h2 => by unfold P_J5_charAt_5068e; exact all_i (b4 _ (ite_pos c5 (And.intro v6 (And.intro v7 (h2)))))⟩
  · skip
    exact False.elim h
theorem ln_J4_charAt_5068e {F : GF} {p1 : Int32} {K : Int32 → GF → Prop} (h : P_J4_charAt_5068e F p1 K) : ∃ (r : Int32) (F1 : GF), K r F1 ∧ (∀ f, f ∉ ([] : List Nat) → F1 f = F f) ∧ (∀ (K2 : Int32 → GF → Prop), K2 r F1 → P_J4_charAt_5068e F p1 K2) := by
  have g : ∀ f, f ∉ ([] : List Nat) → F f = F f := fun _ _ => rfl
  unfold P_J4_charAt_5068e at h
  obtain ⟨r1, G2, h, g3, b4⟩ := ln_J5_charAt_5068e h
  have g := gcomp (by decide) g g3
  obtain ⟨v5, h⟩ := h
  exact ⟨_, _, h, g, fun K2 h2 => by unfold P_J4_charAt_5068e; exact b4 _ (And.intro v5 (h2))⟩
theorem ln_X0_characterAt {F : GF} {p1 : Int32} {p2 : Int32} {K : Int32 → GF → Prop} (h : P_X0_characterAt F p1 p2 K) : ∃ (r : Int32) (F1 : GF), K r F1 ∧ (∀ f, f ∉ ([25, 26] : List Nat) → F1 f = F f) ∧ (∀ (K2 : Int32 → GF → Prop), K2 r F1 → P_X0_characterAt F p1 p2 K2) := by
  have g : ∀ f, f ∉ ([25, 26] : List Nat) → F f = F f := fun _ _ => rfl
  unfold P_X0_characterAt at h
  rcases ite_elim h with ⟨c1, h⟩ | ⟨c1, h⟩
  · skip
    exact ⟨_, _, h, g, fun K2 h2 => by unfold P_X0_characterAt; exact ite_pos c1 (h2)⟩
  · skip
    rcases ite_elim h with ⟨c2, h⟩ | ⟨c2, h⟩
    · skip
      obtain ⟨G4, h, g5, b6⟩ := ln_J4_setLength_d00df h
      have g := gcomp (by decide) g g5
      obtain ⟨v7, h⟩ := h
      obtain ⟨r8, G9, h, g10, b11⟩ := ln_J4_append_bf812 h
      have g := gcomp (by decide) g g10
      obtain ⟨v12, h⟩ := h
      obtain ⟨r13, G14, h, g15, b16⟩ := ln_J4_append_cf468 h
      have g := gcomp (by decide) g g15
      obtain ⟨v17, h⟩ := h
      obtain ⟨r18, G19, h, g20, b21⟩ := ln_J4_append_bf812 h
      have g := gcomp (by decide) g g20
      rcases ite_elim h with ⟨c22, h⟩ | ⟨c22, h⟩
      · skip
        exact ⟨_, _, h, g, fun K2 h2 => by unfold P_X0_characterAt; exact ite_neg c1 (ite_pos c2 (b6 _ (And.intro v7 (b11 _ (And.intro v12 (b16 _ (And.intro v17 (b21 _ (ite_pos c22 (h2))))))))))⟩
      · skip
        obtain ⟨r23, G24, h, g25, b26⟩ := ln_J4_length_8abf5 h
        have g := gcomp (by decide) g g25
        rcases ite_elim h with ⟨c27, h⟩ | ⟨c27, h⟩
        · skip
          obtain ⟨r28, G29, h, g30, b31⟩ := ln_J4_charAt_5068e h
          have g := gcomp (by decide) g g30
          exact ⟨_, _, h, g, fun K2 h2 => by unfold P_X0_characterAt; exact ite_neg c1 (ite_pos c2 (b6 _ (And.intro v7 (b11 _ (And.intro v12 (b16 _ (And.intro v17 (b21 _ (ite_neg c22 (b26 _ (ite_pos c27 (b31 _ (h2)))))))))))))⟩
        · skip
          exact ⟨_, _, h, g, fun K2 h2 => by unfold P_X0_characterAt; exact ite_neg c1 (ite_pos c2 (b6 _ (And.intro v7 (b11 _ (And.intro v12 (b16 _ (And.intro v17 (b21 _ (ite_neg c22 (b26 _ (ite_neg c27 (h2))))))))))))⟩
    · skip
      exact ⟨_, _, h, g, fun K2 h2 => by unfold P_X0_characterAt; exact ite_neg c1 (ite_neg c2 (h2))⟩
theorem ln_X10_signAt {F : GF} {p1 : Int32} {p2 : Int32} {K : Int32 → GF → Prop} {X : String → GF → Prop} (h : P_X10_signAt F p1 p2 K X) : (∃ (r : Int32) (F1 : GF), K r F1 ∧ (∀ f, f ∉ ([25, 26] : List Nat) → F1 f = F f) ∧ (∀ (K2 : Int32 → GF → Prop) (X2 : String → GF → Prop), K2 r F1 → P_X10_signAt F p1 p2 K2 X2)) ∨ (∃ (e : String) (F1 : GF), X e F1 ∧ (∀ f, f ∉ ([25, 26] : List Nat) → F1 f = F f) ∧ (∀ (K2 : Int32 → GF → Prop) (X2 : String → GF → Prop), X2 e F1 → P_X10_signAt F p1 p2 K2 X2)) := by
  have g : ∀ f, f ∉ ([25, 26] : List Nat) → F f = F f := fun _ _ => rfl
  unfold P_X10_signAt at h
  rcases ite_elim h with ⟨c1, h⟩ | ⟨c1, h⟩
  · skip
    exact Or.inr ⟨_, _, h, g, fun K2 X2 h2 => by unfold P_X10_signAt; exact ite_pos c1 (h2)⟩
  · skip
    rcases ite_elim h with ⟨c2, h⟩ | ⟨c2, h⟩
    · skip
      rcases ite_elim h with ⟨c3, h⟩ | ⟨c3, h⟩
      · skip
        obtain ⟨r4, G5, h, g6, b7⟩ := ln_X0_characterAt h
        have g := gcomp (by decide) g g6
        exact Or.inl ⟨_, _, h, g, fun K2 X2 h2 => by unfold P_X10_signAt; exact ite_neg c1 (ite_pos c2 (ite_pos c3 (b7 _ (h2))))⟩
      · skip
        exact Or.inr ⟨_, _, h, g, fun K2 X2 h2 => by unfold P_X10_signAt; exact ite_neg c1 (ite_pos c2 (ite_neg c3 (h2)))⟩
    · skip
      exact Or.inr ⟨_, _, h, g, fun K2 X2 h2 => by unfold P_X10_signAt; exact ite_neg c1 (ite_neg c2 (h2))⟩
