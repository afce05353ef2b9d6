theorem dgA {a b c V P : Prop} [Decidable a] [Decidable b] [Decidable c] (h : if a then (if b then (V ∧ (if c then P else False)) else P) else False) : P := by
  rcases ite_elim h with ⟨-, h⟩ | ⟨-, h⟩
  · rcases ite_elim h with ⟨-, h⟩ | ⟨-, h⟩
    · rcases ite_elim h.2 with ⟨-, h⟩ | ⟨-, h⟩
      · exact h
      · exact False.elim h
    · exact h
  · exact False.elim h
theorem dgB {a b c d z V P : Prop} [Decidable a] [Decidable b] [Decidable c] [Decidable d] [Decidable z] (h : if a then (if b then (V ∧ (if z then (if c then P else False) else (if d then P else False))) else P) else False) : P := by
  rcases ite_elim h with ⟨-, h⟩ | ⟨-, h⟩
  · rcases ite_elim h with ⟨-, h⟩ | ⟨-, h⟩
    · rcases ite_elim h.2 with ⟨-, h⟩ | ⟨-, h⟩
      · rcases ite_elim h with ⟨-, h⟩ | ⟨-, h⟩
        · exact h
        · exact False.elim h
      · rcases ite_elim h with ⟨-, h⟩ | ⟨-, h⟩
        · exact h
        · exact False.elim h
    · exact h
  · exact False.elim h
theorem dgC {a P : Prop} [Decidable a] (h : if a then P else False) : P := by
  rcases ite_elim h with ⟨-, h⟩ | ⟨-, h⟩
  · exact h
  · exact False.elim h
theorem notin40 {W : List Nat} (hW : ∀ q, q ∈ W → 40 ≤ q) {f : Nat} (hf : f < 40) : f ∉ W := fun h => by
  have := hW f h
  omega
theorem Inv.tr {k : Nat} {F F1 : GF} {W : List Nat} (h : Inv k F) (hW : ∀ q, q ∈ W → trF q = true ∧ q < 40) (g : ∀ f, f ∉ W → F1 f = F f) (hb : b_sb F1) : Inv k F1 := by
  refine h.sm ⟨fun f hf => g f (fun q => ?_), fun j _ _ _ => ?_, fun _ => hb⟩
  · rw [(hW f q).1] at hf
    cases hf
  · rw [g 40 (fun q => absurd (hW 40 q).2 (by omega))]
theorem b_sb_fam {F F1 : GF} (h : F1 25 = F 25) (q : b_sb F) : b_sb F1 := by
  unfold b_sb
  rw [h]
  exact q

theorem tot_bar {k : Nat} {F : GF} (h : Inv k F) (a1 a2 : Int32) {a3 : Int32} (h3 : a3 = 0 ∨ a3 = 1) : (∃ (r : Int32) (F1 : GF), (∃ F2 : GF, Inv (k + 1) F2 ∧ ∀ f, f < 40 → F2 f = F1 f) ∧ (∀ f, f ∉ ([2] : List Nat) → F1 f = F f) ∧ ∀ (K2 : Int32 → GF → Prop) (X2 : String → GF → Prop), K2 r F1 → P_X10_bar F a1 a2 a3 K2 X2) ∨ (∃ (e : String) (F1 : GF), (∃ F2 : GF, Inv (k + 1) F2 ∧ ∀ f, f < 40 → F2 f = F1 f) ∧ (∀ f, f ∉ ([2] : List Nat) → F1 f = F f) ∧ (e = "java/lang/IndexOutOfBoundsException" ∨ e = "java/lang/IllegalArgumentException") ∧ ∀ (K2 : Int32 → GF → Prop) (X2 : String → GF → Prop), X2 e F1 → P_X10_bar F a1 a2 a3 K2 X2) := by
  have q := m0 h a1 a2 a3
  have hI := h
  unfold PL_0 at q
  rcases h3 with rfl | rfl
  · rw [if_pos rfl] at q
    unfold P_L_law_223 P_L_bar at q
    rcases ln_X10_bar q with ⟨r, F1, q, g, b⟩ | ⟨e, F1, q, g, b⟩
    · rcases ite_elim q with ⟨-, q⟩ | ⟨-, q⟩
      · have q := q.2 _ rfl
        rcases ite_elim q with ⟨-, q⟩ | ⟨-, q⟩
        · skip
          refine el_X11_bar (F0 := F1) (fun q1 G1 q g1 => ?_) (fun f hf => fs_fam (by omega)) q
          refine el_X11_thrown (fun q2 G2 q g2 => ?_) g1 q
          have q := dgB q
          have g3 : ∀ f, f < 40 → G2 f = F1 f := g2
          exact Or.inl ⟨r, F1, ⟨G2, q, g3⟩, g, b⟩
        · skip
          refine el_X11_bar (F0 := F1) (fun q1 G1 q g1 => ?_) (fun f hf => fs_fam (by omega)) q
          refine el_X11_thrown (fun q2 G2 q g2 => ?_) g1 q
          have q := dgB q
          have g3 : ∀ f, f < 40 → G2 f = F1 f := g2
          exact Or.inl ⟨r, F1, ⟨G2, q, g3⟩, g, b⟩
      · have q := q.2 _ rfl
        rcases ite_elim q with ⟨-, q⟩ | ⟨-, q⟩
        · skip
          refine el_X11_bar (F0 := F1) (fun q1 G1 q g1 => ?_) (fun f hf => fs_fam (by omega)) q
          refine el_X11_thrown (fun q2 G2 q g2 => ?_) g1 q
          have q := dgB q
          have g3 : ∀ f, f < 40 → G2 f = F1 f := g2
          exact Or.inl ⟨r, F1, ⟨G2, q, g3⟩, g, b⟩
        · skip
          refine el_X11_bar (F0 := F1) (fun q1 G1 q g1 => ?_) (fun f hf => fs_fam (by omega)) q
          refine el_X11_thrown (fun q2 G2 q g2 => ?_) g1 q
          have q := dgB q
          have g3 : ∀ f, f < 40 → G2 f = F1 f := g2
          exact Or.inl ⟨r, F1, ⟨G2, q, g3⟩, g, b⟩
    · rcases q with ⟨he, q⟩ | ⟨he, q⟩
      · skip
        rcases ite_elim q with ⟨-, q⟩ | ⟨-, q⟩
        · skip
          refine el_X11_bar (F0 := F1) (fun q1 G1 q g1 => ?_) (fun _ _ => rfl) q
          refine el_X11_thrown (fun q2 G2 q g2 => ?_) g1 q
          have q := dgB q
          have g3 : ∀ f, f < 40 → G2 f = F1 f := g2
          exact Or.inr ⟨e, F1, ⟨G2, q, g3⟩, g, Or.inl he, b⟩
        · skip
          refine el_X11_bar (F0 := F1) (fun q1 G1 q g1 => ?_) (fun _ _ => rfl) q
          refine el_X11_thrown (fun q2 G2 q g2 => ?_) g1 q
          have q := dgB q
          have g3 : ∀ f, f < 40 → G2 f = F1 f := g2
          exact Or.inr ⟨e, F1, ⟨G2, q, g3⟩, g, Or.inl he, b⟩
      · skip
        rcases ite_elim q with ⟨-, q⟩ | ⟨-, q⟩
        · skip
          refine el_X11_bar (F0 := F1) (fun q1 G1 q g1 => ?_) (fun _ _ => rfl) q
          refine el_X11_thrown (fun q2 G2 q g2 => ?_) g1 q
          have q := dgB q
          have g3 : ∀ f, f < 40 → G2 f = F1 f := g2
          exact Or.inr ⟨e, F1, ⟨G2, q, g3⟩, g, Or.inr (he), b⟩
        · skip
          refine el_X11_bar (F0 := F1) (fun q1 G1 q g1 => ?_) (fun _ _ => rfl) q
          refine el_X11_thrown (fun q2 G2 q g2 => ?_) g1 q
          have q := dgB q
          have g3 : ∀ f, f < 40 → G2 f = F1 f := g2
          exact Or.inr ⟨e, F1, ⟨G2, q, g3⟩, g, Or.inr (he), b⟩
  · rw [if_neg (show ¬ (1 : Int32) = 0 by decide)] at q
    unfold P_L_law_223 P_L_bar at q
    rcases ln_X10_bar q with ⟨r, F1, q, g, b⟩ | ⟨e, F1, q, g, b⟩
    · rcases ite_elim q with ⟨-, q⟩ | ⟨-, q⟩
      · have q := q.2 _ rfl
        rcases ite_elim q with ⟨-, q⟩ | ⟨-, q⟩
        · skip
          refine el_X11_bar (F0 := F1) (fun q1 G1 q g1 => ?_) (fun f hf => fs_fam (by omega)) q
          refine el_X11_thrown (fun q2 G2 q g2 => ?_) g1 q
          have q := dgB q
          have g3 : ∀ f, f < 40 → G2 f = F1 f := g2
          exact Or.inl ⟨r, F1, ⟨G2, q, g3⟩, g, b⟩
        · skip
          refine el_X11_bar (F0 := F1) (fun q1 G1 q g1 => ?_) (fun f hf => fs_fam (by omega)) q
          refine el_X11_thrown (fun q2 G2 q g2 => ?_) g1 q
          have q := dgB q
          have g3 : ∀ f, f < 40 → G2 f = F1 f := g2
          exact Or.inl ⟨r, F1, ⟨G2, q, g3⟩, g, b⟩
      · have q := q.2 _ rfl
        rcases ite_elim q with ⟨-, q⟩ | ⟨-, q⟩
        · skip
          refine el_X11_bar (F0 := F1) (fun q1 G1 q g1 => ?_) (fun f hf => fs_fam (by omega)) q
          refine el_X11_thrown (fun q2 G2 q g2 => ?_) g1 q
          have q := dgB q
          have g3 : ∀ f, f < 40 → G2 f = F1 f := g2
          exact Or.inl ⟨r, F1, ⟨G2, q, g3⟩, g, b⟩
        · skip
          refine el_X11_bar (F0 := F1) (fun q1 G1 q g1 => ?_) (fun f hf => fs_fam (by omega)) q
          refine el_X11_thrown (fun q2 G2 q g2 => ?_) g1 q
          have q := dgB q
          have g3 : ∀ f, f < 40 → G2 f = F1 f := g2
          exact Or.inl ⟨r, F1, ⟨G2, q, g3⟩, g, b⟩
    · rcases q with ⟨he, q⟩ | ⟨he, q⟩
      · skip
        rcases ite_elim q with ⟨-, q⟩ | ⟨-, q⟩
        · skip
          refine el_X11_bar (F0 := F1) (fun q1 G1 q g1 => ?_) (fun _ _ => rfl) q
          refine el_X11_thrown (fun q2 G2 q g2 => ?_) g1 q
          have q := dgB q
          have g3 : ∀ f, f < 40 → G2 f = F1 f := g2
          exact Or.inr ⟨e, F1, ⟨G2, q, g3⟩, g, Or.inl he, b⟩
        · skip
          refine el_X11_bar (F0 := F1) (fun q1 G1 q g1 => ?_) (fun _ _ => rfl) q
          refine el_X11_thrown (fun q2 G2 q g2 => ?_) g1 q
          have q := dgB q
          have g3 : ∀ f, f < 40 → G2 f = F1 f := g2
          exact Or.inr ⟨e, F1, ⟨G2, q, g3⟩, g, Or.inl he, b⟩
      · skip
        rcases ite_elim q with ⟨-, q⟩ | ⟨-, q⟩
        · skip
          refine el_X11_bar (F0 := F1) (fun q1 G1 q g1 => ?_) (fun _ _ => rfl) q
          refine el_X11_thrown (fun q2 G2 q g2 => ?_) g1 q
          have q := dgB q
          have g3 : ∀ f, f < 40 → G2 f = F1 f := g2
          exact Or.inr ⟨e, F1, ⟨G2, q, g3⟩, g, Or.inr (he), b⟩
        · skip
          refine el_X11_bar (F0 := F1) (fun q1 G1 q g1 => ?_) (fun _ _ => rfl) q
          refine el_X11_thrown (fun q2 G2 q g2 => ?_) g1 q
          have q := dgB q
          have g3 : ∀ f, f < 40 → G2 f = F1 f := g2
          exact Or.inr ⟨e, F1, ⟨G2, q, g3⟩, g, Or.inr (he), b⟩
theorem tot_way {k : Nat} {F : GF} (h : Inv k F) (a1 a2 : Int32) : (∃ (r : Int32) (F1 : GF), Inv k F1 ∧ (∀ f, f ∉ ([3, 4] : List Nat) → F1 f = F f) ∧ ∀ (K2 : Int32 → GF → Prop) (X2 : String → GF → Prop), K2 r F1 → P_X10_way F a1 a2 K2 X2) ∨ (∃ (e : String) (F1 : GF), Inv k F1 ∧ (∀ f, f ∉ ([3, 4] : List Nat) → F1 f = F f) ∧ (e = "java/lang/IndexOutOfBoundsException") ∧ ∀ (K2 : Int32 → GF → Prop) (X2 : String → GF → Prop), X2 e F1 → P_X10_way F a1 a2 K2 X2) := by
  have q := m1 h a1 a2 0
  have hI := h
  unfold PL_1 at q
  unfold P_L_way at q
  rcases ln_X10_way q with ⟨r, F1, q, g, b⟩ | ⟨e, F1, q, g, b⟩
  · have q := q.2 _ rfl
    refine el_X11_way (F0 := F1) (fun q1 G1 q g1 => ?_) (fun f hf => fs_fam (by omega)) q
    refine el_X11_thrown (fun q2 G2 q g2 => ?_) g1 q
    have q := dgA q
    have g3 : ∀ f, f < 40 → G2 f = F1 f := g2
    have q5 : Inv k F1 := hI.tr (by decide) g (b_sb_fam (g 25 (by decide)) hI.2.1.2.2.2.2.2.2.2.2.2.2.2.2.2.1)
    exact Or.inl ⟨r, F1, q5, g, b⟩
  · obtain ⟨he, q⟩ := q
    refine el_X11_way (F0 := F1) (fun q1 G1 q g1 => ?_) (fun _ _ => rfl) q
    refine el_X11_thrown (fun q2 G2 q g2 => ?_) g1 q
    have q := dgA q
    have g3 : ∀ f, f < 40 → G2 f = F1 f := g2
    have q5 : Inv k F1 := hI.tr (by decide) g (b_sb_fam (g 25 (by decide)) hI.2.1.2.2.2.2.2.2.2.2.2.2.2.2.2.1)
    exact Or.inr ⟨e, F1, q5, g, he, b⟩
theorem tot_station {k : Nat} {F : GF} (h : Inv k F) (a1 a2 : Int32) : (∃ (r : Int32) (F1 : GF), (∃ F2 : GF, Inv (k + 1) F2 ∧ ∀ f, f < 40 → F2 f = F1 f) ∧ (∀ f, f ∉ ([6, 7, 8] : List Nat) → F1 f = F f) ∧ ∀ (K2 : Int32 → GF → Prop) (X2 : String → GF → Prop), K2 r F1 → P_X10_station F a1 a2 K2 X2) ∨ (∃ (e : String) (F1 : GF), (∃ F2 : GF, Inv (k + 1) F2 ∧ ∀ f, f < 40 → F2 f = F1 f) ∧ (∀ f, f ∉ ([6, 7, 8] : List Nat) → F1 f = F f) ∧ (e = "java/lang/IndexOutOfBoundsException" ∨ e = "java/lang/IllegalArgumentException" ∨ e = "java/lang/IllegalStateException") ∧ ∀ (K2 : Int32 → GF → Prop) (X2 : String → GF → Prop), X2 e F1 → P_X10_station F a1 a2 K2 X2) := by
  have q := m2 h a1 a2 0
  have hI := h
  unfold PL_2 at q
  unfold P_L_station at q
  rcases ln_X10_station q with ⟨r, F1, q, g, b⟩ | ⟨e, F1, q, g, b⟩
  · have q := q.2 _ rfl
    refine el_X11_station (F0 := F1) (fun q1 G1 q g1 => ?_) (fun f hf => fs_fam (by omega)) q
    refine el_X11_thrown (fun q2 G2 q g2 => ?_) g1 q
    have q := dgA q
    have g3 : ∀ f, f < 40 → G2 f = F1 f := g2
    exact Or.inl ⟨r, F1, ⟨G2, q, g3⟩, g, b⟩
  · rcases q with ⟨he, q⟩ | ⟨he, q⟩ | ⟨he, q⟩
    · skip
      refine el_X11_station (F0 := F1) (fun q1 G1 q g1 => ?_) (fun _ _ => rfl) q
      refine el_X11_thrown (fun q2 G2 q g2 => ?_) g1 q
      have q := dgA q
      have g3 : ∀ f, f < 40 → G2 f = F1 f := g2
      exact Or.inr ⟨e, F1, ⟨G2, q, g3⟩, g, Or.inl he, b⟩
    · skip
      refine el_X11_station (F0 := F1) (fun q1 G1 q g1 => ?_) (fun _ _ => rfl) q
      refine el_X11_thrown (fun q2 G2 q g2 => ?_) g1 q
      have q := dgA q
      have g3 : ∀ f, f < 40 → G2 f = F1 f := g2
      exact Or.inr ⟨e, F1, ⟨G2, q, g3⟩, g, Or.inr (Or.inl he), b⟩
    · skip
      refine el_X11_station (F0 := F1) (fun q1 G1 q g1 => ?_) (fun _ _ => rfl) q
      refine el_X11_thrown (fun q2 G2 q g2 => ?_) g1 q
      have q := dgA q
      have g3 : ∀ f, f < 40 → G2 f = F1 f := g2
      exact Or.inr ⟨e, F1, ⟨G2, q, g3⟩, g, Or.inr (Or.inr (he)), b⟩
theorem tot_setSeats {k : Nat} {F : GF} (h : Inv k F) (a1 a2 : Int32) : (∃ (r : Int32) (F1 : GF), (∃ F2 : GF, Inv (k + 1) F2 ∧ ∀ f, f < 40 → F2 f = F1 f) ∧ (∀ f, f ∉ ([8] : List Nat) → F1 f = F f) ∧ ∀ (K2 : Int32 → GF → Prop) (X2 : String → GF → Prop), K2 r F1 → P_X10_setSeats F a1 a2 K2 X2) ∨ (∃ (e : String) (F1 : GF), (∃ F2 : GF, Inv (k + 1) F2 ∧ ∀ f, f < 40 → F2 f = F1 f) ∧ (∀ f, f ∉ ([8] : List Nat) → F1 f = F f) ∧ (e = "java/lang/IndexOutOfBoundsException" ∨ e = "java/lang/IllegalArgumentException") ∧ ∀ (K2 : Int32 → GF → Prop) (X2 : String → GF → Prop), X2 e F1 → P_X10_setSeats F a1 a2 K2 X2) := by
  have q := m3 h a1 a2 0
  have hI := h
  unfold PL_3 at q
  unfold P_L_setSeats at q
  rcases ln_X10_setSeats q with ⟨r, F1, q, g, b⟩ | ⟨e, F1, q, g, b⟩
  · have q := q.2 _ rfl
    refine el_X11_setSeats (F0 := F1) (fun q1 G1 q g1 => ?_) (fun f hf => fs_fam (by omega)) q
    refine el_X11_thrown (fun q2 G2 q g2 => ?_) g1 q
    have q := dgA q
    have g3 : ∀ f, f < 40 → G2 f = F1 f := g2
    exact Or.inl ⟨r, F1, ⟨G2, q, g3⟩, g, b⟩
  · rcases q with ⟨he, q⟩ | ⟨he, q⟩
    · skip
      refine el_X11_setSeats (F0 := F1) (fun q1 G1 q g1 => ?_) (fun _ _ => rfl) q
      refine el_X11_thrown (fun q2 G2 q g2 => ?_) g1 q
      have q := dgA q
      have g3 : ∀ f, f < 40 → G2 f = F1 f := g2
      exact Or.inr ⟨e, F1, ⟨G2, q, g3⟩, g, Or.inl he, b⟩
    · skip
      refine el_X11_setSeats (F0 := F1) (fun q1 G1 q g1 => ?_) (fun _ _ => rfl) q
      refine el_X11_thrown (fun q2 G2 q g2 => ?_) g1 q
      have q := dgA q
      have g3 : ∀ f, f < 40 → G2 f = F1 f := g2
      exact Or.inr ⟨e, F1, ⟨G2, q, g3⟩, g, Or.inr (he), b⟩
theorem tot_person {k : Nat} {F : GF} (hk : k < 512) (h : Inv k F) (a1 a2 : Int32) : (∃ (r : Int32) (F1 : GF), (∃ F2 : GF, Inv (k + 1) F2 ∧ ∀ f, f < 40 → F2 f = F1 f) ∧ (∀ f, f ∉ ([0, 33, 38, 39] : List Nat) → F1 f = F f) ∧ ∀ (K2 : Int32 → GF → Prop) (X2 : String → GF → Prop), K2 r F1 → P_X10_person F a1 a2 K2 X2) ∨ (∃ (e : String) (F1 : GF), (∃ F2 : GF, Inv (k + 1) F2 ∧ ∀ f, f < 40 → F2 f = F1 f) ∧ (∀ f, f ∉ ([0, 33, 38, 39] : List Nat) → F1 f = F f) ∧ (e = "java/lang/IndexOutOfBoundsException" ∨ e = "java/lang/IllegalArgumentException" ∨ e = "java/lang/IllegalStateException") ∧ ∀ (K2 : Int32 → GF → Prop) (X2 : String → GF → Prop), X2 e F1 → P_X10_person F a1 a2 K2 X2) := by
  have q := m4 hk h a1 a2 0
  have hI := h
  unfold PL_4 at q
  unfold P_L_person at q
  rcases ln_X10_person q with ⟨r, F1, q, g, b⟩ | ⟨e, F1, q, g, b⟩
  · have q := q.2 _ rfl
    refine el_X11_person (F0 := F1) (fun q1 G1 q g1 => ?_) (fun f hf => fs_fam (by omega)) q
    refine el_X11_thrown (fun q2 G2 q g2 => ?_) g1 q
    have q := dgA q
    have g3 : ∀ f, f < 40 → G2 f = F1 f := g2
    exact Or.inl ⟨r, F1, ⟨G2, q, g3⟩, g, b⟩
  · rcases q with ⟨he, q⟩ | ⟨he, q⟩ | ⟨he, q⟩
    · skip
      refine el_X11_person (F0 := F1) (fun q1 G1 q g1 => ?_) (fun _ _ => rfl) q
      refine el_X11_thrown (fun q2 G2 q g2 => ?_) g1 q
      have q := dgA q
      have g3 : ∀ f, f < 40 → G2 f = F1 f := g2
      exact Or.inr ⟨e, F1, ⟨G2, q, g3⟩, g, Or.inl he, b⟩
    · skip
      refine el_X11_person (F0 := F1) (fun q1 G1 q g1 => ?_) (fun _ _ => rfl) q
      refine el_X11_thrown (fun q2 G2 q g2 => ?_) g1 q
      have q := dgA q
      have g3 : ∀ f, f < 40 → G2 f = F1 f := g2
      exact Or.inr ⟨e, F1, ⟨G2, q, g3⟩, g, Or.inr (Or.inl he), b⟩
    · skip
      refine el_X11_person (F0 := F1) (fun q1 G1 q g1 => ?_) (fun _ _ => rfl) q
      refine el_X11_thrown (fun q2 G2 q g2 => ?_) g1 q
      have q := dgA q
      have g3 : ∀ f, f < 40 → G2 f = F1 f := g2
      exact Or.inr ⟨e, F1, ⟨G2, q, g3⟩, g, Or.inr (Or.inr (he)), b⟩
theorem tot_move {k : Nat} {F : GF} (hk : k < 512) (h : Inv k F) (a1 a2 : Int32) : (∃ (r : Int32) (F1 : GF), (∃ F2 : GF, Inv (k + 1) F2 ∧ ∀ f, f < 40 → F2 f = F1 f) ∧ (∀ f, f ∉ ([33, 38, 39] : List Nat) → F1 f = F f) ∧ ∀ (K2 : Int32 → GF → Prop) (X2 : String → GF → Prop), K2 r F1 → P_X10_move F a1 a2 K2 X2) ∨ (∃ (e : String) (F1 : GF), (∃ F2 : GF, Inv (k + 1) F2 ∧ ∀ f, f < 40 → F2 f = F1 f) ∧ (∀ f, f ∉ ([33, 38, 39] : List Nat) → F1 f = F f) ∧ (e = "java/lang/IndexOutOfBoundsException" ∨ e = "java/lang/IllegalStateException") ∧ ∀ (K2 : Int32 → GF → Prop) (X2 : String → GF → Prop), X2 e F1 → P_X10_move F a1 a2 K2 X2) := by
  have q := m5 hk h a1 a2 0
  have hI := h
  unfold PL_5 at q
  unfold P_L_move at q
  rcases ln_X10_move q with ⟨r, F1, q, g, b⟩ | ⟨e, F1, q, g, b⟩
  · have q := q.2 _ rfl
    refine el_X11_move (F0 := F1) (fun q1 G1 q g1 => ?_) (fun f hf => fs_fam (by omega)) q
    refine el_X11_thrown (fun q2 G2 q g2 => ?_) g1 q
    have q := dgA q
    have g3 : ∀ f, f < 40 → G2 f = F1 f := g2
    exact Or.inl ⟨r, F1, ⟨G2, q, g3⟩, g, b⟩
  · rcases q with ⟨he, q⟩ | ⟨he, q⟩
    · skip
      refine el_X11_move (F0 := F1) (fun q1 G1 q g1 => ?_) (fun _ _ => rfl) q
      refine el_X11_thrown (fun q2 G2 q g2 => ?_) g1 q
      have q := dgA q
      have g3 : ∀ f, f < 40 → G2 f = F1 f := g2
      exact Or.inr ⟨e, F1, ⟨G2, q, g3⟩, g, Or.inl he, b⟩
    · skip
      refine el_X11_move (F0 := F1) (fun q1 G1 q g1 => ?_) (fun _ _ => rfl) q
      refine el_X11_thrown (fun q2 G2 q g2 => ?_) g1 q
      have q := dgA q
      have g3 : ∀ f, f < 40 → G2 f = F1 f := g2
      exact Or.inr ⟨e, F1, ⟨G2, q, g3⟩, g, Or.inr (he), b⟩
theorem tot_die {k : Nat} {F : GF} (hk : k < 512) (h : Inv k F) (a1 : Int32) : (∃ (r : Int32) (F1 : GF), (∃ F2 : GF, Inv (k + 1) F2 ∧ ∀ f, f < 40 → F2 f = F1 f) ∧ (∀ f, f ∉ ([19, 21, 22, 23, 24, 33] : List Nat) → F1 f = F f) ∧ ∀ (K2 : Int32 → GF → Prop) (X2 : String → GF → Prop), K2 r F1 → P_X10_die F a1 K2 X2) ∨ (∃ (e : String) (F1 : GF), (∃ F2 : GF, Inv (k + 1) F2 ∧ ∀ f, f < 40 → F2 f = F1 f) ∧ (∀ f, f ∉ ([19, 21, 22, 23, 24, 33] : List Nat) → F1 f = F f) ∧ (e = "java/lang/IndexOutOfBoundsException" ∨ e = "java/lang/IllegalStateException") ∧ ∀ (K2 : Int32 → GF → Prop) (X2 : String → GF → Prop), X2 e F1 → P_X10_die F a1 K2 X2) := by
  have q := m6 hk h a1 0 0
  have hI := h
  unfold PL_6 at q
  unfold P_L_die at q
  rcases ln_X10_die q with ⟨r, F1, q, g, b⟩ | ⟨e, F1, q, g, b⟩
  · rcases ite_elim q with ⟨-, q⟩ | ⟨-, q⟩
    · have q := q.2 _ rfl
      refine el_X11_die (F0 := F1) (fun q1 G1 q g1 => ?_) (fun f hf => fs_fam (by omega)) q
      refine el_X11_thrown (fun q2 G2 q g2 => ?_) g1 q
      have q := dgB q
      have g3 : ∀ f, f < 40 → G2 f = F1 f := g2
      exact Or.inl ⟨r, F1, ⟨G2, q, g3⟩, g, b⟩
    · have q := q.2 _ rfl
      refine el_X11_die (F0 := F1) (fun q1 G1 q g1 => ?_) (fun f hf => fs_fam (by omega)) q
      refine el_X11_thrown (fun q2 G2 q g2 => ?_) g1 q
      have q := dgB q
      have g3 : ∀ f, f < 40 → G2 f = F1 f := g2
      exact Or.inl ⟨r, F1, ⟨G2, q, g3⟩, g, b⟩
  · rcases q with ⟨he, q⟩ | ⟨he, q⟩
    · skip
      refine el_X11_die (F0 := F1) (fun q1 G1 q g1 => ?_) (fun _ _ => rfl) q
      refine el_X11_thrown (fun q2 G2 q g2 => ?_) g1 q
      have q := dgB q
      have g3 : ∀ f, f < 40 → G2 f = F1 f := g2
      exact Or.inr ⟨e, F1, ⟨G2, q, g3⟩, g, Or.inl he, b⟩
    · skip
      refine el_X11_die (F0 := F1) (fun q1 G1 q g1 => ?_) (fun _ _ => rfl) q
      refine el_X11_thrown (fun q2 G2 q g2 => ?_) g1 q
      have q := dgB q
      have g3 : ∀ f, f < 40 → G2 f = F1 f := g2
      exact Or.inr ⟨e, F1, ⟨G2, q, g3⟩, g, Or.inr (he), b⟩
theorem tot_dwells {k : Nat} {F : GF} (hk : k < 512) (h : Inv k F) (a1 a2 : Int32) : (∃ (r : Int32) (F1 : GF), Inv k F1 ∧ (∀ f, f ∉ ([] : List Nat) → F1 f = F f) ∧ ∀ (K2 : Int32 → GF → Prop) (X2 : String → GF → Prop), K2 r F1 → P_X10_dwells F a1 a2 K2 X2) ∨ (∃ (e : String) (F1 : GF), Inv k F1 ∧ (∀ f, f ∉ ([] : List Nat) → F1 f = F f) ∧ (e = "java/lang/IndexOutOfBoundsException" ∨ e = "java/lang/IllegalArgumentException") ∧ ∀ (K2 : Int32 → GF → Prop) (X2 : String → GF → Prop), X2 e F1 → P_X10_dwells F a1 a2 K2 X2) := by
  have q := m7 hk h a1 a2 0
  have hI := h
  unfold PL_7 at q
  unfold P_L_dwells at q
  rcases ln_X10_dwells q with ⟨r, F1, q, g, b⟩ | ⟨e, F1, q, g, b⟩
  · have q := q.2 _ rfl
    refine el_X11_dwells (F0 := F1) (fun q1 G1 q g1 => ?_) (fun f hf => fs_fam (by omega)) q
    refine el_X11_thrown (fun q2 G2 q g2 => ?_) g1 q
    have q := dgA q
    have g3 : ∀ f, f < 40 → G2 f = F1 f := g2
    have q5 : Inv k F1 := hI.tr (by decide) g (b_sb_fam (g 25 (by decide)) hI.2.1.2.2.2.2.2.2.2.2.2.2.2.2.2.1)
    exact Or.inl ⟨r, F1, q5, g, b⟩
  · rcases q with ⟨he, q⟩ | ⟨he, q⟩
    · skip
      refine el_X11_dwells (F0 := F1) (fun q1 G1 q g1 => ?_) (fun _ _ => rfl) q
      refine el_X11_thrown (fun q2 G2 q g2 => ?_) g1 q
      have q := dgA q
      have g3 : ∀ f, f < 40 → G2 f = F1 f := g2
      have q5 : Inv k F1 := hI.tr (by decide) g (b_sb_fam (g 25 (by decide)) hI.2.1.2.2.2.2.2.2.2.2.2.2.2.2.2.1)
      exact Or.inr ⟨e, F1, q5, g, Or.inl he, b⟩
    · skip
      refine el_X11_dwells (F0 := F1) (fun q1 G1 q g1 => ?_) (fun _ _ => rfl) q
      refine el_X11_thrown (fun q2 G2 q g2 => ?_) g1 q
      have q := dgA q
      have g3 : ∀ f, f < 40 → G2 f = F1 f := g2
      have q5 : Inv k F1 := hI.tr (by decide) g (b_sb_fam (g 25 (by decide)) hI.2.1.2.2.2.2.2.2.2.2.2.2.2.2.2.1)
      exact Or.inr ⟨e, F1, q5, g, Or.inr (he), b⟩
theorem tot_call {k : Nat} {F : GF} (hk : k < 512) (h : Inv k F) (a1 a2 : Int32) {a3 : Int32} (h3 : a3 = 0 ∨ a3 = 1) : (∃ (r : Int32) (F1 : GF), (∃ F2 : GF, Inv (k + 1) F2 ∧ ∀ f, f < 40 → F2 f = F1 f) ∧ (∀ f, f ∉ ([10, 11, 13, 14, 15, 16, 21, 28] : List Nat) → F1 f = F f) ∧ ∀ (K2 : Int32 → GF → Prop) (X2 : String → GF → Prop), K2 r F1 → P_X10_call F a1 a2 a3 K2 X2) ∨ (∃ (e : String) (F1 : GF), (∃ F2 : GF, Inv (k + 1) F2 ∧ ∀ f, f < 40 → F2 f = F1 f) ∧ (∀ f, f ∉ ([10, 11, 13, 14, 15, 16, 21, 28] : List Nat) → F1 f = F f) ∧ (e = "java/lang/IllegalArgumentException" ∨ e = "java/lang/IllegalStateException") ∧ ∀ (K2 : Int32 → GF → Prop) (X2 : String → GF → Prop), X2 e F1 → P_X10_call F a1 a2 a3 K2 X2) := by
  have q := m8 hk h a1 a2 a3
  have hI := h
  unfold PL_8 at q
  rcases h3 with rfl | rfl
  · rw [if_pos rfl] at q
    unfold P_L_law_797 P_L_call at q
    rcases ln_X10_call q with ⟨r, F1, q, g, b⟩ | ⟨e, F1, q, g, b⟩
    · have q := q.2 _ rfl
      rcases ite_elim q with ⟨-, q⟩ | ⟨-, q⟩
      · skip
        refine el_X11_call (F0 := F1) (fun q1 G1 q g1 => ?_) (fun f hf => fs_fam (by omega)) q
        refine el_X11_thrown (fun q2 G2 q g2 => ?_) g1 q
        have q := dgA q
        have g3 : ∀ f, f < 40 → G2 f = F1 f := g2
        exact Or.inl ⟨r, F1, ⟨G2, q, g3⟩, g, b⟩
      · skip
        refine el_X11_call (F0 := F1) (fun q1 G1 q g1 => ?_) (fun f hf => fs_fam (by omega)) q
        refine el_X11_thrown (fun q2 G2 q g2 => ?_) g1 q
        have q := dgA q
        have g3 : ∀ f, f < 40 → G2 f = F1 f := g2
        exact Or.inl ⟨r, F1, ⟨G2, q, g3⟩, g, b⟩
    · rcases q with ⟨he, q⟩ | ⟨he, q⟩
      · skip
        rcases ite_elim q with ⟨-, q⟩ | ⟨-, q⟩
        · skip
          refine el_X11_call (F0 := F1) (fun q1 G1 q g1 => ?_) (fun _ _ => rfl) q
          refine el_X11_thrown (fun q2 G2 q g2 => ?_) g1 q
          have q := dgA q
          have g3 : ∀ f, f < 40 → G2 f = F1 f := g2
          exact Or.inr ⟨e, F1, ⟨G2, q, g3⟩, g, Or.inl he, b⟩
        · skip
          refine el_X11_call (F0 := F1) (fun q1 G1 q g1 => ?_) (fun _ _ => rfl) q
          refine el_X11_thrown (fun q2 G2 q g2 => ?_) g1 q
          have q := dgA q
          have g3 : ∀ f, f < 40 → G2 f = F1 f := g2
          exact Or.inr ⟨e, F1, ⟨G2, q, g3⟩, g, Or.inl he, b⟩
      · skip
        rcases ite_elim q with ⟨-, q⟩ | ⟨-, q⟩
        · skip
          refine el_X11_call (F0 := F1) (fun q1 G1 q g1 => ?_) (fun _ _ => rfl) q
          refine el_X11_thrown (fun q2 G2 q g2 => ?_) g1 q
          have q := dgA q
          have g3 : ∀ f, f < 40 → G2 f = F1 f := g2
          exact Or.inr ⟨e, F1, ⟨G2, q, g3⟩, g, Or.inr (he), b⟩
        · skip
          refine el_X11_call (F0 := F1) (fun q1 G1 q g1 => ?_) (fun _ _ => rfl) q
          refine el_X11_thrown (fun q2 G2 q g2 => ?_) g1 q
          have q := dgA q
          have g3 : ∀ f, f < 40 → G2 f = F1 f := g2
          exact Or.inr ⟨e, F1, ⟨G2, q, g3⟩, g, Or.inr (he), b⟩
  · rw [if_neg (show ¬ (1 : Int32) = 0 by decide)] at q
    unfold P_L_law_797 P_L_call at q
    rcases ln_X10_call q with ⟨r, F1, q, g, b⟩ | ⟨e, F1, q, g, b⟩
    · have q := q.2 _ rfl
      rcases ite_elim q with ⟨-, q⟩ | ⟨-, q⟩
      · skip
        refine el_X11_call (F0 := F1) (fun q1 G1 q g1 => ?_) (fun f hf => fs_fam (by omega)) q
        refine el_X11_thrown (fun q2 G2 q g2 => ?_) g1 q
        have q := dgA q
        have g3 : ∀ f, f < 40 → G2 f = F1 f := g2
        exact Or.inl ⟨r, F1, ⟨G2, q, g3⟩, g, b⟩
      · skip
        refine el_X11_call (F0 := F1) (fun q1 G1 q g1 => ?_) (fun f hf => fs_fam (by omega)) q
        refine el_X11_thrown (fun q2 G2 q g2 => ?_) g1 q
        have q := dgA q
        have g3 : ∀ f, f < 40 → G2 f = F1 f := g2
        exact Or.inl ⟨r, F1, ⟨G2, q, g3⟩, g, b⟩
    · rcases q with ⟨he, q⟩ | ⟨he, q⟩
      · skip
        rcases ite_elim q with ⟨-, q⟩ | ⟨-, q⟩
        · skip
          refine el_X11_call (F0 := F1) (fun q1 G1 q g1 => ?_) (fun _ _ => rfl) q
          refine el_X11_thrown (fun q2 G2 q g2 => ?_) g1 q
          have q := dgA q
          have g3 : ∀ f, f < 40 → G2 f = F1 f := g2
          exact Or.inr ⟨e, F1, ⟨G2, q, g3⟩, g, Or.inl he, b⟩
        · skip
          refine el_X11_call (F0 := F1) (fun q1 G1 q g1 => ?_) (fun _ _ => rfl) q
          refine el_X11_thrown (fun q2 G2 q g2 => ?_) g1 q
          have q := dgA q
          have g3 : ∀ f, f < 40 → G2 f = F1 f := g2
          exact Or.inr ⟨e, F1, ⟨G2, q, g3⟩, g, Or.inl he, b⟩
      · skip
        rcases ite_elim q with ⟨-, q⟩ | ⟨-, q⟩
        · skip
          refine el_X11_call (F0 := F1) (fun q1 G1 q g1 => ?_) (fun _ _ => rfl) q
          refine el_X11_thrown (fun q2 G2 q g2 => ?_) g1 q
          have q := dgA q
          have g3 : ∀ f, f < 40 → G2 f = F1 f := g2
          exact Or.inr ⟨e, F1, ⟨G2, q, g3⟩, g, Or.inr (he), b⟩
        · skip
          refine el_X11_call (F0 := F1) (fun q1 G1 q g1 => ?_) (fun _ _ => rfl) q
          refine el_X11_thrown (fun q2 G2 q g2 => ?_) g1 q
          have q := dgA q
          have g3 : ∀ f, f < 40 → G2 f = F1 f := g2
          exact Or.inr ⟨e, F1, ⟨G2, q, g3⟩, g, Or.inr (he), b⟩
theorem tot_seed {k : Nat} {F : GF} (h : Inv k F) (a1 a2 : Int32) : (∃ (r : Int32) (F1 : GF), (∃ F2 : GF, Inv (k + 1) F2 ∧ ∀ f, f < 40 → F2 f = F1 f) ∧ (∀ f, f ∉ ([11] : List Nat) → F1 f = F f) ∧ ∀ (K2 : Int32 → GF → Prop) (X2 : String → GF → Prop), K2 r F1 → P_X10_seed F a1 a2 K2 X2) ∨ (∃ (e : String) (F1 : GF), (∃ F2 : GF, Inv (k + 1) F2 ∧ ∀ f, f < 40 → F2 f = F1 f) ∧ (∀ f, f ∉ ([11] : List Nat) → F1 f = F f) ∧ (e = "java/lang/IndexOutOfBoundsException" ∨ e = "java/lang/IllegalArgumentException" ∨ e = "java/lang/IllegalStateException") ∧ ∀ (K2 : Int32 → GF → Prop) (X2 : String → GF → Prop), X2 e F1 → P_X10_seed F a1 a2 K2 X2) := by
  have q := m9 h a1 a2 0
  have hI := h
  unfold PL_9 at q
  unfold P_L_seed at q
  rcases ln_X10_seed q with ⟨r, F1, q, g, b⟩ | ⟨e, F1, q, g, b⟩
  · have q := q.2 _ rfl
    refine el_X11_seed (F0 := F1) (fun q1 G1 q g1 => ?_) (fun f hf => fs_fam (by omega)) q
    refine el_X11_thrown (fun q2 G2 q g2 => ?_) g1 q
    have q := dgA q
    have g3 : ∀ f, f < 40 → G2 f = F1 f := g2
    exact Or.inl ⟨r, F1, ⟨G2, q, g3⟩, g, b⟩
  · rcases q with ⟨he, q⟩ | ⟨he, q⟩ | ⟨he, q⟩
    · skip
      refine el_X11_seed (F0 := F1) (fun q1 G1 q g1 => ?_) (fun _ _ => rfl) q
      refine el_X11_thrown (fun q2 G2 q g2 => ?_) g1 q
      have q := dgA q
      have g3 : ∀ f, f < 40 → G2 f = F1 f := g2
      exact Or.inr ⟨e, F1, ⟨G2, q, g3⟩, g, Or.inl he, b⟩
    · skip
      refine el_X11_seed (F0 := F1) (fun q1 G1 q g1 => ?_) (fun _ _ => rfl) q
      refine el_X11_thrown (fun q2 G2 q g2 => ?_) g1 q
      have q := dgA q
      have g3 : ∀ f, f < 40 → G2 f = F1 f := g2
      exact Or.inr ⟨e, F1, ⟨G2, q, g3⟩, g, Or.inr (Or.inl he), b⟩
    · skip
      refine el_X11_seed (F0 := F1) (fun q1 G1 q g1 => ?_) (fun _ _ => rfl) q
      refine el_X11_thrown (fun q2 G2 q g2 => ?_) g1 q
      have q := dgA q
      have g3 : ∀ f, f < 40 → G2 f = F1 f := g2
      exact Or.inr ⟨e, F1, ⟨G2, q, g3⟩, g, Or.inr (Or.inr (he)), b⟩
theorem tot_advance {k : Nat} {F : GF} (hk : k < 512) (h : Inv k F) (a1 : Int32) : (∃ (r : Int32) (F1 : GF), (∃ F2 : GF, Inv (k + 1) F2 ∧ ∀ f, f < 40 → F2 f = F1 f) ∧ (∀ f, f ∉ ([0, 3, 4, 10, 13, 14, 15, 19, 21, 22, 23, 24, 28, 29] : List Nat) → F1 f = F f) ∧ ∀ (K2 : Int32 → GF → Prop) (X2 : String → GF → Prop), K2 r F1 → P_X10_advance F a1 K2 X2) ∨ (∃ (e : String) (F1 : GF), (∃ F2 : GF, Inv (k + 1) F2 ∧ ∀ f, f < 40 → F2 f = F1 f) ∧ (∀ f, f ∉ ([0, 3, 4, 10, 13, 14, 15, 19, 21, 22, 23, 24, 28, 29] : List Nat) → F1 f = F f) ∧ (e = "java/lang/IllegalArgumentException" ∨ e = "java/lang/IllegalStateException") ∧ ∀ (K2 : Int32 → GF → Prop) (X2 : String → GF → Prop), X2 e F1 → P_X10_advance F a1 K2 X2) := by
  have q := m10 hk h a1 0 0
  have hI := h
  unfold PL_10 at q
  unfold P_L_advance at q
  rcases ln_X10_advance q with ⟨r, F1, q, g, b⟩ | ⟨e, F1, q, g, b⟩
  · have q := q.2 _ rfl
    refine el_X11_advance (F0 := F1) (fun q1 G1 q g1 => ?_) (fun f hf => fs_fam (by omega)) q
    refine el_X11_thrown (fun q2 G2 q g2 => ?_) g1 q
    have q := dgA q
    have g3 : ∀ f, f < 40 → G2 f = F1 f := g2
    exact Or.inl ⟨r, F1, ⟨G2, q, g3⟩, g, b⟩
  · rcases q with ⟨he, q⟩ | ⟨he, q⟩
    · skip
      refine el_X11_advance (F0 := F1) (fun q1 G1 q g1 => ?_) (fun _ _ => rfl) q
      refine el_X11_thrown (fun q2 G2 q g2 => ?_) g1 q
      have q := dgA q
      have g3 : ∀ f, f < 40 → G2 f = F1 f := g2
      exact Or.inr ⟨e, F1, ⟨G2, q, g3⟩, g, Or.inl he, b⟩
    · skip
      refine el_X11_advance (F0 := F1) (fun q1 G1 q g1 => ?_) (fun _ _ => rfl) q
      refine el_X11_thrown (fun q2 G2 q g2 => ?_) g1 q
      have q := dgA q
      have g3 : ∀ f, f < 40 → G2 f = F1 f := g2
      exact Or.inr ⟨e, F1, ⟨G2, q, g3⟩, g, Or.inr (he), b⟩
theorem tot_today {k : Nat} {F : GF} (h : Inv k F) : ∃ (r : Int32) (F1 : GF), Inv k F1 ∧ (∀ f, f ∉ ([] : List Nat) → F1 f = F f) ∧ ∀ (K2 : Int32 → GF → Prop), K2 r F1 → P_X10_today F K2 := by
  have q := m11 h 0 0 0
  have hI := h
  unfold PL_11 at q
  obtain ⟨r, F1, q, g, b⟩ := ln_X10_today q
  refine el_X11_today (F0 := F1) (fun q1 G1 q g1 => ?_) (fun _ _ => rfl) q
  have q := dgC q
  have g3 : ∀ f, f < 40 → G1 f = F1 f := g1
  have q5 : Inv k F1 := hI.tr (by decide) g (b_sb_fam (g 25 (by decide)) hI.2.1.2.2.2.2.2.2.2.2.2.2.2.2.2.1)
  exact ⟨r, F1, q5, g, b⟩
theorem tot_stage {k : Nat} {F : GF} (h : Inv k F) : ∃ (r : Int32) (F1 : GF), Inv k F1 ∧ (∀ f, f ∉ ([] : List Nat) → F1 f = F f) ∧ ∀ (K2 : Int32 → GF → Prop), K2 r F1 → P_X10_stage F K2 := by
  have q := m12 h 0 0 0
  have hI := h
  unfold PL_12 at q
  obtain ⟨r, F1, q, g, b⟩ := ln_X10_stage q
  refine el_X11_stage (F0 := F1) (fun q1 G1 q g1 => ?_) (fun _ _ => rfl) q
  have q := dgC q
  have g3 : ∀ f, f < 40 → G1 f = F1 f := g1
  have q5 : Inv k F1 := hI.tr (by decide) g (b_sb_fam (g 25 (by decide)) hI.2.1.2.2.2.2.2.2.2.2.2.2.2.2.2.1)
  exact ⟨r, F1, q5, g, b⟩
theorem tot_isOnRoll {k : Nat} {F : GF} (h : Inv k F) (a1 : Int32) : (∃ (r : Int32) (F1 : GF), Inv k F1 ∧ (∀ f, f ∉ ([] : List Nat) → F1 f = F f) ∧ ∀ (K2 : Int32 → GF → Prop) (X2 : String → GF → Prop), K2 r F1 → P_X10_isOnRoll F a1 K2 X2) ∨ (∃ (e : String) (F1 : GF), Inv k F1 ∧ (∀ f, f ∉ ([] : List Nat) → F1 f = F f) ∧ (e = "java/lang/IndexOutOfBoundsException") ∧ ∀ (K2 : Int32 → GF → Prop) (X2 : String → GF → Prop), X2 e F1 → P_X10_isOnRoll F a1 K2 X2) := by
  have q := m13 h a1 0 0
  have hI := h
  unfold PL_13 at q
  unfold P_L_isOnRoll at q
  rcases ln_X10_isOnRoll q with ⟨r, F1, q, g, b⟩ | ⟨e, F1, q, g, b⟩
  · rcases ite_elim q with ⟨-, q⟩ | ⟨-, q⟩
    · have q := q.2 _ rfl
      refine el_X11_isOnRoll (F0 := F1) (fun q1 G1 q g1 => ?_) (fun f hf => fs_fam (by omega)) q
      refine el_X11_thrown (fun q2 G2 q g2 => ?_) g1 q
      have q := dgB q
      have g3 : ∀ f, f < 40 → G2 f = F1 f := g2
      have q5 : Inv k F1 := hI.tr (by decide) g (b_sb_fam (g 25 (by decide)) hI.2.1.2.2.2.2.2.2.2.2.2.2.2.2.2.1)
      exact Or.inl ⟨r, F1, q5, g, b⟩
    · have q := q.2 _ rfl
      refine el_X11_isOnRoll (F0 := F1) (fun q1 G1 q g1 => ?_) (fun f hf => fs_fam (by omega)) q
      refine el_X11_thrown (fun q2 G2 q g2 => ?_) g1 q
      have q := dgB q
      have g3 : ∀ f, f < 40 → G2 f = F1 f := g2
      have q5 : Inv k F1 := hI.tr (by decide) g (b_sb_fam (g 25 (by decide)) hI.2.1.2.2.2.2.2.2.2.2.2.2.2.2.2.1)
      exact Or.inl ⟨r, F1, q5, g, b⟩
  · obtain ⟨he, q⟩ := q
    refine el_X11_isOnRoll (F0 := F1) (fun q1 G1 q g1 => ?_) (fun _ _ => rfl) q
    refine el_X11_thrown (fun q2 G2 q g2 => ?_) g1 q
    have q := dgB q
    have g3 : ∀ f, f < 40 → G2 f = F1 f := g2
    have q5 : Inv k F1 := hI.tr (by decide) g (b_sb_fam (g 25 (by decide)) hI.2.1.2.2.2.2.2.2.2.2.2.2.2.2.2.1)
    exact Or.inr ⟨e, F1, q5, g, he, b⟩
theorem tot_stationOf {k : Nat} {F : GF} (h : Inv k F) (a1 : Int32) : (∃ (r : Int32) (F1 : GF), Inv k F1 ∧ (∀ f, f ∉ ([] : List Nat) → F1 f = F f) ∧ ∀ (K2 : Int32 → GF → Prop) (X2 : String → GF → Prop), K2 r F1 → P_X10_stationOf F a1 K2 X2) ∨ (∃ (e : String) (F1 : GF), Inv k F1 ∧ (∀ f, f ∉ ([] : List Nat) → F1 f = F f) ∧ (e = "java/lang/IndexOutOfBoundsException") ∧ ∀ (K2 : Int32 → GF → Prop) (X2 : String → GF → Prop), X2 e F1 → P_X10_stationOf F a1 K2 X2) := by
  have q := m14 h a1 0 0
  have hI := h
  unfold PL_14 at q
  unfold P_L_stationOf at q
  rcases ln_X10_stationOf q with ⟨r, F1, q, g, b⟩ | ⟨e, F1, q, g, b⟩
  · have q := q.2 _ rfl
    refine el_X11_stationOf (F0 := F1) (fun q1 G1 q g1 => ?_) (fun f hf => fs_fam (by omega)) q
    refine el_X11_thrown (fun q2 G2 q g2 => ?_) g1 q
    have q := dgA q
    have g3 : ∀ f, f < 40 → G2 f = F1 f := g2
    have q5 : Inv k F1 := hI.tr (by decide) g (b_sb_fam (g 25 (by decide)) hI.2.1.2.2.2.2.2.2.2.2.2.2.2.2.2.1)
    exact Or.inl ⟨r, F1, q5, g, b⟩
  · obtain ⟨he, q⟩ := q
    refine el_X11_stationOf (F0 := F1) (fun q1 G1 q g1 => ?_) (fun _ _ => rfl) q
    refine el_X11_thrown (fun q2 G2 q g2 => ?_) g1 q
    have q := dgA q
    have g3 : ∀ f, f < 40 → G2 f = F1 f := g2
    have q5 : Inv k F1 := hI.tr (by decide) g (b_sb_fam (g 25 (by decide)) hI.2.1.2.2.2.2.2.2.2.2.2.2.2.2.2.1)
    exact Or.inr ⟨e, F1, q5, g, he, b⟩
theorem tot_peopleOf {k : Nat} {F : GF} (h : Inv k F) (a1 : Int32) : (∃ (r : Int32) (F1 : GF), Inv k F1 ∧ (∀ f, f ∉ ([] : List Nat) → F1 f = F f) ∧ ∀ (K2 : Int32 → GF → Prop) (X2 : String → GF → Prop), K2 r F1 → P_X10_peopleOf F a1 K2 X2) ∨ (∃ (e : String) (F1 : GF), Inv k F1 ∧ (∀ f, f ∉ ([] : List Nat) → F1 f = F f) ∧ (e = "java/lang/IndexOutOfBoundsException") ∧ ∀ (K2 : Int32 → GF → Prop) (X2 : String → GF → Prop), X2 e F1 → P_X10_peopleOf F a1 K2 X2) := by
  have q := m15 h a1 0 0
  have hI := h
  unfold PL_15 at q
  unfold P_L_peopleOf at q
  rcases ln_X10_peopleOf q with ⟨r, F1, q, g, b⟩ | ⟨e, F1, q, g, b⟩
  · have q := q.2 _ rfl
    refine el_X11_peopleOf (F0 := F1) (fun q1 G1 q g1 => ?_) (fun f hf => fs_fam (by omega)) q
    refine el_X11_thrown (fun q2 G2 q g2 => ?_) g1 q
    have q := dgA q
    have g3 : ∀ f, f < 40 → G2 f = F1 f := g2
    have q5 : Inv k F1 := hI.tr (by decide) g (b_sb_fam (g 25 (by decide)) hI.2.1.2.2.2.2.2.2.2.2.2.2.2.2.2.1)
    exact Or.inl ⟨r, F1, q5, g, b⟩
  · obtain ⟨he, q⟩ := q
    refine el_X11_peopleOf (F0 := F1) (fun q1 G1 q g1 => ?_) (fun _ _ => rfl) q
    refine el_X11_thrown (fun q2 G2 q g2 => ?_) g1 q
    have q := dgA q
    have g3 : ∀ f, f < 40 → G2 f = F1 f := g2
    have q5 : Inv k F1 := hI.tr (by decide) g (b_sb_fam (g 25 (by decide)) hI.2.1.2.2.2.2.2.2.2.2.2.2.2.2.2.1)
    exact Or.inr ⟨e, F1, q5, g, he, b⟩
theorem tot_early {k : Nat} {F : GF} (hk : k < 512) (h : Inv k F) (a1 a2 : Int32) : (∃ (r : Int32) (F1 : GF), (∃ F2 : GF, Inv (k + 1) F2 ∧ ∀ f, f < 40 → F2 f = F1 f) ∧ (∀ f, f ∉ ([16, 17, 18, 19, 21, 22, 23, 24] : List Nat) → F1 f = F f) ∧ ∀ (K2 : Int32 → GF → Prop) (X2 : String → GF → Prop), K2 r F1 → P_X10_early F a1 a2 K2 X2) ∨ (∃ (e : String) (F1 : GF), (∃ F2 : GF, Inv (k + 1) F2 ∧ ∀ f, f < 40 → F2 f = F1 f) ∧ (∀ f, f ∉ ([16, 17, 18, 19, 21, 22, 23, 24] : List Nat) → F1 f = F f) ∧ (e = "java/lang/IndexOutOfBoundsException" ∨ e = "java/lang/IllegalArgumentException" ∨ e = "java/lang/IllegalStateException") ∧ ∀ (K2 : Int32 → GF → Prop) (X2 : String → GF → Prop), X2 e F1 → P_X10_early F a1 a2 K2 X2) := by
  have q := m16 hk h a1 a2 0
  have hI := h
  unfold PL_16 at q
  unfold P_L_early at q
  rcases ln_X10_early q with ⟨r, F1, q, g, b⟩ | ⟨e, F1, q, g, b⟩
  · have q := q.2 _ rfl
    refine el_X11_early (F0 := F1) (fun q1 G1 q g1 => ?_) (fun f hf => fs_fam (by omega)) q
    refine el_X11_thrown (fun q2 G2 q g2 => ?_) g1 q
    have q := dgA q
    have g3 : ∀ f, f < 40 → G2 f = F1 f := g2
    exact Or.inl ⟨r, F1, ⟨G2, q, g3⟩, g, b⟩
  · rcases q with ⟨he, q⟩ | ⟨he, q⟩ | ⟨he, q⟩
    · skip
      refine el_X11_early (F0 := F1) (fun q1 G1 q g1 => ?_) (fun _ _ => rfl) q
      refine el_X11_thrown (fun q2 G2 q g2 => ?_) g1 q
      have q := dgA q
      have g3 : ∀ f, f < 40 → G2 f = F1 f := g2
      exact Or.inr ⟨e, F1, ⟨G2, q, g3⟩, g, Or.inl he, b⟩
    · skip
      refine el_X11_early (F0 := F1) (fun q1 G1 q g1 => ?_) (fun _ _ => rfl) q
      refine el_X11_thrown (fun q2 G2 q g2 => ?_) g1 q
      have q := dgA q
      have g3 : ∀ f, f < 40 → G2 f = F1 f := g2
      exact Or.inr ⟨e, F1, ⟨G2, q, g3⟩, g, Or.inr (Or.inl he), b⟩
    · skip
      refine el_X11_early (F0 := F1) (fun q1 G1 q g1 => ?_) (fun _ _ => rfl) q
      refine el_X11_thrown (fun q2 G2 q g2 => ?_) g1 q
      have q := dgA q
      have g3 : ∀ f, f < 40 → G2 f = F1 f := g2
      exact Or.inr ⟨e, F1, ⟨G2, q, g3⟩, g, Or.inr (Or.inr (he)), b⟩
theorem tot_vote {k : Nat} {F : GF} (hk : k < 512) (h : Inv k F) (a1 a2 a3 : Int32) : (∃ (r : Int32) (F1 : GF), (∃ F2 : GF, Inv (k + 1) F2 ∧ ∀ f, f < 40 → F2 f = F1 f) ∧ (∀ f, f ∉ ([15, 19, 21, 22, 23, 24, 28, 29] : List Nat) → F1 f = F f) ∧ ∀ (K2 : Int32 → GF → Prop) (X2 : String → GF → Prop), K2 r F1 → P_X10_vote F a1 a2 a3 K2 X2) ∨ (∃ (e : String) (F1 : GF), (∃ F2 : GF, Inv (k + 1) F2 ∧ ∀ f, f < 40 → F2 f = F1 f) ∧ (∀ f, f ∉ ([15, 19, 21, 22, 23, 24, 28, 29] : List Nat) → F1 f = F f) ∧ (e = "java/lang/IndexOutOfBoundsException" ∨ e = "java/lang/IllegalArgumentException" ∨ e = "java/lang/IllegalStateException") ∧ ∀ (K2 : Int32 → GF → Prop) (X2 : String → GF → Prop), X2 e F1 → P_X10_vote F a1 a2 a3 K2 X2) := by
  have q := m17 hk h a1 a2 a3
  have hI := h
  unfold PL_17 at q
  unfold P_L_vote at q
  rcases ln_X10_vote q with ⟨r, F1, q, g, b⟩ | ⟨e, F1, q, g, b⟩
  · have q := q.2 _ rfl
    refine el_X11_vote (F0 := F1) (fun q1 G1 q g1 => ?_) (fun f hf => fs_fam (by omega)) q
    refine el_X11_thrown (fun q2 G2 q g2 => ?_) g1 q
    have q := dgA q
    have g3 : ∀ f, f < 40 → G2 f = F1 f := g2
    exact Or.inl ⟨r, F1, ⟨G2, q, g3⟩, g, b⟩
  · rcases q with ⟨he, q⟩ | ⟨he, q⟩ | ⟨he, q⟩
    · skip
      refine el_X11_vote (F0 := F1) (fun q1 G1 q g1 => ?_) (fun _ _ => rfl) q
      refine el_X11_thrown (fun q2 G2 q g2 => ?_) g1 q
      have q := dgA q
      have g3 : ∀ f, f < 40 → G2 f = F1 f := g2
      exact Or.inr ⟨e, F1, ⟨G2, q, g3⟩, g, Or.inl he, b⟩
    · skip
      refine el_X11_vote (F0 := F1) (fun q1 G1 q g1 => ?_) (fun _ _ => rfl) q
      refine el_X11_thrown (fun q2 G2 q g2 => ?_) g1 q
      have q := dgA q
      have g3 : ∀ f, f < 40 → G2 f = F1 f := g2
      exact Or.inr ⟨e, F1, ⟨G2, q, g3⟩, g, Or.inr (Or.inl he), b⟩
    · skip
      refine el_X11_vote (F0 := F1) (fun q1 G1 q g1 => ?_) (fun _ _ => rfl) q
      refine el_X11_thrown (fun q2 G2 q g2 => ?_) g1 q
      have q := dgA q
      have g3 : ∀ f, f < 40 → G2 f = F1 f := g2
      exact Or.inr ⟨e, F1, ⟨G2, q, g3⟩, g, Or.inr (Or.inr (he)), b⟩
theorem tot_open {k : Nat} {F : GF} (hk : k < 512) (h : Inv k F) (a1 : Int32) : (∃ (r : Int32) (F1 : GF), (∃ F2 : GF, Inv (k + 1) F2 ∧ ∀ f, f < 40 → F2 f = F1 f) ∧ (∀ f, f ∉ ([15, 19, 21, 22, 23, 24, 28, 29] : List Nat) → F1 f = F f) ∧ ∀ (K2 : Int32 → GF → Prop) (X2 : String → GF → Prop), K2 r F1 → P_X10_open F a1 K2 X2) ∨ (∃ (e : String) (F1 : GF), (∃ F2 : GF, Inv (k + 1) F2 ∧ ∀ f, f < 40 → F2 f = F1 f) ∧ (∀ f, f ∉ ([15, 19, 21, 22, 23, 24, 28, 29] : List Nat) → F1 f = F f) ∧ (e = "java/lang/IndexOutOfBoundsException" ∨ e = "java/lang/IllegalStateException") ∧ ∀ (K2 : Int32 → GF → Prop) (X2 : String → GF → Prop), X2 e F1 → P_X10_open F a1 K2 X2) := by
  have q := m18 hk h a1 0 0
  have hI := h
  unfold PL_18 at q
  unfold P_L_open at q
  rcases ln_X10_open q with ⟨r, F1, q, g, b⟩ | ⟨e, F1, q, g, b⟩
  · have q := q.2 _ rfl
    refine el_X11_open (F0 := F1) (fun q1 G1 q g1 => ?_) (fun f hf => fs_fam (by omega)) q
    refine el_X11_thrown (fun q2 G2 q g2 => ?_) g1 q
    have q := dgA q
    have g3 : ∀ f, f < 40 → G2 f = F1 f := g2
    exact Or.inl ⟨r, F1, ⟨G2, q, g3⟩, g, b⟩
  · rcases q with ⟨he, q⟩ | ⟨he, q⟩
    · skip
      refine el_X11_open (F0 := F1) (fun q1 G1 q g1 => ?_) (fun _ _ => rfl) q
      refine el_X11_thrown (fun q2 G2 q g2 => ?_) g1 q
      have q := dgA q
      have g3 : ∀ f, f < 40 → G2 f = F1 f := g2
      exact Or.inr ⟨e, F1, ⟨G2, q, g3⟩, g, Or.inl he, b⟩
    · skip
      refine el_X11_open (F0 := F1) (fun q1 G1 q g1 => ?_) (fun _ _ => rfl) q
      refine el_X11_thrown (fun q2 G2 q g2 => ?_) g1 q
      have q := dgA q
      have g3 : ∀ f, f < 40 → G2 f = F1 f := g2
      exact Or.inr ⟨e, F1, ⟨G2, q, g3⟩, g, Or.inr (he), b⟩
theorem tot_envelopes {k : Nat} {F : GF} (h : Inv k F) : ∃ (r : Int32) (F1 : GF), Inv k F1 ∧ (∀ f, f ∉ ([] : List Nat) → F1 f = F f) ∧ ∀ (K2 : Int32 → GF → Prop), K2 r F1 → P_X10_envelopes F K2 := by
  have q := m19 h 0 0 0
  have hI := h
  unfold PL_19 at q
  obtain ⟨r, F1, q, g, b⟩ := ln_X10_envelopes q
  refine el_X11_envelopes (F0 := F1) (fun q1 G1 q g1 => ?_) (fun _ _ => rfl) q
  have q := dgC q
  have g3 : ∀ f, f < 40 → G1 f = F1 f := g1
  have q5 : Inv k F1 := hI.tr (by decide) g (b_sb_fam (g 25 (by decide)) hI.2.1.2.2.2.2.2.2.2.2.2.2.2.2.2.1)
  exact ⟨r, F1, q5, g, b⟩
theorem tot_stateOf {k : Nat} {F : GF} (h : Inv k F) (a1 : Int32) : (∃ (r : Int32) (F1 : GF), Inv k F1 ∧ (∀ f, f ∉ ([] : List Nat) → F1 f = F f) ∧ ∀ (K2 : Int32 → GF → Prop) (X2 : String → GF → Prop), K2 r F1 → P_X10_stateOf F a1 K2 X2) ∨ (∃ (e : String) (F1 : GF), Inv k F1 ∧ (∀ f, f ∉ ([] : List Nat) → F1 f = F f) ∧ (e = "java/lang/IndexOutOfBoundsException") ∧ ∀ (K2 : Int32 → GF → Prop) (X2 : String → GF → Prop), X2 e F1 → P_X10_stateOf F a1 K2 X2) := by
  have q := m20 h a1 0 0
  have hI := h
  unfold PL_20 at q
  unfold P_L_stateOf at q
  rcases ln_X10_stateOf q with ⟨r, F1, q, g, b⟩ | ⟨e, F1, q, g, b⟩
  · have q := q.2 _ rfl
    refine el_X11_stateOf (F0 := F1) (fun q1 G1 q g1 => ?_) (fun f hf => fs_fam (by omega)) q
    refine el_X11_thrown (fun q2 G2 q g2 => ?_) g1 q
    have q := dgA q
    have g3 : ∀ f, f < 40 → G2 f = F1 f := g2
    have q5 : Inv k F1 := hI.tr (by decide) g (b_sb_fam (g 25 (by decide)) hI.2.1.2.2.2.2.2.2.2.2.2.2.2.2.2.1)
    exact Or.inl ⟨r, F1, q5, g, b⟩
  · obtain ⟨he, q⟩ := q
    refine el_X11_stateOf (F0 := F1) (fun q1 G1 q g1 => ?_) (fun _ _ => rfl) q
    refine el_X11_thrown (fun q2 G2 q g2 => ?_) g1 q
    have q := dgA q
    have g3 : ∀ f, f < 40 → G2 f = F1 f := g2
    have q5 : Inv k F1 := hI.tr (by decide) g (b_sb_fam (g 25 (by decide)) hI.2.1.2.2.2.2.2.2.2.2.2.2.2.2.2.1)
    exact Or.inr ⟨e, F1, q5, g, he, b⟩
theorem tot_personOf {k : Nat} {F : GF} (h : Inv k F) (a1 : Int32) : (∃ (r : Int32) (F1 : GF), Inv k F1 ∧ (∀ f, f ∉ ([] : List Nat) → F1 f = F f) ∧ ∀ (K2 : Int32 → GF → Prop) (X2 : String → GF → Prop), K2 r F1 → P_X10_personOf F a1 K2 X2) ∨ (∃ (e : String) (F1 : GF), Inv k F1 ∧ (∀ f, f ∉ ([] : List Nat) → F1 f = F f) ∧ (e = "java/lang/IndexOutOfBoundsException") ∧ ∀ (K2 : Int32 → GF → Prop) (X2 : String → GF → Prop), X2 e F1 → P_X10_personOf F a1 K2 X2) := by
  have q := m21 h a1 0 0
  have hI := h
  unfold PL_21 at q
  unfold P_L_personOf at q
  rcases ln_X10_personOf q with ⟨r, F1, q, g, b⟩ | ⟨e, F1, q, g, b⟩
  · have q := q.2 _ rfl
    refine el_X11_personOf (F0 := F1) (fun q1 G1 q g1 => ?_) (fun f hf => fs_fam (by omega)) q
    refine el_X11_thrown (fun q2 G2 q g2 => ?_) g1 q
    have q := dgA q
    have g3 : ∀ f, f < 40 → G2 f = F1 f := g2
    have q5 : Inv k F1 := hI.tr (by decide) g (b_sb_fam (g 25 (by decide)) hI.2.1.2.2.2.2.2.2.2.2.2.2.2.2.2.1)
    exact Or.inl ⟨r, F1, q5, g, b⟩
  · obtain ⟨he, q⟩ := q
    refine el_X11_personOf (F0 := F1) (fun q1 G1 q g1 => ?_) (fun _ _ => rfl) q
    refine el_X11_thrown (fun q2 G2 q g2 => ?_) g1 q
    have q := dgA q
    have g3 : ∀ f, f < 40 → G2 f = F1 f := g2
    have q5 : Inv k F1 := hI.tr (by decide) g (b_sb_fam (g 25 (by decide)) hI.2.1.2.2.2.2.2.2.2.2.2.2.2.2.2.1)
    exact Or.inr ⟨e, F1, q5, g, he, b⟩
theorem tot_ballots {k : Nat} {F : GF} (h : Inv k F) (a1 : Int32) : (∃ (r : Int32) (F1 : GF), Inv k F1 ∧ (∀ f, f ∉ ([] : List Nat) → F1 f = F f) ∧ ∀ (K2 : Int32 → GF → Prop) (X2 : String → GF → Prop), K2 r F1 → P_X10_ballots F a1 K2 X2) ∨ (∃ (e : String) (F1 : GF), Inv k F1 ∧ (∀ f, f ∉ ([] : List Nat) → F1 f = F f) ∧ (e = "java/lang/IndexOutOfBoundsException") ∧ ∀ (K2 : Int32 → GF → Prop) (X2 : String → GF → Prop), X2 e F1 → P_X10_ballots F a1 K2 X2) := by
  have q := m22 h a1 0 0
  have hI := h
  unfold PL_22 at q
  unfold P_L_ballots at q
  rcases ln_X10_ballots q with ⟨r, F1, q, g, b⟩ | ⟨e, F1, q, g, b⟩
  · have q := q.2 _ rfl
    refine el_X11_ballots (F0 := F1) (fun q1 G1 q g1 => ?_) (fun f hf => fs_fam (by omega)) q
    refine el_X11_thrown (fun q2 G2 q g2 => ?_) g1 q
    have q := dgA q
    have g3 : ∀ f, f < 40 → G2 f = F1 f := g2
    have q5 : Inv k F1 := hI.tr (by decide) g (b_sb_fam (g 25 (by decide)) hI.2.1.2.2.2.2.2.2.2.2.2.2.2.2.2.1)
    exact Or.inl ⟨r, F1, q5, g, b⟩
  · obtain ⟨he, q⟩ := q
    refine el_X11_ballots (F0 := F1) (fun q1 G1 q g1 => ?_) (fun _ _ => rfl) q
    refine el_X11_thrown (fun q2 G2 q g2 => ?_) g1 q
    have q := dgA q
    have g3 : ∀ f, f < 40 → G2 f = F1 f := g2
    have q5 : Inv k F1 := hI.tr (by decide) g (b_sb_fam (g 25 (by decide)) hI.2.1.2.2.2.2.2.2.2.2.2.2.2.2.2.1)
    exact Or.inr ⟨e, F1, q5, g, he, b⟩
theorem tot_setSlip {k : Nat} {F : GF} (h : Inv k F) (a1 a2 : Int32) : (∃ (r : Int32) (F1 : GF), (∃ F2 : GF, Inv (k + 1) F2 ∧ ∀ f, f < 40 → F2 f = F1 f) ∧ (∀ f, f ∉ ([9] : List Nat) → F1 f = F f) ∧ ∀ (K2 : Int32 → GF → Prop) (X2 : String → GF → Prop), K2 r F1 → P_X10_setSlip F a1 a2 K2 X2) ∨ (∃ (e : String) (F1 : GF), (∃ F2 : GF, Inv (k + 1) F2 ∧ ∀ f, f < 40 → F2 f = F1 f) ∧ (∀ f, f ∉ ([9] : List Nat) → F1 f = F f) ∧ (e = "java/lang/IndexOutOfBoundsException" ∨ e = "java/lang/IllegalArgumentException") ∧ ∀ (K2 : Int32 → GF → Prop) (X2 : String → GF → Prop), X2 e F1 → P_X10_setSlip F a1 a2 K2 X2) := by
  have q := m23 h a1 a2 0
  have hI := h
  unfold PL_23 at q
  unfold P_L_setSlip at q
  rcases ln_X10_setSlip q with ⟨r, F1, q, g, b⟩ | ⟨e, F1, q, g, b⟩
  · have q := q.2 _ rfl
    refine el_X11_setSlip (F0 := F1) (fun q1 G1 q g1 => ?_) (fun f hf => fs_fam (by omega)) q
    refine el_X11_thrown (fun q2 G2 q g2 => ?_) g1 q
    have q := dgA q
    have g3 : ∀ f, f < 40 → G2 f = F1 f := g2
    exact Or.inl ⟨r, F1, ⟨G2, q, g3⟩, g, b⟩
  · rcases q with ⟨he, q⟩ | ⟨he, q⟩
    · skip
      refine el_X11_setSlip (F0 := F1) (fun q1 G1 q g1 => ?_) (fun _ _ => rfl) q
      refine el_X11_thrown (fun q2 G2 q g2 => ?_) g1 q
      have q := dgA q
      have g3 : ∀ f, f < 40 → G2 f = F1 f := g2
      exact Or.inr ⟨e, F1, ⟨G2, q, g3⟩, g, Or.inl he, b⟩
    · skip
      refine el_X11_setSlip (F0 := F1) (fun q1 G1 q g1 => ?_) (fun _ _ => rfl) q
      refine el_X11_thrown (fun q2 G2 q g2 => ?_) g1 q
      have q := dgA q
      have g3 : ∀ f, f < 40 → G2 f = F1 f := g2
      exact Or.inr ⟨e, F1, ⟨G2, q, g3⟩, g, Or.inr (he), b⟩
theorem tot_count {k : Nat} {F : GF} (hk : k < 512) (h : Inv k F) (a1 a2 : Int32) : (∃ (r : Int32) (F1 : GF), (∃ F2 : GF, Inv (k + 1) F2 ∧ ∀ f, f < 40 → F2 f = F1 f) ∧ (∀ f, f ∉ ([10, 21, 22, 23, 24, 28, 30, 32] : List Nat) → F1 f = F f) ∧ ∀ (K2 : Int32 → GF → Prop) (X2 : String → GF → Prop), K2 r F1 → P_X10_count F a1 a2 K2 X2) ∨ (∃ (e : String) (F1 : GF), (∃ F2 : GF, Inv (k + 1) F2 ∧ ∀ f, f < 40 → F2 f = F1 f) ∧ (∀ f, f ∉ ([10, 21, 22, 23, 24, 28, 30, 32] : List Nat) → F1 f = F f) ∧ (e = "java/lang/IndexOutOfBoundsException" ∨ e = "java/lang/IllegalStateException") ∧ ∀ (K2 : Int32 → GF → Prop) (X2 : String → GF → Prop), X2 e F1 → P_X10_count F a1 a2 K2 X2) := by
  have q := m24 hk h a1 a2 0
  have hI := h
  unfold PL_24 at q
  unfold P_L_count at q
  rcases ln_X10_count q with ⟨r, F1, q, g, b⟩ | ⟨e, F1, q, g, b⟩
  · rcases ite_elim q with ⟨-, q⟩ | ⟨-, q⟩
    · have q := q.2 _ rfl
      refine el_X11_count (F0 := F1) (fun q1 G1 q g1 => ?_) (fun f hf => fs_fam (by omega)) q
      refine el_X11_thrown (fun q2 G2 q g2 => ?_) g1 q
      have q := dgB q
      have g3 : ∀ f, f < 40 → G2 f = F1 f := g2
      exact Or.inl ⟨r, F1, ⟨G2, q, g3⟩, g, b⟩
    · have q := q.2 _ rfl
      refine el_X11_count (F0 := F1) (fun q1 G1 q g1 => ?_) (fun f hf => fs_fam (by omega)) q
      refine el_X11_thrown (fun q2 G2 q g2 => ?_) g1 q
      have q := dgB q
      have g3 : ∀ f, f < 40 → G2 f = F1 f := g2
      exact Or.inl ⟨r, F1, ⟨G2, q, g3⟩, g, b⟩
  · rcases q with ⟨he, q⟩ | ⟨he, q⟩
    · skip
      refine el_X11_count (F0 := F1) (fun q1 G1 q g1 => ?_) (fun _ _ => rfl) q
      refine el_X11_thrown (fun q2 G2 q g2 => ?_) g1 q
      have q := dgB q
      have g3 : ∀ f, f < 40 → G2 f = F1 f := g2
      exact Or.inr ⟨e, F1, ⟨G2, q, g3⟩, g, Or.inl he, b⟩
    · skip
      refine el_X11_count (F0 := F1) (fun q1 G1 q g1 => ?_) (fun _ _ => rfl) q
      refine el_X11_thrown (fun q2 G2 q g2 => ?_) g1 q
      have q := dgB q
      have g3 : ∀ f, f < 40 → G2 f = F1 f := g2
      exact Or.inr ⟨e, F1, ⟨G2, q, g3⟩, g, Or.inr (he), b⟩
theorem tot_recount {k : Nat} {F : GF} (h : Inv k F) (a1 : Int32) : (∃ (r : Int32) (F1 : GF), (∃ F2 : GF, Inv (k + 1) F2 ∧ ∀ f, f < 40 → F2 f = F1 f) ∧ (∀ f, f ∉ ([28] : List Nat) → F1 f = F f) ∧ ∀ (K2 : Int32 → GF → Prop) (X2 : String → GF → Prop), K2 r F1 → P_X10_recount F a1 K2 X2) ∨ (∃ (e : String) (F1 : GF), (∃ F2 : GF, Inv (k + 1) F2 ∧ ∀ f, f < 40 → F2 f = F1 f) ∧ (∀ f, f ∉ ([28] : List Nat) → F1 f = F f) ∧ (e = "java/lang/IndexOutOfBoundsException" ∨ e = "java/lang/IllegalStateException") ∧ ∀ (K2 : Int32 → GF → Prop) (X2 : String → GF → Prop), X2 e F1 → P_X10_recount F a1 K2 X2) := by
  have q := m25 h a1 0 0
  have hI := h
  unfold PL_25 at q
  unfold P_L_recount at q
  rcases ln_X10_recount q with ⟨r, F1, q, g, b⟩ | ⟨e, F1, q, g, b⟩
  · have q := q.2 _ rfl
    refine el_X11_recount (F0 := F1) (fun q1 G1 q g1 => ?_) (fun f hf => fs_fam (by omega)) q
    refine el_X11_thrown (fun q2 G2 q g2 => ?_) g1 q
    have q := dgA q
    have g3 : ∀ f, f < 40 → G2 f = F1 f := g2
    exact Or.inl ⟨r, F1, ⟨G2, q, g3⟩, g, b⟩
  · rcases q with ⟨he, q⟩ | ⟨he, q⟩
    · skip
      refine el_X11_recount (F0 := F1) (fun q1 G1 q g1 => ?_) (fun _ _ => rfl) q
      refine el_X11_thrown (fun q2 G2 q g2 => ?_) g1 q
      have q := dgA q
      have g3 : ∀ f, f < 40 → G2 f = F1 f := g2
      exact Or.inr ⟨e, F1, ⟨G2, q, g3⟩, g, Or.inl he, b⟩
    · skip
      refine el_X11_recount (F0 := F1) (fun q1 G1 q g1 => ?_) (fun _ _ => rfl) q
      refine el_X11_thrown (fun q2 G2 q g2 => ?_) g1 q
      have q := dgA q
      have g3 : ∀ f, f < 40 → G2 f = F1 f := g2
      exact Or.inr ⟨e, F1, ⟨G2, q, g3⟩, g, Or.inr (he), b⟩
theorem tot_isSettled {k : Nat} {F : GF} (h : Inv k F) (a1 : Int32) : (∃ (r : Int32) (F1 : GF), Inv k F1 ∧ (∀ f, f ∉ ([] : List Nat) → F1 f = F f) ∧ ∀ (K2 : Int32 → GF → Prop) (X2 : String → GF → Prop), K2 r F1 → P_X10_isSettled F a1 K2 X2) ∨ (∃ (e : String) (F1 : GF), Inv k F1 ∧ (∀ f, f ∉ ([] : List Nat) → F1 f = F f) ∧ (e = "java/lang/IndexOutOfBoundsException") ∧ ∀ (K2 : Int32 → GF → Prop) (X2 : String → GF → Prop), X2 e F1 → P_X10_isSettled F a1 K2 X2) := by
  have q := m26 h a1 0 0
  have hI := h
  unfold PL_26 at q
  unfold P_L_isSettled at q
  rcases ln_X10_isSettled q with ⟨r, F1, q, g, b⟩ | ⟨e, F1, q, g, b⟩
  · rcases ite_elim q with ⟨-, q⟩ | ⟨-, q⟩
    · have q := q.2 _ rfl
      refine el_X11_isSettled (F0 := F1) (fun q1 G1 q g1 => ?_) (fun f hf => fs_fam (by omega)) q
      refine el_X11_thrown (fun q2 G2 q g2 => ?_) g1 q
      have q := dgB q
      have g3 : ∀ f, f < 40 → G2 f = F1 f := g2
      have q5 : Inv k F1 := hI.tr (by decide) g (b_sb_fam (g 25 (by decide)) hI.2.1.2.2.2.2.2.2.2.2.2.2.2.2.2.1)
      exact Or.inl ⟨r, F1, q5, g, b⟩
    · have q := q.2 _ rfl
      refine el_X11_isSettled (F0 := F1) (fun q1 G1 q g1 => ?_) (fun f hf => fs_fam (by omega)) q
      refine el_X11_thrown (fun q2 G2 q g2 => ?_) g1 q
      have q := dgB q
      have g3 : ∀ f, f < 40 → G2 f = F1 f := g2
      have q5 : Inv k F1 := hI.tr (by decide) g (b_sb_fam (g 25 (by decide)) hI.2.1.2.2.2.2.2.2.2.2.2.2.2.2.2.1)
      exact Or.inl ⟨r, F1, q5, g, b⟩
  · obtain ⟨he, q⟩ := q
    refine el_X11_isSettled (F0 := F1) (fun q1 G1 q g1 => ?_) (fun _ _ => rfl) q
    refine el_X11_thrown (fun q2 G2 q g2 => ?_) g1 q
    have q := dgB q
    have g3 : ∀ f, f < 40 → G2 f = F1 f := g2
    have q5 : Inv k F1 := hI.tr (by decide) g (b_sb_fam (g 25 (by decide)) hI.2.1.2.2.2.2.2.2.2.2.2.2.2.2.2.1)
    exact Or.inr ⟨e, F1, q5, g, he, b⟩
theorem tot_numberOf {k : Nat} {F : GF} (h : Inv k F) (a1 a2 : Int32) : (∃ (r : Int32) (F1 : GF), Inv k F1 ∧ (∀ f, f ∉ ([] : List Nat) → F1 f = F f) ∧ ∀ (K2 : Int32 → GF → Prop) (X2 : String → GF → Prop), K2 r F1 → P_X10_numberOf F a1 a2 K2 X2) ∨ (∃ (e : String) (F1 : GF), Inv k F1 ∧ (∀ f, f ∉ ([] : List Nat) → F1 f = F f) ∧ (e = "java/lang/IndexOutOfBoundsException" ∨ e = "java/lang/IllegalArgumentException") ∧ ∀ (K2 : Int32 → GF → Prop) (X2 : String → GF → Prop), X2 e F1 → P_X10_numberOf F a1 a2 K2 X2) := by
  have q := m27 h a1 a2 0
  have hI := h
  unfold PL_27 at q
  unfold P_L_numberOf at q
  rcases ln_X10_numberOf q with ⟨r, F1, q, g, b⟩ | ⟨e, F1, q, g, b⟩
  · have q := q.2 _ rfl
    refine el_X11_numberOf (F0 := F1) (fun q1 G1 q g1 => ?_) (fun f hf => fs_fam (by omega)) q
    refine el_X11_thrown (fun q2 G2 q g2 => ?_) g1 q
    have q := dgA q
    have g3 : ∀ f, f < 40 → G2 f = F1 f := g2
    have q5 : Inv k F1 := hI.tr (by decide) g (b_sb_fam (g 25 (by decide)) hI.2.1.2.2.2.2.2.2.2.2.2.2.2.2.2.1)
    exact Or.inl ⟨r, F1, q5, g, b⟩
  · rcases q with ⟨he, q⟩ | ⟨he, q⟩
    · skip
      refine el_X11_numberOf (F0 := F1) (fun q1 G1 q g1 => ?_) (fun _ _ => rfl) q
      refine el_X11_thrown (fun q2 G2 q g2 => ?_) g1 q
      have q := dgA q
      have g3 : ∀ f, f < 40 → G2 f = F1 f := g2
      have q5 : Inv k F1 := hI.tr (by decide) g (b_sb_fam (g 25 (by decide)) hI.2.1.2.2.2.2.2.2.2.2.2.2.2.2.2.1)
      exact Or.inr ⟨e, F1, q5, g, Or.inl he, b⟩
    · skip
      refine el_X11_numberOf (F0 := F1) (fun q1 G1 q g1 => ?_) (fun _ _ => rfl) q
      refine el_X11_thrown (fun q2 G2 q g2 => ?_) g1 q
      have q := dgA q
      have g3 : ∀ f, f < 40 → G2 f = F1 f := g2
      have q5 : Inv k F1 := hI.tr (by decide) g (b_sb_fam (g 25 (by decide)) hI.2.1.2.2.2.2.2.2.2.2.2.2.2.2.2.1)
      exact Or.inr ⟨e, F1, q5, g, Or.inr (he), b⟩
theorem tot_misread {k : Nat} {F : GF} (h : Inv k F) (a1 : Int32) : (∃ (r : Int32) (F1 : GF), Inv k F1 ∧ (∀ f, f ∉ ([] : List Nat) → F1 f = F f) ∧ ∀ (K2 : Int32 → GF → Prop) (X2 : String → GF → Prop), K2 r F1 → P_X10_misread F a1 K2 X2) ∨ (∃ (e : String) (F1 : GF), Inv k F1 ∧ (∀ f, f ∉ ([] : List Nat) → F1 f = F f) ∧ (e = "java/lang/IndexOutOfBoundsException") ∧ ∀ (K2 : Int32 → GF → Prop) (X2 : String → GF → Prop), X2 e F1 → P_X10_misread F a1 K2 X2) := by
  have q := m28 h a1 0 0
  have hI := h
  unfold PL_28 at q
  unfold P_L_misread at q
  rcases ln_X10_misread q with ⟨r, F1, q, g, b⟩ | ⟨e, F1, q, g, b⟩
  · have q := q.2 _ rfl
    refine el_X11_misread (F0 := F1) (fun q1 G1 q g1 => ?_) (fun f hf => fs_fam (by omega)) q
    refine el_X11_thrown (fun q2 G2 q g2 => ?_) g1 q
    have q := dgA q
    have g3 : ∀ f, f < 40 → G2 f = F1 f := g2
    have q5 : Inv k F1 := hI.tr (by decide) g (b_sb_fam (g 25 (by decide)) hI.2.1.2.2.2.2.2.2.2.2.2.2.2.2.2.1)
    exact Or.inl ⟨r, F1, q5, g, b⟩
  · obtain ⟨he, q⟩ := q
    refine el_X11_misread (F0 := F1) (fun q1 G1 q g1 => ?_) (fun _ _ => rfl) q
    refine el_X11_thrown (fun q2 G2 q g2 => ?_) g1 q
    have q := dgA q
    have g3 : ∀ f, f < 40 → G2 f = F1 f := g2
    have q5 : Inv k F1 := hI.tr (by decide) g (b_sb_fam (g 25 (by decide)) hI.2.1.2.2.2.2.2.2.2.2.2.2.2.2.2.1)
    exact Or.inr ⟨e, F1, q5, g, he, b⟩
theorem tot_votes {k : Nat} {F : GF} (h : Inv k F) (a1 : Int32) : (∃ (r : Int32) (F1 : GF), Inv k F1 ∧ (∀ f, f ∉ ([] : List Nat) → F1 f = F f) ∧ ∀ (K2 : Int32 → GF → Prop) (X2 : String → GF → Prop), K2 r F1 → P_X10_votes F a1 K2 X2) ∨ (∃ (e : String) (F1 : GF), Inv k F1 ∧ (∀ f, f ∉ ([] : List Nat) → F1 f = F f) ∧ (e = "java/lang/IndexOutOfBoundsException") ∧ ∀ (K2 : Int32 → GF → Prop) (X2 : String → GF → Prop), X2 e F1 → P_X10_votes F a1 K2 X2) := by
  have q := m29 h a1 0 0
  have hI := h
  unfold PL_29 at q
  unfold P_L_votes at q
  rcases ln_X10_votes q with ⟨r, F1, q, g, b⟩ | ⟨e, F1, q, g, b⟩
  · have q := q.2 _ rfl
    refine el_X11_votes (F0 := F1) (fun q1 G1 q g1 => ?_) (fun f hf => fs_fam (by omega)) q
    refine el_X11_thrown (fun q2 G2 q g2 => ?_) g1 q
    have q := dgA q
    have g3 : ∀ f, f < 40 → G2 f = F1 f := g2
    have q5 : Inv k F1 := hI.tr (by decide) g (b_sb_fam (g 25 (by decide)) hI.2.1.2.2.2.2.2.2.2.2.2.2.2.2.2.1)
    exact Or.inl ⟨r, F1, q5, g, b⟩
  · obtain ⟨he, q⟩ := q
    refine el_X11_votes (F0 := F1) (fun q1 G1 q g1 => ?_) (fun _ _ => rfl) q
    refine el_X11_thrown (fun q2 G2 q g2 => ?_) g1 q
    have q := dgA q
    have g3 : ∀ f, f < 40 → G2 f = F1 f := g2
    have q5 : Inv k F1 := hI.tr (by decide) g (b_sb_fam (g 25 (by decide)) hI.2.1.2.2.2.2.2.2.2.2.2.2.2.2.2.1)
    exact Or.inr ⟨e, F1, q5, g, he, b⟩
theorem tot_seats {k : Nat} {F : GF} (h : Inv k F) (a1 : Int32) : (∃ (r : Int32) (F1 : GF), Inv k F1 ∧ (∀ f, f ∉ ([27, 34, 35, 36, 37] : List Nat) → F1 f = F f) ∧ ∀ (K2 : Int32 → GF → Prop) (X2 : String → GF → Prop), K2 r F1 → P_X10_seats F a1 K2 X2) ∨ (∃ (e : String) (F1 : GF), Inv k F1 ∧ (∀ f, f ∉ ([27, 34, 35, 36, 37] : List Nat) → F1 f = F f) ∧ (e = "java/lang/IndexOutOfBoundsException") ∧ ∀ (K2 : Int32 → GF → Prop) (X2 : String → GF → Prop), X2 e F1 → P_X10_seats F a1 K2 X2) := by
  have q := m30 h a1 0 0
  have hI := h
  unfold PL_30 at q
  unfold P_L_seats at q
  rcases ln_X10_seats q with ⟨r, F1, q, g, b⟩ | ⟨e, F1, q, g, b⟩
  · have q := q.2 _ rfl
    refine el_X11_seats (F0 := F1) (fun q1 G1 q g1 => ?_) (fun f hf => fs_fam (by omega)) q
    refine el_X11_thrown (fun q2 G2 q g2 => ?_) g1 q
    have q := dgA q
    have g3 : ∀ f, f < 40 → G2 f = F1 f := g2
    have q5 : Inv k F1 := hI.tr (by decide) g (b_sb_fam (g 25 (by decide)) hI.2.1.2.2.2.2.2.2.2.2.2.2.2.2.2.1)
    exact Or.inl ⟨r, F1, q5, g, b⟩
  · obtain ⟨he, q⟩ := q
    refine el_X11_seats (F0 := F1) (fun q1 G1 q g1 => ?_) (fun _ _ => rfl) q
    refine el_X11_thrown (fun q2 G2 q g2 => ?_) g1 q
    have q := dgA q
    have g3 : ∀ f, f < 40 → G2 f = F1 f := g2
    have q5 : Inv k F1 := hI.tr (by decide) g (b_sb_fam (g 25 (by decide)) hI.2.1.2.2.2.2.2.2.2.2.2.2.2.2.2.1)
    exact Or.inr ⟨e, F1, q5, g, he, b⟩
theorem tot_seatAt {k : Nat} {F : GF} (h : Inv k F) (a1 : Int32) : (∃ (r : Int32) (F1 : GF), Inv k F1 ∧ (∀ f, f ∉ ([27, 34, 35, 36, 37] : List Nat) → F1 f = F f) ∧ ∀ (K2 : Int32 → GF → Prop) (X2 : String → GF → Prop), K2 r F1 → P_X10_seatAt F a1 K2 X2) ∨ (∃ (e : String) (F1 : GF), Inv k F1 ∧ (∀ f, f ∉ ([27, 34, 35, 36, 37] : List Nat) → F1 f = F f) ∧ (e = "java/lang/IndexOutOfBoundsException") ∧ ∀ (K2 : Int32 → GF → Prop) (X2 : String → GF → Prop), X2 e F1 → P_X10_seatAt F a1 K2 X2) := by
  have q := m31 h a1 0 0
  have hI := h
  unfold PL_31 at q
  unfold P_L_seatAt at q
  rcases ln_X10_seatAt q with ⟨r, F1, q, g, b⟩ | ⟨e, F1, q, g, b⟩
  · have q := q.2 _ rfl
    refine el_X11_seatAt (F0 := F1) (fun q1 G1 q g1 => ?_) (fun f hf => fs_fam (by omega)) q
    refine el_X11_thrown (fun q2 G2 q g2 => ?_) g1 q
    have q := dgA q
    have g3 : ∀ f, f < 40 → G2 f = F1 f := g2
    have q5 : Inv k F1 := hI.tr (by decide) g (b_sb_fam (g 25 (by decide)) hI.2.1.2.2.2.2.2.2.2.2.2.2.2.2.2.1)
    exact Or.inl ⟨r, F1, q5, g, b⟩
  · obtain ⟨he, q⟩ := q
    refine el_X11_seatAt (F0 := F1) (fun q1 G1 q g1 => ?_) (fun _ _ => rfl) q
    refine el_X11_thrown (fun q2 G2 q g2 => ?_) g1 q
    have q := dgA q
    have g3 : ∀ f, f < 40 → G2 f = F1 f := g2
    have q5 : Inv k F1 := hI.tr (by decide) g (b_sb_fam (g 25 (by decide)) hI.2.1.2.2.2.2.2.2.2.2.2.2.2.2.2.1)
    exact Or.inr ⟨e, F1, q5, g, he, b⟩
theorem tot_lots {k : Nat} {F : GF} (h : Inv k F) : ∃ (r : Int32) (F1 : GF), Inv k F1 ∧ (∀ f, f ∉ ([27, 34, 35, 36, 37] : List Nat) → F1 f = F f) ∧ ∀ (K2 : Int32 → GF → Prop), K2 r F1 → P_X10_lots F K2 := by
  have q := m32 h 0 0 0
  have hI := h
  unfold PL_32 at q
  obtain ⟨r, F1, q, g, b⟩ := ln_X10_lots q
  refine el_X11_lots (F0 := F1) (fun q1 G1 q g1 => ?_) (fun _ _ => rfl) q
  have q := dgC q
  have g3 : ∀ f, f < 40 → G1 f = F1 f := g1
  have q5 : Inv k F1 := hI.tr (by decide) g (b_sb_fam (g 25 (by decide)) hI.2.1.2.2.2.2.2.2.2.2.2.2.2.2.2.1)
  exact ⟨r, F1, q5, g, b⟩
theorem tot_seatsByBallots {k : Nat} {F : GF} (h : Inv k F) (a1 : Int32) : (∃ (r : Int32) (F1 : GF), Inv k F1 ∧ (∀ f, f ∉ ([27, 34, 35, 36, 37] : List Nat) → F1 f = F f) ∧ ∀ (K2 : Int32 → GF → Prop) (X2 : String → GF → Prop), K2 r F1 → P_X10_seatsByBallots F a1 K2 X2) ∨ (∃ (e : String) (F1 : GF), Inv k F1 ∧ (∀ f, f ∉ ([27, 34, 35, 36, 37] : List Nat) → F1 f = F f) ∧ (e = "java/lang/IndexOutOfBoundsException") ∧ ∀ (K2 : Int32 → GF → Prop) (X2 : String → GF → Prop), X2 e F1 → P_X10_seatsByBallots F a1 K2 X2) := by
  have q := m33 h a1 0 0
  have hI := h
  unfold PL_33 at q
  unfold P_L_seatsByBallots at q
  rcases ln_X10_seatsByBallots q with ⟨r, F1, q, g, b⟩ | ⟨e, F1, q, g, b⟩
  · have q := q.2 _ rfl
    refine el_X11_seatsByBallots (F0 := F1) (fun q1 G1 q g1 => ?_) (fun f hf => fs_fam (by omega)) q
    refine el_X11_thrown (fun q2 G2 q g2 => ?_) g1 q
    have q := dgA q
    have g3 : ∀ f, f < 40 → G2 f = F1 f := g2
    have q5 : Inv k F1 := hI.tr (by decide) g (b_sb_fam (g 25 (by decide)) hI.2.1.2.2.2.2.2.2.2.2.2.2.2.2.2.1)
    exact Or.inl ⟨r, F1, q5, g, b⟩
  · obtain ⟨he, q⟩ := q
    refine el_X11_seatsByBallots (F0 := F1) (fun q1 G1 q g1 => ?_) (fun _ _ => rfl) q
    refine el_X11_thrown (fun q2 G2 q g2 => ?_) g1 q
    have q := dgA q
    have g3 : ∀ f, f < 40 → G2 f = F1 f := g2
    have q5 : Inv k F1 := hI.tr (by decide) g (b_sb_fam (g 25 (by decide)) hI.2.1.2.2.2.2.2.2.2.2.2.2.2.2.2.1)
    exact Or.inr ⟨e, F1, q5, g, he, b⟩
theorem tot_notes {k : Nat} {F : GF} (h : Inv k F) : ∃ (r : Int32) (F1 : GF), Inv k F1 ∧ (∀ f, f ∉ ([] : List Nat) → F1 f = F f) ∧ ∀ (K2 : Int32 → GF → Prop), K2 r F1 → P_X10_notes F K2 := by
  have q := m34 h 0 0 0
  have hI := h
  unfold PL_34 at q
  obtain ⟨r, F1, q, g, b⟩ := ln_X10_notes q
  refine el_X11_notes_ (F0 := F1) (fun q1 G1 q g1 => ?_) (fun _ _ => rfl) q
  have q := dgC q
  have g3 : ∀ f, f < 40 → G1 f = F1 f := g1
  have q5 : Inv k F1 := hI.tr (by decide) g (b_sb_fam (g 25 (by decide)) hI.2.1.2.2.2.2.2.2.2.2.2.2.2.2.2.1)
  exact ⟨r, F1, q5, g, b⟩
theorem tot_signAt {k : Nat} {F : GF} (hk : k < 512) (h : Inv k F) (a1 a2 : Int32) : (∃ (r : Int32) (F1 : GF), Inv k F1 ∧ (∀ f, f ∉ ([25, 26] : List Nat) → F1 f = F f) ∧ ∀ (K2 : Int32 → GF → Prop) (X2 : String → GF → Prop), K2 r F1 → P_X10_signAt F a1 a2 K2 X2) ∨ (∃ (e : String) (F1 : GF), Inv k F1 ∧ (∀ f, f ∉ ([25, 26] : List Nat) → F1 f = F f) ∧ (e = "java/lang/IndexOutOfBoundsException") ∧ ∀ (K2 : Int32 → GF → Prop) (X2 : String → GF → Prop), X2 e F1 → P_X10_signAt F a1 a2 K2 X2) := by
  have q := m35 hk h a1 a2 0
  have hI := h
  unfold PL_35 at q
  unfold P_L_signAt at q
  rcases ln_X10_signAt q with ⟨r, F1, q, g, b⟩ | ⟨e, F1, q, g, b⟩
  · have q := q.2 _ rfl
    refine el_X11_signAt (F0 := F1) (fun q1 G1 q g1 => ?_) (fun f hf => fs_fam (by omega)) q
    refine el_X11_thrown (fun q2 G2 q g2 => ?_) g1 q
    have q := dgA q
    have g3 : ∀ f, f < 40 → G2 f = F1 f := g2
    have q5 : Inv k F1 := hI.tr (by decide) g (b_sb_fam (g3 25 (by decide)).symm q.2.1.2.2.2.2.2.2.2.2.2.2.2.2.2.1)
    exact Or.inl ⟨r, F1, q5, g, b⟩
  · obtain ⟨he, q⟩ := q
    refine el_X11_signAt (F0 := F1) (fun q1 G1 q g1 => ?_) (fun _ _ => rfl) q
    refine el_X11_thrown (fun q2 G2 q g2 => ?_) g1 q
    have q := dgA q
    have g3 : ∀ f, f < 40 → G2 f = F1 f := g2
    have q5 : Inv k F1 := hI.tr (by decide) g (b_sb_fam (g3 25 (by decide)).symm q.2.1.2.2.2.2.2.2.2.2.2.2.2.2.2.1)
    exact Or.inr ⟨e, F1, q5, g, he, b⟩
