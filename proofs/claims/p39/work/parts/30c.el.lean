/-- the same ahead of family 40 -/
def Fr (F0 F : GF) : Prop := ∀ f, f < 40 → F f = F0 f
theorem Fr.fs4 {F0 F G : GF} {f i k : Nat} {v : Int32} (e : G = fs F f i k v) (g : Fr F0 F) (hf : 40 ≤ f) : Fr F0 G := fun q hq => by
  rw [e, fs_fam (by omega)]
  exact g q hq

theorem el_X11_thrown {F0 : GF} {C : Prop} {F : GF} {K : Int32 → GF → Prop} (hK : ∀ (z0 : Int32) (z1 : GF), K z0 z1 → Fr F0 z1 → C) (g : Fr F0 F) (h : P_X11_thrown F K) : C := by
  unfold P_X11_thrown at h
  exact hK _ _ h g
theorem el_X11_in {F0 : GF} {C : Prop} {F : GF} {p0 : Int32} {p1 : Int32} {p2 : Int32} {K : Int32 → GF → Prop} (hK : ∀ (z0 : Int32) (z1 : GF), K z0 z1 → Fr F0 z1 → C) (g : Fr F0 F) (h : P_X11_in F p0 p1 p2 K) : C := by
  unfold P_X11_in at h
  rcases ite_elim h with ⟨-, h⟩ | ⟨-, h⟩
  · skip
    exact hK _ _ h g
  · skip
    rcases ite_elim h with ⟨-, h⟩ | ⟨-, h⟩
    · skip
      exact hK _ _ h g
    · skip
      exact hK _ _ h g
theorem el_X11_asked {F0 : GF} {C : Prop} {F : GF} {p1 : Int32} {K : Int32 → GF → Prop} (hK : ∀ (z0 : Int32) (z1 : GF), K z0 z1 → Fr F0 z1 → C) (g : Fr F0 F) (h : P_X11_asked F p1 K) : C := by
  unfold P_X11_asked at h
  rcases ite_elim h with ⟨-, h⟩ | ⟨-, h⟩
  · skip
    unfold P_X11_asked_10 at h
    obtain ⟨G1, e2, h⟩ := st_all h
    have g3 := Fr.fs4 e2 g (by decide)
    have h := h.2
    exact hK _ _ h g3
  · skip
    unfold P_X11_asked_10 at h
    obtain ⟨G4, e5, h⟩ := st_all h
    have g6 := Fr.fs4 e5 g (by decide)
    have h := h.2
    exact hK _ _ h g6
theorem el_X11_asked_ {F0 : GF} {C : Prop} {F : GF} {p1 : Int32} {p2 : Int32} {K : Int32 → GF → Prop} (hK : ∀ (z0 : Int32) (z1 : GF), K z0 z1 → Fr F0 z1 → C) (g : Fr F0 F) (h : P_X11_asked_ F p1 p2 K) : C := by
  unfold P_X11_asked_ at h
  rcases ite_elim h with ⟨-, h⟩ | ⟨-, h⟩
  · skip
    unfold P_X11_asked__18 at h
    obtain ⟨G1, e2, h⟩ := st_all h
    have g3 := Fr.fs4 e2 g (by decide)
    rcases ite_elim h with ⟨-, h⟩ | ⟨-, h⟩
    · skip
      exact hK _ _ h g3
    · skip
      exact hK _ _ h g3
  · skip
    rcases ite_elim h with ⟨-, h⟩ | ⟨-, h⟩
    · skip
      unfold P_X11_asked__18 at h
      obtain ⟨G4, e5, h⟩ := st_all h
      have g6 := Fr.fs4 e5 g (by decide)
      rcases ite_elim h with ⟨-, h⟩ | ⟨-, h⟩
      · skip
        exact hK _ _ h g6
      · skip
        exact hK _ _ h g6
    · skip
      unfold P_X11_asked__18 at h
      obtain ⟨G7, e8, h⟩ := st_all h
      have g9 := Fr.fs4 e8 g (by decide)
      rcases ite_elim h with ⟨-, h⟩ | ⟨-, h⟩
      · skip
        exact hK _ _ h g9
      · skip
        exact hK _ _ h g9
theorem el_X11_asked__ {F0 : GF} {C : Prop} {F : GF} {p1 : Int32} {p2 : Int32} {p3 : Int32} {K : Int32 → GF → Prop} (hK : ∀ (z0 : Int32) (z1 : GF), K z0 z1 → Fr F0 z1 → C) (g : Fr F0 F) (h : P_X11_asked__ F p1 p2 p3 K) : C := by
  unfold P_X11_asked__ at h
  rcases ite_elim h with ⟨-, h⟩ | ⟨-, h⟩
  · skip
    unfold P_X11_asked___26 at h
    obtain ⟨G1, e2, h⟩ := st_all h
    have g3 := Fr.fs4 e2 g (by decide)
    rcases ite_elim h with ⟨-, h⟩ | ⟨-, h⟩
    · skip
      exact hK _ _ h g3
    · skip
      exact hK _ _ h g3
  · skip
    rcases ite_elim h with ⟨-, h⟩ | ⟨-, h⟩
    · skip
      unfold P_X11_asked___26 at h
      obtain ⟨G4, e5, h⟩ := st_all h
      have g6 := Fr.fs4 e5 g (by decide)
      rcases ite_elim h with ⟨-, h⟩ | ⟨-, h⟩
      · skip
        exact hK _ _ h g6
      · skip
        exact hK _ _ h g6
    · skip
      rcases ite_elim h with ⟨-, h⟩ | ⟨-, h⟩
      · skip
        unfold P_X11_asked___26 at h
        obtain ⟨G7, e8, h⟩ := st_all h
        have g9 := Fr.fs4 e8 g (by decide)
        rcases ite_elim h with ⟨-, h⟩ | ⟨-, h⟩
        · skip
          exact hK _ _ h g9
        · skip
          exact hK _ _ h g9
      · skip
        unfold P_X11_asked___26 at h
        obtain ⟨G10, e11, h⟩ := st_all h
        have g12 := Fr.fs4 e11 g (by decide)
        rcases ite_elim h with ⟨-, h⟩ | ⟨-, h⟩
        · skip
          exact hK _ _ h g12
        · skip
          exact hK _ _ h g12
theorem el_X11_told {F0 : GF} {C : Prop} {F : GF} {p1 : Int32} {K : Int32 → GF → Prop} (hK : ∀ (z0 : Int32) (z1 : GF), K z0 z1 → Fr F0 z1 → C) (g : Fr F0 F) (h : P_X11_told F p1 K) : C := by
  unfold P_X11_told at h
  obtain ⟨G1, e2, h⟩ := st_all h
  have g3 := Fr.fs4 e2 g (by decide)
  exact hK _ _ h g3
theorem el_X11_isCrossing {F0 : GF} {C : Prop} {F : GF} {p0 : Int32} {K : Int32 → GF → Prop} (hK : ∀ (z0 : Int32) (z1 : GF), K z0 z1 → Fr F0 z1 → C) (g : Fr F0 F) (h : P_X11_isCrossing F p0 K) : C := by
  unfold P_X11_isCrossing at h
  refine el_X11_in (fun _ _ h g1 => ?_) g h
  have h := h.2
  exact hK _ _ h g1
theorem el_X11_isStation {F0 : GF} {C : Prop} {F : GF} {p1 : Int32} {K : Int32 → GF → Prop} (hK : ∀ (z0 : Int32) (z1 : GF), K z0 z1 → Fr F0 z1 → C) (g : Fr F0 F) (h : P_X11_isStation F p1 K) : C := by
  unfold P_X11_isStation at h
  refine el_X11_in (fun _ _ h g1 => ?_) g h
  have h := h.2
  exact hK _ _ h g1
theorem el_X11_isPerson {F0 : GF} {C : Prop} {F : GF} {p1 : Int32} {K : Int32 → GF → Prop} (hK : ∀ (z0 : Int32) (z1 : GF), K z0 z1 → Fr F0 z1 → C) (g : Fr F0 F) (h : P_X11_isPerson F p1 K) : C := by
  unfold P_X11_isPerson at h
  refine el_X11_in (fun _ _ h g1 => ?_) g h
  have h := h.2
  exact hK _ _ h g1
theorem el_X11_street {F0 : GF} {C : Prop} {F : GF} {p0 : Int32} {p1 : Int32} {K : Int32 → GF → Prop} (hK : ∀ (z0 : Int32) (z1 : GF), K z0 z1 → Fr F0 z1 → C) (g : Fr F0 F) (h : P_X11_street F p0 p1 K) : C := by
  unfold P_X11_street at h
  rcases ite_elim h with ⟨-, h⟩ | ⟨-, h⟩
  · skip
    unfold P_X11_street_10 at h
    rcases ite_elim h with ⟨-, h⟩ | ⟨-, h⟩
    · skip
      unfold P_X11_street_21 at h
      rcases ite_elim h with ⟨-, h⟩ | ⟨-, h⟩
      · skip
        rcases ite_elim h with ⟨-, h⟩ | ⟨-, h⟩
        · skip
          unfold P_X11_street_40 at h
          rcases ite_elim h with ⟨-, h⟩ | ⟨-, h⟩
          · skip
            exact hK _ _ h g
          · skip
            exact hK _ _ h g
        · skip
          exact hK _ _ h g
      · skip
        unfold P_X11_street_40 at h
        rcases ite_elim h with ⟨-, h⟩ | ⟨-, h⟩
        · skip
          exact hK _ _ h g
        · skip
          exact hK _ _ h g
    · skip
      unfold P_X11_street_21 at h
      rcases ite_elim h with ⟨-, h⟩ | ⟨-, h⟩
      · skip
        rcases ite_elim h with ⟨-, h⟩ | ⟨-, h⟩
        · skip
          unfold P_X11_street_40 at h
          rcases ite_elim h with ⟨-, h⟩ | ⟨-, h⟩
          · skip
            exact hK _ _ h g
          · skip
            exact hK _ _ h g
        · skip
          exact hK _ _ h g
      · skip
        unfold P_X11_street_40 at h
        rcases ite_elim h with ⟨-, h⟩ | ⟨-, h⟩
        · skip
          exact hK _ _ h g
        · skip
          exact hK _ _ h g
  · skip
    unfold P_X11_street_10 at h
    rcases ite_elim h with ⟨-, h⟩ | ⟨-, h⟩
    · skip
      unfold P_X11_street_21 at h
      rcases ite_elim h with ⟨-, h⟩ | ⟨-, h⟩
      · skip
        rcases ite_elim h with ⟨-, h⟩ | ⟨-, h⟩
        · skip
          unfold P_X11_street_40 at h
          rcases ite_elim h with ⟨-, h⟩ | ⟨-, h⟩
          · skip
            exact hK _ _ h g
          · skip
            exact hK _ _ h g
        · skip
          exact hK _ _ h g
      · skip
        unfold P_X11_street_40 at h
        rcases ite_elim h with ⟨-, h⟩ | ⟨-, h⟩
        · skip
          exact hK _ _ h g
        · skip
          exact hK _ _ h g
    · skip
      unfold P_X11_street_21 at h
      rcases ite_elim h with ⟨-, h⟩ | ⟨-, h⟩
      · skip
        rcases ite_elim h with ⟨-, h⟩ | ⟨-, h⟩
        · skip
          unfold P_X11_street_40 at h
          rcases ite_elim h with ⟨-, h⟩ | ⟨-, h⟩
          · skip
            exact hK _ _ h g
          · skip
            exact hK _ _ h g
        · skip
          exact hK _ _ h g
      · skip
        unfold P_X11_street_40 at h
        rcases ite_elim h with ⟨-, h⟩ | ⟨-, h⟩
        · skip
          exact hK _ _ h g
        · skip
          exact hK _ _ h g
theorem el_X11_bar {F0 : GF} {C : Prop} {F : GF} {p1 : Int32} {p2 : Int32} {p3 : Int32} {K : Int32 → GF → Prop} (hK : ∀ (z0 : Int32) (z1 : GF), K z0 z1 → Fr F0 z1 → C) (g : Fr F0 F) (h : P_X11_bar F p1 p2 p3 K) : C := by
  unfold P_X11_bar at h
  refine el_X11_isCrossing (fun _ _ h g1 => ?_) g h
  rcases ite_elim h with ⟨-, h⟩ | ⟨-, h⟩
  · skip
    unfold P_X11_bar_18 at h
    unfold P_X11_bar_19 at h
    rcases ite_elim h with ⟨-, h⟩ | ⟨-, h⟩
    · skip
      unfold P_X11_bar_35 at h
      rcases ite_elim h with ⟨-, h⟩ | ⟨-, h⟩
      · skip
        unfold P_X11_bar_51 at h
        refine el_X11_asked_ (fun _ _ h g2 => ?_) g1 h
        rcases ite_elim h with ⟨-, h⟩ | ⟨-, h⟩
        · skip
          exact hK _ _ h g2
        · skip
          have h := h.2
          have h := h.2
          have h := h.2
          obtain ⟨G3, e4, h⟩ := st_all h
          have g5 := Fr.fs4 e4 g2 (by decide)
          have h := h.2
          exact hK _ _ h g5
      · skip
        unfold P_X11_bar_51 at h
        refine el_X11_asked_ (fun _ _ h g6 => ?_) g1 h
        rcases ite_elim h with ⟨-, h⟩ | ⟨-, h⟩
        · skip
          exact hK _ _ h g6
        · skip
          have h := h.2
          have h := h.2
          have h := h.2
          obtain ⟨G7, e8, h⟩ := st_all h
          have g9 := Fr.fs4 e8 g6 (by decide)
          have h := h.2
          exact hK _ _ h g9
    · skip
      refine el_X11_street (fun _ _ h g10 => ?_) g1 h
      unfold P_X11_bar_35 at h
      rcases ite_elim h with ⟨-, h⟩ | ⟨-, h⟩
      · skip
        unfold P_X11_bar_51 at h
        refine el_X11_asked_ (fun _ _ h g11 => ?_) g10 h
        rcases ite_elim h with ⟨-, h⟩ | ⟨-, h⟩
        · skip
          exact hK _ _ h g11
        · skip
          have h := h.2
          have h := h.2
          have h := h.2
          obtain ⟨G12, e13, h⟩ := st_all h
          have g14 := Fr.fs4 e13 g11 (by decide)
          have h := h.2
          exact hK _ _ h g14
      · skip
        unfold P_X11_bar_51 at h
        refine el_X11_asked_ (fun _ _ h g15 => ?_) g10 h
        rcases ite_elim h with ⟨-, h⟩ | ⟨-, h⟩
        · skip
          exact hK _ _ h g15
        · skip
          have h := h.2
          have h := h.2
          have h := h.2
          obtain ⟨G16, e17, h⟩ := st_all h
          have g18 := Fr.fs4 e17 g15 (by decide)
          have h := h.2
          exact hK _ _ h g18
  · skip
    refine el_X11_isCrossing (fun _ _ h g19 => ?_) g1 h
    rcases ite_elim h with ⟨-, h⟩ | ⟨-, h⟩
    · skip
      unfold P_X11_bar_18 at h
      unfold P_X11_bar_19 at h
      rcases ite_elim h with ⟨-, h⟩ | ⟨-, h⟩
      · skip
        unfold P_X11_bar_35 at h
        rcases ite_elim h with ⟨-, h⟩ | ⟨-, h⟩
        · skip
          unfold P_X11_bar_51 at h
          refine el_X11_asked_ (fun _ _ h g20 => ?_) g19 h
          rcases ite_elim h with ⟨-, h⟩ | ⟨-, h⟩
          · skip
            exact hK _ _ h g20
          · skip
            have h := h.2
            have h := h.2
            have h := h.2
            obtain ⟨G21, e22, h⟩ := st_all h
            have g23 := Fr.fs4 e22 g20 (by decide)
            have h := h.2
            exact hK _ _ h g23
        · skip
          unfold P_X11_bar_51 at h
          refine el_X11_asked_ (fun _ _ h g24 => ?_) g19 h
          rcases ite_elim h with ⟨-, h⟩ | ⟨-, h⟩
          · skip
            exact hK _ _ h g24
          · skip
            have h := h.2
            have h := h.2
            have h := h.2
            obtain ⟨G25, e26, h⟩ := st_all h
            have g27 := Fr.fs4 e26 g24 (by decide)
            have h := h.2
            exact hK _ _ h g27
      · skip
        refine el_X11_street (fun _ _ h g28 => ?_) g19 h
        unfold P_X11_bar_35 at h
        rcases ite_elim h with ⟨-, h⟩ | ⟨-, h⟩
        · skip
          unfold P_X11_bar_51 at h
          refine el_X11_asked_ (fun _ _ h g29 => ?_) g28 h
          rcases ite_elim h with ⟨-, h⟩ | ⟨-, h⟩
          · skip
            exact hK _ _ h g29
          · skip
            have h := h.2
            have h := h.2
            have h := h.2
            obtain ⟨G30, e31, h⟩ := st_all h
            have g32 := Fr.fs4 e31 g29 (by decide)
            have h := h.2
            exact hK _ _ h g32
        · skip
          unfold P_X11_bar_51 at h
          refine el_X11_asked_ (fun _ _ h g33 => ?_) g28 h
          rcases ite_elim h with ⟨-, h⟩ | ⟨-, h⟩
          · skip
            exact hK _ _ h g33
          · skip
            have h := h.2
            have h := h.2
            have h := h.2
            obtain ⟨G34, e35, h⟩ := st_all h
            have g36 := Fr.fs4 e35 g33 (by decide)
            have h := h.2
            exact hK _ _ h g36
    · skip
      unfold P_X11_bar_19 at h
      rcases ite_elim h with ⟨-, h⟩ | ⟨-, h⟩
      · skip
        unfold P_X11_bar_35 at h
        rcases ite_elim h with ⟨-, h⟩ | ⟨-, h⟩
        · skip
          unfold P_X11_bar_51 at h
          refine el_X11_asked_ (fun _ _ h g37 => ?_) g19 h
          rcases ite_elim h with ⟨-, h⟩ | ⟨-, h⟩
          · skip
            exact hK _ _ h g37
          · skip
            have h := h.2
            have h := h.2
            have h := h.2
            obtain ⟨G38, e39, h⟩ := st_all h
            have g40 := Fr.fs4 e39 g37 (by decide)
            have h := h.2
            exact hK _ _ h g40
        · skip
          unfold P_X11_bar_51 at h
          refine el_X11_asked_ (fun _ _ h g41 => ?_) g19 h
          rcases ite_elim h with ⟨-, h⟩ | ⟨-, h⟩
          · skip
            exact hK _ _ h g41
          · skip
            have h := h.2
            have h := h.2
            have h := h.2
            obtain ⟨G42, e43, h⟩ := st_all h
            have g44 := Fr.fs4 e43 g41 (by decide)
            have h := h.2
            exact hK _ _ h g44
      · skip
        refine el_X11_street (fun _ _ h g45 => ?_) g19 h
        unfold P_X11_bar_35 at h
        rcases ite_elim h with ⟨-, h⟩ | ⟨-, h⟩
        · skip
          unfold P_X11_bar_51 at h
          refine el_X11_asked_ (fun _ _ h g46 => ?_) g45 h
          rcases ite_elim h with ⟨-, h⟩ | ⟨-, h⟩
          · skip
            exact hK _ _ h g46
          · skip
            have h := h.2
            have h := h.2
            have h := h.2
            obtain ⟨G47, e48, h⟩ := st_all h
            have g49 := Fr.fs4 e48 g46 (by decide)
            have h := h.2
            exact hK _ _ h g49
        · skip
          unfold P_X11_bar_51 at h
          refine el_X11_asked_ (fun _ _ h g50 => ?_) g45 h
          rcases ite_elim h with ⟨-, h⟩ | ⟨-, h⟩
          · skip
            exact hK _ _ h g50
          · skip
            have h := h.2
            have h := h.2
            have h := h.2
            obtain ⟨G51, e52, h⟩ := st_all h
            have g53 := Fr.fs4 e52 g50 (by decide)
            have h := h.2
            exact hK _ _ h g53
theorem el_X11_finds_47 {F0 : GF} {C : Prop}  {k39 : GF → Int32 → Int32 → Prop} {K : GF → Prop} (hk39 : ∀ (z0 : GF) (z1 : Int32) (z2 : Int32), k39 z0 z1 z2 → Fr F0 z0 → C) (hK : ∀ (z0 : GF), K z0 → Fr F0 z0 → C) : ∀ (n : Nat) (F : GF) (x2 : Int32) (x3 : Int32) (x4 : Int32), Fr F0 F → P_X11_finds_47 k39 K n F x2 x3 x4 → C := by
  intro n
  induction n with
  | zero => exact fun _ _ _ _ _ h => False.elim h
  | succ n ih =>
    intro F x2 x3 x4 g h
    rw [P_X11_finds_47] at h
    rcases ite_elim h with ⟨-, h⟩ | ⟨-, h⟩
    · skip
      exact hk39 _ _ _ h g
    · skip
      have h := h.2
      refine el_X11_street (fun _ _ h g1 => ?_) g h
      rcases ite_elim h with ⟨-, h⟩ | ⟨-, h⟩
      · skip
        unfold P_X11_finds_125 at h
        exact ih _ _ _ _ g1 h
      · skip
        have h := h.2
        rcases ite_elim h with ⟨-, h⟩ | ⟨-, h⟩
        · skip
          have h := h.2
          rcases ite_elim h with ⟨-, h⟩ | ⟨-, h⟩
          · skip
            have h := h.2
            have h := h.2
            have h := h.2
            obtain ⟨G2, e3, h⟩ := st_all h
            have g4 := Fr.fs4 e3 g1 (by decide)
            have h := h.2
            obtain ⟨G5, e6, h⟩ := st_all h
            have g7 := Fr.fs4 e6 g4 (by decide)
            unfold P_X11_finds_125 at h
            exact ih _ _ _ _ g7 h
          · skip
            unfold P_X11_finds_125 at h
            exact ih _ _ _ _ g1 h
        · skip
          unfold P_X11_finds_125 at h
          exact ih _ _ _ _ g1 h
theorem el_X11_finds_39 {F0 : GF} {C : Prop}  {K : GF → Prop} (hK : ∀ (z0 : GF), K z0 → Fr F0 z0 → C) : ∀ (n : Nat) (F : GF) (x2 : Int32) (x3 : Int32), Fr F0 F → P_X11_finds_39 K n F x2 x3 → C := by
  intro n
  induction n with
  | zero => exact fun _ _ _ _ h => False.elim h
  | succ n ih =>
    intro F x2 x3 g h
    rw [P_X11_finds_39] at h
    rcases ite_elim h with ⟨-, h⟩ | ⟨-, h⟩
    · skip
      exact hK _ h g
    · skip
      obtain ⟨n1, h⟩ := h
      refine el_X11_finds_47 (fun _ _ _ h g2 => ?_) hK n1 _ _ _ _ g h
      exact ih _ _ _ g2 h
theorem el_X11_finds_2 {F0 : GF} {C : Prop}  {K : GF → Prop} (hK : ∀ (z0 : GF), K z0 → Fr F0 z0 → C) : ∀ (n : Nat) (F : GF) (x1 : Int32) (x2 : Int32), Fr F0 F → P_X11_finds_2 K n F x1 x2 → C := by
  intro n
  induction n with
  | zero => exact fun _ _ _ _ h => False.elim h
  | succ n ih =>
    intro F x1 x2 g h
    rw [P_X11_finds_2] at h
    rcases ite_elim h with ⟨-, h⟩ | ⟨-, h⟩
    · skip
      have h := h.2
      obtain ⟨G1, e2, h⟩ := st_all h
      have g3 := Fr.fs4 e2 g (by decide)
      have h := h.2
      obtain ⟨G4, e5, h⟩ := st_all h
      have g6 := Fr.fs4 e5 g3 (by decide)
      obtain ⟨n7, h⟩ := h
      refine el_X11_finds_39 hK n7 _ _ _ g6 h
    · skip
      have h := h.2
      obtain ⟨G8, e9, h⟩ := st_all h
      have g10 := Fr.fs4 e9 g (by decide)
      exact ih _ _ _ g10 h
theorem el_X11_finds {F0 : GF} {C : Prop} {F : GF} {p1 : Int32} {K : GF → Prop} (hK : ∀ (z0 : GF), K z0 → Fr F0 z0 → C) (g : Fr F0 F) (h : P_X11_finds F p1 K) : C := by
  unfold P_X11_finds at h
  obtain ⟨n1, h⟩ := h
  refine el_X11_finds_2 hK n1 _ _ _ g h
theorem el_X11_way {F0 : GF} {C : Prop} {F : GF} {p1 : Int32} {p2 : Int32} {K : Int32 → GF → Prop} (hK : ∀ (z0 : Int32) (z1 : GF), K z0 z1 → Fr F0 z1 → C) (g : Fr F0 F) (h : P_X11_way F p1 p2 K) : C := by
  unfold P_X11_way at h
  refine el_X11_isCrossing (fun _ _ h g1 => ?_) g h
  rcases ite_elim h with ⟨-, h⟩ | ⟨-, h⟩
  · skip
    unfold P_X11_way_19 at h
    unfold P_X11_way_20 at h
    refine el_X11_asked (fun _ _ h g2 => ?_) g1 h
    rcases ite_elim h with ⟨-, h⟩ | ⟨-, h⟩
    · skip
      exact hK _ _ h g2
    · skip
      refine el_X11_finds (fun _ h g3 => ?_) g2 h
      have h := h.2
      exact hK _ _ h g3
  · skip
    refine el_X11_isCrossing (fun _ _ h g4 => ?_) g1 h
    rcases ite_elim h with ⟨-, h⟩ | ⟨-, h⟩
    · skip
      unfold P_X11_way_19 at h
      unfold P_X11_way_20 at h
      refine el_X11_asked (fun _ _ h g5 => ?_) g4 h
      rcases ite_elim h with ⟨-, h⟩ | ⟨-, h⟩
      · skip
        exact hK _ _ h g5
      · skip
        refine el_X11_finds (fun _ h g6 => ?_) g5 h
        have h := h.2
        exact hK _ _ h g6
    · skip
      unfold P_X11_way_20 at h
      refine el_X11_asked (fun _ _ h g7 => ?_) g4 h
      rcases ite_elim h with ⟨-, h⟩ | ⟨-, h⟩
      · skip
        exact hK _ _ h g7
      · skip
        refine el_X11_finds (fun _ h g8 => ?_) g7 h
        have h := h.2
        exact hK _ _ h g8
theorem el_X11_station {F0 : GF} {C : Prop} {F : GF} {p1 : Int32} {p2 : Int32} {K : Int32 → GF → Prop} (hK : ∀ (z0 : Int32) (z1 : GF), K z0 z1 → Fr F0 z1 → C) (g : Fr F0 F) (h : P_X11_station F p1 p2 K) : C := by
  unfold P_X11_station at h
  refine el_X11_isCrossing (fun _ _ h g1 => ?_) g h
  refine el_X11_in (fun _ _ h g2 => ?_) g1 h
  rcases ite_elim h with ⟨-, h⟩ | ⟨-, h⟩
  · skip
    unfold P_X11_station_25 at h
    refine el_X11_asked__ (fun _ _ h g3 => ?_) g2 h
    rcases ite_elim h with ⟨-, h⟩ | ⟨-, h⟩
    · skip
      exact hK _ _ h g3
    · skip
      have h := h.2
      obtain ⟨G4, e5, h⟩ := st_all h
      have g6 := Fr.fs4 e5 g3 (by decide)
      have h := h.2
      obtain ⟨G7, e8, h⟩ := st_all h
      have g9 := Fr.fs4 e8 g6 (by decide)
      obtain ⟨G10, e11, h⟩ := st_all h
      have g12 := Fr.fs4 e11 g9 (by decide)
      exact hK _ _ h g12
  · skip
    unfold P_X11_station_25 at h
    refine el_X11_asked__ (fun _ _ h g13 => ?_) g2 h
    rcases ite_elim h with ⟨-, h⟩ | ⟨-, h⟩
    · skip
      exact hK _ _ h g13
    · skip
      have h := h.2
      obtain ⟨G14, e15, h⟩ := st_all h
      have g16 := Fr.fs4 e15 g13 (by decide)
      have h := h.2
      obtain ⟨G17, e18, h⟩ := st_all h
      have g19 := Fr.fs4 e18 g16 (by decide)
      obtain ⟨G20, e21, h⟩ := st_all h
      have g22 := Fr.fs4 e21 g19 (by decide)
      exact hK _ _ h g22
theorem el_X11_setSeats {F0 : GF} {C : Prop} {F : GF} {p1 : Int32} {p2 : Int32} {K : Int32 → GF → Prop} (hK : ∀ (z0 : Int32) (z1 : GF), K z0 z1 → Fr F0 z1 → C) (g : Fr F0 F) (h : P_X11_setSeats F p1 p2 K) : C := by
  unfold P_X11_setSeats at h
  refine el_X11_isStation (fun _ _ h g1 => ?_) g h
  refine el_X11_in (fun _ _ h g2 => ?_) g1 h
  refine el_X11_asked_ (fun _ _ h g3 => ?_) g2 h
  rcases ite_elim h with ⟨-, h⟩ | ⟨-, h⟩
  · skip
    exact hK _ _ h g3
  · skip
    have h := h.2
    have h := h.2
    obtain ⟨G4, e5, h⟩ := st_all h
    have g6 := Fr.fs4 e5 g3 (by decide)
    exact hK _ _ h g6
theorem el_X11_comes {F0 : GF} {C : Prop} {F : GF} {p1 : Int32} {p2 : Int32} {K : GF → Prop} (hK : ∀ (z0 : GF), K z0 → Fr F0 z0 → C) (g : Fr F0 F) (h : P_X11_comes F p1 p2 K) : C := by
  unfold P_X11_comes at h
  have h := h.2
  obtain ⟨G1, e2, h⟩ := st_all h
  have g3 := Fr.fs4 e2 g (by decide)
  have h := h.2
  obtain ⟨G4, e5, h⟩ := st_all h
  have g6 := Fr.fs4 e5 g3 (by decide)
  have h := h.2
  obtain ⟨G7, e8, h⟩ := st_all h
  have g9 := Fr.fs4 e8 g6 (by decide)
  obtain ⟨G10, e11, h⟩ := st_all h
  have g12 := Fr.fs4 e11 g9 (by decide)
  exact hK _ h g12
theorem el_X11_dwelt_5 {F0 : GF} {C : Prop}  {K : Int32 → GF → Prop} (hK : ∀ (z0 : Int32) (z1 : GF), K z0 z1 → Fr F0 z1 → C) : ∀ (n : Nat) (F : GF) (x1 : Int32) (x2 : Int32) (x3 : Int32) (x4 : Int32), Fr F0 F → P_X11_dwelt_5 K n F x1 x2 x3 x4 → C := by
  intro n
  induction n with
  | zero => exact fun _ _ _ _ _ _ h => False.elim h
  | succ n ih =>
    intro F x1 x2 x3 x4 g h
    rw [P_X11_dwelt_5] at h
    rcases ite_elim h with ⟨-, h⟩ | ⟨-, h⟩
    · skip
      exact hK _ _ h g
    · skip
      have h := h.2
      rcases ite_elim h with ⟨-, h⟩ | ⟨-, h⟩
      · skip
        have h := h.2
        rcases ite_elim h with ⟨-, h⟩ | ⟨-, h⟩
        · skip
          unfold P_X11_dwelt_46 at h
          unfold P_X11_dwelt_47 at h
          exact ih _ _ _ _ _ g h
        · skip
          have h := h.2
          unfold P_X11_dwelt_47 at h
          exact ih _ _ _ _ _ g h
      · skip
        unfold P_X11_dwelt_46 at h
        unfold P_X11_dwelt_47 at h
        exact ih _ _ _ _ _ g h
theorem el_X11_dwelt {F0 : GF} {C : Prop} {F : GF} {p1 : Int32} {p2 : Int32} {K : Int32 → GF → Prop} (hK : ∀ (z0 : Int32) (z1 : GF), K z0 z1 → Fr F0 z1 → C) (g : Fr F0 F) (h : P_X11_dwelt F p1 p2 K) : C := by
  unfold P_X11_dwelt at h
  obtain ⟨n1, h⟩ := h
  refine el_X11_dwelt_5 hK n1 _ _ _ _ _ g h
theorem el_X11_person {F0 : GF} {C : Prop} {F : GF} {p1 : Int32} {p2 : Int32} {K : Int32 → GF → Prop} (hK : ∀ (z0 : Int32) (z1 : GF), K z0 z1 → Fr F0 z1 → C) (g : Fr F0 F) (h : P_X11_person F p1 p2 K) : C := by
  unfold P_X11_person at h
  refine el_X11_isCrossing (fun _ _ h g1 => ?_) g h
  refine el_X11_in (fun _ _ h g2 => ?_) g1 h
  rcases ite_elim h with ⟨-, h⟩ | ⟨-, h⟩
  · skip
    unfold P_X11_person_27 at h
    refine el_X11_asked__ (fun _ _ h g3 => ?_) g2 h
    rcases ite_elim h with ⟨-, h⟩ | ⟨-, h⟩
    · skip
      exact hK _ _ h g3
    · skip
      have h := h.2
      obtain ⟨G4, e5, h⟩ := st_all h
      have g6 := Fr.fs4 e5 g3 (by decide)
      obtain ⟨G7, e8, h⟩ := st_all h
      have g9 := Fr.fs4 e8 g6 (by decide)
      refine el_X11_comes (fun _ h g10 => ?_) g9 h
      exact hK _ _ h g10
  · skip
    unfold P_X11_person_27 at h
    refine el_X11_asked__ (fun _ _ h g11 => ?_) g2 h
    rcases ite_elim h with ⟨-, h⟩ | ⟨-, h⟩
    · skip
      exact hK _ _ h g11
    · skip
      have h := h.2
      obtain ⟨G12, e13, h⟩ := st_all h
      have g14 := Fr.fs4 e13 g11 (by decide)
      obtain ⟨G15, e16, h⟩ := st_all h
      have g17 := Fr.fs4 e16 g14 (by decide)
      refine el_X11_comes (fun _ h g18 => ?_) g17 h
      exact hK _ _ h g18
theorem el_X11_move {F0 : GF} {C : Prop} {F : GF} {p1 : Int32} {p2 : Int32} {K : Int32 → GF → Prop} (hK : ∀ (z0 : Int32) (z1 : GF), K z0 z1 → Fr F0 z1 → C) (g : Fr F0 F) (h : P_X11_move F p1 p2 K) : C := by
  unfold P_X11_move at h
  refine el_X11_isPerson (fun _ _ h g1 => ?_) g h
  rcases ite_elim h with ⟨-, h⟩ | ⟨-, h⟩
  · skip
    unfold P_X11_move_19 at h
    unfold P_X11_move_20 at h
    rcases ite_elim h with ⟨-, h⟩ | ⟨-, h⟩
    · skip
      unfold P_X11_move_40 at h
      unfold P_X11_move_41 at h
      refine el_X11_asked_ (fun _ _ h g2 => ?_) g1 h
      rcases ite_elim h with ⟨-, h⟩ | ⟨-, h⟩
      · skip
        exact hK _ _ h g2
      · skip
        refine el_X11_dwelt (fun _ _ h g3 => ?_) g2 h
        refine el_X11_comes (fun _ h g4 => ?_) g3 h
        exact hK _ _ h g4
    · skip
      have h := h.2
      rcases ite_elim h with ⟨-, h⟩ | ⟨-, h⟩
      · skip
        unfold P_X11_move_41 at h
        refine el_X11_asked_ (fun _ _ h g5 => ?_) g1 h
        rcases ite_elim h with ⟨-, h⟩ | ⟨-, h⟩
        · skip
          exact hK _ _ h g5
        · skip
          refine el_X11_dwelt (fun _ _ h g6 => ?_) g5 h
          refine el_X11_comes (fun _ h g7 => ?_) g6 h
          exact hK _ _ h g7
      · skip
        unfold P_X11_move_40 at h
        unfold P_X11_move_41 at h
        refine el_X11_asked_ (fun _ _ h g8 => ?_) g1 h
        rcases ite_elim h with ⟨-, h⟩ | ⟨-, h⟩
        · skip
          exact hK _ _ h g8
        · skip
          refine el_X11_dwelt (fun _ _ h g9 => ?_) g8 h
          refine el_X11_comes (fun _ h g10 => ?_) g9 h
          exact hK _ _ h g10
  · skip
    refine el_X11_isCrossing (fun _ _ h g11 => ?_) g1 h
    rcases ite_elim h with ⟨-, h⟩ | ⟨-, h⟩
    · skip
      unfold P_X11_move_19 at h
      unfold P_X11_move_20 at h
      rcases ite_elim h with ⟨-, h⟩ | ⟨-, h⟩
      · skip
        unfold P_X11_move_40 at h
        unfold P_X11_move_41 at h
        refine el_X11_asked_ (fun _ _ h g12 => ?_) g11 h
        rcases ite_elim h with ⟨-, h⟩ | ⟨-, h⟩
        · skip
          exact hK _ _ h g12
        · skip
          refine el_X11_dwelt (fun _ _ h g13 => ?_) g12 h
          refine el_X11_comes (fun _ h g14 => ?_) g13 h
          exact hK _ _ h g14
      · skip
        have h := h.2
        rcases ite_elim h with ⟨-, h⟩ | ⟨-, h⟩
        · skip
          unfold P_X11_move_41 at h
          refine el_X11_asked_ (fun _ _ h g15 => ?_) g11 h
          rcases ite_elim h with ⟨-, h⟩ | ⟨-, h⟩
          · skip
            exact hK _ _ h g15
          · skip
            refine el_X11_dwelt (fun _ _ h g16 => ?_) g15 h
            refine el_X11_comes (fun _ h g17 => ?_) g16 h
            exact hK _ _ h g17
        · skip
          unfold P_X11_move_40 at h
          unfold P_X11_move_41 at h
          refine el_X11_asked_ (fun _ _ h g18 => ?_) g11 h
          rcases ite_elim h with ⟨-, h⟩ | ⟨-, h⟩
          · skip
            exact hK _ _ h g18
          · skip
            refine el_X11_dwelt (fun _ _ h g19 => ?_) g18 h
            refine el_X11_comes (fun _ h g20 => ?_) g19 h
            exact hK _ _ h g20
    · skip
      unfold P_X11_move_20 at h
      rcases ite_elim h with ⟨-, h⟩ | ⟨-, h⟩
      · skip
        unfold P_X11_move_40 at h
        unfold P_X11_move_41 at h
        refine el_X11_asked_ (fun _ _ h g21 => ?_) g11 h
        rcases ite_elim h with ⟨-, h⟩ | ⟨-, h⟩
        · skip
          exact hK _ _ h g21
        · skip
          refine el_X11_dwelt (fun _ _ h g22 => ?_) g21 h
          refine el_X11_comes (fun _ h g23 => ?_) g22 h
          exact hK _ _ h g23
      · skip
        have h := h.2
        rcases ite_elim h with ⟨-, h⟩ | ⟨-, h⟩
        · skip
          unfold P_X11_move_41 at h
          refine el_X11_asked_ (fun _ _ h g24 => ?_) g11 h
          rcases ite_elim h with ⟨-, h⟩ | ⟨-, h⟩
          · skip
            exact hK _ _ h g24
          · skip
            refine el_X11_dwelt (fun _ _ h g25 => ?_) g24 h
            refine el_X11_comes (fun _ h g26 => ?_) g25 h
            exact hK _ _ h g26
        · skip
          unfold P_X11_move_40 at h
          unfold P_X11_move_41 at h
          refine el_X11_asked_ (fun _ _ h g27 => ?_) g11 h
          rcases ite_elim h with ⟨-, h⟩ | ⟨-, h⟩
          · skip
            exact hK _ _ h g27
          · skip
            refine el_X11_dwelt (fun _ _ h g28 => ?_) g27 h
            refine el_X11_comes (fun _ h g29 => ?_) g28 h
            exact hK _ _ h g29
theorem el_X11_notes {F0 : GF} {C : Prop} {F : GF} {p1 : Int32} {p2 : Int32} {p3 : Int32} {K : GF → Prop} (hK : ∀ (z0 : GF), K z0 → Fr F0 z0 → C) (g : Fr F0 F) (h : P_X11_notes F p1 p2 p3 K) : C := by
  unfold P_X11_notes at h
  have h := h.2
  obtain ⟨G1, e2, h⟩ := st_all h
  have g3 := Fr.fs4 e2 g (by decide)
  have h := h.2
  obtain ⟨G4, e5, h⟩ := st_all h
  have g6 := Fr.fs4 e5 g3 (by decide)
  have h := h.2
  obtain ⟨G7, e8, h⟩ := st_all h
  have g9 := Fr.fs4 e8 g6 (by decide)
  obtain ⟨G10, e11, h⟩ := st_all h
  have g12 := Fr.fs4 e11 g9 (by decide)
  exact hK _ h g12
theorem el_X11_sealedOf_4 {F0 : GF} {C : Prop}  {K : Int32 → GF → Prop} (hK : ∀ (z0 : Int32) (z1 : GF), K z0 z1 → Fr F0 z1 → C) : ∀ (n : Nat) (F : GF) (x1 : Int32) (x2 : Int32) (x3 : Int32), Fr F0 F → P_X11_sealedOf_4 K n F x1 x2 x3 → C := by
  intro n
  induction n with
  | zero => exact fun _ _ _ _ _ h => False.elim h
  | succ n ih =>
    intro F x1 x2 x3 g h
    rw [P_X11_sealedOf_4] at h
    rcases ite_elim h with ⟨-, h⟩ | ⟨-, h⟩
    · skip
      exact hK _ _ h g
    · skip
      have h := h.2
      rcases ite_elim h with ⟨-, h⟩ | ⟨-, h⟩
      · skip
        have h := h.2
        rcases ite_elim h with ⟨-, h⟩ | ⟨-, h⟩
        · skip
          unfold P_X11_sealedOf_36 at h
          exact ih _ _ _ _ g h
        · skip
          unfold P_X11_sealedOf_35 at h
          unfold P_X11_sealedOf_36 at h
          exact ih _ _ _ _ g h
      · skip
        unfold P_X11_sealedOf_35 at h
        unfold P_X11_sealedOf_36 at h
        exact ih _ _ _ _ g h
theorem el_X11_sealedOf {F0 : GF} {C : Prop} {F : GF} {p1 : Int32} {K : Int32 → GF → Prop} (hK : ∀ (z0 : Int32) (z1 : GF), K z0 z1 → Fr F0 z1 → C) (g : Fr F0 F) (h : P_X11_sealedOf F p1 K) : C := by
  unfold P_X11_sealedOf at h
  obtain ⟨n1, h⟩ := h
  refine el_X11_sealedOf_4 hK n1 _ _ _ _ g h
theorem el_X11_voids {F0 : GF} {C : Prop} {F : GF} {p1 : Int32} {K : Int32 → GF → Prop} (hK : ∀ (z0 : Int32) (z1 : GF), K z0 z1 → Fr F0 z1 → C) (g : Fr F0 F) (h : P_X11_voids F p1 K) : C := by
  unfold P_X11_voids at h
  refine el_X11_sealedOf (fun _ _ h g1 => ?_) g h
  rcases ite_elim h with ⟨-, h⟩ | ⟨-, h⟩
  · skip
    unfold P_X11_voids_29 at h
    rcases ite_elim h with ⟨-, h⟩ | ⟨-, h⟩
    · skip
      exact hK _ _ h g1
    · skip
      exact hK _ _ h g1
  · skip
    have h := h.2
    obtain ⟨G2, e3, h⟩ := st_all h
    have g4 := Fr.fs4 e3 g1 (by decide)
    refine el_X11_notes (fun _ h g5 => ?_) g4 h
    unfold P_X11_voids_29 at h
    rcases ite_elim h with ⟨-, h⟩ | ⟨-, h⟩
    · skip
      exact hK _ _ h g5
    · skip
      exact hK _ _ h g5
theorem el_X11_die {F0 : GF} {C : Prop} {F : GF} {p1 : Int32} {K : Int32 → GF → Prop} (hK : ∀ (z0 : Int32) (z1 : GF), K z0 z1 → Fr F0 z1 → C) (g : Fr F0 F) (h : P_X11_die F p1 K) : C := by
  unfold P_X11_die at h
  refine el_X11_isPerson (fun _ _ h g1 => ?_) g h
  rcases ite_elim h with ⟨-, h⟩ | ⟨-, h⟩
  · skip
    unfold P_X11_die_25 at h
    unfold P_X11_die_26 at h
    refine el_X11_asked_ (fun _ _ h g2 => ?_) g1 h
    rcases ite_elim h with ⟨-, h⟩ | ⟨-, h⟩
    · skip
      exact hK _ _ h g2
    · skip
      have h := h.2
      obtain ⟨G3, e4, h⟩ := st_all h
      have g5 := Fr.fs4 e4 g2 (by decide)
      refine el_X11_voids (fun _ _ h g6 => ?_) g5 h
      have h := h.2
      exact hK _ _ h g6
  · skip
    have h := h.2
    rcases ite_elim h with ⟨-, h⟩ | ⟨-, h⟩
    · skip
      unfold P_X11_die_26 at h
      refine el_X11_asked_ (fun _ _ h g7 => ?_) g1 h
      rcases ite_elim h with ⟨-, h⟩ | ⟨-, h⟩
      · skip
        exact hK _ _ h g7
      · skip
        have h := h.2
        obtain ⟨G8, e9, h⟩ := st_all h
        have g10 := Fr.fs4 e9 g7 (by decide)
        refine el_X11_voids (fun _ _ h g11 => ?_) g10 h
        have h := h.2
        exact hK _ _ h g11
    · skip
      unfold P_X11_die_25 at h
      unfold P_X11_die_26 at h
      refine el_X11_asked_ (fun _ _ h g12 => ?_) g1 h
      rcases ite_elim h with ⟨-, h⟩ | ⟨-, h⟩
      · skip
        exact hK _ _ h g12
      · skip
        have h := h.2
        obtain ⟨G13, e14, h⟩ := st_all h
        have g15 := Fr.fs4 e14 g12 (by decide)
        refine el_X11_voids (fun _ _ h g16 => ?_) g15 h
        have h := h.2
        exact hK _ _ h g16
theorem el_X11_dwells {F0 : GF} {C : Prop} {F : GF} {p1 : Int32} {p2 : Int32} {K : Int32 → GF → Prop} (hK : ∀ (z0 : Int32) (z1 : GF), K z0 z1 → Fr F0 z1 → C) (g : Fr F0 F) (h : P_X11_dwells F p1 p2 K) : C := by
  unfold P_X11_dwells at h
  refine el_X11_isPerson (fun _ _ h g1 => ?_) g h
  refine el_X11_in (fun _ _ h g2 => ?_) g1 h
  refine el_X11_asked_ (fun _ _ h g3 => ?_) g2 h
  rcases ite_elim h with ⟨-, h⟩ | ⟨-, h⟩
  · skip
    exact hK _ _ h g3
  · skip
    refine el_X11_dwelt (fun _ _ h g4 => ?_) g3 h
    exact hK _ _ h g4
theorem el_X11_clears_45 {F0 : GF} {C : Prop}  {K : GF → Prop} (hK : ∀ (z0 : GF), K z0 → Fr F0 z0 → C) : ∀ (n : Nat) (F : GF) (x1 : Int32), Fr F0 F → P_X11_clears_45 K n F x1 → C := by
  intro n
  induction n with
  | zero => exact fun _ _ _ h => False.elim h
  | succ n ih =>
    intro F x1 g h
    rw [P_X11_clears_45] at h
    rcases ite_elim h with ⟨-, h⟩ | ⟨-, h⟩
    · skip
      exact hK _ h g
    · skip
      have h := h.2
      obtain ⟨G1, e2, h⟩ := st_all h
      have g3 := Fr.fs4 e2 g (by decide)
      have h := h.2
      obtain ⟨G4, e5, h⟩ := st_all h
      have g6 := Fr.fs4 e5 g3 (by decide)
      have h := h.2
      obtain ⟨G7, e8, h⟩ := st_all h
      have g9 := Fr.fs4 e8 g6 (by decide)
      have h := h.2
      obtain ⟨G10, e11, h⟩ := st_all h
      have g12 := Fr.fs4 e11 g9 (by decide)
      have h := h.2
      obtain ⟨G13, e14, h⟩ := st_all h
      have g15 := Fr.fs4 e14 g12 (by decide)
      exact ih _ _ g15 h
theorem el_X11_clears_17 {F0 : GF} {C : Prop}  {K : GF → Prop} (hK : ∀ (z0 : GF), K z0 → Fr F0 z0 → C) : ∀ (n : Nat) (F : GF) (x1 : Int32), Fr F0 F → P_X11_clears_17 K n F x1 → C := by
  intro n
  induction n with
  | zero => exact fun _ _ _ h => False.elim h
  | succ n ih =>
    intro F x1 g h
    rw [P_X11_clears_17] at h
    rcases ite_elim h with ⟨-, h⟩ | ⟨-, h⟩
    · skip
      obtain ⟨n1, h⟩ := h
      refine el_X11_clears_45 hK n1 _ _ g h
    · skip
      have h := h.2
      obtain ⟨G2, e3, h⟩ := st_all h
      have g4 := Fr.fs4 e3 g (by decide)
      have h := h.2
      obtain ⟨G5, e6, h⟩ := st_all h
      have g7 := Fr.fs4 e6 g4 (by decide)
      exact ih _ _ g7 h
theorem el_X11_clears {F0 : GF} {C : Prop} {F : GF} {K : GF → Prop} (hK : ∀ (z0 : GF), K z0 → Fr F0 z0 → C) (g : Fr F0 F) (h : P_X11_clears F K) : C := by
  unfold P_X11_clears at h
  obtain ⟨G1, e2, h⟩ := st_all h
  have g3 := Fr.fs4 e2 g (by decide)
  obtain ⟨G4, e5, h⟩ := st_all h
  have g6 := Fr.fs4 e5 g3 (by decide)
  obtain ⟨G7, e8, h⟩ := st_all h
  have g9 := Fr.fs4 e8 g6 (by decide)
  obtain ⟨n10, h⟩ := h
  refine el_X11_clears_17 hK n10 _ _ g9 h
theorem el_X11_call {F0 : GF} {C : Prop} {F : GF} {p1 : Int32} {p2 : Int32} {p3 : Int32} {K : Int32 → GF → Prop} (hK : ∀ (z0 : Int32) (z1 : GF), K z0 z1 → Fr F0 z1 → C) (g : Fr F0 F) (h : P_X11_call F p1 p2 p3 K) : C := by
  unfold P_X11_call at h
  refine el_X11_in (fun _ _ h g1 => ?_) g h
  rcases ite_elim h with ⟨-, h⟩ | ⟨-, h⟩
  · skip
    unfold P_X11_call_25 at h
    unfold P_X11_call_26 at h
    rcases ite_elim h with ⟨-, h⟩ | ⟨-, h⟩
    · skip
      unfold P_X11_call_74 at h
      unfold P_X11_call_75 at h
      refine el_X11_asked_ (fun _ _ h g2 => ?_) g1 h
      rcases ite_elim h with ⟨-, h⟩ | ⟨-, h⟩
      · skip
        exact hK _ _ h g2
      · skip
        refine el_X11_clears (fun _ h g3 => ?_) g2 h
        obtain ⟨G4, e5, h⟩ := st_all h
        have g6 := Fr.fs4 e5 g3 (by decide)
        obtain ⟨G7, e8, h⟩ := st_all h
        have g9 := Fr.fs4 e8 g6 (by decide)
        obtain ⟨G10, e11, h⟩ := st_all h
        have g12 := Fr.fs4 e11 g9 (by decide)
        have h := h.2
        obtain ⟨G13, e14, h⟩ := st_all h
        have g15 := Fr.fs4 e14 g12 (by decide)
        exact hK _ _ h g15
    · skip
      rcases ite_elim h with ⟨-, h⟩ | ⟨-, h⟩
      · skip
        unfold P_X11_call_51 at h
        rcases ite_elim h with ⟨-, h⟩ | ⟨-, h⟩
        · skip
          unfold P_X11_call_74 at h
          unfold P_X11_call_75 at h
          refine el_X11_asked_ (fun _ _ h g16 => ?_) g1 h
          rcases ite_elim h with ⟨-, h⟩ | ⟨-, h⟩
          · skip
            exact hK _ _ h g16
          · skip
            refine el_X11_clears (fun _ h g17 => ?_) g16 h
            obtain ⟨G18, e19, h⟩ := st_all h
            have g20 := Fr.fs4 e19 g17 (by decide)
            obtain ⟨G21, e22, h⟩ := st_all h
            have g23 := Fr.fs4 e22 g20 (by decide)
            obtain ⟨G24, e25, h⟩ := st_all h
            have g26 := Fr.fs4 e25 g23 (by decide)
            have h := h.2
            obtain ⟨G27, e28, h⟩ := st_all h
            have g29 := Fr.fs4 e28 g26 (by decide)
            exact hK _ _ h g29
        · skip
          rcases ite_elim h with ⟨-, h⟩ | ⟨-, h⟩
          · skip
            unfold P_X11_call_74 at h
            unfold P_X11_call_75 at h
            refine el_X11_asked_ (fun _ _ h g30 => ?_) g1 h
            rcases ite_elim h with ⟨-, h⟩ | ⟨-, h⟩
            · skip
              exact hK _ _ h g30
            · skip
              refine el_X11_clears (fun _ h g31 => ?_) g30 h
              obtain ⟨G32, e33, h⟩ := st_all h
              have g34 := Fr.fs4 e33 g31 (by decide)
              obtain ⟨G35, e36, h⟩ := st_all h
              have g37 := Fr.fs4 e36 g34 (by decide)
              obtain ⟨G38, e39, h⟩ := st_all h
              have g40 := Fr.fs4 e39 g37 (by decide)
              have h := h.2
              obtain ⟨G41, e42, h⟩ := st_all h
              have g43 := Fr.fs4 e42 g40 (by decide)
              exact hK _ _ h g43
          · skip
            unfold P_X11_call_75 at h
            refine el_X11_asked_ (fun _ _ h g44 => ?_) g1 h
            rcases ite_elim h with ⟨-, h⟩ | ⟨-, h⟩
            · skip
              exact hK _ _ h g44
            · skip
              refine el_X11_clears (fun _ h g45 => ?_) g44 h
              obtain ⟨G46, e47, h⟩ := st_all h
              have g48 := Fr.fs4 e47 g45 (by decide)
              obtain ⟨G49, e50, h⟩ := st_all h
              have g51 := Fr.fs4 e50 g48 (by decide)
              obtain ⟨G52, e53, h⟩ := st_all h
              have g54 := Fr.fs4 e53 g51 (by decide)
              have h := h.2
              obtain ⟨G55, e56, h⟩ := st_all h
              have g57 := Fr.fs4 e56 g54 (by decide)
              exact hK _ _ h g57
      · skip
        rcases ite_elim h with ⟨-, h⟩ | ⟨-, h⟩
        · skip
          unfold P_X11_call_51 at h
          rcases ite_elim h with ⟨-, h⟩ | ⟨-, h⟩
          · skip
            unfold P_X11_call_74 at h
            unfold P_X11_call_75 at h
            refine el_X11_asked_ (fun _ _ h g58 => ?_) g1 h
            rcases ite_elim h with ⟨-, h⟩ | ⟨-, h⟩
            · skip
              exact hK _ _ h g58
            · skip
              refine el_X11_clears (fun _ h g59 => ?_) g58 h
              obtain ⟨G60, e61, h⟩ := st_all h
              have g62 := Fr.fs4 e61 g59 (by decide)
              obtain ⟨G63, e64, h⟩ := st_all h
              have g65 := Fr.fs4 e64 g62 (by decide)
              obtain ⟨G66, e67, h⟩ := st_all h
              have g68 := Fr.fs4 e67 g65 (by decide)
              have h := h.2
              obtain ⟨G69, e70, h⟩ := st_all h
              have g71 := Fr.fs4 e70 g68 (by decide)
              exact hK _ _ h g71
          · skip
            rcases ite_elim h with ⟨-, h⟩ | ⟨-, h⟩
            · skip
              unfold P_X11_call_74 at h
              unfold P_X11_call_75 at h
              refine el_X11_asked_ (fun _ _ h g72 => ?_) g1 h
              rcases ite_elim h with ⟨-, h⟩ | ⟨-, h⟩
              · skip
                exact hK _ _ h g72
              · skip
                refine el_X11_clears (fun _ h g73 => ?_) g72 h
                obtain ⟨G74, e75, h⟩ := st_all h
                have g76 := Fr.fs4 e75 g73 (by decide)
                obtain ⟨G77, e78, h⟩ := st_all h
                have g79 := Fr.fs4 e78 g76 (by decide)
                obtain ⟨G80, e81, h⟩ := st_all h
                have g82 := Fr.fs4 e81 g79 (by decide)
                have h := h.2
                obtain ⟨G83, e84, h⟩ := st_all h
                have g85 := Fr.fs4 e84 g82 (by decide)
                exact hK _ _ h g85
            · skip
              unfold P_X11_call_75 at h
              refine el_X11_asked_ (fun _ _ h g86 => ?_) g1 h
              rcases ite_elim h with ⟨-, h⟩ | ⟨-, h⟩
              · skip
                exact hK _ _ h g86
              · skip
                refine el_X11_clears (fun _ h g87 => ?_) g86 h
                obtain ⟨G88, e89, h⟩ := st_all h
                have g90 := Fr.fs4 e89 g87 (by decide)
                obtain ⟨G91, e92, h⟩ := st_all h
                have g93 := Fr.fs4 e92 g90 (by decide)
                obtain ⟨G94, e95, h⟩ := st_all h
                have g96 := Fr.fs4 e95 g93 (by decide)
                have h := h.2
                obtain ⟨G97, e98, h⟩ := st_all h
                have g99 := Fr.fs4 e98 g96 (by decide)
                exact hK _ _ h g99
        · skip
          unfold P_X11_call_74 at h
          unfold P_X11_call_75 at h
          refine el_X11_asked_ (fun _ _ h g100 => ?_) g1 h
          rcases ite_elim h with ⟨-, h⟩ | ⟨-, h⟩
          · skip
            exact hK _ _ h g100
          · skip
            refine el_X11_clears (fun _ h g101 => ?_) g100 h
            obtain ⟨G102, e103, h⟩ := st_all h
            have g104 := Fr.fs4 e103 g101 (by decide)
            obtain ⟨G105, e106, h⟩ := st_all h
            have g107 := Fr.fs4 e106 g104 (by decide)
            obtain ⟨G108, e109, h⟩ := st_all h
            have g110 := Fr.fs4 e109 g107 (by decide)
            have h := h.2
            obtain ⟨G111, e112, h⟩ := st_all h
            have g113 := Fr.fs4 e112 g110 (by decide)
            exact hK _ _ h g113
  · skip
    refine el_X11_in (fun _ _ h g114 => ?_) g1 h
    rcases ite_elim h with ⟨-, h⟩ | ⟨-, h⟩
    · skip
      unfold P_X11_call_25 at h
      unfold P_X11_call_26 at h
      rcases ite_elim h with ⟨-, h⟩ | ⟨-, h⟩
      · skip
        unfold P_X11_call_74 at h
        unfold P_X11_call_75 at h
        refine el_X11_asked_ (fun _ _ h g115 => ?_) g114 h
        rcases ite_elim h with ⟨-, h⟩ | ⟨-, h⟩
        · skip
          exact hK _ _ h g115
        · skip
          refine el_X11_clears (fun _ h g116 => ?_) g115 h
          obtain ⟨G117, e118, h⟩ := st_all h
          have g119 := Fr.fs4 e118 g116 (by decide)
          obtain ⟨G120, e121, h⟩ := st_all h
          have g122 := Fr.fs4 e121 g119 (by decide)
          obtain ⟨G123, e124, h⟩ := st_all h
          have g125 := Fr.fs4 e124 g122 (by decide)
          have h := h.2
          obtain ⟨G126, e127, h⟩ := st_all h
          have g128 := Fr.fs4 e127 g125 (by decide)
          exact hK _ _ h g128
      · skip
        rcases ite_elim h with ⟨-, h⟩ | ⟨-, h⟩
        · skip
          unfold P_X11_call_51 at h
          rcases ite_elim h with ⟨-, h⟩ | ⟨-, h⟩
          · skip
            unfold P_X11_call_74 at h
            unfold P_X11_call_75 at h
            refine el_X11_asked_ (fun _ _ h g129 => ?_) g114 h
            rcases ite_elim h with ⟨-, h⟩ | ⟨-, h⟩
            · skip
              exact hK _ _ h g129
            · skip
              refine el_X11_clears (fun _ h g130 => ?_) g129 h
              obtain ⟨G131, e132, h⟩ := st_all h
              have g133 := Fr.fs4 e132 g130 (by decide)
              obtain ⟨G134, e135, h⟩ := st_all h
              have g136 := Fr.fs4 e135 g133 (by decide)
              obtain ⟨G137, e138, h⟩ := st_all h
              have g139 := Fr.fs4 e138 g136 (by decide)
              have h := h.2
              obtain ⟨G140, e141, h⟩ := st_all h
              have g142 := Fr.fs4 e141 g139 (by decide)
              exact hK _ _ h g142
          · skip
            rcases ite_elim h with ⟨-, h⟩ | ⟨-, h⟩
            · skip
              unfold P_X11_call_74 at h
              unfold P_X11_call_75 at h
              refine el_X11_asked_ (fun _ _ h g143 => ?_) g114 h
              rcases ite_elim h with ⟨-, h⟩ | ⟨-, h⟩
              · skip
                exact hK _ _ h g143
              · skip
                refine el_X11_clears (fun _ h g144 => ?_) g143 h
                obtain ⟨G145, e146, h⟩ := st_all h
                have g147 := Fr.fs4 e146 g144 (by decide)
                obtain ⟨G148, e149, h⟩ := st_all h
                have g150 := Fr.fs4 e149 g147 (by decide)
                obtain ⟨G151, e152, h⟩ := st_all h
                have g153 := Fr.fs4 e152 g150 (by decide)
                have h := h.2
                obtain ⟨G154, e155, h⟩ := st_all h
                have g156 := Fr.fs4 e155 g153 (by decide)
                exact hK _ _ h g156
            · skip
              unfold P_X11_call_75 at h
              refine el_X11_asked_ (fun _ _ h g157 => ?_) g114 h
              rcases ite_elim h with ⟨-, h⟩ | ⟨-, h⟩
              · skip
                exact hK _ _ h g157
              · skip
                refine el_X11_clears (fun _ h g158 => ?_) g157 h
                obtain ⟨G159, e160, h⟩ := st_all h
                have g161 := Fr.fs4 e160 g158 (by decide)
                obtain ⟨G162, e163, h⟩ := st_all h
                have g164 := Fr.fs4 e163 g161 (by decide)
                obtain ⟨G165, e166, h⟩ := st_all h
                have g167 := Fr.fs4 e166 g164 (by decide)
                have h := h.2
                obtain ⟨G168, e169, h⟩ := st_all h
                have g170 := Fr.fs4 e169 g167 (by decide)
                exact hK _ _ h g170
        · skip
          rcases ite_elim h with ⟨-, h⟩ | ⟨-, h⟩
          · skip
            unfold P_X11_call_51 at h
            rcases ite_elim h with ⟨-, h⟩ | ⟨-, h⟩
            · skip
              unfold P_X11_call_74 at h
              unfold P_X11_call_75 at h
              refine el_X11_asked_ (fun _ _ h g171 => ?_) g114 h
              rcases ite_elim h with ⟨-, h⟩ | ⟨-, h⟩
              · skip
                exact hK _ _ h g171
              · skip
                refine el_X11_clears (fun _ h g172 => ?_) g171 h
                obtain ⟨G173, e174, h⟩ := st_all h
                have g175 := Fr.fs4 e174 g172 (by decide)
                obtain ⟨G176, e177, h⟩ := st_all h
                have g178 := Fr.fs4 e177 g175 (by decide)
                obtain ⟨G179, e180, h⟩ := st_all h
                have g181 := Fr.fs4 e180 g178 (by decide)
                have h := h.2
                obtain ⟨G182, e183, h⟩ := st_all h
                have g184 := Fr.fs4 e183 g181 (by decide)
                exact hK _ _ h g184
            · skip
              rcases ite_elim h with ⟨-, h⟩ | ⟨-, h⟩
              · skip
                unfold P_X11_call_74 at h
                unfold P_X11_call_75 at h
                refine el_X11_asked_ (fun _ _ h g185 => ?_) g114 h
                rcases ite_elim h with ⟨-, h⟩ | ⟨-, h⟩
                · skip
                  exact hK _ _ h g185
                · skip
                  refine el_X11_clears (fun _ h g186 => ?_) g185 h
                  obtain ⟨G187, e188, h⟩ := st_all h
                  have g189 := Fr.fs4 e188 g186 (by decide)
                  obtain ⟨G190, e191, h⟩ := st_all h
                  have g192 := Fr.fs4 e191 g189 (by decide)
                  obtain ⟨G193, e194, h⟩ := st_all h
                  have g195 := Fr.fs4 e194 g192 (by decide)
                  have h := h.2
                  obtain ⟨G196, e197, h⟩ := st_all h
                  have g198 := Fr.fs4 e197 g195 (by decide)
                  exact hK _ _ h g198
              · skip
                unfold P_X11_call_75 at h
                refine el_X11_asked_ (fun _ _ h g199 => ?_) g114 h
                rcases ite_elim h with ⟨-, h⟩ | ⟨-, h⟩
                · skip
                  exact hK _ _ h g199
                · skip
                  refine el_X11_clears (fun _ h g200 => ?_) g199 h
                  obtain ⟨G201, e202, h⟩ := st_all h
                  have g203 := Fr.fs4 e202 g200 (by decide)
                  obtain ⟨G204, e205, h⟩ := st_all h
                  have g206 := Fr.fs4 e205 g203 (by decide)
                  obtain ⟨G207, e208, h⟩ := st_all h
                  have g209 := Fr.fs4 e208 g206 (by decide)
                  have h := h.2
                  obtain ⟨G210, e211, h⟩ := st_all h
                  have g212 := Fr.fs4 e211 g209 (by decide)
                  exact hK _ _ h g212
          · skip
            unfold P_X11_call_74 at h
            unfold P_X11_call_75 at h
            refine el_X11_asked_ (fun _ _ h g213 => ?_) g114 h
            rcases ite_elim h with ⟨-, h⟩ | ⟨-, h⟩
            · skip
              exact hK _ _ h g213
            · skip
              refine el_X11_clears (fun _ h g214 => ?_) g213 h
              obtain ⟨G215, e216, h⟩ := st_all h
              have g217 := Fr.fs4 e216 g214 (by decide)
              obtain ⟨G218, e219, h⟩ := st_all h
              have g220 := Fr.fs4 e219 g217 (by decide)
              obtain ⟨G221, e222, h⟩ := st_all h
              have g223 := Fr.fs4 e222 g220 (by decide)
              have h := h.2
              obtain ⟨G224, e225, h⟩ := st_all h
              have g226 := Fr.fs4 e225 g223 (by decide)
              exact hK _ _ h g226
    · skip
      unfold P_X11_call_26 at h
      rcases ite_elim h with ⟨-, h⟩ | ⟨-, h⟩
      · skip
        unfold P_X11_call_74 at h
        unfold P_X11_call_75 at h
        refine el_X11_asked_ (fun _ _ h g227 => ?_) g114 h
        rcases ite_elim h with ⟨-, h⟩ | ⟨-, h⟩
        · skip
          exact hK _ _ h g227
        · skip
          refine el_X11_clears (fun _ h g228 => ?_) g227 h
          obtain ⟨G229, e230, h⟩ := st_all h
          have g231 := Fr.fs4 e230 g228 (by decide)
          obtain ⟨G232, e233, h⟩ := st_all h
          have g234 := Fr.fs4 e233 g231 (by decide)
          obtain ⟨G235, e236, h⟩ := st_all h
          have g237 := Fr.fs4 e236 g234 (by decide)
          have h := h.2
          obtain ⟨G238, e239, h⟩ := st_all h
          have g240 := Fr.fs4 e239 g237 (by decide)
          exact hK _ _ h g240
      · skip
        rcases ite_elim h with ⟨-, h⟩ | ⟨-, h⟩
        · skip
          unfold P_X11_call_51 at h
          rcases ite_elim h with ⟨-, h⟩ | ⟨-, h⟩
          · skip
            unfold P_X11_call_74 at h
            unfold P_X11_call_75 at h
            refine el_X11_asked_ (fun _ _ h g241 => ?_) g114 h
            rcases ite_elim h with ⟨-, h⟩ | ⟨-, h⟩
            · skip
              exact hK _ _ h g241
            · skip
              refine el_X11_clears (fun _ h g242 => ?_) g241 h
              obtain ⟨G243, e244, h⟩ := st_all h
              have g245 := Fr.fs4 e244 g242 (by decide)
              obtain ⟨G246, e247, h⟩ := st_all h
              have g248 := Fr.fs4 e247 g245 (by decide)
              obtain ⟨G249, e250, h⟩ := st_all h
              have g251 := Fr.fs4 e250 g248 (by decide)
              have h := h.2
              obtain ⟨G252, e253, h⟩ := st_all h
              have g254 := Fr.fs4 e253 g251 (by decide)
              exact hK _ _ h g254
          · skip
            rcases ite_elim h with ⟨-, h⟩ | ⟨-, h⟩
            · skip
              unfold P_X11_call_74 at h
              unfold P_X11_call_75 at h
              refine el_X11_asked_ (fun _ _ h g255 => ?_) g114 h
              rcases ite_elim h with ⟨-, h⟩ | ⟨-, h⟩
              · skip
                exact hK _ _ h g255
              · skip
                refine el_X11_clears (fun _ h g256 => ?_) g255 h
                obtain ⟨G257, e258, h⟩ := st_all h
                have g259 := Fr.fs4 e258 g256 (by decide)
                obtain ⟨G260, e261, h⟩ := st_all h
                have g262 := Fr.fs4 e261 g259 (by decide)
                obtain ⟨G263, e264, h⟩ := st_all h
                have g265 := Fr.fs4 e264 g262 (by decide)
                have h := h.2
                obtain ⟨G266, e267, h⟩ := st_all h
                have g268 := Fr.fs4 e267 g265 (by decide)
                exact hK _ _ h g268
            · skip
              unfold P_X11_call_75 at h
              refine el_X11_asked_ (fun _ _ h g269 => ?_) g114 h
              rcases ite_elim h with ⟨-, h⟩ | ⟨-, h⟩
              · skip
                exact hK _ _ h g269
              · skip
                refine el_X11_clears (fun _ h g270 => ?_) g269 h
                obtain ⟨G271, e272, h⟩ := st_all h
                have g273 := Fr.fs4 e272 g270 (by decide)
                obtain ⟨G274, e275, h⟩ := st_all h
                have g276 := Fr.fs4 e275 g273 (by decide)
                obtain ⟨G277, e278, h⟩ := st_all h
                have g279 := Fr.fs4 e278 g276 (by decide)
                have h := h.2
                obtain ⟨G280, e281, h⟩ := st_all h
                have g282 := Fr.fs4 e281 g279 (by decide)
                exact hK _ _ h g282
        · skip
          rcases ite_elim h with ⟨-, h⟩ | ⟨-, h⟩
          · skip
            unfold P_X11_call_51 at h
            rcases ite_elim h with ⟨-, h⟩ | ⟨-, h⟩
            · skip
              unfold P_X11_call_74 at h
              unfold P_X11_call_75 at h
              refine el_X11_asked_ (fun _ _ h g283 => ?_) g114 h
              rcases ite_elim h with ⟨-, h⟩ | ⟨-, h⟩
              · skip
                exact hK _ _ h g283
              · skip
                refine el_X11_clears (fun _ h g284 => ?_) g283 h
                obtain ⟨G285, e286, h⟩ := st_all h
                have g287 := Fr.fs4 e286 g284 (by decide)
                obtain ⟨G288, e289, h⟩ := st_all h
                have g290 := Fr.fs4 e289 g287 (by decide)
                obtain ⟨G291, e292, h⟩ := st_all h
                have g293 := Fr.fs4 e292 g290 (by decide)
                have h := h.2
                obtain ⟨G294, e295, h⟩ := st_all h
                have g296 := Fr.fs4 e295 g293 (by decide)
                exact hK _ _ h g296
            · skip
              rcases ite_elim h with ⟨-, h⟩ | ⟨-, h⟩
              · skip
                unfold P_X11_call_74 at h
                unfold P_X11_call_75 at h
                refine el_X11_asked_ (fun _ _ h g297 => ?_) g114 h
                rcases ite_elim h with ⟨-, h⟩ | ⟨-, h⟩
                · skip
                  exact hK _ _ h g297
                · skip
                  refine el_X11_clears (fun _ h g298 => ?_) g297 h
                  obtain ⟨G299, e300, h⟩ := st_all h
                  have g301 := Fr.fs4 e300 g298 (by decide)
                  obtain ⟨G302, e303, h⟩ := st_all h
                  have g304 := Fr.fs4 e303 g301 (by decide)
                  obtain ⟨G305, e306, h⟩ := st_all h
                  have g307 := Fr.fs4 e306 g304 (by decide)
                  have h := h.2
                  obtain ⟨G308, e309, h⟩ := st_all h
                  have g310 := Fr.fs4 e309 g307 (by decide)
                  exact hK _ _ h g310
              · skip
                unfold P_X11_call_75 at h
                refine el_X11_asked_ (fun _ _ h g311 => ?_) g114 h
                rcases ite_elim h with ⟨-, h⟩ | ⟨-, h⟩
                · skip
                  exact hK _ _ h g311
                · skip
                  refine el_X11_clears (fun _ h g312 => ?_) g311 h
                  obtain ⟨G313, e314, h⟩ := st_all h
                  have g315 := Fr.fs4 e314 g312 (by decide)
                  obtain ⟨G316, e317, h⟩ := st_all h
                  have g318 := Fr.fs4 e317 g315 (by decide)
                  obtain ⟨G319, e320, h⟩ := st_all h
                  have g321 := Fr.fs4 e320 g318 (by decide)
                  have h := h.2
                  obtain ⟨G322, e323, h⟩ := st_all h
                  have g324 := Fr.fs4 e323 g321 (by decide)
                  exact hK _ _ h g324
          · skip
            unfold P_X11_call_74 at h
            unfold P_X11_call_75 at h
            refine el_X11_asked_ (fun _ _ h g325 => ?_) g114 h
            rcases ite_elim h with ⟨-, h⟩ | ⟨-, h⟩
            · skip
              exact hK _ _ h g325
            · skip
              refine el_X11_clears (fun _ h g326 => ?_) g325 h
              obtain ⟨G327, e328, h⟩ := st_all h
              have g329 := Fr.fs4 e328 g326 (by decide)
              obtain ⟨G330, e331, h⟩ := st_all h
              have g332 := Fr.fs4 e331 g329 (by decide)
              obtain ⟨G333, e334, h⟩ := st_all h
              have g335 := Fr.fs4 e334 g332 (by decide)
              have h := h.2
              obtain ⟨G336, e337, h⟩ := st_all h
              have g338 := Fr.fs4 e337 g335 (by decide)
              exact hK _ _ h g338
theorem el_X11_seed {F0 : GF} {C : Prop} {F : GF} {p1 : Int32} {p2 : Int32} {K : Int32 → GF → Prop} (hK : ∀ (z0 : Int32) (z1 : GF), K z0 z1 → Fr F0 z1 → C) (g : Fr F0 F) (h : P_X11_seed F p1 p2 K) : C := by
  unfold P_X11_seed at h
  refine el_X11_in (fun _ _ h g1 => ?_) g h
  refine el_X11_in (fun _ _ h g2 => ?_) g1 h
  rcases ite_elim h with ⟨-, h⟩ | ⟨-, h⟩
  · skip
    unfold P_X11_seed_33 at h
    unfold P_X11_seed_38 at h
    refine el_X11_asked__ (fun _ _ h g3 => ?_) g2 h
    rcases ite_elim h with ⟨-, h⟩ | ⟨-, h⟩
    · skip
      exact hK _ _ h g3
    · skip
      have h := h.2
      have h := h.2
      obtain ⟨G4, e5, h⟩ := st_all h
      have g6 := Fr.fs4 e5 g3 (by decide)
      exact hK _ _ h g6
  · skip
    rcases ite_elim h with ⟨-, h⟩ | ⟨-, h⟩
    · skip
      unfold P_X11_seed_33 at h
      unfold P_X11_seed_38 at h
      refine el_X11_asked__ (fun _ _ h g7 => ?_) g2 h
      rcases ite_elim h with ⟨-, h⟩ | ⟨-, h⟩
      · skip
        exact hK _ _ h g7
      · skip
        have h := h.2
        have h := h.2
        obtain ⟨G8, e9, h⟩ := st_all h
        have g10 := Fr.fs4 e9 g7 (by decide)
        exact hK _ _ h g10
    · skip
      unfold P_X11_seed_38 at h
      refine el_X11_asked__ (fun _ _ h g11 => ?_) g2 h
      rcases ite_elim h with ⟨-, h⟩ | ⟨-, h⟩
      · skip
        exact hK _ _ h g11
      · skip
        have h := h.2
        have h := h.2
        obtain ⟨G12, e13, h⟩ := st_all h
        have g14 := Fr.fs4 e13 g11 (by decide)
        exact hK _ _ h g14
theorem el_X11_stationFor_85 {F0 : GF} {C : Prop}  {K : Int32 → GF → Prop} (hK : ∀ (z0 : Int32) (z1 : GF), K z0 z1 → Fr F0 z1 → C) : ∀ (n : Nat) (F : GF) (x1 : Int32) (x2 : Int32), Fr F0 F → P_X11_stationFor_85 K n F x1 x2 → C := by
  intro n
  induction n with
  | zero => exact fun _ _ _ _ h => False.elim h
  | succ n ih =>
    intro F x1 x2 g h
    rw [P_X11_stationFor_85] at h
    rcases ite_elim h with ⟨-, h⟩ | ⟨-, h⟩
    · skip
      rcases ite_elim h with ⟨-, h⟩ | ⟨-, h⟩
      · skip
        exact hK _ _ h g
      · skip
        exact hK _ _ h g
    · skip
      have h := h.2
      have h := h.2
      rcases ite_elim h with ⟨-, h⟩ | ⟨-, h⟩
      · skip
        unfold P_X11_stationFor_132 at h
        unfold P_X11_stationFor_133 at h
        exact ih _ _ _ g h
      · skip
        rcases ite_elim h with ⟨-, h⟩ | ⟨-, h⟩
        · skip
          unfold P_X11_stationFor_128 at h
          unfold P_X11_stationFor_133 at h
          exact ih _ _ _ g h
        · skip
          have h := h.2
          have h := h.2
          rcases ite_elim h with ⟨-, h⟩ | ⟨-, h⟩
          · skip
            unfold P_X11_stationFor_132 at h
            unfold P_X11_stationFor_133 at h
            exact ih _ _ _ g h
          · skip
            unfold P_X11_stationFor_128 at h
            unfold P_X11_stationFor_133 at h
            exact ih _ _ _ g h
theorem el_X11_stationFor_4 {F0 : GF} {C : Prop}  {K : Int32 → GF → Prop} (hK : ∀ (z0 : Int32) (z1 : GF), K z0 z1 → Fr F0 z1 → C) : ∀ (n : Nat) (F : GF) (x1 : Int32) (x2 : Int32), Fr F0 F → P_X11_stationFor_4 K n F x1 x2 → C := by
  intro n
  induction n with
  | zero => exact fun _ _ _ _ h => False.elim h
  | succ n ih =>
    intro F x1 x2 g h
    rw [P_X11_stationFor_4] at h
    rcases ite_elim h with ⟨-, h⟩ | ⟨-, h⟩
    · skip
      rcases ite_elim h with ⟨-, h⟩ | ⟨-, h⟩
      · skip
        obtain ⟨n1, h⟩ := h
        refine el_X11_stationFor_85 hK n1 _ _ _ g h
      · skip
        exact hK _ _ h g
    · skip
      have h := h.2
      have h := h.2
      have h := h _ rfl
      rcases ite_elim h with ⟨-, h⟩ | ⟨-, h⟩
      · skip
        unfold P_X11_stationFor_68 at h
        unfold P_X11_stationFor_69 at h
        exact ih _ _ _ g h
      · skip
        have h := h.2
        have h := h.2
        rcases ite_elim h with ⟨-, h⟩ | ⟨-, h⟩
        · skip
          unfold P_X11_stationFor_68 at h
          unfold P_X11_stationFor_69 at h
          exact ih _ _ _ g h
        · skip
          rcases ite_elim h with ⟨-, h⟩ | ⟨-, h⟩
          · skip
            unfold P_X11_stationFor_64 at h
            unfold P_X11_stationFor_69 at h
            exact ih _ _ _ g h
          · skip
            have h := h.2
            have h := h.2
            rcases ite_elim h with ⟨-, h⟩ | ⟨-, h⟩
            · skip
              unfold P_X11_stationFor_68 at h
              unfold P_X11_stationFor_69 at h
              exact ih _ _ _ g h
            · skip
              unfold P_X11_stationFor_64 at h
              unfold P_X11_stationFor_69 at h
              exact ih _ _ _ g h
theorem el_X11_stationFor {F0 : GF} {C : Prop} {F : GF} {K : Int32 → GF → Prop} (hK : ∀ (z0 : Int32) (z1 : GF), K z0 z1 → Fr F0 z1 → C) (g : Fr F0 F) (h : P_X11_stationFor F K) : C := by
  unfold P_X11_stationFor at h
  obtain ⟨n1, h⟩ := h
  refine el_X11_stationFor_4 hK n1 _ _ _ g h
theorem el_X11_makesRoll_15 {F0 : GF} {C : Prop}  {K : GF → Prop} (hK : ∀ (z0 : GF), K z0 → Fr F0 z0 → C) : ∀ (n : Nat) (F : GF) (x1 : Int32), Fr F0 F → P_X11_makesRoll_15 K n F x1 → C := by
  intro n
  induction n with
  | zero => exact fun _ _ _ h => False.elim h
  | succ n ih =>
    intro F x1 g h
    rw [P_X11_makesRoll_15] at h
    rcases ite_elim h with ⟨-, h⟩ | ⟨-, h⟩
    · skip
      exact hK _ h g
    · skip
      have h := h.2
      rcases ite_elim h with ⟨-, h⟩ | ⟨-, h⟩
      · skip
        have h := h.2
        rcases ite_elim h with ⟨-, h⟩ | ⟨-, h⟩
        · skip
          unfold P_X11_makesRoll_86 at h
          exact ih _ _ g h
        · skip
          refine el_X11_dwelt (fun _ _ h g1 => ?_) g h
          refine el_X11_finds (fun _ h g2 => ?_) g1 h
          refine el_X11_stationFor (fun _ _ h g3 => ?_) g2 h
          have h := h.2
          obtain ⟨G4, e5, h⟩ := st_all h
          have g6 := Fr.fs4 e5 g3 (by decide)
          have h := h.2
          have h := h.2
          have h := h.2
          obtain ⟨G7, e8, h⟩ := st_all h
          have g9 := Fr.fs4 e8 g6 (by decide)
          unfold P_X11_makesRoll_86 at h
          exact ih _ _ g9 h
      · skip
        unfold P_X11_makesRoll_86 at h
        exact ih _ _ g h
theorem el_X11_makesRoll {F0 : GF} {C : Prop} {F : GF} {K : GF → Prop} (hK : ∀ (z0 : GF), K z0 → Fr F0 z0 → C) (g : Fr F0 F) (h : P_X11_makesRoll F K) : C := by
  unfold P_X11_makesRoll at h
  obtain ⟨G1, e2, h⟩ := st_all h
  have g3 := Fr.fs4 e2 g (by decide)
  obtain ⟨G4, e5, h⟩ := st_all h
  have g6 := Fr.fs4 e5 g3 (by decide)
  obtain ⟨n7, h⟩ := h
  refine el_X11_makesRoll_15 hK n7 _ _ g6 h
theorem el_X11_casts {F0 : GF} {C : Prop} {F : GF} {p1 : Int32} {p2 : Int32} {K : Int32 → GF → Prop} (hK : ∀ (z0 : Int32) (z1 : GF), K z0 z1 → Fr F0 z1 → C) (g : Fr F0 F) (h : P_X11_casts F p1 p2 K) : C := by
  unfold P_X11_casts at h
  have h := h.2
  have h := h.2
  have h := h.2
  obtain ⟨G1, e2, h⟩ := st_all h
  have g3 := Fr.fs4 e2 g (by decide)
  have h := h.2
  have h := h.2
  obtain ⟨G4, e5, h⟩ := st_all h
  have g6 := Fr.fs4 e5 g3 (by decide)
  have h := h.2
  obtain ⟨G7, e8, h⟩ := st_all h
  have g9 := Fr.fs4 e8 g6 (by decide)
  have h := h.2
  exact hK _ _ h g9
theorem el_X11_closes_7 {F0 : GF} {C : Prop}  {K : GF → Prop} (hK : ∀ (z0 : GF), K z0 → Fr F0 z0 → C) : ∀ (n : Nat) (F : GF) (x1 : Int32), Fr F0 F → P_X11_closes_7 K n F x1 → C := by
  intro n
  induction n with
  | zero => exact fun _ _ _ h => False.elim h
  | succ n ih =>
    intro F x1 g h
    rw [P_X11_closes_7] at h
    rcases ite_elim h with ⟨-, h⟩ | ⟨-, h⟩
    · skip
      exact hK _ h g
    · skip
      have h := h.2
      rcases ite_elim h with ⟨-, h⟩ | ⟨-, h⟩
      · skip
        have h := h.2
        obtain ⟨G1, e2, h⟩ := st_all h
        have g3 := Fr.fs4 e2 g (by decide)
        have h := h.2
        have h := h.2
        refine el_X11_casts (fun _ _ h g4 => ?_) g3 h
        have h := h.2
        refine el_X11_notes (fun _ h g5 => ?_) g4 h
        unfold P_X11_closes_64 at h
        exact ih _ _ g5 h
      · skip
        unfold P_X11_closes_64 at h
        exact ih _ _ g h
theorem el_X11_closes {F0 : GF} {C : Prop} {F : GF} {K : GF → Prop} (hK : ∀ (z0 : GF), K z0 → Fr F0 z0 → C) (g : Fr F0 F) (h : P_X11_closes F K) : C := by
  unfold P_X11_closes at h
  obtain ⟨G1, e2, h⟩ := st_all h
  have g3 := Fr.fs4 e2 g (by decide)
  obtain ⟨n4, h⟩ := h
  refine el_X11_closes_7 hK n4 _ _ g3 h
theorem el_X11_advance_41 {F0 : GF} {C : Prop}  {K : Int32 → GF → Prop} (hK : ∀ (z0 : Int32) (z1 : GF), K z0 z1 → Fr F0 z1 → C) : ∀ (n : Nat) (F : GF) (x1 : Int32) (x3 : Int32), Fr F0 F → P_X11_advance_41 K n F x1 x3 → C := by
  intro n
  induction n with
  | zero => exact fun _ _ _ _ h => False.elim h
  | succ n ih =>
    intro F x1 x3 g h
    rw [P_X11_advance_41] at h
    rcases ite_elim h with ⟨-, h⟩ | ⟨-, h⟩
    · skip
      exact hK _ _ h g
    · skip
      obtain ⟨G1, e2, h⟩ := st_all h
      have g3 := Fr.fs4 e2 g (by decide)
      rcases ite_elim h with ⟨-, h⟩ | ⟨-, h⟩
      · skip
        rcases ite_elim h with ⟨-, h⟩ | ⟨-, h⟩
        · skip
          refine el_X11_makesRoll (fun _ h g4 => ?_) g3 h
          unfold P_X11_advance_124 at h
          exact ih _ _ _ g4 h
        · skip
          unfold P_X11_advance_85 at h
          rcases ite_elim h with ⟨-, h⟩ | ⟨-, h⟩
          · skip
            rcases ite_elim h with ⟨-, h⟩ | ⟨-, h⟩
            · skip
              obtain ⟨G5, e6, h⟩ := st_all h
              have g7 := Fr.fs4 e6 g3 (by decide)
              unfold P_X11_advance_124 at h
              exact ih _ _ _ g7 h
            · skip
              unfold P_X11_advance_112 at h
              rcases ite_elim h with ⟨-, h⟩ | ⟨-, h⟩
              · skip
                refine el_X11_closes (fun _ h g8 => ?_) g3 h
                unfold P_X11_advance_124 at h
                exact ih _ _ _ g8 h
              · skip
                unfold P_X11_advance_124 at h
                exact ih _ _ _ g3 h
          · skip
            unfold P_X11_advance_112 at h
            rcases ite_elim h with ⟨-, h⟩ | ⟨-, h⟩
            · skip
              refine el_X11_closes (fun _ h g9 => ?_) g3 h
              unfold P_X11_advance_124 at h
              exact ih _ _ _ g9 h
            · skip
              unfold P_X11_advance_124 at h
              exact ih _ _ _ g3 h
      · skip
        unfold P_X11_advance_85 at h
        rcases ite_elim h with ⟨-, h⟩ | ⟨-, h⟩
        · skip
          rcases ite_elim h with ⟨-, h⟩ | ⟨-, h⟩
          · skip
            obtain ⟨G10, e11, h⟩ := st_all h
            have g12 := Fr.fs4 e11 g3 (by decide)
            unfold P_X11_advance_124 at h
            exact ih _ _ _ g12 h
          · skip
            unfold P_X11_advance_112 at h
            rcases ite_elim h with ⟨-, h⟩ | ⟨-, h⟩
            · skip
              refine el_X11_closes (fun _ h g13 => ?_) g3 h
              unfold P_X11_advance_124 at h
              exact ih _ _ _ g13 h
            · skip
              unfold P_X11_advance_124 at h
              exact ih _ _ _ g3 h
        · skip
          unfold P_X11_advance_112 at h
          rcases ite_elim h with ⟨-, h⟩ | ⟨-, h⟩
          · skip
            refine el_X11_closes (fun _ h g14 => ?_) g3 h
            unfold P_X11_advance_124 at h
            exact ih _ _ _ g14 h
          · skip
            unfold P_X11_advance_124 at h
            exact ih _ _ _ g3 h
theorem el_X11_advance {F0 : GF} {C : Prop} {F : GF} {p1 : Int32} {K : Int32 → GF → Prop} (hK : ∀ (z0 : Int32) (z1 : GF), K z0 z1 → Fr F0 z1 → C) (g : Fr F0 F) (h : P_X11_advance F p1 K) : C := by
  unfold P_X11_advance at h
  refine el_X11_in (fun _ _ h g1 => ?_) g h
  rcases ite_elim h with ⟨-, h⟩ | ⟨-, h⟩
  · skip
    unfold P_X11_advance_30 at h
    unfold P_X11_advance_31 at h
    refine el_X11_asked_ (fun _ _ h g2 => ?_) g1 h
    rcases ite_elim h with ⟨-, h⟩ | ⟨-, h⟩
    · skip
      exact hK _ _ h g2
    · skip
      obtain ⟨n3, h⟩ := h
      refine el_X11_advance_41 hK n3 _ _ _ g2 h
  · skip
    rcases ite_elim h with ⟨-, h⟩ | ⟨-, h⟩
    · skip
      unfold P_X11_advance_30 at h
      unfold P_X11_advance_31 at h
      refine el_X11_asked_ (fun _ _ h g4 => ?_) g1 h
      rcases ite_elim h with ⟨-, h⟩ | ⟨-, h⟩
      · skip
        exact hK _ _ h g4
      · skip
        obtain ⟨n5, h⟩ := h
        refine el_X11_advance_41 hK n5 _ _ _ g4 h
    · skip
      unfold P_X11_advance_31 at h
      refine el_X11_asked_ (fun _ _ h g6 => ?_) g1 h
      rcases ite_elim h with ⟨-, h⟩ | ⟨-, h⟩
      · skip
        exact hK _ _ h g6
      · skip
        obtain ⟨n7, h⟩ := h
        refine el_X11_advance_41 hK n7 _ _ _ g6 h
theorem el_X11_today {F0 : GF} {C : Prop} {F : GF} {K : Int32 → GF → Prop} (hK : ∀ (z0 : Int32) (z1 : GF), K z0 z1 → Fr F0 z1 → C) (g : Fr F0 F) (h : P_X11_today F K) : C := by
  unfold P_X11_today at h
  refine el_X11_told (fun _ _ h g1 => ?_) g h
  exact hK _ _ h g1
theorem el_X11_stage {F0 : GF} {C : Prop} {F : GF} {K : Int32 → GF → Prop} (hK : ∀ (z0 : Int32) (z1 : GF), K z0 z1 → Fr F0 z1 → C) (g : Fr F0 F) (h : P_X11_stage F K) : C := by
  unfold P_X11_stage at h
  refine el_X11_told (fun _ _ h g1 => ?_) g h
  exact hK _ _ h g1
theorem el_X11_isOnRoll {F0 : GF} {C : Prop} {F : GF} {p1 : Int32} {K : Int32 → GF → Prop} (hK : ∀ (z0 : Int32) (z1 : GF), K z0 z1 → Fr F0 z1 → C) (g : Fr F0 F) (h : P_X11_isOnRoll F p1 K) : C := by
  unfold P_X11_isOnRoll at h
  refine el_X11_isPerson (fun _ _ h g1 => ?_) g h
  refine el_X11_asked (fun _ _ h g2 => ?_) g1 h
  rcases ite_elim h with ⟨-, h⟩ | ⟨-, h⟩
  · skip
    exact hK _ _ h g2
  · skip
    have h := h.2
    rcases ite_elim h with ⟨-, h⟩ | ⟨-, h⟩
    · skip
      exact hK _ _ h g2
    · skip
      exact hK _ _ h g2
theorem el_X11_stationOf {F0 : GF} {C : Prop} {F : GF} {p1 : Int32} {K : Int32 → GF → Prop} (hK : ∀ (z0 : Int32) (z1 : GF), K z0 z1 → Fr F0 z1 → C) (g : Fr F0 F) (h : P_X11_stationOf F p1 K) : C := by
  unfold P_X11_stationOf at h
  refine el_X11_isPerson (fun _ _ h g1 => ?_) g h
  refine el_X11_asked (fun _ _ h g2 => ?_) g1 h
  rcases ite_elim h with ⟨-, h⟩ | ⟨-, h⟩
  · skip
    exact hK _ _ h g2
  · skip
    have h := h.2
    exact hK _ _ h g2
theorem el_X11_peopleOf {F0 : GF} {C : Prop} {F : GF} {p1 : Int32} {K : Int32 → GF → Prop} (hK : ∀ (z0 : Int32) (z1 : GF), K z0 z1 → Fr F0 z1 → C) (g : Fr F0 F) (h : P_X11_peopleOf F p1 K) : C := by
  unfold P_X11_peopleOf at h
  refine el_X11_isStation (fun _ _ h g1 => ?_) g h
  refine el_X11_asked (fun _ _ h g2 => ?_) g1 h
  rcases ite_elim h with ⟨-, h⟩ | ⟨-, h⟩
  · skip
    exact hK _ _ h g2
  · skip
    have h := h.2
    exact hK _ _ h g2
theorem el_X11_canVote {F0 : GF} {C : Prop} {F : GF} {p1 : Int32} {K : Int32 → GF → Prop} (hK : ∀ (z0 : Int32) (z1 : GF), K z0 z1 → Fr F0 z1 → C) (g : Fr F0 F) (h : P_X11_canVote F p1 K) : C := by
  unfold P_X11_canVote at h
  have h := h.2
  rcases ite_elim h with ⟨-, h⟩ | ⟨-, h⟩
  · skip
    exact hK _ _ h g
  · skip
    have h := h.2
    rcases ite_elim h with ⟨-, h⟩ | ⟨-, h⟩
    · skip
      exact hK _ _ h g
    · skip
      exact hK _ _ h g
theorem el_X11_early {F0 : GF} {C : Prop} {F : GF} {p1 : Int32} {p2 : Int32} {K : Int32 → GF → Prop} (hK : ∀ (z0 : Int32) (z1 : GF), K z0 z1 → Fr F0 z1 → C) (g : Fr F0 F) (h : P_X11_early F p1 p2 K) : C := by
  unfold P_X11_early at h
  refine el_X11_isPerson (fun _ _ h g1 => ?_) g h
  refine el_X11_in (fun _ _ h g2 => ?_) g1 h
  rcases ite_elim h with ⟨-, h⟩ | ⟨-, h⟩
  · skip
    unfold P_X11_early_47 at h
    unfold P_X11_early_48 at h
    refine el_X11_asked__ (fun _ _ h g3 => ?_) g2 h
    rcases ite_elim h with ⟨-, h⟩ | ⟨-, h⟩
    · skip
      exact hK _ _ h g3
    · skip
      refine el_X11_voids (fun _ _ h g4 => ?_) g3 h
      have h := h.2
      obtain ⟨G5, e6, h⟩ := st_all h
      have g7 := Fr.fs4 e6 g4 (by decide)
      have h := h.2
      obtain ⟨G8, e9, h⟩ := st_all h
      have g10 := Fr.fs4 e9 g7 (by decide)
      have h := h.2
      obtain ⟨G11, e12, h⟩ := st_all h
      have g13 := Fr.fs4 e12 g10 (by decide)
      obtain ⟨G14, e15, h⟩ := st_all h
      have g16 := Fr.fs4 e15 g13 (by decide)
      refine el_X11_notes (fun _ h g17 => ?_) g16 h
      exact hK _ _ h g17
  · skip
    rcases ite_elim h with ⟨-, h⟩ | ⟨-, h⟩
    · skip
      refine el_X11_canVote (fun _ _ h g18 => ?_) g2 h
      rcases ite_elim h with ⟨-, h⟩ | ⟨-, h⟩
      · skip
        unfold P_X11_early_47 at h
        unfold P_X11_early_48 at h
        refine el_X11_asked__ (fun _ _ h g19 => ?_) g18 h
        rcases ite_elim h with ⟨-, h⟩ | ⟨-, h⟩
        · skip
          exact hK _ _ h g19
        · skip
          refine el_X11_voids (fun _ _ h g20 => ?_) g19 h
          have h := h.2
          obtain ⟨G21, e22, h⟩ := st_all h
          have g23 := Fr.fs4 e22 g20 (by decide)
          have h := h.2
          obtain ⟨G24, e25, h⟩ := st_all h
          have g26 := Fr.fs4 e25 g23 (by decide)
          have h := h.2
          obtain ⟨G27, e28, h⟩ := st_all h
          have g29 := Fr.fs4 e28 g26 (by decide)
          obtain ⟨G30, e31, h⟩ := st_all h
          have g32 := Fr.fs4 e31 g29 (by decide)
          refine el_X11_notes (fun _ h g33 => ?_) g32 h
          exact hK _ _ h g33
      · skip
        rcases ite_elim h with ⟨-, h⟩ | ⟨-, h⟩
        · skip
          unfold P_X11_early_47 at h
          unfold P_X11_early_48 at h
          refine el_X11_asked__ (fun _ _ h g34 => ?_) g18 h
          rcases ite_elim h with ⟨-, h⟩ | ⟨-, h⟩
          · skip
            exact hK _ _ h g34
          · skip
            refine el_X11_voids (fun _ _ h g35 => ?_) g34 h
            have h := h.2
            obtain ⟨G36, e37, h⟩ := st_all h
            have g38 := Fr.fs4 e37 g35 (by decide)
            have h := h.2
            obtain ⟨G39, e40, h⟩ := st_all h
            have g41 := Fr.fs4 e40 g38 (by decide)
            have h := h.2
            obtain ⟨G42, e43, h⟩ := st_all h
            have g44 := Fr.fs4 e43 g41 (by decide)
            obtain ⟨G45, e46, h⟩ := st_all h
            have g47 := Fr.fs4 e46 g44 (by decide)
            refine el_X11_notes (fun _ h g48 => ?_) g47 h
            exact hK _ _ h g48
        · skip
          unfold P_X11_early_48 at h
          refine el_X11_asked__ (fun _ _ h g49 => ?_) g18 h
          rcases ite_elim h with ⟨-, h⟩ | ⟨-, h⟩
          · skip
            exact hK _ _ h g49
          · skip
            refine el_X11_voids (fun _ _ h g50 => ?_) g49 h
            have h := h.2
            obtain ⟨G51, e52, h⟩ := st_all h
            have g53 := Fr.fs4 e52 g50 (by decide)
            have h := h.2
            obtain ⟨G54, e55, h⟩ := st_all h
            have g56 := Fr.fs4 e55 g53 (by decide)
            have h := h.2
            obtain ⟨G57, e58, h⟩ := st_all h
            have g59 := Fr.fs4 e58 g56 (by decide)
            obtain ⟨G60, e61, h⟩ := st_all h
            have g62 := Fr.fs4 e61 g59 (by decide)
            refine el_X11_notes (fun _ h g63 => ?_) g62 h
            exact hK _ _ h g63
    · skip
      unfold P_X11_early_47 at h
      unfold P_X11_early_48 at h
      refine el_X11_asked__ (fun _ _ h g64 => ?_) g2 h
      rcases ite_elim h with ⟨-, h⟩ | ⟨-, h⟩
      · skip
        exact hK _ _ h g64
      · skip
        refine el_X11_voids (fun _ _ h g65 => ?_) g64 h
        have h := h.2
        obtain ⟨G66, e67, h⟩ := st_all h
        have g68 := Fr.fs4 e67 g65 (by decide)
        have h := h.2
        obtain ⟨G69, e70, h⟩ := st_all h
        have g71 := Fr.fs4 e70 g68 (by decide)
        have h := h.2
        obtain ⟨G72, e73, h⟩ := st_all h
        have g74 := Fr.fs4 e73 g71 (by decide)
        obtain ⟨G75, e76, h⟩ := st_all h
        have g77 := Fr.fs4 e76 g74 (by decide)
        refine el_X11_notes (fun _ h g78 => ?_) g77 h
        exact hK _ _ h g78
theorem el_X11_vote {F0 : GF} {C : Prop} {F : GF} {p1 : Int32} {p2 : Int32} {p3 : Int32} {K : Int32 → GF → Prop} (hK : ∀ (z0 : Int32) (z1 : GF), K z0 z1 → Fr F0 z1 → C) (g : Fr F0 F) (h : P_X11_vote F p1 p2 p3 K) : C := by
  unfold P_X11_vote at h
  refine el_X11_isPerson (fun _ _ h g1 => ?_) g h
  rcases ite_elim h with ⟨-, h⟩ | ⟨-, h⟩
  · skip
    unfold P_X11_vote_20 at h
    unfold P_X11_vote_21 at h
    refine el_X11_in (fun _ _ h g2 => ?_) g1 h
    rcases ite_elim h with ⟨-, h⟩ | ⟨-, h⟩
    · skip
      unfold P_X11_vote_76 at h
      unfold P_X11_vote_77 at h
      refine el_X11_asked__ (fun _ _ h g3 => ?_) g2 h
      rcases ite_elim h with ⟨-, h⟩ | ⟨-, h⟩
      · skip
        exact hK _ _ h g3
      · skip
        refine el_X11_voids (fun _ _ h g4 => ?_) g3 h
        refine el_X11_notes (fun _ h g5 => ?_) g4 h
        refine el_X11_casts (fun _ _ h g6 => ?_) g5 h
        exact hK _ _ h g6
    · skip
      rcases ite_elim h with ⟨-, h⟩ | ⟨-, h⟩
      · skip
        refine el_X11_canVote (fun _ _ h g7 => ?_) g2 h
        rcases ite_elim h with ⟨-, h⟩ | ⟨-, h⟩
        · skip
          unfold P_X11_vote_76 at h
          unfold P_X11_vote_77 at h
          refine el_X11_asked__ (fun _ _ h g8 => ?_) g7 h
          rcases ite_elim h with ⟨-, h⟩ | ⟨-, h⟩
          · skip
            exact hK _ _ h g8
          · skip
            refine el_X11_voids (fun _ _ h g9 => ?_) g8 h
            refine el_X11_notes (fun _ h g10 => ?_) g9 h
            refine el_X11_casts (fun _ _ h g11 => ?_) g10 h
            exact hK _ _ h g11
        · skip
          have h := h.2
          rcases ite_elim h with ⟨-, h⟩ | ⟨-, h⟩
          · skip
            have h := h.2
            rcases ite_elim h with ⟨-, h⟩ | ⟨-, h⟩
            · skip
              unfold P_X11_vote_77 at h
              refine el_X11_asked__ (fun _ _ h g12 => ?_) g7 h
              rcases ite_elim h with ⟨-, h⟩ | ⟨-, h⟩
              · skip
                exact hK _ _ h g12
              · skip
                refine el_X11_voids (fun _ _ h g13 => ?_) g12 h
                refine el_X11_notes (fun _ h g14 => ?_) g13 h
                refine el_X11_casts (fun _ _ h g15 => ?_) g14 h
                exact hK _ _ h g15
            · skip
              unfold P_X11_vote_76 at h
              unfold P_X11_vote_77 at h
              refine el_X11_asked__ (fun _ _ h g16 => ?_) g7 h
              rcases ite_elim h with ⟨-, h⟩ | ⟨-, h⟩
              · skip
                exact hK _ _ h g16
              · skip
                refine el_X11_voids (fun _ _ h g17 => ?_) g16 h
                refine el_X11_notes (fun _ h g18 => ?_) g17 h
                refine el_X11_casts (fun _ _ h g19 => ?_) g18 h
                exact hK _ _ h g19
          · skip
            unfold P_X11_vote_76 at h
            unfold P_X11_vote_77 at h
            refine el_X11_asked__ (fun _ _ h g20 => ?_) g7 h
            rcases ite_elim h with ⟨-, h⟩ | ⟨-, h⟩
            · skip
              exact hK _ _ h g20
            · skip
              refine el_X11_voids (fun _ _ h g21 => ?_) g20 h
              refine el_X11_notes (fun _ h g22 => ?_) g21 h
              refine el_X11_casts (fun _ _ h g23 => ?_) g22 h
              exact hK _ _ h g23
      · skip
        unfold P_X11_vote_76 at h
        unfold P_X11_vote_77 at h
        refine el_X11_asked__ (fun _ _ h g24 => ?_) g2 h
        rcases ite_elim h with ⟨-, h⟩ | ⟨-, h⟩
        · skip
          exact hK _ _ h g24
        · skip
          refine el_X11_voids (fun _ _ h g25 => ?_) g24 h
          refine el_X11_notes (fun _ h g26 => ?_) g25 h
          refine el_X11_casts (fun _ _ h g27 => ?_) g26 h
          exact hK _ _ h g27
  · skip
    refine el_X11_isStation (fun _ _ h g28 => ?_) g1 h
    rcases ite_elim h with ⟨-, h⟩ | ⟨-, h⟩
    · skip
      unfold P_X11_vote_20 at h
      unfold P_X11_vote_21 at h
      refine el_X11_in (fun _ _ h g29 => ?_) g28 h
      rcases ite_elim h with ⟨-, h⟩ | ⟨-, h⟩
      · skip
        unfold P_X11_vote_76 at h
        unfold P_X11_vote_77 at h
        refine el_X11_asked__ (fun _ _ h g30 => ?_) g29 h
        rcases ite_elim h with ⟨-, h⟩ | ⟨-, h⟩
        · skip
          exact hK _ _ h g30
        · skip
          refine el_X11_voids (fun _ _ h g31 => ?_) g30 h
          refine el_X11_notes (fun _ h g32 => ?_) g31 h
          refine el_X11_casts (fun _ _ h g33 => ?_) g32 h
          exact hK _ _ h g33
      · skip
        rcases ite_elim h with ⟨-, h⟩ | ⟨-, h⟩
        · skip
          refine el_X11_canVote (fun _ _ h g34 => ?_) g29 h
          rcases ite_elim h with ⟨-, h⟩ | ⟨-, h⟩
          · skip
            unfold P_X11_vote_76 at h
            unfold P_X11_vote_77 at h
            refine el_X11_asked__ (fun _ _ h g35 => ?_) g34 h
            rcases ite_elim h with ⟨-, h⟩ | ⟨-, h⟩
            · skip
              exact hK _ _ h g35
            · skip
              refine el_X11_voids (fun _ _ h g36 => ?_) g35 h
              refine el_X11_notes (fun _ h g37 => ?_) g36 h
              refine el_X11_casts (fun _ _ h g38 => ?_) g37 h
              exact hK _ _ h g38
          · skip
            have h := h.2
            rcases ite_elim h with ⟨-, h⟩ | ⟨-, h⟩
            · skip
              have h := h.2
              rcases ite_elim h with ⟨-, h⟩ | ⟨-, h⟩
              · skip
                unfold P_X11_vote_77 at h
                refine el_X11_asked__ (fun _ _ h g39 => ?_) g34 h
                rcases ite_elim h with ⟨-, h⟩ | ⟨-, h⟩
                · skip
                  exact hK _ _ h g39
                · skip
                  refine el_X11_voids (fun _ _ h g40 => ?_) g39 h
                  refine el_X11_notes (fun _ h g41 => ?_) g40 h
                  refine el_X11_casts (fun _ _ h g42 => ?_) g41 h
                  exact hK _ _ h g42
              · skip
                unfold P_X11_vote_76 at h
                unfold P_X11_vote_77 at h
                refine el_X11_asked__ (fun _ _ h g43 => ?_) g34 h
                rcases ite_elim h with ⟨-, h⟩ | ⟨-, h⟩
                · skip
                  exact hK _ _ h g43
                · skip
                  refine el_X11_voids (fun _ _ h g44 => ?_) g43 h
                  refine el_X11_notes (fun _ h g45 => ?_) g44 h
                  refine el_X11_casts (fun _ _ h g46 => ?_) g45 h
                  exact hK _ _ h g46
            · skip
              unfold P_X11_vote_76 at h
              unfold P_X11_vote_77 at h
              refine el_X11_asked__ (fun _ _ h g47 => ?_) g34 h
              rcases ite_elim h with ⟨-, h⟩ | ⟨-, h⟩
              · skip
                exact hK _ _ h g47
              · skip
                refine el_X11_voids (fun _ _ h g48 => ?_) g47 h
                refine el_X11_notes (fun _ h g49 => ?_) g48 h
                refine el_X11_casts (fun _ _ h g50 => ?_) g49 h
                exact hK _ _ h g50
        · skip
          unfold P_X11_vote_76 at h
          unfold P_X11_vote_77 at h
          refine el_X11_asked__ (fun _ _ h g51 => ?_) g29 h
          rcases ite_elim h with ⟨-, h⟩ | ⟨-, h⟩
          · skip
            exact hK _ _ h g51
          · skip
            refine el_X11_voids (fun _ _ h g52 => ?_) g51 h
            refine el_X11_notes (fun _ h g53 => ?_) g52 h
            refine el_X11_casts (fun _ _ h g54 => ?_) g53 h
            exact hK _ _ h g54
    · skip
      unfold P_X11_vote_21 at h
      refine el_X11_in (fun _ _ h g55 => ?_) g28 h
      rcases ite_elim h with ⟨-, h⟩ | ⟨-, h⟩
      · skip
        unfold P_X11_vote_76 at h
        unfold P_X11_vote_77 at h
        refine el_X11_asked__ (fun _ _ h g56 => ?_) g55 h
        rcases ite_elim h with ⟨-, h⟩ | ⟨-, h⟩
        · skip
          exact hK _ _ h g56
        · skip
          refine el_X11_voids (fun _ _ h g57 => ?_) g56 h
          refine el_X11_notes (fun _ h g58 => ?_) g57 h
          refine el_X11_casts (fun _ _ h g59 => ?_) g58 h
          exact hK _ _ h g59
      · skip
        rcases ite_elim h with ⟨-, h⟩ | ⟨-, h⟩
        · skip
          refine el_X11_canVote (fun _ _ h g60 => ?_) g55 h
          rcases ite_elim h with ⟨-, h⟩ | ⟨-, h⟩
          · skip
            unfold P_X11_vote_76 at h
            unfold P_X11_vote_77 at h
            refine el_X11_asked__ (fun _ _ h g61 => ?_) g60 h
            rcases ite_elim h with ⟨-, h⟩ | ⟨-, h⟩
            · skip
              exact hK _ _ h g61
            · skip
              refine el_X11_voids (fun _ _ h g62 => ?_) g61 h
              refine el_X11_notes (fun _ h g63 => ?_) g62 h
              refine el_X11_casts (fun _ _ h g64 => ?_) g63 h
              exact hK _ _ h g64
          · skip
            have h := h.2
            rcases ite_elim h with ⟨-, h⟩ | ⟨-, h⟩
            · skip
              have h := h.2
              rcases ite_elim h with ⟨-, h⟩ | ⟨-, h⟩
              · skip
                unfold P_X11_vote_77 at h
                refine el_X11_asked__ (fun _ _ h g65 => ?_) g60 h
                rcases ite_elim h with ⟨-, h⟩ | ⟨-, h⟩
                · skip
                  exact hK _ _ h g65
                · skip
                  refine el_X11_voids (fun _ _ h g66 => ?_) g65 h
                  refine el_X11_notes (fun _ h g67 => ?_) g66 h
                  refine el_X11_casts (fun _ _ h g68 => ?_) g67 h
                  exact hK _ _ h g68
              · skip
                unfold P_X11_vote_76 at h
                unfold P_X11_vote_77 at h
                refine el_X11_asked__ (fun _ _ h g69 => ?_) g60 h
                rcases ite_elim h with ⟨-, h⟩ | ⟨-, h⟩
                · skip
                  exact hK _ _ h g69
                · skip
                  refine el_X11_voids (fun _ _ h g70 => ?_) g69 h
                  refine el_X11_notes (fun _ h g71 => ?_) g70 h
                  refine el_X11_casts (fun _ _ h g72 => ?_) g71 h
                  exact hK _ _ h g72
            · skip
              unfold P_X11_vote_76 at h
              unfold P_X11_vote_77 at h
              refine el_X11_asked__ (fun _ _ h g73 => ?_) g60 h
              rcases ite_elim h with ⟨-, h⟩ | ⟨-, h⟩
              · skip
                exact hK _ _ h g73
              · skip
                refine el_X11_voids (fun _ _ h g74 => ?_) g73 h
                refine el_X11_notes (fun _ h g75 => ?_) g74 h
                refine el_X11_casts (fun _ _ h g76 => ?_) g75 h
                exact hK _ _ h g76
        · skip
          unfold P_X11_vote_76 at h
          unfold P_X11_vote_77 at h
          refine el_X11_asked__ (fun _ _ h g77 => ?_) g55 h
          rcases ite_elim h with ⟨-, h⟩ | ⟨-, h⟩
          · skip
            exact hK _ _ h g77
          · skip
            refine el_X11_voids (fun _ _ h g78 => ?_) g77 h
            refine el_X11_notes (fun _ h g79 => ?_) g78 h
            refine el_X11_casts (fun _ _ h g80 => ?_) g79 h
            exact hK _ _ h g80
theorem el_X11_open {F0 : GF} {C : Prop} {F : GF} {p1 : Int32} {K : Int32 → GF → Prop} (hK : ∀ (z0 : Int32) (z1 : GF), K z0 z1 → Fr F0 z1 → C) (g : Fr F0 F) (h : P_X11_open F p1 K) : C := by
  unfold P_X11_open at h
  refine el_X11_isPerson (fun _ _ h g1 => ?_) g h
  rcases ite_elim h with ⟨-, h⟩ | ⟨-, h⟩
  · skip
    unfold P_X11_open_26 at h
    unfold P_X11_open_27 at h
    rcases ite_elim h with ⟨-, h⟩ | ⟨-, h⟩
    · skip
      unfold P_X11_open_40 at h
      refine el_X11_asked_ (fun _ _ h g2 => ?_) g1 h
      rcases ite_elim h with ⟨-, h⟩ | ⟨-, h⟩
      · skip
        exact hK _ _ h g2
      · skip
        have h := h.2
        obtain ⟨G3, e4, h⟩ := st_all h
        have g5 := Fr.fs4 e4 g2 (by decide)
        have h := h.2
        refine el_X11_casts (fun _ _ h g6 => ?_) g5 h
        refine el_X11_notes (fun _ h g7 => ?_) g6 h
        exact hK _ _ h g7
    · skip
      unfold P_X11_open_40 at h
      refine el_X11_asked_ (fun _ _ h g8 => ?_) g1 h
      rcases ite_elim h with ⟨-, h⟩ | ⟨-, h⟩
      · skip
        exact hK _ _ h g8
      · skip
        have h := h.2
        obtain ⟨G9, e10, h⟩ := st_all h
        have g11 := Fr.fs4 e10 g8 (by decide)
        have h := h.2
        refine el_X11_casts (fun _ _ h g12 => ?_) g11 h
        refine el_X11_notes (fun _ h g13 => ?_) g12 h
        exact hK _ _ h g13
  · skip
    rcases ite_elim h with ⟨-, h⟩ | ⟨-, h⟩
    · skip
      refine el_X11_sealedOf (fun _ _ h g14 => ?_) g1 h
      unfold P_X11_open_27 at h
      rcases ite_elim h with ⟨-, h⟩ | ⟨-, h⟩
      · skip
        unfold P_X11_open_40 at h
        refine el_X11_asked_ (fun _ _ h g15 => ?_) g14 h
        rcases ite_elim h with ⟨-, h⟩ | ⟨-, h⟩
        · skip
          exact hK _ _ h g15
        · skip
          have h := h.2
          obtain ⟨G16, e17, h⟩ := st_all h
          have g18 := Fr.fs4 e17 g15 (by decide)
          have h := h.2
          refine el_X11_casts (fun _ _ h g19 => ?_) g18 h
          refine el_X11_notes (fun _ h g20 => ?_) g19 h
          exact hK _ _ h g20
      · skip
        unfold P_X11_open_40 at h
        refine el_X11_asked_ (fun _ _ h g21 => ?_) g14 h
        rcases ite_elim h with ⟨-, h⟩ | ⟨-, h⟩
        · skip
          exact hK _ _ h g21
        · skip
          have h := h.2
          obtain ⟨G22, e23, h⟩ := st_all h
          have g24 := Fr.fs4 e23 g21 (by decide)
          have h := h.2
          refine el_X11_casts (fun _ _ h g25 => ?_) g24 h
          refine el_X11_notes (fun _ h g26 => ?_) g25 h
          exact hK _ _ h g26
    · skip
      unfold P_X11_open_26 at h
      unfold P_X11_open_27 at h
      rcases ite_elim h with ⟨-, h⟩ | ⟨-, h⟩
      · skip
        unfold P_X11_open_40 at h
        refine el_X11_asked_ (fun _ _ h g27 => ?_) g1 h
        rcases ite_elim h with ⟨-, h⟩ | ⟨-, h⟩
        · skip
          exact hK _ _ h g27
        · skip
          have h := h.2
          obtain ⟨G28, e29, h⟩ := st_all h
          have g30 := Fr.fs4 e29 g27 (by decide)
          have h := h.2
          refine el_X11_casts (fun _ _ h g31 => ?_) g30 h
          refine el_X11_notes (fun _ h g32 => ?_) g31 h
          exact hK _ _ h g32
      · skip
        unfold P_X11_open_40 at h
        refine el_X11_asked_ (fun _ _ h g33 => ?_) g1 h
        rcases ite_elim h with ⟨-, h⟩ | ⟨-, h⟩
        · skip
          exact hK _ _ h g33
        · skip
          have h := h.2
          obtain ⟨G34, e35, h⟩ := st_all h
          have g36 := Fr.fs4 e35 g33 (by decide)
          have h := h.2
          refine el_X11_casts (fun _ _ h g37 => ?_) g36 h
          refine el_X11_notes (fun _ h g38 => ?_) g37 h
          exact hK _ _ h g38
theorem el_X11_envelopes {F0 : GF} {C : Prop} {F : GF} {K : Int32 → GF → Prop} (hK : ∀ (z0 : Int32) (z1 : GF), K z0 z1 → Fr F0 z1 → C) (g : Fr F0 F) (h : P_X11_envelopes F K) : C := by
  unfold P_X11_envelopes at h
  refine el_X11_told (fun _ _ h g1 => ?_) g h
  exact hK _ _ h g1
theorem el_X11_stateOf {F0 : GF} {C : Prop} {F : GF} {p1 : Int32} {K : Int32 → GF → Prop} (hK : ∀ (z0 : Int32) (z1 : GF), K z0 z1 → Fr F0 z1 → C) (g : Fr F0 F) (h : P_X11_stateOf F p1 K) : C := by
  unfold P_X11_stateOf at h
  refine el_X11_in (fun _ _ h g1 => ?_) g h
  refine el_X11_asked (fun _ _ h g2 => ?_) g1 h
  rcases ite_elim h with ⟨-, h⟩ | ⟨-, h⟩
  · skip
    exact hK _ _ h g2
  · skip
    have h := h.2
    exact hK _ _ h g2
theorem el_X11_personOf {F0 : GF} {C : Prop} {F : GF} {p1 : Int32} {K : Int32 → GF → Prop} (hK : ∀ (z0 : Int32) (z1 : GF), K z0 z1 → Fr F0 z1 → C) (g : Fr F0 F) (h : P_X11_personOf F p1 K) : C := by
  unfold P_X11_personOf at h
  refine el_X11_in (fun _ _ h g1 => ?_) g h
  refine el_X11_asked (fun _ _ h g2 => ?_) g1 h
  rcases ite_elim h with ⟨-, h⟩ | ⟨-, h⟩
  · skip
    exact hK _ _ h g2
  · skip
    have h := h.2
    exact hK _ _ h g2
theorem el_X11_ballots {F0 : GF} {C : Prop} {F : GF} {p1 : Int32} {K : Int32 → GF → Prop} (hK : ∀ (z0 : Int32) (z1 : GF), K z0 z1 → Fr F0 z1 → C) (g : Fr F0 F) (h : P_X11_ballots F p1 K) : C := by
  unfold P_X11_ballots at h
  refine el_X11_isStation (fun _ _ h g1 => ?_) g h
  refine el_X11_asked (fun _ _ h g2 => ?_) g1 h
  rcases ite_elim h with ⟨-, h⟩ | ⟨-, h⟩
  · skip
    exact hK _ _ h g2
  · skip
    have h := h.2
    exact hK _ _ h g2
theorem el_X11_setSlip {F0 : GF} {C : Prop} {F : GF} {p1 : Int32} {p2 : Int32} {K : Int32 → GF → Prop} (hK : ∀ (z0 : Int32) (z1 : GF), K z0 z1 → Fr F0 z1 → C) (g : Fr F0 F) (h : P_X11_setSlip F p1 p2 K) : C := by
  unfold P_X11_setSlip at h
  refine el_X11_in (fun _ _ h g1 => ?_) g h
  rcases ite_elim h with ⟨-, h⟩ | ⟨-, h⟩
  · skip
    unfold P_X11_setSlip_21 at h
    unfold P_X11_setSlip_26 at h
    refine el_X11_asked_ (fun _ _ h g2 => ?_) g1 h
    rcases ite_elim h with ⟨-, h⟩ | ⟨-, h⟩
    · skip
      exact hK _ _ h g2
    · skip
      have h := h.2
      have h := h.2
      obtain ⟨G3, e4, h⟩ := st_all h
      have g5 := Fr.fs4 e4 g2 (by decide)
      exact hK _ _ h g5
  · skip
    refine el_X11_in (fun _ _ h g6 => ?_) g1 h
    rcases ite_elim h with ⟨-, h⟩ | ⟨-, h⟩
    · skip
      unfold P_X11_setSlip_26 at h
      refine el_X11_asked_ (fun _ _ h g7 => ?_) g6 h
      rcases ite_elim h with ⟨-, h⟩ | ⟨-, h⟩
      · skip
        exact hK _ _ h g7
      · skip
        have h := h.2
        have h := h.2
        obtain ⟨G8, e9, h⟩ := st_all h
        have g10 := Fr.fs4 e9 g7 (by decide)
        exact hK _ _ h g10
    · skip
      unfold P_X11_setSlip_21 at h
      unfold P_X11_setSlip_26 at h
      refine el_X11_asked_ (fun _ _ h g11 => ?_) g6 h
      rcases ite_elim h with ⟨-, h⟩ | ⟨-, h⟩
      · skip
        exact hK _ _ h g11
      · skip
        have h := h.2
        have h := h.2
        obtain ⟨G12, e13, h⟩ := st_all h
        have g14 := Fr.fs4 e13 g11 (by decide)
        exact hK _ _ h g14
theorem el_X11_areAlike_24 {F0 : GF} {C : Prop}  {K : Int32 → GF → Prop} (hK : ∀ (z0 : Int32) (z1 : GF), K z0 z1 → Fr F0 z1 → C) : ∀ (n : Nat) (F : GF) (x1 : Int32) (x2 : Int32) (x3 : Int32) (x4 : Int32), Fr F0 F → P_X11_areAlike_24 K n F x1 x2 x3 x4 → C := by
  intro n
  induction n with
  | zero => exact fun _ _ _ _ _ _ h => False.elim h
  | succ n ih =>
    intro F x1 x2 x3 x4 g h
    rw [P_X11_areAlike_24] at h
    rcases ite_elim h with ⟨-, h⟩ | ⟨-, h⟩
    · skip
      have h := h.2
      exact hK _ _ h g
    · skip
      rcases ite_elim h with ⟨-, h⟩ | ⟨-, h⟩
      · skip
        unfold P_X11_areAlike_66 at h
        unfold P_X11_areAlike_67 at h
        exact ih _ _ _ _ _ g h
      · skip
        have h := h.2
        have h := h.2
        rcases ite_elim h with ⟨-, h⟩ | ⟨-, h⟩
        · skip
          unfold P_X11_areAlike_67 at h
          exact ih _ _ _ _ _ g h
        · skip
          unfold P_X11_areAlike_66 at h
          unfold P_X11_areAlike_67 at h
          exact ih _ _ _ _ _ g h
theorem el_X11_areAlike {F0 : GF} {C : Prop} {F : GF} {p1 : Int32} {p2 : Int32} {K : Int32 → GF → Prop} (hK : ∀ (z0 : Int32) (z1 : GF), K z0 z1 → Fr F0 z1 → C) (g : Fr F0 F) (h : P_X11_areAlike F p1 p2 K) : C := by
  unfold P_X11_areAlike at h
  have h := h.2
  have h := h.2
  rcases ite_elim h with ⟨-, h⟩ | ⟨-, h⟩
  · skip
    unfold P_X11_areAlike_20 at h
    obtain ⟨n1, h⟩ := h
    refine el_X11_areAlike_24 hK n1 _ _ _ _ _ g h
  · skip
    unfold P_X11_areAlike_20 at h
    obtain ⟨n2, h⟩ := h
    refine el_X11_areAlike_24 hK n2 _ _ _ _ _ g h
theorem el_X11_count_295 {F0 : GF} {C : Prop}  {K : Int32 → GF → Prop} (hK : ∀ (z0 : Int32) (z1 : GF), K z0 z1 → Fr F0 z1 → C) : ∀ (n : Nat) (F : GF) (x1 : Int32) (x5 : Int32) (x6 : Int32), Fr F0 F → P_X11_count_295 K n F x1 x5 x6 → C := by
  intro n
  induction n with
  | zero => exact fun _ _ _ _ _ h => False.elim h
  | succ n ih =>
    intro F x1 x5 x6 g h
    rw [P_X11_count_295] at h
    rcases ite_elim h with ⟨-, h⟩ | ⟨-, h⟩
    · skip
      rcases ite_elim h with ⟨-, h⟩ | ⟨-, h⟩
      · skip
        unfold P_X11_count_347 at h
        obtain ⟨G1, e2, h⟩ := st_all h
        have g3 := Fr.fs4 e2 g (by decide)
        have h := h.2
        rcases ite_elim h with ⟨-, h⟩ | ⟨-, h⟩
        · skip
          exact hK _ _ h g3
        · skip
          exact hK _ _ h g3
      · skip
        unfold P_X11_count_347 at h
        obtain ⟨G4, e5, h⟩ := st_all h
        have g6 := Fr.fs4 e5 g (by decide)
        have h := h.2
        rcases ite_elim h with ⟨-, h⟩ | ⟨-, h⟩
        · skip
          exact hK _ _ h g6
        · skip
          exact hK _ _ h g6
    · skip
      rcases ite_elim h with ⟨-, h⟩ | ⟨-, h⟩
      · skip
        unfold P_X11_count_324 at h
        unfold P_X11_count_325 at h
        exact ih _ _ _ _ g h
      · skip
        have h := h.2
        rcases ite_elim h with ⟨-, h⟩ | ⟨-, h⟩
        · skip
          unfold P_X11_count_324 at h
          unfold P_X11_count_325 at h
          exact ih _ _ _ _ g h
        · skip
          unfold P_X11_count_325 at h
          exact ih _ _ _ _ g h
theorem el_X11_count_237 {F0 : GF} {C : Prop}  {K : Int32 → GF → Prop} (hK : ∀ (z0 : Int32) (z1 : GF), K z0 z1 → Fr F0 z1 → C) : ∀ (n : Nat) (F : GF) (x1 : Int32) (x4 : Int32) (x5 : Int32), Fr F0 F → P_X11_count_237 K n F x1 x4 x5 → C := by
  intro n
  induction n with
  | zero => exact fun _ _ _ _ _ h => False.elim h
  | succ n ih =>
    intro F x1 x4 x5 g h
    rw [P_X11_count_237] at h
    rcases ite_elim h with ⟨-, h⟩ | ⟨-, h⟩
    · skip
      refine el_X11_notes (fun _ h g1 => ?_) g h
      obtain ⟨n2, h⟩ := h
      refine el_X11_count_295 hK n2 _ _ _ _ g1 h
    · skip
      refine el_X11_areAlike (fun _ _ h g3 => ?_) g h
      rcases ite_elim h with ⟨-, h⟩ | ⟨-, h⟩
      · skip
        have h := h.2
        unfold P_X11_count_271 at h
        have h := h.2
        obtain ⟨G4, e5, h⟩ := st_all h
        have g6 := Fr.fs4 e5 g3 (by decide)
        exact ih _ _ _ _ g6 h
      · skip
        unfold P_X11_count_271 at h
        have h := h.2
        obtain ⟨G7, e8, h⟩ := st_all h
        have g9 := Fr.fs4 e8 g3 (by decide)
        exact ih _ _ _ _ g9 h
theorem el_X11_count_133 {F0 : GF} {C : Prop}  {K : Int32 → GF → Prop} (hK : ∀ (z0 : Int32) (z1 : GF), K z0 z1 → Fr F0 z1 → C) : ∀ (n : Nat) (F : GF) (x1 : Int32) (x2 : Int32) (x4 : Int32) (x5 : Int32), Fr F0 F → P_X11_count_133 K n F x1 x2 x4 x5 → C := by
  intro n
  induction n with
  | zero => exact fun _ _ _ _ _ _ h => False.elim h
  | succ n ih =>
    intro F x1 x2 x4 x5 g h
    rw [P_X11_count_133] at h
    have h := h.2
    rcases ite_elim h with ⟨-, h⟩ | ⟨-, h⟩
    · skip
      have h := h.2
      have h := h.2
      obtain ⟨G1, e2, h⟩ := st_all h
      have g3 := Fr.fs4 e2 g (by decide)
      obtain ⟨n4, h⟩ := h
      refine el_X11_count_237 hK n4 _ _ _ _ g3 h
    · skip
      have h := h.2
      rcases ite_elim h with ⟨-, h⟩ | ⟨-, h⟩
      · skip
        unfold P_X11_count_171 at h
        unfold P_X11_count_172 at h
        have h := h.2
        rcases ite_elim h with ⟨-, h⟩ | ⟨-, h⟩
        · skip
          unfold P_X11_count_205 at h
          have h := h.2
          have h := h.2
          obtain ⟨G5, e6, h⟩ := st_all h
          have g7 := Fr.fs4 e6 g (by decide)
          exact ih _ _ _ _ _ g7 h
        · skip
          unfold P_X11_count_205 at h
          have h := h.2
          have h := h.2
          obtain ⟨G8, e9, h⟩ := st_all h
          have g10 := Fr.fs4 e9 g (by decide)
          exact ih _ _ _ _ _ g10 h
      · skip
        have h := h.2
        have h := h.2
        rcases ite_elim h with ⟨-, h⟩ | ⟨-, h⟩
        · skip
          unfold P_X11_count_172 at h
          have h := h.2
          rcases ite_elim h with ⟨-, h⟩ | ⟨-, h⟩
          · skip
            unfold P_X11_count_205 at h
            have h := h.2
            have h := h.2
            obtain ⟨G11, e12, h⟩ := st_all h
            have g13 := Fr.fs4 e12 g (by decide)
            exact ih _ _ _ _ _ g13 h
          · skip
            unfold P_X11_count_205 at h
            have h := h.2
            have h := h.2
            obtain ⟨G14, e15, h⟩ := st_all h
            have g16 := Fr.fs4 e15 g (by decide)
            exact ih _ _ _ _ _ g16 h
        · skip
          unfold P_X11_count_171 at h
          unfold P_X11_count_172 at h
          have h := h.2
          rcases ite_elim h with ⟨-, h⟩ | ⟨-, h⟩
          · skip
            unfold P_X11_count_205 at h
            have h := h.2
            have h := h.2
            obtain ⟨G17, e18, h⟩ := st_all h
            have g19 := Fr.fs4 e18 g (by decide)
            exact ih _ _ _ _ _ g19 h
          · skip
            unfold P_X11_count_205 at h
            have h := h.2
            have h := h.2
            obtain ⟨G20, e21, h⟩ := st_all h
            have g22 := Fr.fs4 e21 g (by decide)
            exact ih _ _ _ _ _ g22 h
theorem el_X11_count_103 {F0 : GF} {C : Prop}  {K : Int32 → GF → Prop} (hK : ∀ (z0 : Int32) (z1 : GF), K z0 z1 → Fr F0 z1 → C) : ∀ (n : Nat) (F : GF) (x1 : Int32) (x2 : Int32) (x4 : Int32) (x5 : Int32), Fr F0 F → P_X11_count_103 K n F x1 x2 x4 x5 → C := by
  intro n
  induction n with
  | zero => exact fun _ _ _ _ _ _ h => False.elim h
  | succ n ih =>
    intro F x1 x2 x4 x5 g h
    rw [P_X11_count_103] at h
    rcases ite_elim h with ⟨-, h⟩ | ⟨-, h⟩
    · skip
      obtain ⟨n1, h⟩ := h
      refine el_X11_count_133 hK n1 _ _ _ _ _ g h
    · skip
      have h := h.2
      obtain ⟨G2, e3, h⟩ := st_all h
      have g4 := Fr.fs4 e3 g (by decide)
      exact ih _ _ _ _ _ g4 h
theorem el_X11_count {F0 : GF} {C : Prop} {F : GF} {p1 : Int32} {p2 : Int32} {K : Int32 → GF → Prop} (hK : ∀ (z0 : Int32) (z1 : GF), K z0 z1 → Fr F0 z1 → C) (g : Fr F0 F) (h : P_X11_count F p1 p2 K) : C := by
  unfold P_X11_count at h
  refine el_X11_isStation (fun _ _ h g1 => ?_) g h
  rcases ite_elim h with ⟨-, h⟩ | ⟨-, h⟩
  · skip
    unfold P_X11_count_21 at h
    unfold P_X11_count_22 at h
    rcases ite_elim h with ⟨-, h⟩ | ⟨-, h⟩
    · skip
      unfold P_X11_count_70 at h
      unfold P_X11_count_71 at h
      refine el_X11_asked_ (fun _ _ h g2 => ?_) g1 h
      rcases ite_elim h with ⟨-, h⟩ | ⟨-, h⟩
      · skip
        exact hK _ _ h g2
      · skip
        have h := h.2
        have h := h _ rfl
        have h := h.2
        obtain ⟨G3, e4, h⟩ := st_all h
        have g5 := Fr.fs4 e4 g2 (by decide)
        obtain ⟨n6, h⟩ := h
        refine el_X11_count_103 hK n6 _ _ _ _ _ g5 h
    · skip
      rcases ite_elim h with ⟨-, h⟩ | ⟨-, h⟩
      · skip
        rcases ite_elim h with ⟨-, h⟩ | ⟨-, h⟩
        · skip
          unfold P_X11_count_70 at h
          unfold P_X11_count_71 at h
          refine el_X11_asked_ (fun _ _ h g7 => ?_) g1 h
          rcases ite_elim h with ⟨-, h⟩ | ⟨-, h⟩
          · skip
            exact hK _ _ h g7
          · skip
            have h := h.2
            have h := h _ rfl
            have h := h.2
            obtain ⟨G8, e9, h⟩ := st_all h
            have g10 := Fr.fs4 e9 g7 (by decide)
            obtain ⟨n11, h⟩ := h
            refine el_X11_count_103 hK n11 _ _ _ _ _ g10 h
        · skip
          have h := h.2
          rcases ite_elim h with ⟨-, h⟩ | ⟨-, h⟩
          · skip
            have h := h.2
            rcases ite_elim h with ⟨-, h⟩ | ⟨-, h⟩
            · skip
              unfold P_X11_count_70 at h
              unfold P_X11_count_71 at h
              refine el_X11_asked_ (fun _ _ h g12 => ?_) g1 h
              rcases ite_elim h with ⟨-, h⟩ | ⟨-, h⟩
              · skip
                exact hK _ _ h g12
              · skip
                have h := h.2
                have h := h _ rfl
                have h := h.2
                obtain ⟨G13, e14, h⟩ := st_all h
                have g15 := Fr.fs4 e14 g12 (by decide)
                obtain ⟨n16, h⟩ := h
                refine el_X11_count_103 hK n16 _ _ _ _ _ g15 h
            · skip
              unfold P_X11_count_71 at h
              refine el_X11_asked_ (fun _ _ h g17 => ?_) g1 h
              rcases ite_elim h with ⟨-, h⟩ | ⟨-, h⟩
              · skip
                exact hK _ _ h g17
              · skip
                have h := h.2
                have h := h _ rfl
                have h := h.2
                obtain ⟨G18, e19, h⟩ := st_all h
                have g20 := Fr.fs4 e19 g17 (by decide)
                obtain ⟨n21, h⟩ := h
                refine el_X11_count_103 hK n21 _ _ _ _ _ g20 h
          · skip
            unfold P_X11_count_70 at h
            unfold P_X11_count_71 at h
            refine el_X11_asked_ (fun _ _ h g22 => ?_) g1 h
            rcases ite_elim h with ⟨-, h⟩ | ⟨-, h⟩
            · skip
              exact hK _ _ h g22
            · skip
              have h := h.2
              have h := h _ rfl
              have h := h.2
              obtain ⟨G23, e24, h⟩ := st_all h
              have g25 := Fr.fs4 e24 g22 (by decide)
              obtain ⟨n26, h⟩ := h
              refine el_X11_count_103 hK n26 _ _ _ _ _ g25 h
      · skip
        unfold P_X11_count_70 at h
        unfold P_X11_count_71 at h
        refine el_X11_asked_ (fun _ _ h g27 => ?_) g1 h
        rcases ite_elim h with ⟨-, h⟩ | ⟨-, h⟩
        · skip
          exact hK _ _ h g27
        · skip
          have h := h.2
          have h := h _ rfl
          have h := h.2
          obtain ⟨G28, e29, h⟩ := st_all h
          have g30 := Fr.fs4 e29 g27 (by decide)
          obtain ⟨n31, h⟩ := h
          refine el_X11_count_103 hK n31 _ _ _ _ _ g30 h
  · skip
    refine el_X11_in (fun _ _ h g32 => ?_) g1 h
    rcases ite_elim h with ⟨-, h⟩ | ⟨-, h⟩
    · skip
      unfold P_X11_count_21 at h
      unfold P_X11_count_22 at h
      rcases ite_elim h with ⟨-, h⟩ | ⟨-, h⟩
      · skip
        unfold P_X11_count_70 at h
        unfold P_X11_count_71 at h
        refine el_X11_asked_ (fun _ _ h g33 => ?_) g32 h
        rcases ite_elim h with ⟨-, h⟩ | ⟨-, h⟩
        · skip
          exact hK _ _ h g33
        · skip
          have h := h.2
          have h := h _ rfl
          have h := h.2
          obtain ⟨G34, e35, h⟩ := st_all h
          have g36 := Fr.fs4 e35 g33 (by decide)
          obtain ⟨n37, h⟩ := h
          refine el_X11_count_103 hK n37 _ _ _ _ _ g36 h
      · skip
        rcases ite_elim h with ⟨-, h⟩ | ⟨-, h⟩
        · skip
          rcases ite_elim h with ⟨-, h⟩ | ⟨-, h⟩
          · skip
            unfold P_X11_count_70 at h
            unfold P_X11_count_71 at h
            refine el_X11_asked_ (fun _ _ h g38 => ?_) g32 h
            rcases ite_elim h with ⟨-, h⟩ | ⟨-, h⟩
            · skip
              exact hK _ _ h g38
            · skip
              have h := h.2
              have h := h _ rfl
              have h := h.2
              obtain ⟨G39, e40, h⟩ := st_all h
              have g41 := Fr.fs4 e40 g38 (by decide)
              obtain ⟨n42, h⟩ := h
              refine el_X11_count_103 hK n42 _ _ _ _ _ g41 h
          · skip
            have h := h.2
            rcases ite_elim h with ⟨-, h⟩ | ⟨-, h⟩
            · skip
              have h := h.2
              rcases ite_elim h with ⟨-, h⟩ | ⟨-, h⟩
              · skip
                unfold P_X11_count_70 at h
                unfold P_X11_count_71 at h
                refine el_X11_asked_ (fun _ _ h g43 => ?_) g32 h
                rcases ite_elim h with ⟨-, h⟩ | ⟨-, h⟩
                · skip
                  exact hK _ _ h g43
                · skip
                  have h := h.2
                  have h := h _ rfl
                  have h := h.2
                  obtain ⟨G44, e45, h⟩ := st_all h
                  have g46 := Fr.fs4 e45 g43 (by decide)
                  obtain ⟨n47, h⟩ := h
                  refine el_X11_count_103 hK n47 _ _ _ _ _ g46 h
              · skip
                unfold P_X11_count_71 at h
                refine el_X11_asked_ (fun _ _ h g48 => ?_) g32 h
                rcases ite_elim h with ⟨-, h⟩ | ⟨-, h⟩
                · skip
                  exact hK _ _ h g48
                · skip
                  have h := h.2
                  have h := h _ rfl
                  have h := h.2
                  obtain ⟨G49, e50, h⟩ := st_all h
                  have g51 := Fr.fs4 e50 g48 (by decide)
                  obtain ⟨n52, h⟩ := h
                  refine el_X11_count_103 hK n52 _ _ _ _ _ g51 h
            · skip
              unfold P_X11_count_70 at h
              unfold P_X11_count_71 at h
              refine el_X11_asked_ (fun _ _ h g53 => ?_) g32 h
              rcases ite_elim h with ⟨-, h⟩ | ⟨-, h⟩
              · skip
                exact hK _ _ h g53
              · skip
                have h := h.2
                have h := h _ rfl
                have h := h.2
                obtain ⟨G54, e55, h⟩ := st_all h
                have g56 := Fr.fs4 e55 g53 (by decide)
                obtain ⟨n57, h⟩ := h
                refine el_X11_count_103 hK n57 _ _ _ _ _ g56 h
        · skip
          unfold P_X11_count_70 at h
          unfold P_X11_count_71 at h
          refine el_X11_asked_ (fun _ _ h g58 => ?_) g32 h
          rcases ite_elim h with ⟨-, h⟩ | ⟨-, h⟩
          · skip
            exact hK _ _ h g58
          · skip
            have h := h.2
            have h := h _ rfl
            have h := h.2
            obtain ⟨G59, e60, h⟩ := st_all h
            have g61 := Fr.fs4 e60 g58 (by decide)
            obtain ⟨n62, h⟩ := h
            refine el_X11_count_103 hK n62 _ _ _ _ _ g61 h
    · skip
      unfold P_X11_count_22 at h
      rcases ite_elim h with ⟨-, h⟩ | ⟨-, h⟩
      · skip
        unfold P_X11_count_70 at h
        unfold P_X11_count_71 at h
        refine el_X11_asked_ (fun _ _ h g63 => ?_) g32 h
        rcases ite_elim h with ⟨-, h⟩ | ⟨-, h⟩
        · skip
          exact hK _ _ h g63
        · skip
          have h := h.2
          have h := h _ rfl
          have h := h.2
          obtain ⟨G64, e65, h⟩ := st_all h
          have g66 := Fr.fs4 e65 g63 (by decide)
          obtain ⟨n67, h⟩ := h
          refine el_X11_count_103 hK n67 _ _ _ _ _ g66 h
      · skip
        rcases ite_elim h with ⟨-, h⟩ | ⟨-, h⟩
        · skip
          rcases ite_elim h with ⟨-, h⟩ | ⟨-, h⟩
          · skip
            unfold P_X11_count_70 at h
            unfold P_X11_count_71 at h
            refine el_X11_asked_ (fun _ _ h g68 => ?_) g32 h
            rcases ite_elim h with ⟨-, h⟩ | ⟨-, h⟩
            · skip
              exact hK _ _ h g68
            · skip
              have h := h.2
              have h := h _ rfl
              have h := h.2
              obtain ⟨G69, e70, h⟩ := st_all h
              have g71 := Fr.fs4 e70 g68 (by decide)
              obtain ⟨n72, h⟩ := h
              refine el_X11_count_103 hK n72 _ _ _ _ _ g71 h
          · skip
            have h := h.2
            rcases ite_elim h with ⟨-, h⟩ | ⟨-, h⟩
            · skip
              have h := h.2
              rcases ite_elim h with ⟨-, h⟩ | ⟨-, h⟩
              · skip
                unfold P_X11_count_70 at h
                unfold P_X11_count_71 at h
                refine el_X11_asked_ (fun _ _ h g73 => ?_) g32 h
                rcases ite_elim h with ⟨-, h⟩ | ⟨-, h⟩
                · skip
                  exact hK _ _ h g73
                · skip
                  have h := h.2
                  have h := h _ rfl
                  have h := h.2
                  obtain ⟨G74, e75, h⟩ := st_all h
                  have g76 := Fr.fs4 e75 g73 (by decide)
                  obtain ⟨n77, h⟩ := h
                  refine el_X11_count_103 hK n77 _ _ _ _ _ g76 h
              · skip
                unfold P_X11_count_71 at h
                refine el_X11_asked_ (fun _ _ h g78 => ?_) g32 h
                rcases ite_elim h with ⟨-, h⟩ | ⟨-, h⟩
                · skip
                  exact hK _ _ h g78
                · skip
                  have h := h.2
                  have h := h _ rfl
                  have h := h.2
                  obtain ⟨G79, e80, h⟩ := st_all h
                  have g81 := Fr.fs4 e80 g78 (by decide)
                  obtain ⟨n82, h⟩ := h
                  refine el_X11_count_103 hK n82 _ _ _ _ _ g81 h
            · skip
              unfold P_X11_count_70 at h
              unfold P_X11_count_71 at h
              refine el_X11_asked_ (fun _ _ h g83 => ?_) g32 h
              rcases ite_elim h with ⟨-, h⟩ | ⟨-, h⟩
              · skip
                exact hK _ _ h g83
              · skip
                have h := h.2
                have h := h _ rfl
                have h := h.2
                obtain ⟨G84, e85, h⟩ := st_all h
                have g86 := Fr.fs4 e85 g83 (by decide)
                obtain ⟨n87, h⟩ := h
                refine el_X11_count_103 hK n87 _ _ _ _ _ g86 h
        · skip
          unfold P_X11_count_70 at h
          unfold P_X11_count_71 at h
          refine el_X11_asked_ (fun _ _ h g88 => ?_) g32 h
          rcases ite_elim h with ⟨-, h⟩ | ⟨-, h⟩
          · skip
            exact hK _ _ h g88
          · skip
            have h := h.2
            have h := h _ rfl
            have h := h.2
            obtain ⟨G89, e90, h⟩ := st_all h
            have g91 := Fr.fs4 e90 g88 (by decide)
            obtain ⟨n92, h⟩ := h
            refine el_X11_count_103 hK n92 _ _ _ _ _ g91 h
theorem el_X11_recount {F0 : GF} {C : Prop} {F : GF} {p1 : Int32} {K : Int32 → GF → Prop} (hK : ∀ (z0 : Int32) (z1 : GF), K z0 z1 → Fr F0 z1 → C) (g : Fr F0 F) (h : P_X11_recount F p1 K) : C := by
  unfold P_X11_recount at h
  refine el_X11_isStation (fun _ _ h g1 => ?_) g h
  rcases ite_elim h with ⟨-, h⟩ | ⟨-, h⟩
  · skip
    unfold P_X11_recount_21 at h
    refine el_X11_asked_ (fun _ _ h g2 => ?_) g1 h
    rcases ite_elim h with ⟨-, h⟩ | ⟨-, h⟩
    · skip
      exact hK _ _ h g2
    · skip
      have h := h.2
      have h := h.2
      obtain ⟨G3, e4, h⟩ := st_all h
      have g5 := Fr.fs4 e4 g2 (by decide)
      have h := h.2
      obtain ⟨G6, e7, h⟩ := st_all h
      have g8 := Fr.fs4 e7 g5 (by decide)
      exact hK _ _ h g8
  · skip
    unfold P_X11_recount_21 at h
    refine el_X11_asked_ (fun _ _ h g9 => ?_) g1 h
    rcases ite_elim h with ⟨-, h⟩ | ⟨-, h⟩
    · skip
      exact hK _ _ h g9
    · skip
      have h := h.2
      have h := h.2
      obtain ⟨G10, e11, h⟩ := st_all h
      have g12 := Fr.fs4 e11 g9 (by decide)
      have h := h.2
      obtain ⟨G13, e14, h⟩ := st_all h
      have g15 := Fr.fs4 e14 g12 (by decide)
      exact hK _ _ h g15
theorem el_X11_isSettled {F0 : GF} {C : Prop} {F : GF} {p1 : Int32} {K : Int32 → GF → Prop} (hK : ∀ (z0 : Int32) (z1 : GF), K z0 z1 → Fr F0 z1 → C) (g : Fr F0 F) (h : P_X11_isSettled F p1 K) : C := by
  unfold P_X11_isSettled at h
  refine el_X11_isStation (fun _ _ h g1 => ?_) g h
  refine el_X11_asked (fun _ _ h g2 => ?_) g1 h
  rcases ite_elim h with ⟨-, h⟩ | ⟨-, h⟩
  · skip
    exact hK _ _ h g2
  · skip
    have h := h.2
    rcases ite_elim h with ⟨-, h⟩ | ⟨-, h⟩
    · skip
      exact hK _ _ h g2
    · skip
      exact hK _ _ h g2
theorem el_X11_numberOf {F0 : GF} {C : Prop} {F : GF} {p1 : Int32} {p2 : Int32} {K : Int32 → GF → Prop} (hK : ∀ (z0 : Int32) (z1 : GF), K z0 z1 → Fr F0 z1 → C) (g : Fr F0 F) (h : P_X11_numberOf F p1 p2 K) : C := by
  unfold P_X11_numberOf at h
  refine el_X11_isStation (fun _ _ h g1 => ?_) g h
  refine el_X11_in (fun _ _ h g2 => ?_) g1 h
  refine el_X11_asked_ (fun _ _ h g3 => ?_) g2 h
  rcases ite_elim h with ⟨-, h⟩ | ⟨-, h⟩
  · skip
    exact hK _ _ h g3
  · skip
    have h := h.2
    rcases ite_elim h with ⟨-, h⟩ | ⟨-, h⟩
    · skip
      exact hK _ _ h g3
    · skip
      have h := h.2
      have h := h.2
      exact hK _ _ h g3
theorem el_X11_inBox_8 {F0 : GF} {C : Prop}  {K : Int32 → GF → Prop} (hK : ∀ (z0 : Int32) (z1 : GF), K z0 z1 → Fr F0 z1 → C) : ∀ (n : Nat) (F : GF) (x1 : Int32) (x2 : Int32) (x3 : Int32) (x4 : Int32), Fr F0 F → P_X11_inBox_8 K n F x1 x2 x3 x4 → C := by
  intro n
  induction n with
  | zero => exact fun _ _ _ _ _ _ h => False.elim h
  | succ n ih =>
    intro F x1 x2 x3 x4 g h
    rw [P_X11_inBox_8] at h
    have h := h.2
    rcases ite_elim h with ⟨-, h⟩ | ⟨-, h⟩
    · skip
      exact hK _ _ h g
    · skip
      have h := h.2
      rcases ite_elim h with ⟨-, h⟩ | ⟨-, h⟩
      · skip
        unfold P_X11_inBox_41 at h
        exact ih _ _ _ _ _ g h
      · skip
        unfold P_X11_inBox_41 at h
        exact ih _ _ _ _ _ g h
theorem el_X11_inBox {F0 : GF} {C : Prop} {F : GF} {p1 : Int32} {p2 : Int32} {K : Int32 → GF → Prop} (hK : ∀ (z0 : Int32) (z1 : GF), K z0 z1 → Fr F0 z1 → C) (g : Fr F0 F) (h : P_X11_inBox F p1 p2 K) : C := by
  unfold P_X11_inBox at h
  obtain ⟨n1, h⟩ := h
  refine el_X11_inBox_8 hK n1 _ _ _ _ _ g h
theorem el_X11_misread_32 {F0 : GF} {C : Prop}  {K : Int32 → GF → Prop} (hK : ∀ (z0 : Int32) (z1 : GF), K z0 z1 → Fr F0 z1 → C) : ∀ (n : Nat) (F : GF) (x1 : Int32) (x2 : Int32) (x3 : Int32), Fr F0 F → P_X11_misread_32 K n F x1 x2 x3 → C := by
  intro n
  induction n with
  | zero => exact fun _ _ _ _ _ h => False.elim h
  | succ n ih =>
    intro F x1 x2 x3 g h
    rw [P_X11_misread_32] at h
    rcases ite_elim h with ⟨-, h⟩ | ⟨-, h⟩
    · skip
      exact hK _ _ h g
    · skip
      rcases ite_elim h with ⟨-, h⟩ | ⟨-, h⟩
      · skip
        exact hK _ _ h g
      · skip
        refine el_X11_inBox (fun _ _ h g1 => ?_) g h
        have h := h.2
        have h := h.2
        have h := h _ rfl
        rcases ite_elim h with ⟨-, h⟩ | ⟨-, h⟩
        · skip
          unfold P_X11_misread_80 at h
          exact ih _ _ _ _ g1 h
        · skip
          unfold P_X11_misread_80 at h
          exact ih _ _ _ _ g1 h
theorem el_X11_misread {F0 : GF} {C : Prop} {F : GF} {p1 : Int32} {K : Int32 → GF → Prop} (hK : ∀ (z0 : Int32) (z1 : GF), K z0 z1 → Fr F0 z1 → C) (g : Fr F0 F) (h : P_X11_misread F p1 K) : C := by
  unfold P_X11_misread at h
  refine el_X11_isStation (fun _ _ h g1 => ?_) g h
  refine el_X11_asked (fun _ _ h g2 => ?_) g1 h
  rcases ite_elim h with ⟨-, h⟩ | ⟨-, h⟩
  · skip
    exact hK _ _ h g2
  · skip
    have h := h.2
    rcases ite_elim h with ⟨-, h⟩ | ⟨-, h⟩
    · skip
      unfold P_X11_misread_29 at h
      obtain ⟨n3, h⟩ := h
      refine el_X11_misread_32 hK n3 _ _ _ _ g2 h
    · skip
      unfold P_X11_misread_29 at h
      obtain ⟨n4, h⟩ := h
      refine el_X11_misread_32 hK n4 _ _ _ _ g2 h
theorem el_X11_divisor {F0 : GF} {C : Prop} {F : GF} {p1 : Int32} {K : Int32 → GF → Prop} (hK : ∀ (z0 : Int32) (z1 : GF), K z0 z1 → Fr F0 z1 → C) (g : Fr F0 F) (h : P_X11_divisor F p1 K) : C := by
  unfold P_X11_divisor at h
  rcases ite_elim h with ⟨-, h⟩ | ⟨-, h⟩
  · skip
    have h := h.2
    exact hK _ _ h g
  · skip
    have h := h.2
    exact hK _ _ h g
theorem el_X11_beyond {F0 : GF} {C : Prop} {F : GF} {p1 : Int32} {p2 : Int32} {K : Int32 → GF → Prop} (hK : ∀ (z0 : Int32) (z1 : GF), K z0 z1 → Fr F0 z1 → C) (g : Fr F0 F) (h : P_X11_beyond F p1 p2 K) : C := by
  unfold P_X11_beyond at h
  have h := h.2
  refine el_X11_divisor (fun _ _ h g1 => ?_) g h
  have h := h.2
  refine el_X11_divisor (fun _ _ h g2 => ?_) g1 h
  exact hK _ _ h g2
theorem el_X11_gives_284 {F0 : GF} {C : Prop}  {k149 : GF → Int32 → Int32 → Prop} {K : GF → Prop} (hk149 : ∀ (z0 : GF) (z1 : Int32) (z2 : Int32), k149 z0 z1 z2 → Fr F0 z0 → C) (hK : ∀ (z0 : GF), K z0 → Fr F0 z0 → C) : ∀ (n : Nat) (F : GF) (x2 : Int32) (x3 : Int32) (x4 : Int32) (x6 : Int32) (x7 : Int32), Fr F0 F → P_X11_gives_284 k149 K n F x2 x3 x4 x6 x7 → C := by
  intro n
  induction n with
  | zero => exact fun _ _ _ _ _ _ _ h => False.elim h
  | succ n ih =>
    intro F x2 x3 x4 x6 x7 g h
    rw [P_X11_gives_284] at h
    rcases ite_elim h with ⟨-, h⟩ | ⟨-, h⟩
    · skip
      unfold P_X11_gives_300 at h
      refine el_X11_beyond (fun _ _ h g1 => ?_) g h
      rcases ite_elim h with ⟨-, h⟩ | ⟨-, h⟩
      · skip
        unfold P_X11_gives_318 at h
        exact ih _ _ _ _ _ _ g1 h
      · skip
        unfold P_X11_gives_318 at h
        exact ih _ _ _ _ _ _ g1 h
    · skip
      refine el_X11_beyond (fun _ _ h g2 => ?_) g h
      rcases ite_elim h with ⟨-, h⟩ | ⟨-, h⟩
      · skip
        have h := h.2
        have h := h.2
        obtain ⟨G3, e4, h⟩ := st_all h
        have g5 := Fr.fs4 e4 g2 (by decide)
        have h := h.2
        obtain ⟨G6, e7, h⟩ := st_all h
        have g8 := Fr.fs4 e7 g5 (by decide)
        obtain ⟨G9, e10, h⟩ := st_all h
        have g11 := Fr.fs4 e10 g8 (by decide)
        exact hk149 _ _ _ h g11
      · skip
        unfold P_X11_gives_300 at h
        refine el_X11_beyond (fun _ _ h g12 => ?_) g2 h
        rcases ite_elim h with ⟨-, h⟩ | ⟨-, h⟩
        · skip
          unfold P_X11_gives_318 at h
          exact ih _ _ _ _ _ _ g12 h
        · skip
          unfold P_X11_gives_318 at h
          exact ih _ _ _ _ _ _ g12 h
theorem el_X11_gives_173 {F0 : GF} {C : Prop}  {k149 : GF → Int32 → Int32 → Prop} {K : GF → Prop} (hk149 : ∀ (z0 : GF) (z1 : Int32) (z2 : Int32), k149 z0 z1 z2 → Fr F0 z0 → C) (hK : ∀ (z0 : GF), K z0 → Fr F0 z0 → C) : ∀ (n : Nat) (F : GF) (x2 : Int32) (x3 : Int32) (x4 : Int32) (x5 : Int32) (x6 : Int32), Fr F0 F → P_X11_gives_173 k149 K n F x2 x3 x4 x5 x6 → C := by
  intro n
  induction n with
  | zero => exact fun _ _ _ _ _ _ _ h => False.elim h
  | succ n ih =>
    intro F x2 x3 x4 x5 x6 g h
    rw [P_X11_gives_173] at h
    rcases ite_elim h with ⟨-, h⟩ | ⟨-, h⟩
    · skip
      rcases ite_elim h with ⟨-, h⟩ | ⟨-, h⟩
      · skip
        unfold P_X11_gives_280 at h
        obtain ⟨n1, h⟩ := h
        refine el_X11_gives_284 hk149 hK n1 _ _ _ _ _ _ g h
      · skip
        have h := h _ rfl
        have h := h.2
        obtain ⟨G2, e3, h⟩ := st_all h
        have g4 := Fr.fs4 e3 g (by decide)
        unfold P_X11_gives_280 at h
        obtain ⟨n5, h⟩ := h
        refine el_X11_gives_284 hk149 hK n5 _ _ _ _ _ _ g4 h
    · skip
      refine el_X11_beyond (fun _ _ h g6 => ?_) g h
      rcases ite_elim h with ⟨-, h⟩ | ⟨-, h⟩
      · skip
        refine el_X11_beyond (fun _ _ h g7 => ?_) g6 h
        rcases ite_elim h with ⟨-, h⟩ | ⟨-, h⟩
        · skip
          unfold P_X11_gives_214 at h
          refine el_X11_beyond (fun _ _ h g8 => ?_) g7 h
          rcases ite_elim h with ⟨-, h⟩ | ⟨-, h⟩
          · skip
            unfold P_X11_gives_234 at h
            exact ih _ _ _ _ _ _ g8 h
          · skip
            unfold P_X11_gives_234 at h
            exact ih _ _ _ _ _ _ g8 h
        · skip
          unfold P_X11_gives_214 at h
          refine el_X11_beyond (fun _ _ h g9 => ?_) g7 h
          rcases ite_elim h with ⟨-, h⟩ | ⟨-, h⟩
          · skip
            unfold P_X11_gives_234 at h
            exact ih _ _ _ _ _ _ g9 h
          · skip
            unfold P_X11_gives_234 at h
            exact ih _ _ _ _ _ _ g9 h
      · skip
        unfold P_X11_gives_214 at h
        refine el_X11_beyond (fun _ _ h g10 => ?_) g6 h
        rcases ite_elim h with ⟨-, h⟩ | ⟨-, h⟩
        · skip
          unfold P_X11_gives_234 at h
          exact ih _ _ _ _ _ _ g10 h
        · skip
          unfold P_X11_gives_234 at h
          exact ih _ _ _ _ _ _ g10 h
theorem el_X11_gives_149 {F0 : GF} {C : Prop}  {K : GF → Prop} (hK : ∀ (z0 : GF), K z0 → Fr F0 z0 → C) : ∀ (n : Nat) (F : GF) (x2 : Int32) (x3 : Int32), Fr F0 F → P_X11_gives_149 K n F x2 x3 → C := by
  intro n
  induction n with
  | zero => exact fun _ _ _ _ h => False.elim h
  | succ n ih =>
    intro F x2 x3 g h
    rw [P_X11_gives_149] at h
    rcases ite_elim h with ⟨-, h⟩ | ⟨-, h⟩
    · skip
      exact hK _ h g
    · skip
      rcases ite_elim h with ⟨-, h⟩ | ⟨-, h⟩
      · skip
        exact hK _ h g
      · skip
        obtain ⟨n1, h⟩ := h
        refine el_X11_gives_173 (fun _ _ _ h g2 => ?_) hK n1 _ _ _ _ _ _ g h
        exact ih _ _ _ g2 h
theorem el_X11_gives_35 {F0 : GF} {C : Prop}  {k4 : GF → Int32 → Int32 → Int32 → Prop} {K : GF → Prop} (hk4 : ∀ (z0 : GF) (z1 : Int32) (z2 : Int32) (z3 : Int32), k4 z0 z1 z2 z3 → Fr F0 z0 → C) (hK : ∀ (z0 : GF), K z0 → Fr F0 z0 → C) : ∀ (n : Nat) (F : GF) (x1 : Int32) (x2 : Int32) (x3 : Int32) (x4 : Int32), Fr F0 F → P_X11_gives_35 k4 K n F x1 x2 x3 x4 → C := by
  intro n
  induction n with
  | zero => exact fun _ _ _ _ _ _ h => False.elim h
  | succ n ih =>
    intro F x1 x2 x3 x4 g h
    rw [P_X11_gives_35] at h
    rcases ite_elim h with ⟨-, h⟩ | ⟨-, h⟩
    · skip
      exact hk4 _ _ _ _ h g
    · skip
      have h := h.2
      rcases ite_elim h with ⟨-, h⟩ | ⟨-, h⟩
      · skip
        have h := h.2
        have h := h.2
        unfold P_X11_gives_82 at h
        have h := h.2
        obtain ⟨G1, e2, h⟩ := st_all h
        have g3 := Fr.fs4 e2 g (by decide)
        exact ih _ _ _ _ _ g3 h
      · skip
        refine el_X11_inBox (fun _ _ h g4 => ?_) g h
        unfold P_X11_gives_82 at h
        have h := h.2
        obtain ⟨G5, e6, h⟩ := st_all h
        have g7 := Fr.fs4 e6 g4 (by decide)
        exact ih _ _ _ _ _ g7 h
theorem el_X11_gives_4 {F0 : GF} {C : Prop}  {K : GF → Prop} (hK : ∀ (z0 : GF), K z0 → Fr F0 z0 → C) : ∀ (n : Nat) (F : GF) (x1 : Int32) (x2 : Int32) (x3 : Int32), Fr F0 F → P_X11_gives_4 K n F x1 x2 x3 → C := by
  intro n
  induction n with
  | zero => exact fun _ _ _ _ _ h => False.elim h
  | succ n ih =>
    intro F x1 x2 x3 g h
    rw [P_X11_gives_4] at h
    rcases ite_elim h with ⟨-, h⟩ | ⟨-, h⟩
    · skip
      obtain ⟨G1, e2, h⟩ := st_all h
      have g3 := Fr.fs4 e2 g (by decide)
      obtain ⟨G4, e5, h⟩ := st_all h
      have g6 := Fr.fs4 e5 g3 (by decide)
      have h := h.2
      have h := h.2
      have h := h.2
      have h := h.2
      have h := h.2
      rcases ite_elim h with ⟨-, h⟩ | ⟨-, h⟩
      · skip
        unfold P_X11_gives_148 at h
        obtain ⟨n7, h⟩ := h
        refine el_X11_gives_149 hK n7 _ _ _ g6 h
      · skip
        unfold P_X11_gives_148 at h
        obtain ⟨n8, h⟩ := h
        refine el_X11_gives_149 hK n8 _ _ _ g6 h
    · skip
      have h := h.2
      obtain ⟨G9, e10, h⟩ := st_all h
      have g11 := Fr.fs4 e10 g (by decide)
      have h := h.2
      obtain ⟨G12, e13, h⟩ := st_all h
      have g14 := Fr.fs4 e13 g11 (by decide)
      have h := h.2
      have h := h _ rfl
      obtain ⟨n15, h⟩ := h
      refine el_X11_gives_35 (fun _ _ _ _ h g16 => ?_) hK n15 _ _ _ _ _ g14 h
      exact ih _ _ _ _ g16 h
theorem el_X11_gives {F0 : GF} {C : Prop} {F : GF} {p1 : Int32} {K : GF → Prop} (hK : ∀ (z0 : GF), K z0 → Fr F0 z0 → C) (g : Fr F0 F) (h : P_X11_gives F p1 K) : C := by
  unfold P_X11_gives at h
  obtain ⟨n1, h⟩ := h
  refine el_X11_gives_4 hK n1 _ _ _ _ g h
theorem el_X11_done {F0 : GF} {C : Prop} {F : GF} {K : Int32 → GF → Prop} (hK : ∀ (z0 : Int32) (z1 : GF), K z0 z1 → Fr F0 z1 → C) (g : Fr F0 F) (h : P_X11_done F K) : C := by
  unfold P_X11_done at h
  rcases ite_elim h with ⟨-, h⟩ | ⟨-, h⟩
  · skip
    refine el_X11_gives (fun _ h g1 => ?_) g h
    unfold P_X11_done_13 at h
    rcases ite_elim h with ⟨-, h⟩ | ⟨-, h⟩
    · skip
      exact hK _ _ h g1
    · skip
      exact hK _ _ h g1
  · skip
    unfold P_X11_done_13 at h
    rcases ite_elim h with ⟨-, h⟩ | ⟨-, h⟩
    · skip
      exact hK _ _ h g
    · skip
      exact hK _ _ h g
theorem el_X11_isParty {F0 : GF} {C : Prop} {F : GF} {p0 : Int32} {K : Int32 → GF → Prop} (hK : ∀ (z0 : Int32) (z1 : GF), K z0 z1 → Fr F0 z1 → C) (g : Fr F0 F) (h : P_X11_isParty F p0 K) : C := by
  unfold P_X11_isParty at h
  refine el_X11_in (fun _ _ h g1 => ?_) g h
  have h := h.2
  exact hK _ _ h g1
theorem el_X11_votes {F0 : GF} {C : Prop} {F : GF} {p1 : Int32} {K : Int32 → GF → Prop} (hK : ∀ (z0 : Int32) (z1 : GF), K z0 z1 → Fr F0 z1 → C) (g : Fr F0 F) (h : P_X11_votes F p1 K) : C := by
  unfold P_X11_votes at h
  refine el_X11_isParty (fun _ _ h g1 => ?_) g h
  refine el_X11_asked (fun _ _ h g2 => ?_) g1 h
  rcases ite_elim h with ⟨-, h⟩ | ⟨-, h⟩
  · skip
    exact hK _ _ h g2
  · skip
    refine el_X11_done (fun _ _ h g3 => ?_) g2 h
    rcases ite_elim h with ⟨-, h⟩ | ⟨-, h⟩
    · skip
      exact hK _ _ h g3
    · skip
      have h := h.2
      exact hK _ _ h g3
theorem el_X11_seats {F0 : GF} {C : Prop} {F : GF} {p1 : Int32} {K : Int32 → GF → Prop} (hK : ∀ (z0 : Int32) (z1 : GF), K z0 z1 → Fr F0 z1 → C) (g : Fr F0 F) (h : P_X11_seats F p1 K) : C := by
  unfold P_X11_seats at h
  refine el_X11_isParty (fun _ _ h g1 => ?_) g h
  refine el_X11_asked (fun _ _ h g2 => ?_) g1 h
  rcases ite_elim h with ⟨-, h⟩ | ⟨-, h⟩
  · skip
    exact hK _ _ h g2
  · skip
    refine el_X11_done (fun _ _ h g3 => ?_) g2 h
    rcases ite_elim h with ⟨-, h⟩ | ⟨-, h⟩
    · skip
      exact hK _ _ h g3
    · skip
      have h := h.2
      exact hK _ _ h g3
theorem el_X11_seatAt {F0 : GF} {C : Prop} {F : GF} {p1 : Int32} {K : Int32 → GF → Prop} (hK : ∀ (z0 : Int32) (z1 : GF), K z0 z1 → Fr F0 z1 → C) (g : Fr F0 F) (h : P_X11_seatAt F p1 K) : C := by
  unfold P_X11_seatAt at h
  rcases ite_elim h with ⟨-, h⟩ | ⟨-, h⟩
  · skip
    unfold P_X11_seatAt_10 at h
    refine el_X11_asked (fun _ _ h g1 => ?_) g h
    rcases ite_elim h with ⟨-, h⟩ | ⟨-, h⟩
    · skip
      exact hK _ _ h g1
    · skip
      refine el_X11_done (fun _ _ h g2 => ?_) g1 h
      rcases ite_elim h with ⟨-, h⟩ | ⟨-, h⟩
      · skip
        exact hK _ _ h g2
      · skip
        rcases ite_elim h with ⟨-, h⟩ | ⟨-, h⟩
        · skip
          exact hK _ _ h g2
        · skip
          have h := h.2
          exact hK _ _ h g2
  · skip
    unfold P_X11_seatAt_10 at h
    refine el_X11_asked (fun _ _ h g3 => ?_) g h
    rcases ite_elim h with ⟨-, h⟩ | ⟨-, h⟩
    · skip
      exact hK _ _ h g3
    · skip
      refine el_X11_done (fun _ _ h g4 => ?_) g3 h
      rcases ite_elim h with ⟨-, h⟩ | ⟨-, h⟩
      · skip
        exact hK _ _ h g4
      · skip
        rcases ite_elim h with ⟨-, h⟩ | ⟨-, h⟩
        · skip
          exact hK _ _ h g4
        · skip
          have h := h.2
          exact hK _ _ h g4
theorem el_X11_lots {F0 : GF} {C : Prop} {F : GF} {K : Int32 → GF → Prop} (hK : ∀ (z0 : Int32) (z1 : GF), K z0 z1 → Fr F0 z1 → C) (g : Fr F0 F) (h : P_X11_lots F K) : C := by
  unfold P_X11_lots at h
  obtain ⟨G1, e2, h⟩ := st_all h
  have g3 := Fr.fs4 e2 g (by decide)
  refine el_X11_done (fun _ _ h g4 => ?_) g3 h
  rcases ite_elim h with ⟨-, h⟩ | ⟨-, h⟩
  · skip
    exact hK _ _ h g4
  · skip
    exact hK _ _ h g4
theorem el_X11_seatsByBallots {F0 : GF} {C : Prop} {F : GF} {p1 : Int32} {K : Int32 → GF → Prop} (hK : ∀ (z0 : Int32) (z1 : GF), K z0 z1 → Fr F0 z1 → C) (g : Fr F0 F) (h : P_X11_seatsByBallots F p1 K) : C := by
  unfold P_X11_seatsByBallots at h
  refine el_X11_isParty (fun _ _ h g1 => ?_) g h
  refine el_X11_asked (fun _ _ h g2 => ?_) g1 h
  rcases ite_elim h with ⟨-, h⟩ | ⟨-, h⟩
  · skip
    exact hK _ _ h g2
  · skip
    rcases ite_elim h with ⟨-, h⟩ | ⟨-, h⟩
    · skip
      refine el_X11_gives (fun _ h g3 => ?_) g2 h
      have h := h.2
      exact hK _ _ h g3
    · skip
      exact hK _ _ h g2
theorem el_X11_notes_ {F0 : GF} {C : Prop} {F : GF} {K : Int32 → GF → Prop} (hK : ∀ (z0 : Int32) (z1 : GF), K z0 z1 → Fr F0 z1 → C) (g : Fr F0 F) (h : P_X11_notes_ F K) : C := by
  unfold P_X11_notes_ at h
  refine el_X11_told (fun _ _ h g1 => ?_) g h
  exact hK _ _ h g1
theorem el_X11_digits_7 {F0 : GF} {C : Prop}  {K : Int32 → GF → Prop} (hK : ∀ (z0 : Int32) (z1 : GF), K z0 z1 → Fr F0 z1 → C) : ∀ (n : Nat) (F : GF) (x1 : Int32) (x2 : Int32), Fr F0 F → P_X11_digits_7 K n F x1 x2 → C := by
  intro n
  induction n with
  | zero => exact fun _ _ _ _ h => False.elim h
  | succ n ih =>
    intro F x1 x2 g h
    rw [P_X11_digits_7] at h
    rcases ite_elim h with ⟨-, h⟩ | ⟨-, h⟩
    · skip
      exact hK _ _ h g
    · skip
      exact ih _ _ _ g h
theorem el_X11_digits {F0 : GF} {C : Prop} {F : GF} {p0 : Int32} {K : Int32 → GF → Prop} (hK : ∀ (z0 : Int32) (z1 : GF), K z0 z1 → Fr F0 z1 → C) (g : Fr F0 F) (h : P_X11_digits F p0 K) : C := by
  unfold P_X11_digits at h
  obtain ⟨n1, h⟩ := h
  refine el_X11_digits_7 hK n1 _ _ _ g h
theorem el_X11_digitAt_9 {F0 : GF} {C : Prop}  {K : Int32 → GF → Prop} (hK : ∀ (z0 : Int32) (z1 : GF), K z0 z1 → Fr F0 z1 → C) : ∀ (n : Nat) (F : GF) (x1 : Int32) (x2 : Int32) (x3 : Int32), Fr F0 F → P_X11_digitAt_9 K n F x1 x2 x3 → C := by
  intro n
  induction n with
  | zero => exact fun _ _ _ _ _ h => False.elim h
  | succ n ih =>
    intro F x1 x2 x3 g h
    rw [P_X11_digitAt_9] at h
    rcases ite_elim h with ⟨-, h⟩ | ⟨-, h⟩
    · skip
      exact hK _ _ h g
    · skip
      exact ih _ _ _ _ g h
theorem el_X11_digitAt {F0 : GF} {C : Prop} {F : GF} {p0 : Int32} {p1 : Int32} {K : Int32 → GF → Prop} (hK : ∀ (z0 : Int32) (z1 : GF), K z0 z1 → Fr F0 z1 → C) (g : Fr F0 F) (h : P_X11_digitAt F p0 p1 K) : C := by
  unfold P_X11_digitAt at h
  refine el_X11_digits (fun _ _ h g1 => ?_) g h
  obtain ⟨n2, h⟩ := h
  refine el_X11_digitAt_9 hK n2 _ _ _ _ g1 h
theorem el_X11_signAt {F0 : GF} {C : Prop} {F : GF} {p1 : Int32} {p2 : Int32} {K : Int32 → GF → Prop} (hK : ∀ (z0 : Int32) (z1 : GF), K z0 z1 → Fr F0 z1 → C) (g : Fr F0 F) (h : P_X11_signAt F p1 p2 K) : C := by
  unfold P_X11_signAt at h
  refine el_X11_in (fun _ _ h g1 => ?_) g h
  rcases ite_elim h with ⟨-, h⟩ | ⟨-, h⟩
  · skip
    unfold P_X11_signAt_23 at h
    unfold P_X11_signAt_24 at h
    refine el_X11_asked (fun _ _ h g2 => ?_) g1 h
    rcases ite_elim h with ⟨-, h⟩ | ⟨-, h⟩
    · skip
      exact hK _ _ h g2
    · skip
      have h := h.2
      refine el_X11_digits (fun _ _ h g3 => ?_) g2 h
      rcases ite_elim h with ⟨-, h⟩ | ⟨-, h⟩
      · skip
        rcases ite_elim h with ⟨-, h⟩ | ⟨-, h⟩
        · skip
          have h := h.2
          exact hK _ _ h g3
        · skip
          have h := h.2
          refine el_X11_digits (fun _ _ h g4 => ?_) g3 h
          rcases ite_elim h with ⟨-, h⟩ | ⟨-, h⟩
          · skip
            exact hK _ _ h g4
          · skip
            have h := h.2
            refine el_X11_digitAt (fun _ _ h g5 => ?_) g4 h
            exact hK _ _ h g5
      · skip
        have h := h.2
        refine el_X11_digitAt (fun _ _ h g6 => ?_) g3 h
        exact hK _ _ h g6
  · skip
    rcases ite_elim h with ⟨-, h⟩ | ⟨-, h⟩
    · skip
      unfold P_X11_signAt_23 at h
      unfold P_X11_signAt_24 at h
      refine el_X11_asked (fun _ _ h g7 => ?_) g1 h
      rcases ite_elim h with ⟨-, h⟩ | ⟨-, h⟩
      · skip
        exact hK _ _ h g7
      · skip
        have h := h.2
        refine el_X11_digits (fun _ _ h g8 => ?_) g7 h
        rcases ite_elim h with ⟨-, h⟩ | ⟨-, h⟩
        · skip
          rcases ite_elim h with ⟨-, h⟩ | ⟨-, h⟩
          · skip
            have h := h.2
            exact hK _ _ h g8
          · skip
            have h := h.2
            refine el_X11_digits (fun _ _ h g9 => ?_) g8 h
            rcases ite_elim h with ⟨-, h⟩ | ⟨-, h⟩
            · skip
              exact hK _ _ h g9
            · skip
              have h := h.2
              refine el_X11_digitAt (fun _ _ h g10 => ?_) g9 h
              exact hK _ _ h g10
        · skip
          have h := h.2
          refine el_X11_digitAt (fun _ _ h g11 => ?_) g8 h
          exact hK _ _ h g11
    · skip
      unfold P_X11_signAt_24 at h
      refine el_X11_asked (fun _ _ h g12 => ?_) g1 h
      rcases ite_elim h with ⟨-, h⟩ | ⟨-, h⟩
      · skip
        exact hK _ _ h g12
      · skip
        have h := h.2
        refine el_X11_digits (fun _ _ h g13 => ?_) g12 h
        rcases ite_elim h with ⟨-, h⟩ | ⟨-, h⟩
        · skip
          rcases ite_elim h with ⟨-, h⟩ | ⟨-, h⟩
          · skip
            have h := h.2
            exact hK _ _ h g13
          · skip
            have h := h.2
            refine el_X11_digits (fun _ _ h g14 => ?_) g13 h
            rcases ite_elim h with ⟨-, h⟩ | ⟨-, h⟩
            · skip
              exact hK _ _ h g14
            · skip
              have h := h.2
              refine el_X11_digitAt (fun _ _ h g15 => ?_) g14 h
              exact hK _ _ h g15
        · skip
          have h := h.2
          refine el_X11_digitAt (fun _ _ h g16 => ?_) g13 h
          exact hK _ _ h g16
