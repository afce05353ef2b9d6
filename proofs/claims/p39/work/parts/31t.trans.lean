theorem t_X10_needCrossing {b : Bool} {H H' F F' : GF} (hs : Sx b H H' F F') {p0 p0' : Int32} (e_p0 : p0 = p0') {K K' : GF → Prop} {X X' : String → GF → Prop} (hK : (∀ F1 F1' : GF, Sx b H H' F1 F1' → K F1 → K' F1')) (hX : ∀ (e : String) (F1 F1' : GF), Sx b H H' F1 F1' → X e F1 → X' e F1') (h : P_X10_needCrossing F p0 K X) : P_X10_needCrossing F' p0' K' X' := by
  subst e_p0
  unfold P_X10_needCrossing at h ⊢
  rcases ite_elim h with ⟨c_1, h⟩ | ⟨c_1, h⟩
  · refine ite_pos (c_1) ?_
    exact hX _ _ _ hs h
  · refine ite_neg (c_1) ?_
    rcases ite_elim h with ⟨c_2, h⟩ | ⟨c_2, h⟩
    · refine ite_pos (c_2) ?_
      exact hK _ _ hs h
    · refine ite_neg (c_2) ?_
      exact hX _ _ _ hs h
theorem t_X10_needRange {b : Bool} {H H' F F' : GF} (hs : Sx b H H' F F') {p0 p0' : Int32} {p1 p1' : Int32} {p2 p2' : Int32} (e_p0 : p0 = p0') (e_p1 : p1 = p1') (e_p2 : p2 = p2') {K K' : GF → Prop} {X X' : String → GF → Prop} (hK : (∀ F1 F1' : GF, Sx b H H' F1 F1' → K F1 → K' F1')) (hX : ∀ (e : String) (F1 F1' : GF), Sx b H H' F1 F1' → X e F1 → X' e F1') (h : P_X10_needRange F p0 p1 p2 K X) : P_X10_needRange F' p0' p1' p2' K' X' := by
  subst e_p0
  subst e_p1
  subst e_p2
  unfold P_X10_needRange at h ⊢
  rcases ite_elim h with ⟨c_1, h⟩ | ⟨c_1, h⟩
  · refine ite_pos (c_1) ?_
    exact hX _ _ _ hs h
  · refine ite_neg (c_1) ?_
    rcases ite_elim h with ⟨c_2, h⟩ | ⟨c_2, h⟩
    · refine ite_pos (c_2) ?_
      exact hK _ _ hs h
    · refine ite_neg (c_2) ?_
      exact hX _ _ _ hs h
theorem t_X10_needStation {b : Bool} {H H' F F' : GF} (hs : Sx b H H' F F') {p1 p1' : Int32} (e_p1 : p1 = p1') {K K' : GF → Prop} {X X' : String → GF → Prop} (hK : (∀ F1 F1' : GF, Sx b H H' F1 F1' → K F1 → K' F1')) (hX : ∀ (e : String) (F1 F1' : GF), Sx b H H' F1 F1' → X e F1 → X' e F1') (h : P_X10_needStation F p1 K X) : P_X10_needStation F' p1' K' X' := by
  subst e_p1
  unfold P_X10_needStation at h ⊢
  rcases ite_elim h with ⟨c_1, h⟩ | ⟨c_1, h⟩
  · refine ite_pos (c_1) ?_
    exact hX _ _ _ hs h
  · refine ite_neg (c_1) ?_
    rcases ite_elim h with ⟨c_2, h⟩ | ⟨c_2, h⟩
    · refine ite_pos (by rw [(hs).rd 6 rfl]; exact c_2) ?_
      exact hK _ _ hs h
    · refine ite_neg (by rw [(hs).rd 6 rfl]; exact c_2) ?_
      exact hX _ _ _ hs h
theorem t_X10_setSeats {b : Bool} {H H' F F' : GF} (hs : Sx b H H' F F') {p1 p1' : Int32} {p2 p2' : Int32} (e_p1 : p1 = p1') (e_p2 : p2 = p2') {K K' : Int32 → GF → Prop} {X X' : String → GF → Prop} (hK : (∀ (r r' : Int32) (F1 F1' : GF), r = r' → Sx b H H' F1 F1' → K r F1 → K' r' F1')) (hX : ∀ (e : String) (F1 F1' : GF), Sx b H H' F1 F1' → X e F1 → X' e F1') (h : P_X10_setSeats F p1 p2 K X) : P_X10_setSeats F' p1' p2' K' X' := by
  subst e_p1
  subst e_p2
  unfold P_X10_setSeats at h ⊢
  refine t_X10_needStation hs (rfl) (fun F_1 F_1' hs_2 h => ?_) hX h
  refine t_X10_needRange hs_2 (rfl) (rfl) (rfl) (fun F_3 F_3' hs_4 h => ?_) hX h
  obtain ⟨v_5, h⟩ := h
  refine And.intro (v_5) ?_
  obtain ⟨v_6, h⟩ := h
  refine And.intro (v_6) ?_
  refine fun F_7' e_8' => ?_
  obtain ⟨F_7, e_8⟩ : ∃ z : GF, z = fs F_3 8 0 p1.toNatClampNeg p2 := ⟨_, rfl⟩
  have h := h _ e_8
  have hs_9 : Sx b H H' F_7 F_7' := by rw [e_8, e_8']; exact hs_4.fsx rfl rfl rfl rfl
  exact hK _ _ _ _ (by rw [(hs_4).rd 8 rfl]) hs_9 h
theorem t_X10_needPerson {b : Bool} {H H' F F' : GF} (hs : Sx b H H' F F') {p1 p1' : Int32} (e_p1 : p1 = p1') {K K' : GF → Prop} {X X' : String → GF → Prop} (hK : (∀ F1 F1' : GF, Sx b H H' F1 F1' → K F1 → K' F1')) (hX : ∀ (e : String) (F1 F1' : GF), Sx b H H' F1 F1' → X e F1 → X' e F1') (h : P_X10_needPerson F p1 K X) : P_X10_needPerson F' p1' K' X' := by
  subst e_p1
  unfold P_X10_needPerson at h ⊢
  rcases ite_elim h with ⟨c_1, h⟩ | ⟨c_1, h⟩
  · refine ite_pos (c_1) ?_
    exact hX _ _ _ hs h
  · refine ite_neg (c_1) ?_
    rcases ite_elim h with ⟨c_2, h⟩ | ⟨c_2, h⟩
    · refine ite_pos (by rw [(hs).rd 0 rfl]; exact c_2) ?_
      exact hK _ _ hs h
    · refine ite_neg (by rw [(hs).rd 0 rfl]; exact c_2) ?_
      exact hX _ _ _ hs h
theorem t_X10_personAt {b : Bool} {H H' F F' : GF} (hs : Sx b H H' F F') {p1 p1' : Int32} (e_p1 : p1 = p1') {K K' : Nat → GF → Prop} {X X' : String → GF → Prop} (hK : (∀ (r r' : Nat) (F1 F1' : GF), r = r' → Sx b H H' F1 F1' → K r F1 → K' r' F1')) (hX : ∀ (e : String) (F1 F1' : GF), Sx b H H' F1 F1' → X e F1 → X' e F1') (h : P_X10_personAt F p1 K X) : P_X10_personAt F' p1' K' X' := by
  subst e_p1
  unfold P_X10_personAt at h ⊢
  refine t_X10_needPerson hs (rfl) (fun F_1 F_1' hs_2 h => ?_) hX h
  obtain ⟨v_3, h⟩ := h
  refine And.intro (v_3) ?_
  exact hK _ _ _ _ (rfl) hs_2 h
theorem t_X10_needAlive {b : Bool} {H H' F F' : GF} (hs : Sx b H H' F F') {i0 i0' : Nat} (e_i0 : i0 = i0') {K K' : GF → Prop} {X X' : String → GF → Prop} (hK : (∀ F1 F1' : GF, Sx b H H' F1 F1' → K F1 → K' F1')) (hX : ∀ (e : String) (F1 F1' : GF), Sx b H H' F1 F1' → X e F1 → X' e F1') (h : P_X10_needAlive F i0 K X) : P_X10_needAlive F' i0' K' X' := by
  subst e_i0
  unfold P_X10_needAlive at h ⊢
  rcases ite_elim h with ⟨c_1, h⟩ | ⟨c_1, h⟩
  · refine ite_pos (by rw [(hs).rd 33 rfl]; exact c_1) ?_
    exact hK _ _ hs h
  · refine ite_neg (by rw [(hs).rd 33 rfl]; exact c_1) ?_
    exact hX _ _ _ hs h
theorem t_X3_sealedOf_2 {b : Bool} {H H' : GF}  {K K' : Int32 → GF → Prop} (hK : (∀ (r r' : Int32) (F1 F1' : GF), r = r' → Sx b H H' F1 F1' → K r F1 → K' r' F1'))  : ∀ (n : Nat) (F F' : GF) (x1 x1' : Int32) (x2 x2' : Int32), Sx b H H' F F' → x1 = x1' → x2 = x2' → P_X3_sealedOf_2 K n F x1 x2 → P_X3_sealedOf_2 K' n F' x1' x2' := by
  intro n
  induction n with
  | zero => intro F F' x1 x1' x2 x2' hs _ _ h; exact False.elim h
  | succ n ih =>
    intro F F' x1 x1' x2 x2' hs e_x1 e_x2 h
    subst e_x1
    subst e_x2
    rw [P_X3_sealedOf_2] at h ⊢
    rcases ite_elim h with ⟨c_1, h⟩ | ⟨c_1, h⟩
    · refine ite_pos (by rw [(hs).rd 16 rfl]; exact c_1) ?_
      exact hK _ _ _ _ (rfl) hs h
    · refine ite_neg (by rw [(hs).rd 16 rfl]; exact c_1) ?_
      obtain ⟨v_2, h⟩ := h
      refine And.intro (v_2) ?_
      rcases ite_elim h with ⟨c_3, h⟩ | ⟨c_3, h⟩
      · refine ite_pos (by rw [(hs).rd 17 rfl]; exact c_3) ?_
        obtain ⟨v_4, h⟩ := h
        refine And.intro (v_4) ?_
        rcases ite_elim h with ⟨c_5, h⟩ | ⟨c_5, h⟩
        · refine ite_pos (by rw [(hs).rd 19 rfl]; exact c_5) ?_
          exact hK _ _ _ _ (rfl) hs h
        · refine ite_neg (by rw [(hs).rd 19 rfl]; exact c_5) ?_
          unfold P_X3_sealedOf_31 at h ⊢
          exact ih _ _ _ _ _ _ hs (rfl) (rfl) h
      · refine ite_neg (by rw [(hs).rd 17 rfl]; exact c_3) ?_
        unfold P_X3_sealedOf_31 at h ⊢
        exact ih _ _ _ _ _ _ hs (rfl) (rfl) h
theorem t_X3_sealedOf {b : Bool} {H H' F F' : GF} (hs : Sx b H H' F F') {p1 p1' : Int32} (e_p1 : p1 = p1') {K K' : Int32 → GF → Prop} (hK : (∀ (r r' : Int32) (F1 F1' : GF), r = r' → Sx b H H' F1 F1' → K r F1 → K' r' F1'))  (h : P_X3_sealedOf F p1 K) : P_X3_sealedOf F' p1' K' := by
  subst e_p1
  unfold P_X3_sealedOf at h ⊢
  obtain ⟨n_1, h⟩ := h
  refine ⟨n_1, ?_⟩
  exact t_X3_sealedOf_2 hK n_1 _ _ _ _ _ _ hs (rfl) (rfl) h
theorem t_X0_write {b : Bool} {H H' F F' : GF} (hs : Sx b H H' F F') {p1 p1' : Int32} {p2 p2' : Int32} {p3 p3' : Int32} (e_p1 : p1 = p1') (e_p2 : p2 = p2') (e_p3 : p3 = p3') {K K' : GF → Prop} (hK : (∀ F1 F1' : GF, Sx b H H' F1 F1' → K F1 → K' F1'))  (h : P_X0_write F p1 p2 p3 K) : P_X0_write F' p1' p2' p3' K' := by
  subst e_p1
  subst e_p2
  subst e_p3
  unfold P_X0_write at h ⊢
  rcases ite_elim h with ⟨c_1, h⟩ | ⟨c_1, h⟩
  · refine ite_pos (by rw [(hs).rd 21 rfl]; exact c_1) ?_
    obtain ⟨v_2, h⟩ := h
    refine And.intro (by rw [(hs).rd 21 rfl]; exact v_2) ?_
    refine fun F_3' e_4' => ?_
    obtain ⟨F_3, e_4⟩ : ∃ z : GF, z = fs F 22 0 (F 21 0 4).toNatClampNeg p1 := ⟨_, rfl⟩
    have h := h _ e_4
    have hs_5 : Sx b H H' F_3 F_3' := by rw [e_4, e_4']; exact hs.fsx rfl (by first | (simp only [(hs).rd 21 rfl]; done) | rfl) (by first | (simp only [(hs).rd 21 rfl]; done) | rfl) (by first | (simp only [(hs).rd 21 rfl]; done) | rfl)
    obtain ⟨v_6, h⟩ := h
    refine And.intro (by rw [(hs_5).rd 21 rfl]; exact v_6) ?_
    refine fun F_7' e_8' => ?_
    obtain ⟨F_7, e_8⟩ : ∃ z : GF, z = fs F_3 23 0 (F_3 21 0 4).toNatClampNeg (vp_nar .char p2) := ⟨_, rfl⟩
    have h := h _ e_8
    have hs_9 : Sx b H H' F_7 F_7' := by rw [e_8, e_8']; exact hs_5.fsx rfl (by first | (simp only [(hs_5).rd 21 rfl]; done) | rfl) (by first | (simp only [(hs_5).rd 21 rfl]; done) | rfl) (by first | (simp only [(hs_5).rd 21 rfl]; done) | rfl)
    obtain ⟨v_10, h⟩ := h
    refine And.intro (by rw [(hs_9).rd 21 rfl]; exact v_10) ?_
    refine fun F_11' e_12' => ?_
    obtain ⟨F_11, e_12⟩ : ∃ z : GF, z = fs F_7 24 0 (F_7 21 0 4).toNatClampNeg p3 := ⟨_, rfl⟩
    have h := h _ e_12
    have hs_13 : Sx b H H' F_11 F_11' := by rw [e_12, e_12']; exact hs_9.fsx rfl (by first | (simp only [(hs_9).rd 21 rfl]; done) | rfl) (by first | (simp only [(hs_9).rd 21 rfl]; done) | rfl) (by first | (simp only [(hs_9).rd 21 rfl]; done) | rfl)
    refine fun F_14' e_15' => ?_
    obtain ⟨F_14, e_15⟩ : ∃ z : GF, z = fs F_11 21 0 4 ((F_11 21 0 4) + 1) := ⟨_, rfl⟩
    have h := h _ e_15
    have hs_16 : Sx b H H' F_14 F_14' := by rw [e_15, e_15']; exact hs_13.fsx rfl (by first | (simp only [(hs_13).rd 21 rfl]; done) | rfl) (by first | (simp only [(hs_13).rd 21 rfl]; done) | rfl) (by first | (simp only [(hs_13).rd 21 rfl]; done) | rfl)
    exact hK _ _ hs_16 h
  · refine ite_neg (by rw [(hs).rd 21 rfl]; exact c_1) ?_
    exact hK _ _ hs h
theorem t_X10_voidEnvelopeOf {b : Bool} {H H' F F' : GF} (hs : Sx b H H' F F') {p1 p1' : Int32} (e_p1 : p1 = p1') {K K' : Int32 → GF → Prop} (hK : (∀ (r r' : Int32) (F1 F1' : GF), r = r' → Sx b H H' F1 F1' → K r F1 → K' r' F1'))  (h : P_X10_voidEnvelopeOf F p1 K) : P_X10_voidEnvelopeOf F' p1' K' := by
  subst e_p1
  unfold P_X10_voidEnvelopeOf at h ⊢
  refine t_X3_sealedOf hs (rfl) (fun r_3 r_3' F_1 F_1' er_3 hs_2 h => ?_) h
  subst er_3
  rcases ite_elim h with ⟨c_4, h⟩ | ⟨c_4, h⟩
  · refine ite_pos (c_4) ?_
    exact hK _ _ _ _ (rfl) hs_2 h
  · refine ite_neg (c_4) ?_
    obtain ⟨v_5, h⟩ := h
    refine And.intro (v_5) ?_
    refine fun F_6' e_7' => ?_
    obtain ⟨F_6, e_7⟩ : ∃ z : GF, z = fs F_1 19 0 r_3.toNatClampNeg 1 := ⟨_, rfl⟩
    have h := h _ e_7
    have hs_8 : Sx b H H' F_6 F_6' := by rw [e_7, e_7']; exact hs_2.fsx rfl rfl rfl rfl
    refine t_X0_write hs_8 (by rw [(hs_8).rd 0 rfl]) (rfl) (rfl) (fun F_9 F_9' hs_10 h => ?_) h
    exact hK _ _ _ _ (rfl) hs_10 h
theorem t_X10_die {b : Bool} {H H' F F' : GF} (hs : Sx b H H' F F') {p1 p1' : Int32} (e_p1 : p1 = p1') {K K' : Int32 → GF → Prop} {X X' : String → GF → Prop} (hK : (∀ (r r' : Int32) (F1 F1' : GF), r = r' → Sx b H H' F1 F1' → K r F1 → K' r' F1')) (hX : ∀ (e : String) (F1 F1' : GF), Sx b H H' F1 F1' → X e F1 → X' e F1') (h : P_X10_die F p1 K X) : P_X10_die F' p1' K' X' := by
  subst e_p1
  unfold P_X10_die at h ⊢
  refine t_X10_personAt hs (rfl) (fun r_3 r_3' F_1 F_1' er_3 hs_2 h => ?_) hX h
  subst er_3
  refine t_X10_needAlive hs_2 (rfl) (fun F_4 F_4' hs_5 h => ?_) hX h
  refine fun F_6' e_7' => ?_
  obtain ⟨F_6, e_7⟩ : ∃ z : GF, z = fs F_4 33 r_3 2 1 := ⟨_, rfl⟩
  have h := h _ e_7
  have hs_8 : Sx b H H' F_6 F_6' := by rw [e_7, e_7']; exact hs_5.fsx rfl rfl rfl rfl
  refine t_X10_voidEnvelopeOf hs_8 (rfl) (fun r_11 r_11' F_9 F_9' er_11 hs_10 h => ?_) h
  subst er_11
  obtain ⟨v_12, h⟩ := h
  refine And.intro (v_12) ?_
  exact hK _ _ _ _ (rfl) hs_10 h
theorem t_X5_clear_18 {b : Bool} {H H' : GF}  {K K' : GF → Prop} (hK : (∀ F1 F1' : GF, Sx b H H' F1 F1' → K F1 → K' F1'))  : ∀ (n : Nat) (F F' : GF) (x1 x1' : Int32), Sx b H H' F F' → x1 = x1' → P_X5_clear_18 K n F x1 → P_X5_clear_18 K' n F' x1' := by
  intro n
  induction n with
  | zero => intro F F' x1 x1' hs _ h; exact False.elim h
  | succ n ih =>
    intro F F' x1 x1' hs e_x1 h
    subst e_x1
    rw [P_X5_clear_18] at h ⊢
    rcases ite_elim h with ⟨c_1, h⟩ | ⟨c_1, h⟩
    · refine ite_pos (c_1) ?_
      exact hK _ _ hs h
    · refine ite_neg (c_1) ?_
      obtain ⟨v_2, h⟩ := h
      refine And.intro (v_2) ?_
      refine fun F_3' e_4' => ?_
      obtain ⟨F_3, e_4⟩ : ∃ z : GF, z = fs F 15 0 x1.toNatClampNeg 0 := ⟨_, rfl⟩
      have h := h _ e_4
      have hs_5 : Sx b H H' F_3 F_3' := by rw [e_4, e_4']; exact hs.fsx rfl rfl rfl rfl
      exact ih _ _ _ _ hs_5 (rfl) h
theorem t_X5_clear {b : Bool} {H H' F F' : GF} (hs : Sx b H H' F F')   {K K' : GF → Prop} (hK : (∀ F1 F1' : GF, Sx b H H' F1 F1' → K F1 → K' F1'))  (h : P_X5_clear F K) : P_X5_clear F' K' := by
  unfold P_X5_clear at h ⊢
  refine fun F_1' e_2' => ?_
  obtain ⟨F_1, e_2⟩ : ∃ z : GF, z = ffill F 13 0 20 (-1) := ⟨_, rfl⟩
  have h := h _ e_2
  have hs_3 : Sx b H H' F_1 F_1' := by rw [e_2, e_2']; exact hs.ffx rfl rfl rfl rfl
  refine fun F_4' e_5' => ?_
  obtain ⟨F_4, e_5⟩ : ∃ z : GF, z = ffill F_1 14 0 5 0 := ⟨_, rfl⟩
  have h := h _ e_5
  have hs_6 : Sx b H H' F_4 F_4' := by rw [e_5, e_5']; exact hs_3.ffx rfl rfl rfl rfl
  obtain ⟨n_7, h⟩ := h
  refine ⟨n_7, ?_⟩
  exact t_X5_clear_18 hK n_7 _ _ _ _ hs_6 (rfl) h
theorem t_X1_clear {b : Bool} {H H' F F' : GF} (hs : Sx b H H' F F') {i0 i0' : Nat} (e_i0 : i0 = i0') {K K' : GF → Prop} (hK : (∀ F1 F1' : GF, Sx b H H' F1 F1' → K F1 → K' F1'))  (h : P_X1_clear F i0 K) : P_X1_clear F' i0' K' := by
  subst e_i0
  unfold P_X1_clear at h ⊢
  refine fun F_1' e_2' => ?_
  obtain ⟨F_1, e_2⟩ : ∃ z : GF, z = fs F 28 i0 1 0 := ⟨_, rfl⟩
  have h := h _ e_2
  have hs_3 : Sx b H H' F_1 F_1' := by rw [e_2, e_2']; exact hs.fsx rfl rfl rfl rfl
  refine fun F_4' e_5' => ?_
  obtain ⟨F_4, e_5⟩ : ∃ z : GF, z = fs F_1 28 i0 4 0 := ⟨_, rfl⟩
  have h := h _ e_5
  have hs_6 : Sx b H H' F_4 F_4' := by rw [e_5, e_5']; exact hs_3.fsx rfl rfl rfl rfl
  refine fun F_7' e_8' => ?_
  obtain ⟨F_7, e_8⟩ : ∃ z : GF, z = fs F_4 28 i0 5 (-1) := ⟨_, rfl⟩
  have h := h _ e_8
  have hs_9 : Sx b H H' F_7 F_7' := by rw [e_8, e_8']; exact hs_6.fsx rfl rfl rfl rfl
  exact hK _ _ hs_9 h
theorem t_X2_start_51 {b : Bool} {H H' : GF}  {K K' : GF → Prop} (hK : (∀ F1 F1' : GF, Sx b H H' F1 F1' → K F1 → K' F1'))  : ∀ (n : Nat) (F F' : GF) (x4 x4' : Int32), Sx b H H' F F' → x4 = x4' → P_X2_start_51 K n F x4 → P_X2_start_51 K' n F' x4' := by
  intro n
  induction n with
  | zero => intro F F' x4 x4' hs _ h; exact False.elim h
  | succ n ih =>
    intro F F' x4 x4' hs e_x4 h
    subst e_x4
    rw [P_X2_start_51] at h ⊢
    rcases ite_elim h with ⟨c_1, h⟩ | ⟨c_1, h⟩
    · refine ite_pos (c_1) ?_
      refine fun F_2' e_3' => ?_
      obtain ⟨F_2, e_3⟩ : ∃ z : GF, z = fs F 21 0 4 0 := ⟨_, rfl⟩
      have h := h _ e_3
      have hs_4 : Sx b H H' F_2 F_2' := by rw [e_3, e_3']; exact hs.fsx rfl rfl rfl rfl
      exact hK _ _ hs_4 h
    · refine ite_neg (c_1) ?_
      obtain ⟨v_5, h⟩ := h
      refine And.intro (v_5) ?_
      refine t_X1_clear hs (rfl) (fun F_6 F_6' hs_7 h => ?_) h
      exact ih _ _ _ _ hs_7 (rfl) h
theorem t_X2_start {b : Bool} {H H' F F' : GF} (hs : Sx b H H' F F') {p1 p1' : Int32} {p2 p2' : Int32} {p3 p3' : Int32} (e_p1 : p1 = p1') (e_p2 : p2 = p2') (e_p3 : p3 = p3') {K K' : GF → Prop} (hK : (∀ F1 F1' : GF, Sx b H H' F1 F1' → K F1 → K' F1'))  (h : P_X2_start F p1 p2 p3 K) : P_X2_start F' p1' p2' p3' K' := by
  subst e_p1
  subst e_p2
  subst e_p3
  unfold P_X2_start at h ⊢
  refine fun F_1' e_2' => ?_
  obtain ⟨F_1, e_2⟩ : ∃ z : GF, z = fs F 10 0 0 1 := ⟨_, rfl⟩
  have h := h _ e_2
  have hs_3 : Sx b H H' F_1 F_1' := by rw [e_2, e_2']; exact hs.fsx rfl rfl rfl rfl
  refine fun F_4' e_5' => ?_
  obtain ⟨F_4, e_5⟩ : ∃ z : GF, z = fs F_1 10 0 1 p1 := ⟨_, rfl⟩
  have h := h _ e_5
  have hs_6 : Sx b H H' F_4 F_4' := by rw [e_5, e_5']; exact hs_3.fsx rfl rfl rfl rfl
  refine fun F_7' e_8' => ?_
  obtain ⟨F_7, e_8⟩ : ∃ z : GF, z = fs F_4 10 0 2 p2 := ⟨_, rfl⟩
  have h := h _ e_8
  have hs_9 : Sx b H H' F_7 F_7' := by rw [e_8, e_8']; exact hs_6.fsx rfl rfl rfl rfl
  obtain ⟨v_10, h⟩ := h
  refine And.intro (v_10) ?_
  refine fun F_11' e_12' => ?_
  obtain ⟨F_11, e_12⟩ : ∃ z : GF, z = fs F_7 10 0 3 p3 := ⟨_, rfl⟩
  have h := h _ e_12
  have hs_13 : Sx b H H' F_11 F_11' := by rw [e_12, e_12']; exact hs_9.fsx rfl rfl rfl rfl
  refine fun F_14' e_15' => ?_
  obtain ⟨F_14, e_15⟩ : ∃ z : GF, z = fs F_11 10 0 4 0 := ⟨_, rfl⟩
  have h := h _ e_15
  have hs_16 : Sx b H H' F_14 F_14' := by rw [e_15, e_15']; exact hs_13.fsx rfl rfl rfl rfl
  refine fun F_17' e_18' => ?_
  obtain ⟨F_17, e_18⟩ : ∃ z : GF, z = ffill F_14 11 0 5 0 := ⟨_, rfl⟩
  have h := h _ e_18
  have hs_19 : Sx b H H' F_17 F_17' := by rw [e_18, e_18']; exact hs_16.ffx rfl rfl rfl rfl
  refine t_X5_clear hs_19  (fun F_20 F_20' hs_21 h => ?_) h
  refine fun F_22' e_23' => ?_
  obtain ⟨F_22, e_23⟩ : ∃ z : GF, z = fs F_20 16 0 3 0 := ⟨_, rfl⟩
  have h := h _ e_23
  have hs_24 : Sx b H H' F_22 F_22' := by rw [e_23, e_23']; exact hs_21.fsx rfl rfl rfl rfl
  obtain ⟨n_25, h⟩ := h
  refine ⟨n_25, ?_⟩
  exact t_X2_start_51 hK n_25 _ _ _ _ hs_24 (rfl) h
theorem t_X10_call {b : Bool} {H H' F F' : GF} (hs : Sx b H H' F F') {p1 p1' : Int32} {p2 p2' : Int32} {p3 p3' : Int32} (e_p1 : p1 = p1') (e_p2 : p2 = p2') (e_p3 : p3 = p3') {K K' : Int32 → GF → Prop} {X X' : String → GF → Prop} (hK : (∀ (r r' : Int32) (F1 F1' : GF), r = r' → Sx b H H' F1 F1' → K r F1 → K' r' F1')) (hX : ∀ (e : String) (F1 F1' : GF), Sx b H H' F1 F1' → X e F1 → X' e F1') (h : P_X10_call F p1 p2 p3 K X) : P_X10_call F' p1' p2' p3' K' X' := by
  subst e_p1
  subst e_p2
  subst e_p3
  unfold P_X10_call at h ⊢
  refine t_X10_needRange hs (rfl) (rfl) (rfl) (fun F_1 F_1' hs_2 h => ?_) hX h
  refine t_X10_needRange hs_2 (rfl) (rfl) (rfl) (fun F_3 F_3' hs_4 h => ?_) hX h
  rcases ite_elim h with ⟨c_5, h⟩ | ⟨c_5, h⟩
  · refine ite_pos (by rw [(hs_4).rd 10 rfl]; exact c_5) ?_
    unfold P_X10_call_46 at h ⊢
    rcases ite_elim h with ⟨c_6, h⟩ | ⟨c_6, h⟩
    · refine ite_pos (by rw [(hs_4).rd 6 rfl]; exact c_6) ?_
      exact hX _ _ _ hs_4 h
    · refine ite_neg (by rw [(hs_4).rd 6 rfl]; exact c_6) ?_
      rcases ite_elim h with ⟨c_7, h⟩ | ⟨c_7, h⟩
      · refine ite_pos (by rw [(hs_4).rd 0 rfl]; exact c_7) ?_
        refine t_X2_start hs_4 (by rw [(hs_4).rd 0 rfl]) (rfl) (rfl) (fun F_8 F_8' hs_9 h => ?_) h
        exact hK _ _ _ _ (by rw [(hs_9).rd 10 rfl]) hs_9 h
      · refine ite_neg (by rw [(hs_4).rd 0 rfl]; exact c_7) ?_
        exact hX _ _ _ hs_4 h
  · refine ite_neg (by rw [(hs_4).rd 10 rfl]; exact c_5) ?_
    rcases ite_elim h with ⟨c_10, h⟩ | ⟨c_10, h⟩
    · refine ite_pos (by rw [(hs_4).rd 10 rfl]; exact c_10) ?_
      unfold P_X10_call_46 at h ⊢
      rcases ite_elim h with ⟨c_11, h⟩ | ⟨c_11, h⟩
      · refine ite_pos (by rw [(hs_4).rd 6 rfl]; exact c_11) ?_
        exact hX _ _ _ hs_4 h
      · refine ite_neg (by rw [(hs_4).rd 6 rfl]; exact c_11) ?_
        rcases ite_elim h with ⟨c_12, h⟩ | ⟨c_12, h⟩
        · refine ite_pos (by rw [(hs_4).rd 0 rfl]; exact c_12) ?_
          refine t_X2_start hs_4 (by rw [(hs_4).rd 0 rfl]) (rfl) (rfl) (fun F_13 F_13' hs_14 h => ?_) h
          exact hK _ _ _ _ (by rw [(hs_14).rd 10 rfl]) hs_14 h
        · refine ite_neg (by rw [(hs_4).rd 0 rfl]; exact c_12) ?_
          exact hX _ _ _ hs_4 h
    · refine ite_neg (by rw [(hs_4).rd 10 rfl]; exact c_10) ?_
      exact hX _ _ _ hs_4 h
theorem t_X10_needParty {b : Bool} {H H' F F' : GF} (hs : Sx b H H' F F') {p0 p0' : Int32} (e_p0 : p0 = p0') {K K' : GF → Prop} {X X' : String → GF → Prop} (hK : (∀ F1 F1' : GF, Sx b H H' F1 F1' → K F1 → K' F1')) (hX : ∀ (e : String) (F1 F1' : GF), Sx b H H' F1 F1' → X e F1 → X' e F1') (h : P_X10_needParty F p0 K X) : P_X10_needParty F' p0' K' X' := by
  subst e_p0
  unfold P_X10_needParty at h ⊢
  rcases ite_elim h with ⟨c_1, h⟩ | ⟨c_1, h⟩
  · refine ite_pos (c_1) ?_
    exact hX _ _ _ hs h
  · refine ite_neg (c_1) ?_
    rcases ite_elim h with ⟨c_2, h⟩ | ⟨c_2, h⟩
    · refine ite_pos (c_2) ?_
      exact hK _ _ hs h
    · refine ite_neg (c_2) ?_
      exact hX _ _ _ hs h
theorem t_X10_seed {b : Bool} {H H' F F' : GF} (hs : Sx b H H' F F') {p1 p1' : Int32} {p2 p2' : Int32} (e_p1 : p1 = p1') (e_p2 : p2 = p2') {K K' : Int32 → GF → Prop} {X X' : String → GF → Prop} (hK : (∀ (r r' : Int32) (F1 F1' : GF), r = r' → Sx b H H' F1 F1' → K r F1 → K' r' F1')) (hX : ∀ (e : String) (F1 F1' : GF), Sx b H H' F1 F1' → X e F1 → X' e F1') (h : P_X10_seed F p1 p2 K X) : P_X10_seed F' p1' p2' K' X' := by
  subst e_p1
  subst e_p2
  unfold P_X10_seed at h ⊢
  refine t_X10_needParty hs (rfl) (fun F_1 F_1' hs_2 h => ?_) hX h
  refine t_X10_needRange hs_2 (rfl) (rfl) (rfl) (fun F_3 F_3' hs_4 h => ?_) hX h
  rcases ite_elim h with ⟨c_5, h⟩ | ⟨c_5, h⟩
  · refine ite_pos (by rw [(hs_4).rd 10 rfl]; exact c_5) ?_
    unfold P_X10_seed_44 at h ⊢
    obtain ⟨v_6, h⟩ := h
    refine And.intro (v_6) ?_
    obtain ⟨v_7, h⟩ := h
    refine And.intro (v_7) ?_
    refine fun F_8' e_9' => ?_
    obtain ⟨F_8, e_9⟩ : ∃ z : GF, z = fs F_3 11 0 p1.toNatClampNeg p2 := ⟨_, rfl⟩
    have h := h _ e_9
    have hs_10 : Sx b H H' F_8 F_8' := by rw [e_9, e_9']; exact hs_4.fsx rfl rfl rfl rfl
    exact hK _ _ _ _ (by rw [(hs_4).rd 11 rfl]) hs_10 h
  · refine ite_neg (by rw [(hs_4).rd 10 rfl]; exact c_5) ?_
    rcases ite_elim h with ⟨c_11, h⟩ | ⟨c_11, h⟩
    · refine ite_pos (by rw [(hs_4).rd 10 rfl]; exact c_11) ?_
      unfold P_X10_seed_44 at h ⊢
      obtain ⟨v_12, h⟩ := h
      refine And.intro (v_12) ?_
      obtain ⟨v_13, h⟩ := h
      refine And.intro (v_13) ?_
      refine fun F_14' e_15' => ?_
      obtain ⟨F_14, e_15⟩ : ∃ z : GF, z = fs F_3 11 0 p1.toNatClampNeg p2 := ⟨_, rfl⟩
      have h := h _ e_15
      have hs_16 : Sx b H H' F_14 F_14' := by rw [e_15, e_15']; exact hs_4.fsx rfl rfl rfl rfl
      exact hK _ _ _ _ (by rw [(hs_4).rd 11 rfl]) hs_16 h
    · refine ite_neg (by rw [(hs_4).rd 10 rfl]; exact c_11) ?_
      exact hX _ _ _ hs_4 h
theorem t_X5_peopleAt {b : Bool} {H H' F F' : GF} (hs : Sx b H H' F F') {p1 p1' : Int32} (e_p1 : p1 = p1') {K K' : Int32 → GF → Prop} (hK : (∀ (r r' : Int32) (F1 F1' : GF), r = r' → Sx b H H' F1 F1' → K r F1 → K' r' F1'))  (h : P_X5_peopleAt F p1 K) : P_X5_peopleAt F' p1' K' := by
  subst e_p1
  unfold P_X5_peopleAt at h ⊢
  rcases ite_elim h with ⟨c_1, h⟩ | ⟨c_1, h⟩
  · refine ite_pos (c_1) ?_
    exact hK _ _ _ _ (rfl) hs h
  · refine ite_neg (c_1) ?_
    rcases ite_elim h with ⟨c_2, h⟩ | ⟨c_2, h⟩
    · refine ite_pos (c_2) ?_
      obtain ⟨v_3, h⟩ := h
      refine And.intro (v_3) ?_
      exact hK _ _ _ _ (by rw [(hs).rd 14 rfl]) hs h
    · refine ite_neg (c_2) ?_
      exact hK _ _ _ _ (rfl) hs h
theorem t_X10_nearestWithSeat_6 {b : Bool} {H H' : GF}  {K K' : Int32 → GF → Prop} (hK : (∀ (r r' : Int32) (F1 F1' : GF), r = r' → Sx b H H' F1 F1' → K r F1 → K' r' F1'))  : ∀ (n : Nat) (F F' : GF) (x1 x1' : Int32) (x2 x2' : Int32) (x3 x3' : Int32), Sx b H H' F F' → x1 = x1' → x2 = x2' → x3 = x3' → P_X10_nearestWithSeat_6 K n F x1 x2 x3 → P_X10_nearestWithSeat_6 K' n F' x1' x2' x3' := by
  intro n
  induction n with
  | zero => intro F F' x1 x1' x2 x2' x3 x3' hs _ _ _ h; exact False.elim h
  | succ n ih =>
    intro F F' x1 x1' x2 x2' x3 x3' hs e_x1 e_x2 e_x3 h
    subst e_x1
    subst e_x2
    subst e_x3
    rw [P_X10_nearestWithSeat_6] at h ⊢
    rcases ite_elim h with ⟨c_1, h⟩ | ⟨c_1, h⟩
    · refine ite_pos (by rw [(hs).rd 6 rfl]; exact c_1) ?_
      exact hK _ _ _ _ (rfl) hs h
    · refine ite_neg (by rw [(hs).rd 6 rfl]; exact c_1) ?_
      obtain ⟨v_2, h⟩ := h
      refine And.intro (v_2) ?_
      refine t_measured7 hs c_1 v_2 (fun r_5 r_5' F_3 F_3' er_5 hs_4 h => ?_) h
      subst er_5
      refine t_X5_peopleAt hs_4 (rfl) (fun r_8 r_8' F_6 F_6' er_8 hs_7 h => ?_) h
      subst er_8
      obtain ⟨v_9, h⟩ := h
      refine And.intro (v_9) ?_
      rcases ite_elim h with ⟨c_10, h⟩ | ⟨c_10, h⟩
      · refine ite_pos (by rw [(hs_7).rd 8 rfl]; exact c_10) ?_
        unfold P_X10_nearestWithSeat_63 at h ⊢
        rcases ite_elim h with ⟨c_11, h⟩ | ⟨c_11, h⟩
        · refine ite_pos (c_11) ?_
          unfold P_X10_nearestWithSeat_92 at h ⊢
          exact ih _ _ _ _ _ _ _ _ hs_7 (rfl) (rfl) (rfl) h
        · refine ite_neg (c_11) ?_
          rcases ite_elim h with ⟨c_12, h⟩ | ⟨c_12, h⟩
          · refine ite_pos (c_12) ?_
            unfold P_X10_nearestWithSeat_92 at h ⊢
            exact ih _ _ _ _ _ _ _ _ hs_7 (rfl) (rfl) (rfl) h
          · refine ite_neg (c_12) ?_
            rcases ite_elim h with ⟨c_13, h⟩ | ⟨c_13, h⟩
            · refine ite_pos (c_13) ?_
              unfold P_X10_nearestWithSeat_87 at h ⊢
              unfold P_X10_nearestWithSeat_92 at h ⊢
              exact ih _ _ _ _ _ _ _ _ hs_7 (rfl) (rfl) (rfl) h
            · refine ite_neg (c_13) ?_
              rcases ite_elim h with ⟨c_14, h⟩ | ⟨c_14, h⟩
              · refine ite_pos (c_14) ?_
                unfold P_X10_nearestWithSeat_92 at h ⊢
                exact ih _ _ _ _ _ _ _ _ hs_7 (rfl) (rfl) (rfl) h
              · refine ite_neg (c_14) ?_
                unfold P_X10_nearestWithSeat_87 at h ⊢
                unfold P_X10_nearestWithSeat_92 at h ⊢
                exact ih _ _ _ _ _ _ _ _ hs_7 (rfl) (rfl) (rfl) h
      · refine ite_neg (by rw [(hs_7).rd 8 rfl]; exact c_10) ?_
        unfold P_X10_nearestWithSeat_63 at h ⊢
        rcases ite_elim h with ⟨c_15, h⟩ | ⟨c_15, h⟩
        · refine ite_pos (c_15) ?_
          unfold P_X10_nearestWithSeat_92 at h ⊢
          exact ih _ _ _ _ _ _ _ _ hs_7 (rfl) (rfl) (rfl) h
        · refine ite_neg (c_15) ?_
          rcases ite_elim h with ⟨c_16, h⟩ | ⟨c_16, h⟩
          · refine ite_pos (c_16) ?_
            unfold P_X10_nearestWithSeat_92 at h ⊢
            exact ih _ _ _ _ _ _ _ _ hs_7 (rfl) (rfl) (rfl) h
          · refine ite_neg (c_16) ?_
            rcases ite_elim h with ⟨c_17, h⟩ | ⟨c_17, h⟩
            · refine ite_pos (c_17) ?_
              unfold P_X10_nearestWithSeat_87 at h ⊢
              unfold P_X10_nearestWithSeat_92 at h ⊢
              exact ih _ _ _ _ _ _ _ _ hs_7 (rfl) (rfl) (rfl) h
            · refine ite_neg (c_17) ?_
              rcases ite_elim h with ⟨c_18, h⟩ | ⟨c_18, h⟩
              · refine ite_pos (c_18) ?_
                unfold P_X10_nearestWithSeat_92 at h ⊢
                exact ih _ _ _ _ _ _ _ _ hs_7 (rfl) (rfl) (rfl) h
              · refine ite_neg (c_18) ?_
                unfold P_X10_nearestWithSeat_87 at h ⊢
                unfold P_X10_nearestWithSeat_92 at h ⊢
                exact ih _ _ _ _ _ _ _ _ hs_7 (rfl) (rfl) (rfl) h
theorem t_X10_nearestWithSeat {b : Bool} {H H' F F' : GF} (hs : Sx b H H' F F')   {K K' : Int32 → GF → Prop} (hK : (∀ (r r' : Int32) (F1 F1' : GF), r = r' → Sx b H H' F1 F1' → K r F1 → K' r' F1'))  (h : P_X10_nearestWithSeat F K) : P_X10_nearestWithSeat F' K' := by
  unfold P_X10_nearestWithSeat at h ⊢
  obtain ⟨n_1, h⟩ := h
  refine ⟨n_1, ?_⟩
  exact t_X10_nearestWithSeat_6 hK n_1 _ _ _ _ _ _ _ _ hs (rfl) (rfl) (rfl) h
theorem t_X10_emptiestWithWay_6 {b : Bool} {H H' : GF}  {K K' : Int32 → GF → Prop} (hK : (∀ (r r' : Int32) (F1 F1' : GF), r = r' → Sx b H H' F1 F1' → K r F1 → K' r' F1'))  : ∀ (n : Nat) (F F' : GF) (x1 x1' : Int32) (x2 x2' : Int32) (x3 x3' : Int32), Sx b H H' F F' → x1 = x1' → x2 = x2' → x3 = x3' → P_X10_emptiestWithWay_6 K n F x1 x2 x3 → P_X10_emptiestWithWay_6 K' n F' x1' x2' x3' := by
  intro n
  induction n with
  | zero => intro F F' x1 x1' x2 x2' x3 x3' hs _ _ _ h; exact False.elim h
  | succ n ih =>
    intro F F' x1 x1' x2 x2' x3 x3' hs e_x1 e_x2 e_x3 h
    subst e_x1
    subst e_x2
    subst e_x3
    rw [P_X10_emptiestWithWay_6] at h ⊢
    rcases ite_elim h with ⟨c_1, h⟩ | ⟨c_1, h⟩
    · refine ite_pos (by rw [(hs).rd 6 rfl]; exact c_1) ?_
      exact hK _ _ _ _ (rfl) hs h
    · refine ite_neg (by rw [(hs).rd 6 rfl]; exact c_1) ?_
      obtain ⟨v_2, h⟩ := h
      refine And.intro (v_2) ?_
      refine t_measured7 hs c_1 v_2 (fun r_5 r_5' F_3 F_3' er_5 hs_4 h => ?_) h
      subst er_5
      refine t_X5_peopleAt hs_4 (rfl) (fun r_8 r_8' F_6 F_6' er_8 hs_7 h => ?_) h
      subst er_8
      rcases ite_elim h with ⟨c_9, h⟩ | ⟨c_9, h⟩
      · refine ite_pos (c_9) ?_
        unfold P_X10_emptiestWithWay_70 at h ⊢
        exact ih _ _ _ _ _ _ _ _ hs_7 (rfl) (rfl) (rfl) h
      · refine ite_neg (c_9) ?_
        rcases ite_elim h with ⟨c_10, h⟩ | ⟨c_10, h⟩
        · refine ite_pos (c_10) ?_
          unfold P_X10_emptiestWithWay_65 at h ⊢
          unfold P_X10_emptiestWithWay_70 at h ⊢
          exact ih _ _ _ _ _ _ _ _ hs_7 (rfl) (rfl) (rfl) h
        · refine ite_neg (c_10) ?_
          rcases ite_elim h with ⟨c_11, h⟩ | ⟨c_11, h⟩
          · refine ite_pos (c_11) ?_
            unfold P_X10_emptiestWithWay_70 at h ⊢
            exact ih _ _ _ _ _ _ _ _ hs_7 (rfl) (rfl) (rfl) h
          · refine ite_neg (c_11) ?_
            unfold P_X10_emptiestWithWay_65 at h ⊢
            unfold P_X10_emptiestWithWay_70 at h ⊢
            exact ih _ _ _ _ _ _ _ _ hs_7 (rfl) (rfl) (rfl) h
theorem t_X10_emptiestWithWay {b : Bool} {H H' F F' : GF} (hs : Sx b H H' F F')   {K K' : Int32 → GF → Prop} (hK : (∀ (r r' : Int32) (F1 F1' : GF), r = r' → Sx b H H' F1 F1' → K r F1 → K' r' F1'))  (h : P_X10_emptiestWithWay F K) : P_X10_emptiestWithWay F' K' := by
  unfold P_X10_emptiestWithWay at h ⊢
  obtain ⟨n_1, h⟩ := h
  refine ⟨n_1, ?_⟩
  exact t_X10_emptiestWithWay_6 hK n_1 _ _ _ _ _ _ _ _ hs (rfl) (rfl) (rfl) h
theorem t_X10_chooseStation {b : Bool} {H H' F F' : GF} (hs : Sx b H H' F F')   {K K' : Int32 → GF → Prop} (hK : (∀ (r r' : Int32) (F1 F1' : GF), r = r' → Sx b H H' F1 F1' → K r F1 → K' r' F1'))  (h : P_X10_chooseStation F K) : P_X10_chooseStation F' K' := by
  unfold P_X10_chooseStation at h ⊢
  refine t_X10_nearestWithSeat hs  (fun r_3 r_3' F_1 F_1' er_3 hs_2 h => ?_) h
  subst er_3
  rcases ite_elim h with ⟨c_4, h⟩ | ⟨c_4, h⟩
  · refine ite_pos (c_4) ?_
    refine t_X10_emptiestWithWay hs_2  (fun r_7 r_7' F_5 F_5' er_7 hs_6 h => ?_) h
    subst er_7
    rcases ite_elim h with ⟨c_8, h⟩ | ⟨c_8, h⟩
    · refine ite_pos (c_8) ?_
      exact hK _ _ _ _ (rfl) hs_6 h
    · refine ite_neg (c_8) ?_
      exact hK _ _ _ _ (rfl) hs_6 h
  · refine ite_neg (c_4) ?_
    exact hK _ _ _ _ (rfl) hs_2 h
theorem t_X5_enter {b : Bool} {H H' F F' : GF} (hs : Sx b H H' F F') {p1 p1' : Int32} {p2 p2' : Int32} (e_p1 : p1 = p1') (e_p2 : p2 = p2') {K K' : GF → Prop} (hK : (∀ F1 F1' : GF, Sx b H H' F1 F1' → K F1 → K' F1'))  (h : P_X5_enter F p1 p2 K) : P_X5_enter F' p1' p2' K' := by
  subst e_p1
  subst e_p2
  unfold P_X5_enter at h ⊢
  rcases ite_elim h with ⟨c_1, h⟩ | ⟨c_1, h⟩
  · refine ite_pos (c_1) ?_
    exact hK _ _ hs h
  · refine ite_neg (c_1) ?_
    rcases ite_elim h with ⟨c_2, h⟩ | ⟨c_2, h⟩
    · refine ite_pos (c_2) ?_
      exact hK _ _ hs h
    · refine ite_neg (c_2) ?_
      rcases ite_elim h with ⟨c_3, h⟩ | ⟨c_3, h⟩
      · refine ite_pos (c_3) ?_
        exact hK _ _ hs h
      · refine ite_neg (c_3) ?_
        rcases ite_elim h with ⟨c_4, h⟩ | ⟨c_4, h⟩
        · refine ite_pos (c_4) ?_
          obtain ⟨v_5, h⟩ := h
          refine And.intro (v_5) ?_
          refine fun F_6' e_7' => ?_
          obtain ⟨F_6, e_7⟩ : ∃ z : GF, z = fs F 13 0 p1.toNatClampNeg p2 := ⟨_, rfl⟩
          have h := h _ e_7
          have hs_8 : Sx b H H' F_6 F_6' := by rw [e_7, e_7']; exact hs.fsx rfl rfl rfl rfl
          obtain ⟨v_9, h⟩ := h
          refine And.intro (v_9) ?_
          obtain ⟨v_10, h⟩ := h
          refine And.intro (v_10) ?_
          refine fun F_11' e_12' => ?_
          obtain ⟨F_11, e_12⟩ : ∃ z : GF, z = fs F_6 14 0 p2.toNatClampNeg ((F_6 14 0 p2.toNatClampNeg) + 1) := ⟨_, rfl⟩
          have h := h _ e_12
          have hs_13 : Sx b H H' F_11 F_11' := by rw [e_12, e_12']; exact hs_8.fsx rfl (by first | (simp only [(hs_8).rd 14 rfl]; done) | rfl) (by first | (simp only [(hs_8).rd 14 rfl]; done) | rfl) (by first | (simp only [(hs_8).rd 14 rfl]; done) | rfl)
          exact hK _ _ hs_13 h
        · refine ite_neg (c_4) ?_
          exact hK _ _ hs h
theorem t_X10_makeRoll_27 {b : Bool} {H H' : GF}  {K K' : GF → Prop} (hK : (∀ F1 F1' : GF, Sx b H H' F1 F1' → K F1 → K' F1'))  : ∀ (n : Nat) (F F' : GF) (x1 x1' : Int32) (x2 x2' : Int32), Sx b H H' F F' → x1 = x1' → x2 = x2' → P_X10_makeRoll_27 K n F x1 x2 → P_X10_makeRoll_27 K' n F' x1' x2' := by
  intro n
  induction n with
  | zero => intro F F' x1 x1' x2 x2' hs _ _ h; exact False.elim h
  | succ n ih =>
    intro F F' x1 x1' x2 x2' hs e_x1 e_x2 h
    subst e_x1
    subst e_x2
    rw [P_X10_makeRoll_27] at h ⊢
    rcases ite_elim h with ⟨c_1, h⟩ | ⟨c_1, h⟩
    · refine ite_pos (by rw [(hs).rd 0 rfl]; exact c_1) ?_
      exact hK _ _ hs h
    · refine ite_neg (by rw [(hs).rd 0 rfl]; exact c_1) ?_
      obtain ⟨v_2, h⟩ := h
      refine And.intro (v_2) ?_
      rcases ite_elim h with ⟨c_3, h⟩ | ⟨c_3, h⟩
      · refine ite_pos (by rw [(hs).rd 33 rfl]; exact c_3) ?_
        rcases ite_elim h with ⟨c_4, h⟩ | ⟨c_4, h⟩
        · refine ite_pos (by rw [(hs).rd 10 rfl, (hs).rd 33 rfl]; exact c_4) ?_
          unfold P_X10_makeRoll_90 at h ⊢
          exact ih _ _ _ _ _ _ hs (rfl) (rfl) h
        · refine ite_neg (by rw [(hs).rd 10 rfl, (hs).rd 33 rfl]; exact c_4) ?_
          refine t_X4_crossingOn hs (rfl) (rfl) (fun r_7 r_7' F_5 F_5' er_7 hs_6 h => ?_) h
          refine t_X9_measureFrom hs_6 er_7 (fun F_8 F_8' hs_9 h => ?_) h
          refine t_X10_chooseStation hs_9  (fun r_12 r_12' F_10 F_10' er_12 hs_11 h => ?_) h
          subst er_12
          refine t_X5_enter hs_11 (rfl) (rfl) (fun F_13 F_13' hs_14 h => ?_) h
          unfold P_X10_makeRoll_90 at h ⊢
          exact ih _ _ _ _ _ _ hs_14 (rfl) (rfl) h
      · refine ite_neg (by rw [(hs).rd 33 rfl]; exact c_3) ?_
        unfold P_X10_makeRoll_90 at h ⊢
        exact ih _ _ _ _ _ _ hs (rfl) (rfl) h
theorem t_X10_makeRoll {b : Bool} {H H' F F' : GF} (hs : Sx b H H' F F')   {K K' : GF → Prop} (hK : (∀ F1 F1' : GF, Sx b H H' F1 F1' → K F1 → K' F1'))  (h : P_X10_makeRoll F K) : P_X10_makeRoll F' K' := by
  unfold P_X10_makeRoll at h ⊢
  refine fun F_1' e_2' => ?_
  obtain ⟨F_1, e_2⟩ : ∃ z : GF, z = fs F 10 0 4 (F 6 0 2) := ⟨_, rfl⟩
  have h := h _ e_2
  have hs_3 : Sx b H H' F_1 F_1' := by rw [e_2, e_2']; exact hs.fsx rfl (by first | (simp only [(hs).rd 6 rfl]; done) | rfl) (by first | (simp only [(hs).rd 6 rfl]; done) | rfl) (by first | (simp only [(hs).rd 6 rfl]; done) | rfl)
  obtain ⟨n_4, h⟩ := h
  refine ⟨n_4, ?_⟩
  exact t_X10_makeRoll_27 hK n_4 _ _ _ _ _ _ hs_3 (by rw [(hs_3).rd 10 rfl]) (rfl) h
theorem t_X5_stationFor {b : Bool} {H H' F F' : GF} (hs : Sx b H H' F F') {p1 p1' : Int32} (e_p1 : p1 = p1') {K K' : Int32 → GF → Prop} (hK : (∀ (r r' : Int32) (F1 F1' : GF), r = r' → Sx b H H' F1 F1' → K r F1 → K' r' F1'))  (h : P_X5_stationFor F p1 K) : P_X5_stationFor F' p1' K' := by
  subst e_p1
  unfold P_X5_stationFor at h ⊢
  rcases ite_elim h with ⟨c_1, h⟩ | ⟨c_1, h⟩
  · refine ite_pos (c_1) ?_
    exact hK _ _ _ _ (rfl) hs h
  · refine ite_neg (c_1) ?_
    rcases ite_elim h with ⟨c_2, h⟩ | ⟨c_2, h⟩
    · refine ite_pos (c_2) ?_
      obtain ⟨v_3, h⟩ := h
      refine And.intro (v_3) ?_
      exact hK _ _ _ _ (by rw [(hs).rd 13 rfl]) hs h
    · refine ite_neg (c_2) ?_
      exact hK _ _ _ _ (rfl) hs h
theorem t_X1_put {b : Bool} {H H' F F' : GF} (hs : Sx b H H' F F') {i0 i0' : Nat} {p1 p1' : Int32} (e_i0 : i0 = i0') (e_p1 : p1 = p1') {K K' : GF → Prop} (hK : (∀ F1 F1' : GF, Sx b H H' F1 F1' → K F1 → K' F1'))  (h : P_X1_put F i0 p1 K) : P_X1_put F' i0' p1' K' := by
  subst e_i0
  subst e_p1
  unfold P_X1_put at h ⊢
  rcases ite_elim h with ⟨c_1, h⟩ | ⟨c_1, h⟩
  · refine ite_pos (by rw [(hs).rd 28 rfl]; exact c_1) ?_
    exact hK _ _ hs h
  · refine ite_neg (by rw [(hs).rd 28 rfl]; exact c_1) ?_
    obtain ⟨v_2, h⟩ := h
    refine And.intro (by rw [(hs).rd 28 rfl]; exact v_2) ?_
    refine fun F_3' e_4' => ?_
    obtain ⟨F_3, e_4⟩ : ∃ z : GF, z = fs F 29 i0 (F 28 i0 1).toNatClampNeg p1 := ⟨_, rfl⟩
    have h := h _ e_4
    have hs_5 : Sx b H H' F_3 F_3' := by rw [e_4, e_4']; exact hs.fsx rfl (by first | (simp only [(hs).rd 28 rfl]; done) | rfl) (by first | (simp only [(hs).rd 28 rfl]; done) | rfl) (by first | (simp only [(hs).rd 28 rfl]; done) | rfl)
    refine fun F_6' e_7' => ?_
    obtain ⟨F_6, e_7⟩ : ∃ z : GF, z = fs F_3 28 i0 1 ((F_3 28 i0 1) + 1) := ⟨_, rfl⟩
    have h := h _ e_7
    have hs_8 : Sx b H H' F_6 F_6' := by rw [e_7, e_7']; exact hs_5.fsx rfl (by first | (simp only [(hs_5).rd 28 rfl]; done) | rfl) (by first | (simp only [(hs_5).rd 28 rfl]; done) | rfl) (by first | (simp only [(hs_5).rd 28 rfl]; done) | rfl)
    exact hK _ _ hs_8 h
theorem t_X2_castFor {b : Bool} {H H' F F' : GF} (hs : Sx b H H' F F') {p1 p1' : Int32} {p2 p2' : Int32} (e_p1 : p1 = p1') (e_p2 : p2 = p2') {K K' : GF → Prop} (hK : (∀ F1 F1' : GF, Sx b H H' F1 F1' → K F1 → K' F1'))  (h : P_X2_castFor F p1 p2 K) : P_X2_castFor F' p1' p2' K' := by
  subst e_p1
  subst e_p2
  unfold P_X2_castFor at h ⊢
  refine t_X5_stationFor hs (rfl) (fun r_3 r_3' F_1 F_1' er_3 hs_2 h => ?_) h
  subst er_3
  rcases ite_elim h with ⟨c_4, h⟩ | ⟨c_4, h⟩
  · refine ite_pos (c_4) ?_
    exact hK _ _ hs_2 h
  · refine ite_neg (c_4) ?_
    rcases ite_elim h with ⟨c_5, h⟩ | ⟨c_5, h⟩
    · refine ite_pos (c_5) ?_
      obtain ⟨v_6, h⟩ := h
      refine And.intro (v_6) ?_
      refine t_X1_put hs_2 (rfl) (rfl) (fun F_7 F_7' hs_8 h => ?_) h
      obtain ⟨v_9, h⟩ := h
      refine And.intro (v_9) ?_
      refine fun F_10' e_11' => ?_
      obtain ⟨F_10, e_11⟩ : ∃ z : GF, z = fs F_7 15 0 p1.toNatClampNeg 1 := ⟨_, rfl⟩
      have h := h _ e_11
      have hs_12 : Sx b H H' F_10 F_10' := by rw [e_11, e_11']; exact hs_8.fsx rfl rfl rfl rfl
      exact hK _ _ hs_12 h
    · refine ite_neg (c_5) ?_
      exact hK _ _ hs_2 h
theorem t_X2_openEnvelope {b : Bool} {H H' F F' : GF} (hs : Sx b H H' F F') {p1 p1' : Int32} {p2 p2' : Int32} (e_p1 : p1 = p1') (e_p2 : p2 = p2') {K K' : GF → Prop} (hK : (∀ F1 F1' : GF, Sx b H H' F1 F1' → K F1 → K' F1'))  (h : P_X2_openEnvelope F p1 p2 K) : P_X2_openEnvelope F' p1' p2' K' := by
  subst e_p1
  subst e_p2
  unfold P_X2_openEnvelope at h ⊢
  rcases ite_elim h with ⟨c_1, h⟩ | ⟨c_1, h⟩
  · refine ite_pos (c_1) ?_
    exact hK _ _ hs h
  · refine ite_neg (c_1) ?_
    rcases ite_elim h with ⟨c_2, h⟩ | ⟨c_2, h⟩
    · refine ite_pos (by rw [(hs).rd 16 rfl]; exact c_2) ?_
      obtain ⟨v_3, h⟩ := h
      refine And.intro (v_3) ?_
      obtain ⟨v_4, h⟩ := h
      refine And.intro (v_4) ?_
      refine fun F_5' e_6' => ?_
      obtain ⟨F_5, e_6⟩ : ∃ z : GF, z = fs F 19 0 p1.toNatClampNeg 2 := ⟨_, rfl⟩
      have h := h _ e_6
      have hs_7 : Sx b H H' F_5 F_5' := by rw [e_6, e_6']; exact hs.fsx rfl rfl rfl rfl
      refine t_X0_write hs_7 (by rw [(hs_7).rd 10 rfl]) (rfl) (by rw [(hs).rd 17 rfl]) (fun F_8 F_8' hs_9 h => ?_) h
      obtain ⟨v_10, h⟩ := h
      refine And.intro (v_10) ?_
      refine t_X2_castFor hs_9 (by rw [(hs).rd 17 rfl]) (by rw [(hs_9).rd 18 rfl]) (fun F_11 F_11' hs_12 h => ?_) h
      exact hK _ _ hs_12 h
    · refine ite_neg (by rw [(hs).rd 16 rfl]; exact c_2) ?_
      exact hK _ _ hs h
theorem t_X2_openAllSealed_2 {b : Bool} {H H' : GF}  {K K' : GF → Prop} (hK : (∀ F1 F1' : GF, Sx b H H' F1 F1' → K F1 → K' F1'))  : ∀ (n : Nat) (F F' : GF) (x1 x1' : Int32), Sx b H H' F F' → x1 = x1' → P_X2_openAllSealed_2 K n F x1 → P_X2_openAllSealed_2 K' n F' x1' := by
  intro n
  induction n with
  | zero => intro F F' x1 x1' hs _ h; exact False.elim h
  | succ n ih =>
    intro F F' x1 x1' hs e_x1 h
    subst e_x1
    rw [P_X2_openAllSealed_2] at h ⊢
    rcases ite_elim h with ⟨c_1, h⟩ | ⟨c_1, h⟩
    · refine ite_pos (by rw [(hs).rd 16 rfl]; exact c_1) ?_
      exact hK _ _ hs h
    · refine ite_neg (by rw [(hs).rd 16 rfl]; exact c_1) ?_
      obtain ⟨v_2, h⟩ := h
      refine And.intro (v_2) ?_
      rcases ite_elim h with ⟨c_3, h⟩ | ⟨c_3, h⟩
      · refine ite_pos (by rw [(hs).rd 19 rfl]; exact c_3) ?_
        refine t_X2_openEnvelope hs (rfl) (rfl) (fun F_4 F_4' hs_5 h => ?_) h
        unfold P_X2_openAllSealed_32 at h ⊢
        exact ih _ _ _ _ hs_5 (rfl) h
      · refine ite_neg (by rw [(hs).rd 19 rfl]; exact c_3) ?_
        unfold P_X2_openAllSealed_32 at h ⊢
        exact ih _ _ _ _ hs (rfl) h
theorem t_X2_openAllSealed {b : Bool} {H H' F F' : GF} (hs : Sx b H H' F F')   {K K' : GF → Prop} (hK : (∀ F1 F1' : GF, Sx b H H' F1 F1' → K F1 → K' F1'))  (h : P_X2_openAllSealed F K) : P_X2_openAllSealed F' K' := by
  unfold P_X2_openAllSealed at h ⊢
  obtain ⟨n_1, h⟩ := h
  refine ⟨n_1, ?_⟩
  exact t_X2_openAllSealed_2 hK n_1 _ _ _ _ hs (rfl) h
theorem t_X10_beginDay {b : Bool} {H H' F F' : GF} (hs : Sx b H H' F F')   {K K' : GF → Prop} (hK : (∀ F1 F1' : GF, Sx b H H' F1 F1' → K F1 → K' F1'))  (h : P_X10_beginDay F K) : P_X10_beginDay F' K' := by
  unfold P_X10_beginDay at h ⊢
  rcases ite_elim h with ⟨c_1, h⟩ | ⟨c_1, h⟩
  · refine ite_pos (by rw [(hs).rd 10 rfl]; exact c_1) ?_
    rcases ite_elim h with ⟨c_2, h⟩ | ⟨c_2, h⟩
    · refine ite_pos (by rw [(hs).rd 0 rfl, (hs).rd 10 rfl]; exact c_2) ?_
      refine t_X10_makeRoll hs  (fun F_3 F_3' hs_4 h => ?_) h
      refine fun F_5' e_6' => ?_
      obtain ⟨F_5, e_6⟩ : ∃ z : GF, z = fs F_3 10 0 0 2 := ⟨_, rfl⟩
      have h := h _ e_6
      have hs_7 : Sx b H H' F_5 F_5' := by rw [e_6, e_6']; exact hs_4.fsx rfl rfl rfl rfl
      exact hK _ _ hs_7 h
    · refine ite_neg (by rw [(hs).rd 0 rfl, (hs).rd 10 rfl]; exact c_2) ?_
      unfold P_X10_beginDay_45 at h ⊢
      rcases ite_elim h with ⟨c_8, h⟩ | ⟨c_8, h⟩
      · refine ite_pos (by rw [(hs).rd 10 rfl]; exact c_8) ?_
        rcases ite_elim h with ⟨c_9, h⟩ | ⟨c_9, h⟩
        · refine ite_pos (by rw [(hs).rd 0 rfl, (hs).rd 10 rfl]; exact c_9) ?_
          refine fun F_10' e_11' => ?_
          obtain ⟨F_10, e_11⟩ : ∃ z : GF, z = fs F 10 0 0 3 := ⟨_, rfl⟩
          have h := h _ e_11
          have hs_12 : Sx b H H' F_10 F_10' := by rw [e_11, e_11']; exact hs.fsx rfl rfl rfl rfl
          exact hK _ _ hs_12 h
        · refine ite_neg (by rw [(hs).rd 0 rfl, (hs).rd 10 rfl]; exact c_9) ?_
          unfold P_X10_beginDay_81 at h ⊢
          rcases ite_elim h with ⟨c_13, h⟩ | ⟨c_13, h⟩
          · refine ite_pos (by rw [(hs).rd 10 rfl]; exact c_13) ?_
            rcases ite_elim h with ⟨c_14, h⟩ | ⟨c_14, h⟩
            · refine ite_pos (by rw [(hs).rd 0 rfl, (hs).rd 10 rfl]; exact c_14) ?_
              refine t_X2_openAllSealed hs  (fun F_15 F_15' hs_16 h => ?_) h
              refine fun F_17' e_18' => ?_
              obtain ⟨F_17, e_18⟩ : ∃ z : GF, z = fs F_15 10 0 0 4 := ⟨_, rfl⟩
              have h := h _ e_18
              have hs_19 : Sx b H H' F_17 F_17' := by rw [e_18, e_18']; exact hs_16.fsx rfl rfl rfl rfl
              exact hK _ _ hs_19 h
            · refine ite_neg (by rw [(hs).rd 0 rfl, (hs).rd 10 rfl]; exact c_14) ?_
              exact hK _ _ hs h
          · refine ite_neg (by rw [(hs).rd 10 rfl]; exact c_13) ?_
            exact hK _ _ hs h
      · refine ite_neg (by rw [(hs).rd 10 rfl]; exact c_8) ?_
        unfold P_X10_beginDay_81 at h ⊢
        rcases ite_elim h with ⟨c_20, h⟩ | ⟨c_20, h⟩
        · refine ite_pos (by rw [(hs).rd 10 rfl]; exact c_20) ?_
          rcases ite_elim h with ⟨c_21, h⟩ | ⟨c_21, h⟩
          · refine ite_pos (by rw [(hs).rd 0 rfl, (hs).rd 10 rfl]; exact c_21) ?_
            refine t_X2_openAllSealed hs  (fun F_22 F_22' hs_23 h => ?_) h
            refine fun F_24' e_25' => ?_
            obtain ⟨F_24, e_25⟩ : ∃ z : GF, z = fs F_22 10 0 0 4 := ⟨_, rfl⟩
            have h := h _ e_25
            have hs_26 : Sx b H H' F_24 F_24' := by rw [e_25, e_25']; exact hs_23.fsx rfl rfl rfl rfl
            exact hK _ _ hs_26 h
          · refine ite_neg (by rw [(hs).rd 0 rfl, (hs).rd 10 rfl]; exact c_21) ?_
            exact hK _ _ hs h
        · refine ite_neg (by rw [(hs).rd 10 rfl]; exact c_20) ?_
          exact hK _ _ hs h
  · refine ite_neg (by rw [(hs).rd 10 rfl]; exact c_1) ?_
    unfold P_X10_beginDay_45 at h ⊢
    rcases ite_elim h with ⟨c_27, h⟩ | ⟨c_27, h⟩
    · refine ite_pos (by rw [(hs).rd 10 rfl]; exact c_27) ?_
      rcases ite_elim h with ⟨c_28, h⟩ | ⟨c_28, h⟩
      · refine ite_pos (by rw [(hs).rd 0 rfl, (hs).rd 10 rfl]; exact c_28) ?_
        refine fun F_29' e_30' => ?_
        obtain ⟨F_29, e_30⟩ : ∃ z : GF, z = fs F 10 0 0 3 := ⟨_, rfl⟩
        have h := h _ e_30
        have hs_31 : Sx b H H' F_29 F_29' := by rw [e_30, e_30']; exact hs.fsx rfl rfl rfl rfl
        exact hK _ _ hs_31 h
      · refine ite_neg (by rw [(hs).rd 0 rfl, (hs).rd 10 rfl]; exact c_28) ?_
        unfold P_X10_beginDay_81 at h ⊢
        rcases ite_elim h with ⟨c_32, h⟩ | ⟨c_32, h⟩
        · refine ite_pos (by rw [(hs).rd 10 rfl]; exact c_32) ?_
          rcases ite_elim h with ⟨c_33, h⟩ | ⟨c_33, h⟩
          · refine ite_pos (by rw [(hs).rd 0 rfl, (hs).rd 10 rfl]; exact c_33) ?_
            refine t_X2_openAllSealed hs  (fun F_34 F_34' hs_35 h => ?_) h
            refine fun F_36' e_37' => ?_
            obtain ⟨F_36, e_37⟩ : ∃ z : GF, z = fs F_34 10 0 0 4 := ⟨_, rfl⟩
            have h := h _ e_37
            have hs_38 : Sx b H H' F_36 F_36' := by rw [e_37, e_37']; exact hs_35.fsx rfl rfl rfl rfl
            exact hK _ _ hs_38 h
          · refine ite_neg (by rw [(hs).rd 0 rfl, (hs).rd 10 rfl]; exact c_33) ?_
            exact hK _ _ hs h
        · refine ite_neg (by rw [(hs).rd 10 rfl]; exact c_32) ?_
          exact hK _ _ hs h
    · refine ite_neg (by rw [(hs).rd 10 rfl]; exact c_27) ?_
      unfold P_X10_beginDay_81 at h ⊢
      rcases ite_elim h with ⟨c_39, h⟩ | ⟨c_39, h⟩
      · refine ite_pos (by rw [(hs).rd 10 rfl]; exact c_39) ?_
        rcases ite_elim h with ⟨c_40, h⟩ | ⟨c_40, h⟩
        · refine ite_pos (by rw [(hs).rd 0 rfl, (hs).rd 10 rfl]; exact c_40) ?_
          refine t_X2_openAllSealed hs  (fun F_41 F_41' hs_42 h => ?_) h
          refine fun F_43' e_44' => ?_
          obtain ⟨F_43, e_44⟩ : ∃ z : GF, z = fs F_41 10 0 0 4 := ⟨_, rfl⟩
          have h := h _ e_44
          have hs_45 : Sx b H H' F_43 F_43' := by rw [e_44, e_44']; exact hs_42.fsx rfl rfl rfl rfl
          exact hK _ _ hs_45 h
        · refine ite_neg (by rw [(hs).rd 0 rfl, (hs).rd 10 rfl]; exact c_40) ?_
          exact hK _ _ hs h
      · refine ite_neg (by rw [(hs).rd 10 rfl]; exact c_39) ?_
        exact hK _ _ hs h
theorem t_X10_advance_31 {b : Bool} {H H' : GF}  {K K' : Int32 → GF → Prop} {X X' : String → GF → Prop} (hK : (∀ (r r' : Int32) (F1 F1' : GF), r = r' → Sx b H H' F1 F1' → K r F1 → K' r' F1')) (hX : ∀ (e : String) (F1 F1' : GF), Sx b H H' F1 F1' → X e F1 → X' e F1') : ∀ (n : Nat) (F F' : GF) (x1 x1' : Int32) (x2 x2' : Int32), Sx b H H' F F' → x1 = x1' → x2 = x2' → P_X10_advance_31 K X n F x1 x2 → P_X10_advance_31 K' X' n F' x1' x2' := by
  intro n
  induction n with
  | zero => intro F F' x1 x1' x2 x2' hs _ _ h; exact False.elim h
  | succ n ih =>
    intro F F' x1 x1' x2 x2' hs e_x1 e_x2 h
    subst e_x1
    subst e_x2
    rw [P_X10_advance_31] at h ⊢
    rcases ite_elim h with ⟨c_1, h⟩ | ⟨c_1, h⟩
    · refine ite_pos (c_1) ?_
      exact hK _ _ _ _ (by rw [(hs).rd 0 rfl]) hs h
    · refine ite_neg (c_1) ?_
      refine fun F_2' e_3' => ?_
      obtain ⟨F_2, e_3⟩ : ∃ z : GF, z = fs F 0 0 5 ((F 0 0 5) + 1) := ⟨_, rfl⟩
      have h := h _ e_3
      have hs_4 : Sx b H H' F_2 F_2' := by rw [e_3, e_3']; exact hs.fsx rfl (by first | (simp only [(hs).rd 0 rfl]; done) | rfl) (by first | (simp only [(hs).rd 0 rfl]; done) | rfl) (by first | (simp only [(hs).rd 0 rfl]; done) | rfl)
      refine t_X10_beginDay hs_4  (fun F_5 F_5' hs_6 h => ?_) h
      exact ih _ _ _ _ _ _ hs_6 (rfl) (rfl) h
theorem t_X10_advance {b : Bool} {H H' F F' : GF} (hs : Sx b H H' F F') {p1 p1' : Int32} (e_p1 : p1 = p1') {K K' : Int32 → GF → Prop} {X X' : String → GF → Prop} (hK : (∀ (r r' : Int32) (F1 F1' : GF), r = r' → Sx b H H' F1 F1' → K r F1 → K' r' F1')) (hX : ∀ (e : String) (F1 F1' : GF), Sx b H H' F1 F1' → X e F1 → X' e F1') (h : P_X10_advance F p1 K X) : P_X10_advance F' p1' K' X' := by
  subst e_p1
  unfold P_X10_advance at h ⊢
  refine t_X10_needRange hs (rfl) (rfl) (rfl) (fun F_1 F_1' hs_2 h => ?_) hX h
  rcases ite_elim h with ⟨c_3, h⟩ | ⟨c_3, h⟩
  · refine ite_pos (by rw [(hs_2).rd 0 rfl]; exact c_3) ?_
    obtain ⟨n_4, h⟩ := h
    refine ⟨n_4, ?_⟩
    exact t_X10_advance_31 hK hX n_4 _ _ _ _ _ _ hs_2 (rfl) (rfl) h
  · refine ite_neg (by rw [(hs_2).rd 0 rfl]; exact c_3) ?_
    exact hX _ _ _ hs_2 h
theorem t_X10_today {b : Bool} {H H' F F' : GF} (hs : Sx b H H' F F')   {K K' : Int32 → GF → Prop} (hK : (∀ (r r' : Int32) (F1 F1' : GF), r = r' → Sx b H H' F1 F1' → K r F1 → K' r' F1'))  (h : P_X10_today F K) : P_X10_today F' K' := by
  unfold P_X10_today at h ⊢
  exact hK _ _ _ _ (by rw [(hs).rd 0 rfl]) hs h
theorem t_X10_stage {b : Bool} {H H' F F' : GF} (hs : Sx b H H' F F')   {K K' : Int32 → GF → Prop} (hK : (∀ (r r' : Int32) (F1 F1' : GF), r = r' → Sx b H H' F1 F1' → K r F1 → K' r' F1'))  (h : P_X10_stage F K) : P_X10_stage F' K' := by
  unfold P_X10_stage at h ⊢
  exact hK _ _ _ _ (by rw [(hs).rd 10 rfl]) hs h
theorem t_X10_isOnRoll {b : Bool} {H H' F F' : GF} (hs : Sx b H H' F F') {p1 p1' : Int32} (e_p1 : p1 = p1') {K K' : Int32 → GF → Prop} {X X' : String → GF → Prop} (hK : (∀ (r r' : Int32) (F1 F1' : GF), r = r' → Sx b H H' F1 F1' → K r F1 → K' r' F1')) (hX : ∀ (e : String) (F1 F1' : GF), Sx b H H' F1 F1' → X e F1 → X' e F1') (h : P_X10_isOnRoll F p1 K X) : P_X10_isOnRoll F' p1' K' X' := by
  subst e_p1
  unfold P_X10_isOnRoll at h ⊢
  refine t_X10_needPerson hs (rfl) (fun F_1 F_1' hs_2 h => ?_) hX h
  refine t_X5_stationFor hs_2 (rfl) (fun r_5 r_5' F_3 F_3' er_5 hs_4 h => ?_) h
  subst er_5
  rcases ite_elim h with ⟨c_6, h⟩ | ⟨c_6, h⟩
  · refine ite_pos (c_6) ?_
    exact hK _ _ _ _ (rfl) hs_4 h
  · refine ite_neg (c_6) ?_
    exact hK _ _ _ _ (rfl) hs_4 h
theorem t_X10_stationOf {b : Bool} {H H' F F' : GF} (hs : Sx b H H' F F') {p1 p1' : Int32} (e_p1 : p1 = p1') {K K' : Int32 → GF → Prop} {X X' : String → GF → Prop} (hK : (∀ (r r' : Int32) (F1 F1' : GF), r = r' → Sx b H H' F1 F1' → K r F1 → K' r' F1')) (hX : ∀ (e : String) (F1 F1' : GF), Sx b H H' F1 F1' → X e F1 → X' e F1') (h : P_X10_stationOf F p1 K X) : P_X10_stationOf F' p1' K' X' := by
  subst e_p1
  unfold P_X10_stationOf at h ⊢
  refine t_X10_needPerson hs (rfl) (fun F_1 F_1' hs_2 h => ?_) hX h
  refine t_X5_stationFor hs_2 (rfl) (fun r_5 r_5' F_3 F_3' er_5 hs_4 h => ?_) h
  subst er_5
  exact hK _ _ _ _ (rfl) hs_4 h
theorem t_X10_peopleOf {b : Bool} {H H' F F' : GF} (hs : Sx b H H' F F') {p1 p1' : Int32} (e_p1 : p1 = p1') {K K' : Int32 → GF → Prop} {X X' : String → GF → Prop} (hK : (∀ (r r' : Int32) (F1 F1' : GF), r = r' → Sx b H H' F1 F1' → K r F1 → K' r' F1')) (hX : ∀ (e : String) (F1 F1' : GF), Sx b H H' F1 F1' → X e F1 → X' e F1') (h : P_X10_peopleOf F p1 K X) : P_X10_peopleOf F' p1' K' X' := by
  subst e_p1
  unfold P_X10_peopleOf at h ⊢
  refine t_X10_needStation hs (rfl) (fun F_1 F_1' hs_2 h => ?_) hX h
  refine t_X5_peopleAt hs_2 (rfl) (fun r_5 r_5' F_3 F_3' er_5 hs_4 h => ?_) h
  subst er_5
  exact hK _ _ _ _ (rfl) hs_4 h
theorem t_X10_needStage {b : Bool} {H H' F F' : GF} (hs : Sx b H H' F F') {p1 p1' : Int32} (e_p1 : p1 = p1') {K K' : GF → Prop} {X X' : String → GF → Prop} (hK : (∀ F1 F1' : GF, Sx b H H' F1 F1' → K F1 → K' F1')) (hX : ∀ (e : String) (F1 F1' : GF), Sx b H H' F1 F1' → X e F1 → X' e F1') (h : P_X10_needStage F p1 K X) : P_X10_needStage F' p1' K' X' := by
  subst e_p1
  unfold P_X10_needStage at h ⊢
  rcases ite_elim h with ⟨c_1, h⟩ | ⟨c_1, h⟩
  · refine ite_pos (by rw [(hs).rd 10 rfl]; exact c_1) ?_
    exact hK _ _ hs h
  · refine ite_neg (by rw [(hs).rd 10 rfl]; exact c_1) ?_
    exact hX _ _ _ hs h
theorem t_X10_needOnRoll {b : Bool} {H H' F F' : GF} (hs : Sx b H H' F F') {p1 p1' : Int32} (e_p1 : p1 = p1') {K K' : GF → Prop} {X X' : String → GF → Prop} (hK : (∀ F1 F1' : GF, Sx b H H' F1 F1' → K F1 → K' F1')) (hX : ∀ (e : String) (F1 F1' : GF), Sx b H H' F1 F1' → X e F1 → X' e F1') (h : P_X10_needOnRoll F p1 K X) : P_X10_needOnRoll F' p1' K' X' := by
  subst e_p1
  unfold P_X10_needOnRoll at h ⊢
  refine t_X5_stationFor hs (rfl) (fun r_3 r_3' F_1 F_1' er_3 hs_2 h => ?_) h
  subst er_3
  rcases ite_elim h with ⟨c_4, h⟩ | ⟨c_4, h⟩
  · refine ite_pos (c_4) ?_
    exact hX _ _ _ hs_2 h
  · refine ite_neg (c_4) ?_
    exact hK _ _ hs_2 h
theorem t_X3_add {b : Bool} {H H' F F' : GF} (hs : Sx b H H' F F') {p1 p1' : Int32} {p2 p2' : Int32} (e_p1 : p1 = p1') (e_p2 : p2 = p2') {K K' : Int32 → GF → Prop} (hK : (∀ (r r' : Int32) (F1 F1' : GF), r = r' → Sx b H H' F1 F1' → K r F1 → K' r' F1'))  (h : P_X3_add F p1 p2 K) : P_X3_add F' p1' p2' K' := by
  subst e_p1
  subst e_p2
  unfold P_X3_add at h ⊢
  rcases ite_elim h with ⟨c_1, h⟩ | ⟨c_1, h⟩
  · refine ite_pos (by rw [(hs).rd 16 rfl]; exact c_1) ?_
    obtain ⟨v_2, h⟩ := h
    refine And.intro (by rw [(hs).rd 16 rfl]; exact v_2) ?_
    refine fun F_3' e_4' => ?_
    obtain ⟨F_3, e_4⟩ : ∃ z : GF, z = fs F 17 0 (F 16 0 3).toNatClampNeg p1 := ⟨_, rfl⟩
    have h := h _ e_4
    have hs_5 : Sx b H H' F_3 F_3' := by rw [e_4, e_4']; exact hs.fsx rfl (by first | (simp only [(hs).rd 16 rfl]; done) | rfl) (by first | (simp only [(hs).rd 16 rfl]; done) | rfl) (by first | (simp only [(hs).rd 16 rfl]; done) | rfl)
    obtain ⟨v_6, h⟩ := h
    refine And.intro (by rw [(hs_5).rd 16 rfl]; exact v_6) ?_
    refine fun F_7' e_8' => ?_
    obtain ⟨F_7, e_8⟩ : ∃ z : GF, z = fs F_3 18 0 (F_3 16 0 3).toNatClampNeg p2 := ⟨_, rfl⟩
    have h := h _ e_8
    have hs_9 : Sx b H H' F_7 F_7' := by rw [e_8, e_8']; exact hs_5.fsx rfl (by first | (simp only [(hs_5).rd 16 rfl]; done) | rfl) (by first | (simp only [(hs_5).rd 16 rfl]; done) | rfl) (by first | (simp only [(hs_5).rd 16 rfl]; done) | rfl)
    obtain ⟨v_10, h⟩ := h
    refine And.intro (by rw [(hs_9).rd 16 rfl]; exact v_10) ?_
    refine fun F_11' e_12' => ?_
    obtain ⟨F_11, e_12⟩ : ∃ z : GF, z = fs F_7 19 0 (F_7 16 0 3).toNatClampNeg 0 := ⟨_, rfl⟩
    have h := h _ e_12
    have hs_13 : Sx b H H' F_11 F_11' := by rw [e_12, e_12']; exact hs_9.fsx rfl (by first | (simp only [(hs_9).rd 16 rfl]; done) | rfl) (by first | (simp only [(hs_9).rd 16 rfl]; done) | rfl) (by first | (simp only [(hs_9).rd 16 rfl]; done) | rfl)
    refine fun F_14' e_15' => ?_
    obtain ⟨F_14, e_15⟩ : ∃ z : GF, z = fs F_11 16 0 3 ((F_11 16 0 3) + 1) := ⟨_, rfl⟩
    have h := h _ e_15
    have hs_16 : Sx b H H' F_14 F_14' := by rw [e_15, e_15']; exact hs_13.fsx rfl (by first | (simp only [(hs_13).rd 16 rfl]; done) | rfl) (by first | (simp only [(hs_13).rd 16 rfl]; done) | rfl) (by first | (simp only [(hs_13).rd 16 rfl]; done) | rfl)
    exact hK _ _ _ _ (by rw [(hs_16).rd 16 rfl]) hs_16 h
  · refine ite_neg (by rw [(hs).rd 16 rfl]; exact c_1) ?_
    exact hK _ _ _ _ (rfl) hs h
theorem t_X10_early {b : Bool} {H H' F F' : GF} (hs : Sx b H H' F F') {p1 p1' : Int32} {p2 p2' : Int32} (e_p1 : p1 = p1') (e_p2 : p2 = p2') {K K' : Int32 → GF → Prop} {X X' : String → GF → Prop} (hK : (∀ (r r' : Int32) (F1 F1' : GF), r = r' → Sx b H H' F1 F1' → K r F1 → K' r' F1')) (hX : ∀ (e : String) (F1 F1' : GF), Sx b H H' F1 F1' → X e F1 → X' e F1') (h : P_X10_early F p1 p2 K X) : P_X10_early F' p1' p2' K' X' := by
  subst e_p1
  subst e_p2
  unfold P_X10_early at h ⊢
  refine t_X10_personAt hs (rfl) (fun r_3 r_3' F_1 F_1' er_3 hs_2 h => ?_) hX h
  subst er_3
  refine t_X10_needRange hs_2 (rfl) (rfl) (rfl) (fun F_4 F_4' hs_5 h => ?_) hX h
  refine t_X10_needStage hs_5 (rfl) (fun F_6 F_6' hs_7 h => ?_) hX h
  refine t_X10_needAlive hs_7 (rfl) (fun F_8 F_8' hs_9 h => ?_) hX h
  refine t_X10_needOnRoll hs_9 (rfl) (fun F_10 F_10' hs_11 h => ?_) hX h
  rcases ite_elim h with ⟨c_12, h⟩ | ⟨c_12, h⟩
  · refine ite_pos (by rw [(hs_11).rd 16 rfl]; exact c_12) ?_
    refine t_X10_voidEnvelopeOf hs_11 (rfl) (fun r_15 r_15' F_13 F_13' er_15 hs_14 h => ?_) h
    subst er_15
    refine t_X0_write hs_14 (by rw [(hs_14).rd 0 rfl]) (rfl) (rfl) (fun F_16 F_16' hs_17 h => ?_) h
    refine t_X3_add hs_17 (rfl) (rfl) (fun r_20 r_20' F_18 F_18' er_20 hs_19 h => ?_) h
    subst er_20
    exact hK _ _ _ _ (rfl) hs_19 h
  · refine ite_neg (by rw [(hs_11).rd 16 rfl]; exact c_12) ?_
    exact hX _ _ _ hs_11 h
theorem t_X10_vote {b : Bool} {H H' F F' : GF} (hs : Sx b H H' F F') {p1 p1' : Int32} {p2 p2' : Int32} {p3 p3' : Int32} (e_p1 : p1 = p1') (e_p2 : p2 = p2') (e_p3 : p3 = p3') {K K' : Int32 → GF → Prop} {X X' : String → GF → Prop} (hK : (∀ (r r' : Int32) (F1 F1' : GF), r = r' → Sx b H H' F1 F1' → K r F1 → K' r' F1')) (hX : ∀ (e : String) (F1 F1' : GF), Sx b H H' F1 F1' → X e F1 → X' e F1') (h : P_X10_vote F p1 p2 p3 K X) : P_X10_vote F' p1' p2' p3' K' X' := by
  subst e_p1
  subst e_p2
  subst e_p3
  unfold P_X10_vote at h ⊢
  refine t_X10_personAt hs (rfl) (fun r_3 r_3' F_1 F_1' er_3 hs_2 h => ?_) hX h
  subst er_3
  refine t_X10_needStation hs_2 (rfl) (fun F_4 F_4' hs_5 h => ?_) hX h
  refine t_X10_needRange hs_5 (rfl) (rfl) (rfl) (fun F_6 F_6' hs_7 h => ?_) hX h
  refine t_X10_needStage hs_7 (rfl) (fun F_8 F_8' hs_9 h => ?_) hX h
  refine t_X10_needAlive hs_9 (rfl) (fun F_10 F_10' hs_11 h => ?_) hX h
  refine t_X10_needOnRoll hs_11 (rfl) (fun F_12 F_12' hs_13 h => ?_) hX h
  obtain ⟨v_14, h⟩ := h
  refine And.intro (v_14) ?_
  rcases ite_elim h with ⟨c_15, h⟩ | ⟨c_15, h⟩
  · refine ite_pos (by rw [(hs_13).rd 15 rfl]; exact c_15) ?_
    refine t_X5_stationFor hs_13 (rfl) (fun r_18 r_18' F_16 F_16' er_18 hs_17 h => ?_) h
    subst er_18
    rcases ite_elim h with ⟨c_19, h⟩ | ⟨c_19, h⟩
    · refine ite_pos (c_19) ?_
      refine t_X10_voidEnvelopeOf hs_17 (rfl) (fun r_22 r_22' F_20 F_20' er_22 hs_21 h => ?_) h
      subst er_22
      refine t_X0_write hs_21 (by rw [(hs_21).rd 0 rfl]) (rfl) (rfl) (fun F_23 F_23' hs_24 h => ?_) h
      refine t_X2_castFor hs_24 (rfl) (rfl) (fun F_25 F_25' hs_26 h => ?_) h
      obtain ⟨v_27, h⟩ := h
      refine And.intro (v_27) ?_
      exact hK _ _ _ _ (by rw [(hs_26).rd 28 rfl]) hs_26 h
    · refine ite_neg (c_19) ?_
      exact hX _ _ _ hs_17 h
  · refine ite_neg (by rw [(hs_13).rd 15 rfl]; exact c_15) ?_
    exact hX _ _ _ hs_13 h
theorem t_X10_open {b : Bool} {H H' F F' : GF} (hs : Sx b H H' F F') {p1 p1' : Int32} (e_p1 : p1 = p1') {K K' : Int32 → GF → Prop} {X X' : String → GF → Prop} (hK : (∀ (r r' : Int32) (F1 F1' : GF), r = r' → Sx b H H' F1 F1' → K r F1 → K' r' F1')) (hX : ∀ (e : String) (F1 F1' : GF), Sx b H H' F1 F1' → X e F1 → X' e F1') (h : P_X10_open F p1 K X) : P_X10_open F' p1' K' X' := by
  subst e_p1
  unfold P_X10_open at h ⊢
  refine t_X10_needPerson hs (rfl) (fun F_1 F_1' hs_2 h => ?_) hX h
  refine t_X10_needStage hs_2 (rfl) (fun F_3 F_3' hs_4 h => ?_) hX h
  refine t_X3_sealedOf hs_4 (rfl) (fun r_7 r_7' F_5 F_5' er_7 hs_6 h => ?_) h
  subst er_7
  rcases ite_elim h with ⟨c_8, h⟩ | ⟨c_8, h⟩
  · refine ite_pos (c_8) ?_
    exact hX _ _ _ hs_6 h
  · refine ite_neg (c_8) ?_
    refine t_X2_openEnvelope hs_6 (rfl) (rfl) (fun F_9 F_9' hs_10 h => ?_) h
    exact hK _ _ _ _ (rfl) hs_10 h
theorem t_X10_envelopes {b : Bool} {H H' F F' : GF} (hs : Sx b H H' F F')   {K K' : Int32 → GF → Prop} (hK : (∀ (r r' : Int32) (F1 F1' : GF), r = r' → Sx b H H' F1 F1' → K r F1 → K' r' F1'))  (h : P_X10_envelopes F K) : P_X10_envelopes F' K' := by
  unfold P_X10_envelopes at h ⊢
  exact hK _ _ _ _ (by rw [(hs).rd 16 rfl]) hs h
theorem t_X10_needEnvelope {b : Bool} {H H' F F' : GF} (hs : Sx b H H' F F') {p1 p1' : Int32} (e_p1 : p1 = p1') {K K' : GF → Prop} {X X' : String → GF → Prop} (hK : (∀ F1 F1' : GF, Sx b H H' F1 F1' → K F1 → K' F1')) (hX : ∀ (e : String) (F1 F1' : GF), Sx b H H' F1 F1' → X e F1 → X' e F1') (h : P_X10_needEnvelope F p1 K X) : P_X10_needEnvelope F' p1' K' X' := by
  subst e_p1
  unfold P_X10_needEnvelope at h ⊢
  rcases ite_elim h with ⟨c_1, h⟩ | ⟨c_1, h⟩
  · refine ite_pos (c_1) ?_
    exact hX _ _ _ hs h
  · refine ite_neg (c_1) ?_
    rcases ite_elim h with ⟨c_2, h⟩ | ⟨c_2, h⟩
    · refine ite_pos (by rw [(hs).rd 16 rfl]; exact c_2) ?_
      exact hK _ _ hs h
    · refine ite_neg (by rw [(hs).rd 16 rfl]; exact c_2) ?_
      exact hX _ _ _ hs h
theorem t_X10_stateOf {b : Bool} {H H' F F' : GF} (hs : Sx b H H' F F') {p1 p1' : Int32} (e_p1 : p1 = p1') {K K' : Int32 → GF → Prop} {X X' : String → GF → Prop} (hK : (∀ (r r' : Int32) (F1 F1' : GF), r = r' → Sx b H H' F1 F1' → K r F1 → K' r' F1')) (hX : ∀ (e : String) (F1 F1' : GF), Sx b H H' F1 F1' → X e F1 → X' e F1') (h : P_X10_stateOf F p1 K X) : P_X10_stateOf F' p1' K' X' := by
  subst e_p1
  unfold P_X10_stateOf at h ⊢
  refine t_X10_needEnvelope hs (rfl) (fun F_1 F_1' hs_2 h => ?_) hX h
  obtain ⟨v_3, h⟩ := h
  refine And.intro (v_3) ?_
  exact hK _ _ _ _ (by rw [(hs_2).rd 19 rfl]) hs_2 h
theorem t_X10_personOf {b : Bool} {H H' F F' : GF} (hs : Sx b H H' F F') {p1 p1' : Int32} (e_p1 : p1 = p1') {K K' : Int32 → GF → Prop} {X X' : String → GF → Prop} (hK : (∀ (r r' : Int32) (F1 F1' : GF), r = r' → Sx b H H' F1 F1' → K r F1 → K' r' F1')) (hX : ∀ (e : String) (F1 F1' : GF), Sx b H H' F1 F1' → X e F1 → X' e F1') (h : P_X10_personOf F p1 K X) : P_X10_personOf F' p1' K' X' := by
  subst e_p1
  unfold P_X10_personOf at h ⊢
  refine t_X10_needEnvelope hs (rfl) (fun F_1 F_1' hs_2 h => ?_) hX h
  obtain ⟨v_3, h⟩ := h
  refine And.intro (v_3) ?_
  exact hK _ _ _ _ (by rw [(hs_2).rd 17 rfl]) hs_2 h
theorem t_X10_ballots {b : Bool} {H H' F F' : GF} (hs : Sx b H H' F F') {p1 p1' : Int32} (e_p1 : p1 = p1') {K K' : Int32 → GF → Prop} {X X' : String → GF → Prop} (hK : (∀ (r r' : Int32) (F1 F1' : GF), r = r' → Sx b H H' F1 F1' → K r F1 → K' r' F1')) (hX : ∀ (e : String) (F1 F1' : GF), Sx b H H' F1 F1' → X e F1 → X' e F1') (h : P_X10_ballots F p1 K X) : P_X10_ballots F' p1' K' X' := by
  subst e_p1
  unfold P_X10_ballots at h ⊢
  refine t_X10_needStation hs (rfl) (fun F_1 F_1' hs_2 h => ?_) hX h
  obtain ⟨v_3, h⟩ := h
  refine And.intro (v_3) ?_
  exact hK _ _ _ _ (by rw [(hs_2).rd 28 rfl]) hs_2 h
theorem t_X10_needClerk {b : Bool} {H H' F F' : GF} (hs : Sx b H H' F F') {p0 p0' : Int32} (e_p0 : p0 = p0') {K K' : GF → Prop} {X X' : String → GF → Prop} (hK : (∀ F1 F1' : GF, Sx b H H' F1 F1' → K F1 → K' F1')) (hX : ∀ (e : String) (F1 F1' : GF), Sx b H H' F1 F1' → X e F1 → X' e F1') (h : P_X10_needClerk F p0 K X) : P_X10_needClerk F' p0' K' X' := by
  subst e_p0
  unfold P_X10_needClerk at h ⊢
  rcases ite_elim h with ⟨c_1, h⟩ | ⟨c_1, h⟩
  · refine ite_pos (c_1) ?_
    exact hX _ _ _ hs h
  · refine ite_neg (c_1) ?_
    rcases ite_elim h with ⟨c_2, h⟩ | ⟨c_2, h⟩
    · refine ite_pos (c_2) ?_
      exact hK _ _ hs h
    · refine ite_neg (c_2) ?_
      exact hX _ _ _ hs h
theorem t_X10_setSlip {b : Bool} {H H' F F' : GF} (hs : Sx b H H' F F') {p1 p1' : Int32} {p2 p2' : Int32} (e_p1 : p1 = p1') (e_p2 : p2 = p2') {K K' : Int32 → GF → Prop} {X X' : String → GF → Prop} (hK : (∀ (r r' : Int32) (F1 F1' : GF), r = r' → Sx b H H' F1 F1' → K r F1 → K' r' F1')) (hX : ∀ (e : String) (F1 F1' : GF), Sx b H H' F1 F1' → X e F1 → X' e F1') (h : P_X10_setSlip F p1 p2 K X) : P_X10_setSlip F' p1' p2' K' X' := by
  subst e_p1
  subst e_p2
  unfold P_X10_setSlip at h ⊢
  refine t_X10_needClerk hs (rfl) (fun F_1 F_1' hs_2 h => ?_) hX h
  refine t_X10_needRange hs_2 (rfl) (rfl) (rfl) (fun F_3 F_3' hs_4 h => ?_) hX h
  rcases ite_elim h with ⟨c_5, h⟩ | ⟨c_5, h⟩
  · refine ite_pos (c_5) ?_
    exact hX _ _ _ hs_4 h
  · refine ite_neg (c_5) ?_
    obtain ⟨v_6, h⟩ := h
    refine And.intro (v_6) ?_
    obtain ⟨v_7, h⟩ := h
    refine And.intro (v_7) ?_
    refine fun F_8' e_9' => ?_
    obtain ⟨F_8, e_9⟩ : ∃ z : GF, z = fs F_3 9 0 p1.toNatClampNeg p2 := ⟨_, rfl⟩
    have h := h _ e_9
    have hs_10 : Sx b H H' F_8 F_8' := by rw [e_9, e_9']; exact hs_4.fsx rfl rfl rfl rfl
    exact hK _ _ _ _ (by rw [(hs_4).rd 9 rfl]) hs_10 h
theorem t_X1_hasNumbers {b : Bool} {H H' F F' : GF} (hs : Sx b H H' F F') {i0 i0' : Nat} (e_i0 : i0 = i0') {K K' : Int32 → GF → Prop} (hK : (∀ (r r' : Int32) (F1 F1' : GF), r = r' → Sx b H H' F1 F1' → K r F1 → K' r' F1'))  (h : P_X1_hasNumbers F i0 K) : P_X1_hasNumbers F' i0' K' := by
  subst e_i0
  unfold P_X1_hasNumbers at h ⊢
  rcases ite_elim h with ⟨c_1, h⟩ | ⟨c_1, h⟩
  · refine ite_pos (by rw [(hs).rd 28 rfl]; exact c_1) ?_
    exact hK _ _ _ _ (rfl) hs h
  · refine ite_neg (by rw [(hs).rd 28 rfl]; exact c_1) ?_
    exact hK _ _ _ _ (rfl) hs h
theorem t_X1_readBallots_7 {b : Bool} {H H' : GF} {i0 : Nat} {j0 : Nat} {K K' : GF → Prop} (hK : (∀ F1 F1' : GF, Sx b H H' F1 F1' → K F1 → K' F1'))  : ∀ (n : Nat) (F F' : GF) (x2 x2' : Int32) (x3 x3' : Int32), Sx b H H' F F' → x2 = x2' → x3 = x3' → P_X1_readBallots_7 i0 j0 K n F x2 x3 → P_X1_readBallots_7 i0 j0 K' n F' x2' x3' := by
  intro n
  induction n with
  | zero => intro F F' x2 x2' x3 x3' hs _ _ h; exact False.elim h
  | succ n ih =>
    intro F F' x2 x2' x3 x3' hs e_x2 e_x3 h
    subst e_x2
    subst e_x3
    rw [P_X1_readBallots_7] at h ⊢
    rcases ite_elim h with ⟨c_1, h⟩ | ⟨c_1, h⟩
    · refine ite_pos (by rw [(hs).rd 28 rfl]; exact c_1) ?_
      exact hK _ _ hs h
    · refine ite_neg (by rw [(hs).rd 28 rfl]; exact c_1) ?_
      rcases ite_elim h with ⟨c_2, h⟩ | ⟨c_2, h⟩
      · refine ite_pos (c_2) ?_
        unfold P_X1_readBallots_31 at h ⊢
        unfold P_X1_readBallots_32 at h ⊢
        rcases ite_elim h with ⟨c_3, h⟩ | ⟨c_3, h⟩
        · refine ite_pos (c_3) ?_
          obtain ⟨v_4, h⟩ := h
          refine And.intro (v_4) ?_
          unfold P_X1_readBallots_59 at h ⊢
          rcases ite_elim h with ⟨c_5, h⟩ | ⟨c_5, h⟩
          · refine ite_pos (by rw [(hs).rd 29 rfl]; exact c_5) ?_
            unfold P_X1_readBallots_81 at h ⊢
            exact ih _ _ _ _ _ _ hs (rfl) (rfl) h
          · refine ite_neg (by rw [(hs).rd 29 rfl]; exact c_5) ?_
            rcases ite_elim h with ⟨c_6, h⟩ | ⟨c_6, h⟩
            · refine ite_pos (by rw [(hs).rd 29 rfl]; exact c_6) ?_
              unfold P_X1_readBallots_81 at h ⊢
              exact ih _ _ _ _ _ _ hs (rfl) (rfl) h
            · refine ite_neg (by rw [(hs).rd 29 rfl]; exact c_6) ?_
              obtain ⟨v_7, h⟩ := h
              refine And.intro (by rw [(hs).rd 29 rfl]; exact v_7) ?_
              obtain ⟨v_8, h⟩ := h
              refine And.intro (by rw [(hs).rd 29 rfl]; exact v_8) ?_
              refine fun F_9' e_10' => ?_
              obtain ⟨F_9, e_10⟩ : ∃ z : GF, z = fs F 32 j0 (F 29 i0 x3.toNatClampNeg).toNatClampNeg ((F 32 j0 (F 29 i0 x3.toNatClampNeg).toNatClampNeg) + 1) := ⟨_, rfl⟩
              have h := h _ e_10
              have hs_11 : Sx b H H' F_9 F_9' := by rw [e_10, e_10']; exact hs.fsx rfl (by first | (simp only [(hs).rd 29 rfl, (hs).rd 32 rfl]; done) | rfl) (by first | (simp only [(hs).rd 29 rfl, (hs).rd 32 rfl]; done) | rfl) (by first | (simp only [(hs).rd 29 rfl, (hs).rd 32 rfl]; done) | rfl)
              unfold P_X1_readBallots_81 at h ⊢
              exact ih _ _ _ _ _ _ hs_11 (rfl) (rfl) h
        · refine ite_neg (c_3) ?_
          obtain ⟨v_12, h⟩ := h
          refine And.intro (v_12) ?_
          unfold P_X1_readBallots_59 at h ⊢
          rcases ite_elim h with ⟨c_13, h⟩ | ⟨c_13, h⟩
          · refine ite_pos (by rw [(hs).rd 29 rfl]; exact c_13) ?_
            unfold P_X1_readBallots_81 at h ⊢
            exact ih _ _ _ _ _ _ hs (rfl) (rfl) h
          · refine ite_neg (by rw [(hs).rd 29 rfl]; exact c_13) ?_
            rcases ite_elim h with ⟨c_14, h⟩ | ⟨c_14, h⟩
            · refine ite_pos (by rw [(hs).rd 29 rfl]; exact c_14) ?_
              unfold P_X1_readBallots_81 at h ⊢
              exact ih _ _ _ _ _ _ hs (rfl) (rfl) h
            · refine ite_neg (by rw [(hs).rd 29 rfl]; exact c_14) ?_
              obtain ⟨v_15, h⟩ := h
              refine And.intro (by rw [(hs).rd 29 rfl]; exact v_15) ?_
              obtain ⟨v_16, h⟩ := h
              refine And.intro (by rw [(hs).rd 29 rfl]; exact v_16) ?_
              refine fun F_17' e_18' => ?_
              obtain ⟨F_17, e_18⟩ : ∃ z : GF, z = fs F 32 j0 (((F 29 i0 x3.toNatClampNeg) + 1) - ((F 29 i0 x3.toNatClampNeg) + 1) / 6 * 6).toNatClampNeg ((F 32 j0 (((F 29 i0 x3.toNatClampNeg) + 1) - ((F 29 i0 x3.toNatClampNeg) + 1) / 6 * 6).toNatClampNeg) + 1) := ⟨_, rfl⟩
              have h := h _ e_18
              have hs_19 : Sx b H H' F_17 F_17' := by rw [e_18, e_18']; exact hs.fsx rfl (by first | (simp only [(hs).rd 29 rfl, (hs).rd 32 rfl]; done) | rfl) (by first | (simp only [(hs).rd 29 rfl, (hs).rd 32 rfl]; done) | rfl) (by first | (simp only [(hs).rd 29 rfl, (hs).rd 32 rfl]; done) | rfl)
              unfold P_X1_readBallots_81 at h ⊢
              exact ih _ _ _ _ _ _ hs_19 (rfl) (rfl) h
      · refine ite_neg (c_2) ?_
        obtain ⟨v_20, h⟩ := h
        refine And.intro (v_20) ?_
        rcases ite_elim h with ⟨c_21, h⟩ | ⟨c_21, h⟩
        · refine ite_pos (c_21) ?_
          unfold P_X1_readBallots_32 at h ⊢
          rcases ite_elim h with ⟨c_22, h⟩ | ⟨c_22, h⟩
          · refine ite_pos (c_22) ?_
            obtain ⟨v_23, h⟩ := h
            refine And.intro (v_23) ?_
            unfold P_X1_readBallots_59 at h ⊢
            rcases ite_elim h with ⟨c_24, h⟩ | ⟨c_24, h⟩
            · refine ite_pos (by rw [(hs).rd 29 rfl]; exact c_24) ?_
              unfold P_X1_readBallots_81 at h ⊢
              exact ih _ _ _ _ _ _ hs (rfl) (rfl) h
            · refine ite_neg (by rw [(hs).rd 29 rfl]; exact c_24) ?_
              rcases ite_elim h with ⟨c_25, h⟩ | ⟨c_25, h⟩
              · refine ite_pos (by rw [(hs).rd 29 rfl]; exact c_25) ?_
                unfold P_X1_readBallots_81 at h ⊢
                exact ih _ _ _ _ _ _ hs (rfl) (rfl) h
              · refine ite_neg (by rw [(hs).rd 29 rfl]; exact c_25) ?_
                obtain ⟨v_26, h⟩ := h
                refine And.intro (by rw [(hs).rd 29 rfl]; exact v_26) ?_
                obtain ⟨v_27, h⟩ := h
                refine And.intro (by rw [(hs).rd 29 rfl]; exact v_27) ?_
                refine fun F_28' e_29' => ?_
                obtain ⟨F_28, e_29⟩ : ∃ z : GF, z = fs F 32 j0 (F 29 i0 x3.toNatClampNeg).toNatClampNeg ((F 32 j0 (F 29 i0 x3.toNatClampNeg).toNatClampNeg) + 1) := ⟨_, rfl⟩
                have h := h _ e_29
                have hs_30 : Sx b H H' F_28 F_28' := by rw [e_29, e_29']; exact hs.fsx rfl (by first | (simp only [(hs).rd 29 rfl, (hs).rd 32 rfl]; done) | rfl) (by first | (simp only [(hs).rd 29 rfl, (hs).rd 32 rfl]; done) | rfl) (by first | (simp only [(hs).rd 29 rfl, (hs).rd 32 rfl]; done) | rfl)
                unfold P_X1_readBallots_81 at h ⊢
                exact ih _ _ _ _ _ _ hs_30 (rfl) (rfl) h
          · refine ite_neg (c_22) ?_
            obtain ⟨v_31, h⟩ := h
            refine And.intro (v_31) ?_
            unfold P_X1_readBallots_59 at h ⊢
            rcases ite_elim h with ⟨c_32, h⟩ | ⟨c_32, h⟩
            · refine ite_pos (by rw [(hs).rd 29 rfl]; exact c_32) ?_
              unfold P_X1_readBallots_81 at h ⊢
              exact ih _ _ _ _ _ _ hs (rfl) (rfl) h
            · refine ite_neg (by rw [(hs).rd 29 rfl]; exact c_32) ?_
              rcases ite_elim h with ⟨c_33, h⟩ | ⟨c_33, h⟩
              · refine ite_pos (by rw [(hs).rd 29 rfl]; exact c_33) ?_
                unfold P_X1_readBallots_81 at h ⊢
                exact ih _ _ _ _ _ _ hs (rfl) (rfl) h
              · refine ite_neg (by rw [(hs).rd 29 rfl]; exact c_33) ?_
                obtain ⟨v_34, h⟩ := h
                refine And.intro (by rw [(hs).rd 29 rfl]; exact v_34) ?_
                obtain ⟨v_35, h⟩ := h
                refine And.intro (by rw [(hs).rd 29 rfl]; exact v_35) ?_
                refine fun F_36' e_37' => ?_
                obtain ⟨F_36, e_37⟩ : ∃ z : GF, z = fs F 32 j0 (((F 29 i0 x3.toNatClampNeg) + 1) - ((F 29 i0 x3.toNatClampNeg) + 1) / 6 * 6).toNatClampNeg ((F 32 j0 (((F 29 i0 x3.toNatClampNeg) + 1) - ((F 29 i0 x3.toNatClampNeg) + 1) / 6 * 6).toNatClampNeg) + 1) := ⟨_, rfl⟩
                have h := h _ e_37
                have hs_38 : Sx b H H' F_36 F_36' := by rw [e_37, e_37']; exact hs.fsx rfl (by first | (simp only [(hs).rd 29 rfl, (hs).rd 32 rfl]; done) | rfl) (by first | (simp only [(hs).rd 29 rfl, (hs).rd 32 rfl]; done) | rfl) (by first | (simp only [(hs).rd 29 rfl, (hs).rd 32 rfl]; done) | rfl)
                unfold P_X1_readBallots_81 at h ⊢
                exact ih _ _ _ _ _ _ hs_38 (rfl) (rfl) h
        · refine ite_neg (c_21) ?_
          unfold P_X1_readBallots_31 at h ⊢
          unfold P_X1_readBallots_32 at h ⊢
          rcases ite_elim h with ⟨c_39, h⟩ | ⟨c_39, h⟩
          · refine ite_pos (c_39) ?_
            obtain ⟨v_40, h⟩ := h
            refine And.intro (v_40) ?_
            unfold P_X1_readBallots_59 at h ⊢
            rcases ite_elim h with ⟨c_41, h⟩ | ⟨c_41, h⟩
            · refine ite_pos (by rw [(hs).rd 29 rfl]; exact c_41) ?_
              unfold P_X1_readBallots_81 at h ⊢
              exact ih _ _ _ _ _ _ hs (rfl) (rfl) h
            · refine ite_neg (by rw [(hs).rd 29 rfl]; exact c_41) ?_
              rcases ite_elim h with ⟨c_42, h⟩ | ⟨c_42, h⟩
              · refine ite_pos (by rw [(hs).rd 29 rfl]; exact c_42) ?_
                unfold P_X1_readBallots_81 at h ⊢
                exact ih _ _ _ _ _ _ hs (rfl) (rfl) h
              · refine ite_neg (by rw [(hs).rd 29 rfl]; exact c_42) ?_
                obtain ⟨v_43, h⟩ := h
                refine And.intro (by rw [(hs).rd 29 rfl]; exact v_43) ?_
                obtain ⟨v_44, h⟩ := h
                refine And.intro (by rw [(hs).rd 29 rfl]; exact v_44) ?_
                refine fun F_45' e_46' => ?_
                obtain ⟨F_45, e_46⟩ : ∃ z : GF, z = fs F 32 j0 (F 29 i0 x3.toNatClampNeg).toNatClampNeg ((F 32 j0 (F 29 i0 x3.toNatClampNeg).toNatClampNeg) + 1) := ⟨_, rfl⟩
                have h := h _ e_46
                have hs_47 : Sx b H H' F_45 F_45' := by rw [e_46, e_46']; exact hs.fsx rfl (by first | (simp only [(hs).rd 29 rfl, (hs).rd 32 rfl]; done) | rfl) (by first | (simp only [(hs).rd 29 rfl, (hs).rd 32 rfl]; done) | rfl) (by first | (simp only [(hs).rd 29 rfl, (hs).rd 32 rfl]; done) | rfl)
                unfold P_X1_readBallots_81 at h ⊢
                exact ih _ _ _ _ _ _ hs_47 (rfl) (rfl) h
          · refine ite_neg (c_39) ?_
            obtain ⟨v_48, h⟩ := h
            refine And.intro (v_48) ?_
            unfold P_X1_readBallots_59 at h ⊢
            rcases ite_elim h with ⟨c_49, h⟩ | ⟨c_49, h⟩
            · refine ite_pos (by rw [(hs).rd 29 rfl]; exact c_49) ?_
              unfold P_X1_readBallots_81 at h ⊢
              exact ih _ _ _ _ _ _ hs (rfl) (rfl) h
            · refine ite_neg (by rw [(hs).rd 29 rfl]; exact c_49) ?_
              rcases ite_elim h with ⟨c_50, h⟩ | ⟨c_50, h⟩
              · refine ite_pos (by rw [(hs).rd 29 rfl]; exact c_50) ?_
                unfold P_X1_readBallots_81 at h ⊢
                exact ih _ _ _ _ _ _ hs (rfl) (rfl) h
              · refine ite_neg (by rw [(hs).rd 29 rfl]; exact c_50) ?_
                obtain ⟨v_51, h⟩ := h
                refine And.intro (by rw [(hs).rd 29 rfl]; exact v_51) ?_
                obtain ⟨v_52, h⟩ := h
                refine And.intro (by rw [(hs).rd 29 rfl]; exact v_52) ?_
                refine fun F_53' e_54' => ?_
                obtain ⟨F_53, e_54⟩ : ∃ z : GF, z = fs F 32 j0 (((F 29 i0 x3.toNatClampNeg) + 1) - ((F 29 i0 x3.toNatClampNeg) + 1) / 6 * 6).toNatClampNeg ((F 32 j0 (((F 29 i0 x3.toNatClampNeg) + 1) - ((F 29 i0 x3.toNatClampNeg) + 1) / 6 * 6).toNatClampNeg) + 1) := ⟨_, rfl⟩
                have h := h _ e_54
                have hs_55 : Sx b H H' F_53 F_53' := by rw [e_54, e_54']; exact hs.fsx rfl (by first | (simp only [(hs).rd 29 rfl, (hs).rd 32 rfl]; done) | rfl) (by first | (simp only [(hs).rd 29 rfl, (hs).rd 32 rfl]; done) | rfl) (by first | (simp only [(hs).rd 29 rfl, (hs).rd 32 rfl]; done) | rfl)
                unfold P_X1_readBallots_81 at h ⊢
                exact ih _ _ _ _ _ _ hs_55 (rfl) (rfl) h
theorem t_X1_readBallots {b : Bool} {H H' F F' : GF} (hs : Sx b H H' F F') {i0 i0' : Nat} {j0 j0' : Nat} {p2 p2' : Int32} (e_i0 : i0 = i0') (e_j0 : j0 = j0') (e_p2 : p2 = p2') {K K' : GF → Prop} (hK : (∀ F1 F1' : GF, Sx b H H' F1 F1' → K F1 → K' F1'))  (h : P_X1_readBallots F i0 j0 p2 K) : P_X1_readBallots F' i0' j0' p2' K' := by
  subst e_i0
  subst e_j0
  subst e_p2
  unfold P_X1_readBallots at h ⊢
  refine fun F_1' e_2' => ?_
  obtain ⟨F_1, e_2⟩ : ∃ z : GF, z = ffill F 32 j0 6 0 := ⟨_, rfl⟩
  have h := h _ e_2
  have hs_3 : Sx b H H' F_1 F_1' := by rw [e_2, e_2']; exact hs.ffx rfl rfl rfl rfl
  obtain ⟨n_4, h⟩ := h
  refine ⟨n_4, ?_⟩
  exact t_X1_readBallots_7 hK n_4 _ _ _ _ _ _ hs_3 (rfl) (rfl) h
theorem t_X1_isAlike_2 {b : Bool} {H H' : GF} {j0 : Nat} {j1 : Nat} {K K' : Int32 → GF → Prop} (hK : (∀ (r r' : Int32) (F1 F1' : GF), r = r' → Sx b H H' F1 F1' → K r F1 → K' r' F1'))  : ∀ (n : Nat) (F F' : GF) (x2 x2' : Int32), Sx b H H' F F' → x2 = x2' → P_X1_isAlike_2 j0 j1 K n F x2 → P_X1_isAlike_2 j0 j1 K' n F' x2' := by
  intro n
  induction n with
  | zero => intro F F' x2 x2' hs _ h; exact False.elim h
  | succ n ih =>
    intro F F' x2 x2' hs e_x2 h
    subst e_x2
    rw [P_X1_isAlike_2] at h ⊢
    rcases ite_elim h with ⟨c_1, h⟩ | ⟨c_1, h⟩
    · refine ite_pos (c_1) ?_
      exact hK _ _ _ _ (rfl) hs h
    · refine ite_neg (c_1) ?_
      rcases ite_elim h with ⟨c_2, h⟩ | ⟨c_2, h⟩
      · refine ite_pos (c_2) ?_
        exact hK _ _ _ _ (rfl) hs h
      · refine ite_neg (c_2) ?_
        obtain ⟨v_3, h⟩ := h
        refine And.intro (v_3) ?_
        obtain ⟨v_4, h⟩ := h
        refine And.intro (v_4) ?_
        rcases ite_elim h with ⟨c_5, h⟩ | ⟨c_5, h⟩
        · refine ite_pos (by rw [(hs).rd 32 rfl]; exact c_5) ?_
          exact ih _ _ _ _ hs (rfl) h
        · refine ite_neg (by rw [(hs).rd 32 rfl]; exact c_5) ?_
          exact hK _ _ _ _ (rfl) hs h
theorem t_X1_isAlike {b : Bool} {H H' F F' : GF} (hs : Sx b H H' F F') {j0 j0' : Nat} {j1 j1' : Nat} (e_j0 : j0 = j0') (e_j1 : j1 = j1') {K K' : Int32 → GF → Prop} (hK : (∀ (r r' : Int32) (F1 F1' : GF), r = r' → Sx b H H' F1 F1' → K r F1 → K' r' F1'))  (h : P_X1_isAlike F j0 j1 K) : P_X1_isAlike F' j0' j1' K' := by
  subst e_j0
  subst e_j1
  unfold P_X1_isAlike at h ⊢
  obtain ⟨n_1, h⟩ := h
  refine ⟨n_1, ?_⟩
  exact t_X1_isAlike_2 hK n_1 _ _ _ _ hs (rfl) h
theorem t_X1_countBy_36 {b : Bool} {H H' : GF} {i0 : Nat} {K K' : GF → Prop} (hK : (∀ F1 F1' : GF, Sx b H H' F1 F1' → K F1 → K' F1'))  : ∀ (n : Nat) (F F' : GF) (x1 x1' : Int32) (x3 x3' : Int32), Sx b H H' F F' → x1 = x1' → x3 = x3' → P_X1_countBy_36 i0 K n F x1 x3 → P_X1_countBy_36 i0 K' n F' x1' x3' := by
  intro n
  induction n with
  | zero => intro F F' x1 x1' x3 x3' hs _ _ h; exact False.elim h
  | succ n ih =>
    intro F F' x1 x1' x3 x3' hs e_x1 e_x3 h
    subst e_x1
    subst e_x3
    rw [P_X1_countBy_36] at h ⊢
    rcases ite_elim h with ⟨c_1, h⟩ | ⟨c_1, h⟩
    · refine ite_pos (by rw [(hs).rd 28 rfl]; exact c_1) ?_
      refine fun F_2' e_3' => ?_
      obtain ⟨F_2, e_3⟩ : ∃ z : GF, z = fs F 28 i0 4 ((F 28 i0 4) + 1) := ⟨_, rfl⟩
      have h := h _ e_3
      have hs_4 : Sx b H H' F_2 F_2' := by rw [e_3, e_3']; exact hs.fsx rfl (by first | (simp only [(hs).rd 28 rfl]; done) | rfl) (by first | (simp only [(hs).rd 28 rfl]; done) | rfl) (by first | (simp only [(hs).rd 28 rfl]; done) | rfl)
      exact hK _ _ hs_4 h
    · refine ite_neg (by rw [(hs).rd 28 rfl]; exact c_1) ?_
      obtain ⟨v_5, h⟩ := h
      refine And.intro (v_5) ?_
      rcases ite_elim h with ⟨c_6, h⟩ | ⟨c_6, h⟩
      · refine ite_pos (by rw [(hs).rd 30 rfl]; exact c_6) ?_
        unfold P_X1_countBy_83 at h ⊢
        exact ih _ _ _ _ _ _ hs (rfl) (rfl) h
      · refine ite_neg (by rw [(hs).rd 30 rfl]; exact c_6) ?_
        obtain ⟨v_7, h⟩ := h
        refine And.intro (v_7) ?_
        obtain ⟨v_8, h⟩ := h
        refine And.intro (by rw [(hs).rd 28 rfl]; exact v_8) ?_
        refine t_X1_isAlike hs (rfl) (by rw [(hs).rd 28 rfl]) (fun r_11 r_11' F_9 F_9' er_11 hs_10 h => ?_) h
        subst er_11
        rcases ite_elim h with ⟨c_12, h⟩ | ⟨c_12, h⟩
        · refine ite_pos (c_12) ?_
          unfold P_X1_countBy_83 at h ⊢
          exact ih _ _ _ _ _ _ hs_10 (rfl) (rfl) h
        · refine ite_neg (c_12) ?_
          refine fun F_13' e_14' => ?_
          obtain ⟨F_13, e_14⟩ : ∃ z : GF, z = fs F_9 28 i0 5 (F_9 28 i0 4) := ⟨_, rfl⟩
          have h := h _ e_14
          have hs_15 : Sx b H H' F_13 F_13' := by rw [e_14, e_14']; exact hs_10.fsx rfl (by first | (simp only [(hs_10).rd 28 rfl]; done) | rfl) (by first | (simp only [(hs_10).rd 28 rfl]; done) | rfl) (by first | (simp only [(hs_10).rd 28 rfl]; done) | rfl)
          unfold P_X1_countBy_83 at h ⊢
          exact ih _ _ _ _ _ _ hs_15 (rfl) (rfl) h
theorem t_X1_countBy {b : Bool} {H H' F F' : GF} (hs : Sx b H H' F F') {i0 i0' : Nat} {p1 p1' : Int32} {p2 p2' : Int32} (e_i0 : i0 = i0') (e_p1 : p1 = p1') (e_p2 : p2 = p2') {K K' : GF → Prop} (hK : (∀ F1 F1' : GF, Sx b H H' F1 F1' → K F1 → K' F1'))  (h : P_X1_countBy F i0 p1 p2 K) : P_X1_countBy F' i0' p1' p2' K' := by
  subst e_i0
  subst e_p1
  subst e_p2
  unfold P_X1_countBy at h ⊢
  rcases ite_elim h with ⟨c_1, h⟩ | ⟨c_1, h⟩
  · refine ite_pos (by rw [(hs).rd 28 rfl]; exact c_1) ?_
    obtain ⟨v_2, h⟩ := h
    refine And.intro (by rw [(hs).rd 28 rfl]; exact v_2) ?_
    refine fun F_3' e_4' => ?_
    obtain ⟨F_3, e_4⟩ : ∃ z : GF, z = fs F 30 i0 (F 28 i0 4).toNatClampNeg p1 := ⟨_, rfl⟩
    have h := h _ e_4
    have hs_5 : Sx b H H' F_3 F_3' := by rw [e_4, e_4']; exact hs.fsx rfl (by first | (simp only [(hs).rd 28 rfl]; done) | rfl) (by first | (simp only [(hs).rd 28 rfl]; done) | rfl) (by first | (simp only [(hs).rd 28 rfl]; done) | rfl)
    obtain ⟨v_6, h⟩ := h
    refine And.intro (by rw [(hs_5).rd 28 rfl]; exact v_6) ?_
    refine t_X1_readBallots hs_5 (rfl) (by rw [(hs_5).rd 28 rfl]) (rfl) (fun F_7 F_7' hs_8 h => ?_) h
    obtain ⟨n_9, h⟩ := h
    refine ⟨n_9, ?_⟩
    exact t_X1_countBy_36 hK n_9 _ _ _ _ _ _ hs_8 (rfl) (rfl) h
  · refine ite_neg (by rw [(hs).rd 28 rfl]; exact c_1) ?_
    exact hK _ _ hs h
theorem t_X2_isAllSettled_2 {b : Bool} {H H' : GF}  {K K' : Int32 → GF → Prop} (hK : (∀ (r r' : Int32) (F1 F1' : GF), r = r' → Sx b H H' F1 F1' → K r F1 → K' r' F1'))  : ∀ (n : Nat) (F F' : GF) (x1 x1' : Int32), Sx b H H' F F' → x1 = x1' → P_X2_isAllSettled_2 K n F x1 → P_X2_isAllSettled_2 K' n F' x1' := by
  intro n
  induction n with
  | zero => intro F F' x1 x1' hs _ h; exact False.elim h
  | succ n ih =>
    intro F F' x1 x1' hs e_x1 h
    subst e_x1
    rw [P_X2_isAllSettled_2] at h ⊢
    rcases ite_elim h with ⟨c_1, h⟩ | ⟨c_1, h⟩
    · refine ite_pos (by rw [(hs).rd 10 rfl]; exact c_1) ?_
      exact hK _ _ _ _ (rfl) hs h
    · refine ite_neg (by rw [(hs).rd 10 rfl]; exact c_1) ?_
      obtain ⟨v_2, h⟩ := h
      refine And.intro (v_2) ?_
      refine t_X1_hasNumbers hs (rfl) (fun r_5 r_5' F_3 F_3' er_5 hs_4 h => ?_) h
      subst er_5
      rcases ite_elim h with ⟨c_6, h⟩ | ⟨c_6, h⟩
      · refine ite_pos (c_6) ?_
        exact hK _ _ _ _ (rfl) hs_4 h
      · refine ite_neg (c_6) ?_
        exact ih _ _ _ _ hs_4 (rfl) h
theorem t_X2_isAllSettled {b : Bool} {H H' F F' : GF} (hs : Sx b H H' F F')   {K K' : Int32 → GF → Prop} (hK : (∀ (r r' : Int32) (F1 F1' : GF), r = r' → Sx b H H' F1 F1' → K r F1 → K' r' F1'))  (h : P_X2_isAllSettled F K) : P_X2_isAllSettled F' K' := by
  unfold P_X2_isAllSettled at h ⊢
  obtain ⟨n_1, h⟩ := h
  refine ⟨n_1, ?_⟩
  exact t_X2_isAllSettled_2 hK n_1 _ _ _ _ hs (rfl) h
theorem t_X10_count {b : Bool} {H H' F F' : GF} (hs : Sx b H H' F F') {p1 p1' : Int32} {p2 p2' : Int32} (e_p1 : p1 = p1') (e_p2 : p2 = p2') {K K' : Int32 → GF → Prop} {X X' : String → GF → Prop} (hK : (∀ (r r' : Int32) (F1 F1' : GF), r = r' → Sx b H H' F1 F1' → K r F1 → K' r' F1')) (hX : ∀ (e : String) (F1 F1' : GF), Sx b H H' F1 F1' → X e F1 → X' e F1') (h : P_X10_count F p1 p2 K X) : P_X10_count F' p1' p2' K' X' := by
  subst e_p1
  subst e_p2
  unfold P_X10_count at h ⊢
  refine t_X10_needStation hs (rfl) (fun F_1 F_1' hs_2 h => ?_) hX h
  refine t_X10_needClerk hs_2 (rfl) (fun F_3 F_3' hs_4 h => ?_) hX h
  refine t_X10_needStage hs_4 (rfl) (fun F_5 F_5' hs_6 h => ?_) hX h
  obtain ⟨v_7, h⟩ := h
  refine And.intro (v_7) ?_
  rcases ite_elim h with ⟨c_8, h⟩ | ⟨c_8, h⟩
  · refine ite_pos (by rw [(hs_6).rd 10 rfl]; exact c_8) ?_
    refine t_X1_hasNumbers hs_6 (rfl) (fun r_11 r_11' F_9 F_9' er_11 hs_10 h => ?_) h
    subst er_11
    rcases ite_elim h with ⟨c_12, h⟩ | ⟨c_12, h⟩
    · refine ite_pos (c_12) ?_
      rcases ite_elim h with ⟨c_13, h⟩ | ⟨c_13, h⟩
      · refine ite_pos (by rw [(hs_10).rd 28 rfl]; exact c_13) ?_
        refine t_X0_write hs_10 (by rw [(hs_10).rd 0 rfl]) (rfl) (rfl) (fun F_14 F_14' hs_15 h => ?_) h
        obtain ⟨v_16, h⟩ := h
        refine And.intro (v_16) ?_
        refine t_X1_countBy hs_15 (rfl) (rfl) (by rw [(hs_15).rd 9 rfl]) (fun F_17 F_17' hs_18 h => ?_) h
        refine t_X2_isAllSettled hs_18  (fun r_21 r_21' F_19 F_19' er_21 hs_20 h => ?_) h
        subst er_21
        rcases ite_elim h with ⟨c_22, h⟩ | ⟨c_22, h⟩
        · refine ite_pos (c_22) ?_
          unfold P_X10_count_128 at h ⊢
          refine t_X1_hasNumbers hs_20 (rfl) (fun r_25 r_25' F_23 F_23' er_25 hs_24 h => ?_) h
          subst er_25
          obtain ⟨v_26, h⟩ := h
          refine And.intro (v_26) ?_
          exact hK _ _ _ _ (rfl) hs_24 h
        · refine ite_neg (c_22) ?_
          refine fun F_27' e_28' => ?_
          obtain ⟨F_27, e_28⟩ : ∃ z : GF, z = fs F_19 10 0 0 5 := ⟨_, rfl⟩
          have h := h _ e_28
          have hs_29 : Sx b H H' F_27 F_27' := by rw [e_28, e_28']; exact hs_20.fsx rfl rfl rfl rfl
          unfold P_X10_count_128 at h ⊢
          refine t_X1_hasNumbers hs_29 (rfl) (fun r_32 r_32' F_30 F_30' er_32 hs_31 h => ?_) h
          subst er_32
          obtain ⟨v_33, h⟩ := h
          refine And.intro (v_33) ?_
          exact hK _ _ _ _ (rfl) hs_31 h
      · refine ite_neg (by rw [(hs_10).rd 28 rfl]; exact c_13) ?_
        exact hX _ _ _ hs_10 h
    · refine ite_neg (c_12) ?_
      exact hX _ _ _ hs_10 h
  · refine ite_neg (by rw [(hs_6).rd 10 rfl]; exact c_8) ?_
    exact hX _ _ _ hs_6 h
theorem t_X1_dropCounts {b : Bool} {H H' F F' : GF} (hs : Sx b H H' F F') {i0 i0' : Nat} (e_i0 : i0 = i0') {K K' : Int32 → GF → Prop} (hK : (∀ (r r' : Int32) (F1 F1' : GF), r = r' → Sx b H H' F1 F1' → K r F1 → K' r' F1'))  (h : P_X1_dropCounts F i0 K) : P_X1_dropCounts F' i0' K' := by
  subst e_i0
  unfold P_X1_dropCounts at h ⊢
  refine fun F_1' e_2' => ?_
  obtain ⟨F_1, e_2⟩ : ∃ z : GF, z = fs F 28 i0 4 0 := ⟨_, rfl⟩
  have h := h _ e_2
  have hs_3 : Sx b H H' F_1 F_1' := by rw [e_2, e_2']; exact hs.fsx rfl rfl rfl rfl
  refine fun F_4' e_5' => ?_
  obtain ⟨F_4, e_5⟩ : ∃ z : GF, z = fs F_1 28 i0 5 (-1) := ⟨_, rfl⟩
  have h := h _ e_5
  have hs_6 : Sx b H H' F_4 F_4' := by rw [e_5, e_5']; exact hs_3.fsx rfl rfl rfl rfl
  exact hK _ _ _ _ (by rw [(hs).rd 28 rfl]) hs_6 h
theorem t_X10_recount {b : Bool} {H H' F F' : GF} (hs : Sx b H H' F F') {p1 p1' : Int32} (e_p1 : p1 = p1') {K K' : Int32 → GF → Prop} {X X' : String → GF → Prop} (hK : (∀ (r r' : Int32) (F1 F1' : GF), r = r' → Sx b H H' F1 F1' → K r F1 → K' r' F1')) (hX : ∀ (e : String) (F1 F1' : GF), Sx b H H' F1 F1' → X e F1 → X' e F1') (h : P_X10_recount F p1 K X) : P_X10_recount F' p1' K' X' := by
  subst e_p1
  unfold P_X10_recount at h ⊢
  refine t_X10_needStation hs (rfl) (fun F_1 F_1' hs_2 h => ?_) hX h
  refine t_X10_needStage hs_2 (rfl) (fun F_3 F_3' hs_4 h => ?_) hX h
  obtain ⟨v_5, h⟩ := h
  refine And.intro (v_5) ?_
  refine t_X1_dropCounts hs_4 (rfl) (fun r_8 r_8' F_6 F_6' er_8 hs_7 h => ?_) h
  subst er_8
  exact hK _ _ _ _ (rfl) hs_7 h
theorem t_X10_isSettled {b : Bool} {H H' F F' : GF} (hs : Sx b H H' F F') {p1 p1' : Int32} (e_p1 : p1 = p1') {K K' : Int32 → GF → Prop} {X X' : String → GF → Prop} (hK : (∀ (r r' : Int32) (F1 F1' : GF), r = r' → Sx b H H' F1 F1' → K r F1 → K' r' F1')) (hX : ∀ (e : String) (F1 F1' : GF), Sx b H H' F1 F1' → X e F1 → X' e F1') (h : P_X10_isSettled F p1 K X) : P_X10_isSettled F' p1' K' X' := by
  subst e_p1
  unfold P_X10_isSettled at h ⊢
  refine t_X10_needStation hs (rfl) (fun F_1 F_1' hs_2 h => ?_) hX h
  obtain ⟨v_3, h⟩ := h
  refine And.intro (v_3) ?_
  refine t_X1_hasNumbers hs_2 (rfl) (fun r_6 r_6' F_4 F_4' er_6 hs_5 h => ?_) h
  subst er_6
  obtain ⟨v_7, h⟩ := h
  refine And.intro (v_7) ?_
  exact hK _ _ _ _ (rfl) hs_5 h
theorem t_X1_settledNumber {b : Bool} {H H' F F' : GF} (hs : Sx b H H' F F') {i0 i0' : Nat} {p1 p1' : Int32} (e_i0 : i0 = i0') (e_p1 : p1 = p1') {K K' : Int32 → GF → Prop} (hK : (∀ (r r' : Int32) (F1 F1' : GF), r = r' → Sx b H H' F1 F1' → K r F1 → K' r' F1'))  (h : P_X1_settledNumber F i0 p1 K) : P_X1_settledNumber F' i0' p1' K' := by
  subst e_i0
  subst e_p1
  unfold P_X1_settledNumber at h ⊢
  rcases ite_elim h with ⟨c_1, h⟩ | ⟨c_1, h⟩
  · refine ite_pos (by rw [(hs).rd 28 rfl]; exact c_1) ?_
    exact hK _ _ _ _ (rfl) hs h
  · refine ite_neg (by rw [(hs).rd 28 rfl]; exact c_1) ?_
    rcases ite_elim h with ⟨c_2, h⟩ | ⟨c_2, h⟩
    · refine ite_pos (by rw [(hs).rd 28 rfl]; exact c_2) ?_
      exact hK _ _ _ _ (rfl) hs h
    · refine ite_neg (by rw [(hs).rd 28 rfl]; exact c_2) ?_
      rcases ite_elim h with ⟨c_3, h⟩ | ⟨c_3, h⟩
      · refine ite_pos (c_3) ?_
        exact hK _ _ _ _ (rfl) hs h
      · refine ite_neg (c_3) ?_
        rcases ite_elim h with ⟨c_4, h⟩ | ⟨c_4, h⟩
        · refine ite_pos (c_4) ?_
          obtain ⟨v_5, h⟩ := h
          refine And.intro (by rw [(hs).rd 28 rfl]; exact v_5) ?_
          obtain ⟨v_6, h⟩ := h
          refine And.intro (v_6) ?_
          exact hK _ _ _ _ (by rw [(hs).rd 32 rfl, (hs).rd 28 rfl]) hs h
        · refine ite_neg (c_4) ?_
          exact hK _ _ _ _ (rfl) hs h
theorem t_X10_numberOf {b : Bool} {H H' F F' : GF} (hs : Sx b H H' F F') {p1 p1' : Int32} {p2 p2' : Int32} (e_p1 : p1 = p1') (e_p2 : p2 = p2') {K K' : Int32 → GF → Prop} {X X' : String → GF → Prop} (hK : (∀ (r r' : Int32) (F1 F1' : GF), r = r' → Sx b H H' F1 F1' → K r F1 → K' r' F1')) (hX : ∀ (e : String) (F1 F1' : GF), Sx b H H' F1 F1' → X e F1 → X' e F1') (h : P_X10_numberOf F p1 p2 K X) : P_X10_numberOf F' p1' p2' K' X' := by
  subst e_p1
  subst e_p2
  unfold P_X10_numberOf at h ⊢
  refine t_X10_needStation hs (rfl) (fun F_1 F_1' hs_2 h => ?_) hX h
  refine t_X10_needRange hs_2 (rfl) (rfl) (rfl) (fun F_3 F_3' hs_4 h => ?_) hX h
  obtain ⟨v_5, h⟩ := h
  refine And.intro (v_5) ?_
  refine t_X1_settledNumber hs_4 (rfl) (rfl) (fun r_8 r_8' F_6 F_6' er_8 hs_7 h => ?_) h
  subst er_8
  exact hK _ _ _ _ (rfl) hs_7 h
theorem t_X1_ballotsFor_4 {b : Bool} {H H' : GF} {i0 : Nat} {K K' : Int32 → GF → Prop} (hK : (∀ (r r' : Int32) (F1 F1' : GF), r = r' → Sx b H H' F1 F1' → K r F1 → K' r' F1'))  : ∀ (n : Nat) (F F' : GF) (x1 x1' : Int32) (x2 x2' : Int32) (x3 x3' : Int32), Sx b H H' F F' → x1 = x1' → x2 = x2' → x3 = x3' → P_X1_ballotsFor_4 i0 K n F x1 x2 x3 → P_X1_ballotsFor_4 i0 K' n F' x1' x2' x3' := by
  intro n
  induction n with
  | zero => intro F F' x1 x1' x2 x2' x3 x3' hs _ _ _ h; exact False.elim h
  | succ n ih =>
    intro F F' x1 x1' x2 x2' x3 x3' hs e_x1 e_x2 e_x3 h
    subst e_x1
    subst e_x2
    subst e_x3
    rw [P_X1_ballotsFor_4] at h ⊢
    rcases ite_elim h with ⟨c_1, h⟩ | ⟨c_1, h⟩
    · refine ite_pos (by rw [(hs).rd 28 rfl]; exact c_1) ?_
      exact hK _ _ _ _ (rfl) hs h
    · refine ite_neg (by rw [(hs).rd 28 rfl]; exact c_1) ?_
      obtain ⟨v_2, h⟩ := h
      refine And.intro (v_2) ?_
      rcases ite_elim h with ⟨c_3, h⟩ | ⟨c_3, h⟩
      · refine ite_pos (by rw [(hs).rd 29 rfl]; exact c_3) ?_
        unfold P_X1_ballotsFor_25 at h ⊢
        exact ih _ _ _ _ _ _ _ _ hs (rfl) (rfl) (rfl) h
      · refine ite_neg (by rw [(hs).rd 29 rfl]; exact c_3) ?_
        unfold P_X1_ballotsFor_25 at h ⊢
        exact ih _ _ _ _ _ _ _ _ hs (rfl) (rfl) (rfl) h
theorem t_X1_ballotsFor {b : Bool} {H H' F F' : GF} (hs : Sx b H H' F F') {i0 i0' : Nat} {p1 p1' : Int32} (e_i0 : i0 = i0') (e_p1 : p1 = p1') {K K' : Int32 → GF → Prop} (hK : (∀ (r r' : Int32) (F1 F1' : GF), r = r' → Sx b H H' F1 F1' → K r F1 → K' r' F1'))  (h : P_X1_ballotsFor F i0 p1 K) : P_X1_ballotsFor F' i0' p1' K' := by
  subst e_i0
  subst e_p1
  unfold P_X1_ballotsFor at h ⊢
  obtain ⟨n_1, h⟩ := h
  refine ⟨n_1, ?_⟩
  exact t_X1_ballotsFor_4 hK n_1 _ _ _ _ _ _ _ _ hs (rfl) (rfl) (rfl) h
theorem t_X1_lostByReading_13 {b : Bool} {H H' : GF} {i0 : Nat} {K K' : Int32 → GF → Prop} (hK : (∀ (r r' : Int32) (F1 F1' : GF), r = r' → Sx b H H' F1 F1' → K r F1 → K' r' F1'))  : ∀ (n : Nat) (F F' : GF) (x1 x1' : Int32) (x2 x2' : Int32), Sx b H H' F F' → x1 = x1' → x2 = x2' → P_X1_lostByReading_13 i0 K n F x1 x2 → P_X1_lostByReading_13 i0 K' n F' x1' x2' := by
  intro n
  induction n with
  | zero => intro F F' x1 x1' x2 x2' hs _ _ h; exact False.elim h
  | succ n ih =>
    intro F F' x1 x1' x2 x2' hs e_x1 e_x2 h
    subst e_x1
    subst e_x2
    rw [P_X1_lostByReading_13] at h ⊢
    rcases ite_elim h with ⟨c_1, h⟩ | ⟨c_1, h⟩
    · refine ite_pos (c_1) ?_
      exact hK _ _ _ _ (rfl) hs h
    · refine ite_neg (c_1) ?_
      refine t_X1_ballotsFor hs (rfl) (rfl) (fun r_4 r_4' F_2 F_2' er_4 hs_3 h => ?_) h
      subst er_4
      refine t_X1_settledNumber hs_3 (rfl) (rfl) (fun r_7 r_7' F_5 F_5' er_7 hs_6 h => ?_) h
      subst er_7
      refine fun y_8 ey_8 => ?_
      have h := h y_8 (ey_8)
      exact ih _ _ _ _ _ _ hs_6 (rfl) (rfl) h
theorem t_X1_lostByReading {b : Bool} {H H' F F' : GF} (hs : Sx b H H' F F') {i0 i0' : Nat} (e_i0 : i0 = i0') {K K' : Int32 → GF → Prop} (hK : (∀ (r r' : Int32) (F1 F1' : GF), r = r' → Sx b H H' F1 F1' → K r F1 → K' r' F1'))  (h : P_X1_lostByReading F i0 K) : P_X1_lostByReading F' i0' K' := by
  subst e_i0
  unfold P_X1_lostByReading at h ⊢
  refine t_X1_hasNumbers hs (rfl) (fun r_3 r_3' F_1 F_1' er_3 hs_2 h => ?_) h
  subst er_3
  rcases ite_elim h with ⟨c_4, h⟩ | ⟨c_4, h⟩
  · refine ite_pos (c_4) ?_
    exact hK _ _ _ _ (rfl) hs_2 h
  · refine ite_neg (c_4) ?_
    obtain ⟨n_5, h⟩ := h
    refine ⟨n_5, ?_⟩
    exact t_X1_lostByReading_13 hK n_5 _ _ _ _ _ _ hs_2 (rfl) (rfl) h
theorem t_X10_misread {b : Bool} {H H' F F' : GF} (hs : Sx b H H' F F') {p1 p1' : Int32} (e_p1 : p1 = p1') {K K' : Int32 → GF → Prop} {X X' : String → GF → Prop} (hK : (∀ (r r' : Int32) (F1 F1' : GF), r = r' → Sx b H H' F1 F1' → K r F1 → K' r' F1')) (hX : ∀ (e : String) (F1 F1' : GF), Sx b H H' F1 F1' → X e F1 → X' e F1') (h : P_X10_misread F p1 K X) : P_X10_misread F' p1' K' X' := by
  subst e_p1
  unfold P_X10_misread at h ⊢
  refine t_X10_needStation hs (rfl) (fun F_1 F_1' hs_2 h => ?_) hX h
  obtain ⟨v_3, h⟩ := h
  refine And.intro (v_3) ?_
  refine t_X1_lostByReading hs_2 (rfl) (fun r_6 r_6' F_4 F_4' er_6 hs_5 h => ?_) h
  subst er_6
  exact hK _ _ _ _ (rfl) hs_5 h
theorem t_X2_numbersFor_4 {b : Bool} {H H' : GF}  {K K' : Int32 → GF → Prop} (hK : (∀ (r r' : Int32) (F1 F1' : GF), r = r' → Sx b H H' F1 F1' → K r F1 → K' r' F1'))  : ∀ (n : Nat) (F F' : GF) (x1 x1' : Int32) (x2 x2' : Int32) (x3 x3' : Int32), Sx b H H' F F' → x1 = x1' → x2 = x2' → x3 = x3' → P_X2_numbersFor_4 K n F x1 x2 x3 → P_X2_numbersFor_4 K' n F' x1' x2' x3' := by
  intro n
  induction n with
  | zero => intro F F' x1 x1' x2 x2' x3 x3' hs _ _ _ h; exact False.elim h
  | succ n ih =>
    intro F F' x1 x1' x2 x2' x3 x3' hs e_x1 e_x2 e_x3 h
    subst e_x1
    subst e_x2
    subst e_x3
    rw [P_X2_numbersFor_4] at h ⊢
    rcases ite_elim h with ⟨c_1, h⟩ | ⟨c_1, h⟩
    · refine ite_pos (by rw [(hs).rd 10 rfl]; exact c_1) ?_
      exact hK _ _ _ _ (rfl) hs h
    · refine ite_neg (by rw [(hs).rd 10 rfl]; exact c_1) ?_
      obtain ⟨v_2, h⟩ := h
      refine And.intro (v_2) ?_
      refine t_X1_settledNumber hs (rfl) (rfl) (fun r_5 r_5' F_3 F_3' er_5 hs_4 h => ?_) h
      subst er_5
      exact ih _ _ _ _ _ _ _ _ hs_4 (rfl) (rfl) (rfl) h
theorem t_X2_numbersFor {b : Bool} {H H' F F' : GF} (hs : Sx b H H' F F') {p1 p1' : Int32} (e_p1 : p1 = p1') {K K' : Int32 → GF → Prop} (hK : (∀ (r r' : Int32) (F1 F1' : GF), r = r' → Sx b H H' F1 F1' → K r F1 → K' r' F1'))  (h : P_X2_numbersFor F p1 K) : P_X2_numbersFor F' p1' K' := by
  subst e_p1
  unfold P_X2_numbersFor at h ⊢
  obtain ⟨n_1, h⟩ := h
  refine ⟨n_1, ?_⟩
  exact t_X2_numbersFor_4 hK n_1 _ _ _ _ _ _ _ _ hs (rfl) (rfl) (rfl) h
theorem t_X10_votes {b : Bool} {H H' F F' : GF} (hs : Sx b H H' F F') {p1 p1' : Int32} (e_p1 : p1 = p1') {K K' : Int32 → GF → Prop} {X X' : String → GF → Prop} (hK : (∀ (r r' : Int32) (F1 F1' : GF), r = r' → Sx b H H' F1 F1' → K r F1 → K' r' F1')) (hX : ∀ (e : String) (F1 F1' : GF), Sx b H H' F1 F1' → X e F1 → X' e F1') (h : P_X10_votes F p1 K X) : P_X10_votes F' p1' K' X' := by
  subst e_p1
  unfold P_X10_votes at h ⊢
  refine t_X10_needParty hs (rfl) (fun F_1 F_1' hs_2 h => ?_) hX h
  rcases ite_elim h with ⟨c_3, h⟩ | ⟨c_3, h⟩
  · refine ite_pos (by rw [(hs_2).rd 10 rfl]; exact c_3) ?_
    refine t_X2_numbersFor hs_2 (rfl) (fun r_6 r_6' F_4 F_4' er_6 hs_5 h => ?_) h
    subst er_6
    exact hK _ _ _ _ (rfl) hs_5 h
  · refine ite_neg (by rw [(hs_2).rd 10 rfl]; exact c_3) ?_
    exact hK _ _ _ _ (rfl) hs_2 h
theorem t_X2_sumOfSeeds_4 {b : Bool} {H H' : GF}  {K K' : Int32 → GF → Prop} (hK : (∀ (r r' : Int32) (F1 F1' : GF), r = r' → Sx b H H' F1 F1' → K r F1 → K' r' F1'))  : ∀ (n : Nat) (F F' : GF) (x1 x1' : Int32) (x2 x2' : Int32), Sx b H H' F F' → x1 = x1' → x2 = x2' → P_X2_sumOfSeeds_4 K n F x1 x2 → P_X2_sumOfSeeds_4 K' n F' x1' x2' := by
  intro n
  induction n with
  | zero => intro F F' x1 x1' x2 x2' hs _ _ h; exact False.elim h
  | succ n ih =>
    intro F F' x1 x1' x2 x2' hs e_x1 e_x2 h
    subst e_x1
    subst e_x2
    rw [P_X2_sumOfSeeds_4] at h ⊢
    rcases ite_elim h with ⟨c_1, h⟩ | ⟨c_1, h⟩
    · refine ite_pos (c_1) ?_
      exact hK _ _ _ _ (rfl) hs h
    · refine ite_neg (c_1) ?_
      obtain ⟨v_2, h⟩ := h
      refine And.intro (v_2) ?_
      refine fun y_3 ey_3 => ?_
      have h := h y_3 (by rw [ey_3, (hs).rd 11 rfl])
      exact ih _ _ _ _ _ _ hs (rfl) (rfl) h
theorem t_X2_sumOfSeeds {b : Bool} {H H' F F' : GF} (hs : Sx b H H' F F')   {K K' : Int32 → GF → Prop} (hK : (∀ (r r' : Int32) (F1 F1' : GF), r = r' → Sx b H H' F1 F1' → K r F1 → K' r' F1'))  (h : P_X2_sumOfSeeds F K) : P_X2_sumOfSeeds F' K' := by
  unfold P_X2_sumOfSeeds at h ⊢
  obtain ⟨n_1, h⟩ := h
  refine ⟨n_1, ?_⟩
  exact t_X2_sumOfSeeds_4 hK n_1 _ _ _ _ _ _ hs (rfl) (rfl) h
theorem t_X6_divisor {b : Bool} {H H' F F' : GF} (hs : Sx b H H' F F') {p1 p1' : Int32} {p2 p2' : Int32} (e_p1 : p1 = p1') (e_p2 : p2 = p2') {K K' : Int32 → GF → Prop} (hK : (∀ (r r' : Int32) (F1 F1' : GF), r = r' → Sx b H H' F1 F1' → K r F1 → K' r' F1'))  (h : P_X6_divisor F p1 p2 K) : P_X6_divisor F' p1' p2' K' := by
  subst e_p1
  subst e_p2
  unfold P_X6_divisor at h ⊢
  rcases ite_elim h with ⟨c_1, h⟩ | ⟨c_1, h⟩
  · refine ite_pos (c_1) ?_
    obtain ⟨v_2, h⟩ := h
    refine And.intro (v_2) ?_
    exact hK _ _ _ _ (by rw [(hs).rd 35 rfl]) hs h
  · refine ite_neg (c_1) ?_
    obtain ⟨v_3, h⟩ := h
    refine And.intro (v_3) ?_
    exact hK _ _ _ _ (by rw [(hs).rd 35 rfl]) hs h
theorem t_J6_compare_7cf53 {b : Bool} {H H' F F' : GF} (hs : Sx b H H' F F') {p0 p0' : Int32} {p1 p1' : Int32} (e_p0 : p0 = p0') (e_p1 : p1 = p1') {K K' : Int32 → GF → Prop} (hK : (∀ (r r' : Int32) (F1 F1' : GF), r = r' → Sx b H H' F1 F1' → K r F1 → K' r' F1'))  (h : P_J6_compare_7cf53 F p0 p1 K) : P_J6_compare_7cf53 F' p0' p1' K' := by
  subst e_p0
  subst e_p1
  unfold P_J6_compare_7cf53 at h ⊢
  rcases ite_elim h with ⟨c_1, h⟩ | ⟨c_1, h⟩
  · refine ite_pos (c_1) ?_
    rcases ite_elim h with ⟨c_2, h⟩ | ⟨c_2, h⟩
    · refine ite_pos (c_2) ?_
      exact hK _ _ _ _ (rfl) hs h
    · refine ite_neg (c_2) ?_
      exact hK _ _ _ _ (rfl) hs h
  · refine ite_neg (c_1) ?_
    exact hK _ _ _ _ (rfl) hs h
theorem t_X6_compareQuotients {b : Bool} {H H' F F' : GF} (hs : Sx b H H' F F') {p1 p1' : Int32} {p2 p2' : Int32} {p3 p3' : Int32} (e_p1 : p1 = p1') (e_p2 : p2 = p2') (e_p3 : p3 = p3') {K K' : Int32 → GF → Prop} (hK : (∀ (r r' : Int32) (F1 F1' : GF), r = r' → Sx b H H' F1 F1' → K r F1 → K' r' F1'))  (h : P_X6_compareQuotients F p1 p2 p3 K) : P_X6_compareQuotients F' p1' p2' p3' K' := by
  subst e_p1
  subst e_p2
  subst e_p3
  unfold P_X6_compareQuotients at h ⊢
  obtain ⟨v_1, h⟩ := h
  refine And.intro (v_1) ?_
  refine t_X6_divisor hs (rfl) (rfl) (fun r_4 r_4' F_2 F_2' er_4 hs_3 h => ?_) h
  subst er_4
  obtain ⟨v_5, h⟩ := h
  refine And.intro (v_5) ?_
  refine t_X6_divisor hs_3 (rfl) (rfl) (fun r_8 r_8' F_6 F_6' er_8 hs_7 h => ?_) h
  subst er_8
  refine t_J6_compare_7cf53 hs_7 (by rw [(hs).rd 34 rfl]) (by rw [(hs_3).rd 34 rfl]) (fun r_11 r_11' F_9 F_9' er_11 hs_10 h => ?_) h
  subst er_11
  exact hK _ _ _ _ (rfl) hs_10 h
theorem t_X6_findGreatest_4 {b : Bool} {H H' : GF}  {K K' : Int32 → GF → Prop} (hK : (∀ (r r' : Int32) (F1 F1' : GF), r = r' → Sx b H H' F1 F1' → K r F1 → K' r' F1'))  : ∀ (n : Nat) (F F' : GF) (x1 x1' : Int32) (x2 x2' : Int32) (x3 x3' : Int32), Sx b H H' F F' → x1 = x1' → x2 = x2' → x3 = x3' → P_X6_findGreatest_4 K n F x1 x2 x3 → P_X6_findGreatest_4 K' n F' x1' x2' x3' := by
  intro n
  induction n with
  | zero => intro F F' x1 x1' x2 x2' x3 x3' hs _ _ _ h; exact False.elim h
  | succ n ih =>
    intro F F' x1 x1' x2 x2' x3 x3' hs e_x1 e_x2 e_x3 h
    subst e_x1
    subst e_x2
    subst e_x3
    rw [P_X6_findGreatest_4] at h ⊢
    rcases ite_elim h with ⟨c_1, h⟩ | ⟨c_1, h⟩
    · refine ite_pos (c_1) ?_
      exact hK _ _ _ _ (rfl) hs h
    · refine ite_neg (c_1) ?_
      obtain ⟨v_2, h⟩ := h
      refine And.intro (v_2) ?_
      rcases ite_elim h with ⟨c_3, h⟩ | ⟨c_3, h⟩
      · refine ite_pos (by rw [(hs).rd 34 rfl]; exact c_3) ?_
        rcases ite_elim h with ⟨c_4, h⟩ | ⟨c_4, h⟩
        · refine ite_pos (c_4) ?_
          unfold P_X6_findGreatest_41 at h ⊢
          rcases ite_elim h with ⟨c_5, h⟩ | ⟨c_5, h⟩
          · refine ite_pos (c_5) ?_
            unfold P_X6_findGreatest_50 at h ⊢
            rcases ite_elim h with ⟨c_6, h⟩ | ⟨c_6, h⟩
            · refine ite_pos (c_6) ?_
              unfold P_X6_findGreatest_70 at h ⊢
              exact ih _ _ _ _ _ _ _ _ hs (rfl) (rfl) (rfl) h
            · refine ite_neg (c_6) ?_
              rcases ite_elim h with ⟨c_7, h⟩ | ⟨c_7, h⟩
              · refine ite_pos (c_7) ?_
                unfold P_X6_findGreatest_70 at h ⊢
                exact ih _ _ _ _ _ _ _ _ hs (rfl) (rfl) (rfl) h
              · refine ite_neg (c_7) ?_
                obtain ⟨v_8, h⟩ := h
                refine And.intro (v_8) ?_
                refine fun F_9' e_10' => ?_
                obtain ⟨F_9, e_10⟩ : ∃ z : GF, z = fs F 37 0 x2.toNatClampNeg x3 := ⟨_, rfl⟩
                have h := h _ e_10
                have hs_11 : Sx b H H' F_9 F_9' := by rw [e_10, e_10']; exact hs.fsx rfl rfl rfl rfl
                unfold P_X6_findGreatest_70 at h ⊢
                exact ih _ _ _ _ _ _ _ _ hs_11 (rfl) (rfl) (rfl) h
          · refine ite_neg (c_5) ?_
            unfold P_X6_findGreatest_50 at h ⊢
            rcases ite_elim h with ⟨c_12, h⟩ | ⟨c_12, h⟩
            · refine ite_pos (c_12) ?_
              unfold P_X6_findGreatest_70 at h ⊢
              exact ih _ _ _ _ _ _ _ _ hs (rfl) (rfl) (rfl) h
            · refine ite_neg (c_12) ?_
              rcases ite_elim h with ⟨c_13, h⟩ | ⟨c_13, h⟩
              · refine ite_pos (c_13) ?_
                unfold P_X6_findGreatest_70 at h ⊢
                exact ih _ _ _ _ _ _ _ _ hs (rfl) (rfl) (rfl) h
              · refine ite_neg (c_13) ?_
                obtain ⟨v_14, h⟩ := h
                refine And.intro (v_14) ?_
                refine fun F_15' e_16' => ?_
                obtain ⟨F_15, e_16⟩ : ∃ z : GF, z = fs F 37 0 (0 : Int32).toNatClampNeg x3 := ⟨_, rfl⟩
                have h := h _ e_16
                have hs_17 : Sx b H H' F_15 F_15' := by rw [e_16, e_16']; exact hs.fsx rfl rfl rfl rfl
                unfold P_X6_findGreatest_70 at h ⊢
                exact ih _ _ _ _ _ _ _ _ hs_17 (rfl) (rfl) (rfl) h
        · refine ite_neg (c_4) ?_
          obtain ⟨v_18, h⟩ := h
          refine And.intro (v_18) ?_
          refine t_X6_compareQuotients hs (rfl) (by rw [(hs).rd 37 rfl]) (rfl) (fun r_21 r_21' F_19 F_19' er_21 hs_20 h => ?_) h
          subst er_21
          unfold P_X6_findGreatest_41 at h ⊢
          rcases ite_elim h with ⟨c_22, h⟩ | ⟨c_22, h⟩
          · refine ite_pos (c_22) ?_
            unfold P_X6_findGreatest_50 at h ⊢
            rcases ite_elim h with ⟨c_23, h⟩ | ⟨c_23, h⟩
            · refine ite_pos (c_23) ?_
              unfold P_X6_findGreatest_70 at h ⊢
              exact ih _ _ _ _ _ _ _ _ hs_20 (rfl) (rfl) (rfl) h
            · refine ite_neg (c_23) ?_
              rcases ite_elim h with ⟨c_24, h⟩ | ⟨c_24, h⟩
              · refine ite_pos (c_24) ?_
                unfold P_X6_findGreatest_70 at h ⊢
                exact ih _ _ _ _ _ _ _ _ hs_20 (rfl) (rfl) (rfl) h
              · refine ite_neg (c_24) ?_
                obtain ⟨v_25, h⟩ := h
                refine And.intro (v_25) ?_
                refine fun F_26' e_27' => ?_
                obtain ⟨F_26, e_27⟩ : ∃ z : GF, z = fs F_19 37 0 x2.toNatClampNeg x3 := ⟨_, rfl⟩
                have h := h _ e_27
                have hs_28 : Sx b H H' F_26 F_26' := by rw [e_27, e_27']; exact hs_20.fsx rfl rfl rfl rfl
                unfold P_X6_findGreatest_70 at h ⊢
                exact ih _ _ _ _ _ _ _ _ hs_28 (rfl) (rfl) (rfl) h
          · refine ite_neg (c_22) ?_
            unfold P_X6_findGreatest_50 at h ⊢
            rcases ite_elim h with ⟨c_29, h⟩ | ⟨c_29, h⟩
            · refine ite_pos (c_29) ?_
              unfold P_X6_findGreatest_70 at h ⊢
              exact ih _ _ _ _ _ _ _ _ hs_20 (rfl) (rfl) (rfl) h
            · refine ite_neg (c_29) ?_
              rcases ite_elim h with ⟨c_30, h⟩ | ⟨c_30, h⟩
              · refine ite_pos (c_30) ?_
                unfold P_X6_findGreatest_70 at h ⊢
                exact ih _ _ _ _ _ _ _ _ hs_20 (rfl) (rfl) (rfl) h
              · refine ite_neg (c_30) ?_
                obtain ⟨v_31, h⟩ := h
                refine And.intro (v_31) ?_
                refine fun F_32' e_33' => ?_
                obtain ⟨F_32, e_33⟩ : ∃ z : GF, z = fs F_19 37 0 (0 : Int32).toNatClampNeg x3 := ⟨_, rfl⟩
                have h := h _ e_33
                have hs_34 : Sx b H H' F_32 F_32' := by rw [e_33, e_33']; exact hs_20.fsx rfl rfl rfl rfl
                unfold P_X6_findGreatest_70 at h ⊢
                exact ih _ _ _ _ _ _ _ _ hs_34 (rfl) (rfl) (rfl) h
      · refine ite_neg (by rw [(hs).rd 34 rfl]; exact c_3) ?_
        unfold P_X6_findGreatest_70 at h ⊢
        exact ih _ _ _ _ _ _ _ _ hs (rfl) (rfl) (rfl) h
theorem t_X6_findGreatest {b : Bool} {H H' F F' : GF} (hs : Sx b H H' F F') {p1 p1' : Int32} (e_p1 : p1 = p1') {K K' : Int32 → GF → Prop} (hK : (∀ (r r' : Int32) (F1 F1' : GF), r = r' → Sx b H H' F1 F1' → K r F1 → K' r' F1'))  (h : P_X6_findGreatest F p1 K) : P_X6_findGreatest F' p1' K' := by
  subst e_p1
  unfold P_X6_findGreatest at h ⊢
  obtain ⟨n_1, h⟩ := h
  refine ⟨n_1, ?_⟩
  exact t_X6_findGreatest_4 hK n_1 _ _ _ _ _ _ _ _ hs (rfl) (rfl) (rfl) h
theorem t_X6_drawLot {b : Bool} {H H' F F' : GF} (hs : Sx b H H' F F') {p1 p1' : Int32} (e_p1 : p1 = p1') {K K' : Int32 → GF → Prop} (hK : (∀ (r r' : Int32) (F1 F1' : GF), r = r' → Sx b H H' F1 F1' → K r F1 → K' r' F1'))  (h : P_X6_drawLot F p1 K) : P_X6_drawLot F' p1' K' := by
  subst e_p1
  unfold P_X6_drawLot at h ⊢
  refine fun F_1' e_2' => ?_
  obtain ⟨F_1, e_2⟩ : ∃ z : GF, z = fs F 27 0 6 ((((F 27 0 6) * 1103) + 12345) - (((F 27 0 6) * 1103) + 12345) / 65536 * 65536) := ⟨_, rfl⟩
  have h := h _ e_2
  have hs_3 : Sx b H H' F_1 F_1' := by rw [e_2, e_2']; exact hs.fsx rfl (by first | (simp only [(hs).rd 27 rfl]; done) | rfl) (by first | (simp only [(hs).rd 27 rfl]; done) | rfl) (by first | (simp only [(hs).rd 27 rfl]; done) | rfl)
  refine fun F_4' e_5' => ?_
  obtain ⟨F_4, e_5⟩ : ∃ z : GF, z = fs F_1 27 0 5 ((F_1 27 0 5) + 1) := ⟨_, rfl⟩
  have h := h _ e_5
  have hs_6 : Sx b H H' F_4 F_4' := by rw [e_5, e_5']; exact hs_3.fsx rfl (by first | (simp only [(hs_3).rd 27 rfl]; done) | rfl) (by first | (simp only [(hs_3).rd 27 rfl]; done) | rfl) (by first | (simp only [(hs_3).rd 27 rfl]; done) | rfl)
  rcases ite_elim h with ⟨c_7, h⟩ | ⟨c_7, h⟩
  · refine ite_pos (c_7) ?_
    exact hK _ _ _ _ (rfl) hs_6 h
  · refine ite_neg (c_7) ?_
    obtain ⟨v_8, h⟩ := h
    refine And.intro (v_8) ?_
    exact hK _ _ _ _ (by rw [(hs_6).rd 27 rfl]) hs_6 h
theorem t_X6_nextParty {b : Bool} {H H' F F' : GF} (hs : Sx b H H' F F') {p1 p1' : Int32} (e_p1 : p1 = p1') {K K' : Int32 → GF → Prop} (hK : (∀ (r r' : Int32) (F1 F1' : GF), r = r' → Sx b H H' F1 F1' → K r F1 → K' r' F1'))  (h : P_X6_nextParty F p1 K) : P_X6_nextParty F' p1' K' := by
  subst e_p1
  unfold P_X6_nextParty at h ⊢
  refine t_X6_findGreatest hs (rfl) (fun r_3 r_3' F_1 F_1' er_3 hs_2 h => ?_) h
  subst er_3
  rcases ite_elim h with ⟨c_4, h⟩ | ⟨c_4, h⟩
  · refine ite_pos (c_4) ?_
    rcases ite_elim h with ⟨c_5, h⟩ | ⟨c_5, h⟩
    · refine ite_pos (c_5) ?_
      obtain ⟨v_6, h⟩ := h
      refine And.intro (v_6) ?_
      exact hK _ _ _ _ (by rw [(hs_2).rd 37 rfl]) hs_2 h
    · refine ite_neg (c_5) ?_
      refine t_X6_drawLot hs_2 (rfl) (fun r_9 r_9' F_7 F_7' er_9 hs_8 h => ?_) h
      subst er_9
      rcases ite_elim h with ⟨c_10, h⟩ | ⟨c_10, h⟩
      · refine ite_pos (c_10) ?_
        exact hK _ _ _ _ (rfl) hs_8 h
      · refine ite_neg (c_10) ?_
        rcases ite_elim h with ⟨c_11, h⟩ | ⟨c_11, h⟩
        · refine ite_pos (c_11) ?_
          obtain ⟨v_12, h⟩ := h
          refine And.intro (v_12) ?_
          exact hK _ _ _ _ (by rw [(hs_8).rd 37 rfl]) hs_8 h
        · refine ite_neg (c_11) ?_
          exact hK _ _ _ _ (rfl) hs_8 h
  · refine ite_neg (c_4) ?_
    exact hK _ _ _ _ (rfl) hs_2 h
theorem t_X6_give_26 {b : Bool} {H H' : GF}  {K K' : GF → Prop} (hK : (∀ F1 F1' : GF, Sx b H H' F1 F1' → K F1 → K' F1'))  : ∀ (n : Nat) (F F' : GF) (x1 x1' : Int32) (x2 x2' : Int32) (x4 x4' : Int32), Sx b H H' F F' → x1 = x1' → x2 = x2' → x4 = x4' → P_X6_give_26 K n F x1 x2 x4 → P_X6_give_26 K' n F' x1' x2' x4' := by
  intro n
  induction n with
  | zero => intro F F' x1 x1' x2 x2' x4 x4' hs _ _ _ h; exact False.elim h
  | succ n ih =>
    intro F F' x1 x1' x2 x2' x4 x4' hs e_x1 e_x2 e_x4 h
    subst e_x1
    subst e_x2
    subst e_x4
    rw [P_X6_give_26] at h ⊢
    rcases ite_elim h with ⟨c_1, h⟩ | ⟨c_1, h⟩
    · refine ite_pos (c_1) ?_
      exact hK _ _ hs h
    · refine ite_neg (c_1) ?_
      rcases ite_elim h with ⟨c_2, h⟩ | ⟨c_2, h⟩
      · refine ite_pos (c_2) ?_
        exact hK _ _ hs h
      · refine ite_neg (c_2) ?_
        refine t_X6_nextParty hs (rfl) (fun r_5 r_5' F_3 F_3' er_5 hs_4 h => ?_) h
        subst er_5
        rcases ite_elim h with ⟨c_6, h⟩ | ⟨c_6, h⟩
        · refine ite_pos (c_6) ?_
          exact hK _ _ hs_4 h
        · refine ite_neg (c_6) ?_
          rcases ite_elim h with ⟨c_7, h⟩ | ⟨c_7, h⟩
          · refine ite_pos (c_7) ?_
            obtain ⟨v_8, h⟩ := h
            refine And.intro (v_8) ?_
            refine fun F_9' e_10' => ?_
            obtain ⟨F_9, e_10⟩ : ∃ z : GF, z = fs F_3 36 0 x4.toNatClampNeg r_5 := ⟨_, rfl⟩
            have h := h _ e_10
            have hs_11 : Sx b H H' F_9 F_9' := by rw [e_10, e_10']; exact hs_4.fsx rfl rfl rfl rfl
            obtain ⟨v_12, h⟩ := h
            refine And.intro (v_12) ?_
            obtain ⟨v_13, h⟩ := h
            refine And.intro (v_13) ?_
            refine fun F_14' e_15' => ?_
            obtain ⟨F_14, e_15⟩ : ∃ z : GF, z = fs F_9 35 0 r_5.toNatClampNeg ((F_9 35 0 r_5.toNatClampNeg) + 1) := ⟨_, rfl⟩
            have h := h _ e_15
            have hs_16 : Sx b H H' F_14 F_14' := by rw [e_15, e_15']; exact hs_11.fsx rfl (by first | (simp only [(hs_11).rd 35 rfl]; done) | rfl) (by first | (simp only [(hs_11).rd 35 rfl]; done) | rfl) (by first | (simp only [(hs_11).rd 35 rfl]; done) | rfl)
            refine fun F_17' e_18' => ?_
            obtain ⟨F_17, e_18⟩ : ∃ z : GF, z = fs F_14 27 0 4 ((F_14 27 0 4) + 1) := ⟨_, rfl⟩
            have h := h _ e_18
            have hs_19 : Sx b H H' F_17 F_17' := by rw [e_18, e_18']; exact hs_16.fsx rfl (by first | (simp only [(hs_16).rd 27 rfl]; done) | rfl) (by first | (simp only [(hs_16).rd 27 rfl]; done) | rfl) (by first | (simp only [(hs_16).rd 27 rfl]; done) | rfl)
            exact ih _ _ _ _ _ _ _ _ hs_19 (rfl) (rfl) (rfl) h
          · refine ite_neg (c_7) ?_
            exact hK _ _ hs_4 h
theorem t_X6_give {b : Bool} {H H' F F' : GF} (hs : Sx b H H' F F') {p1 p1' : Int32} {p2 p2' : Int32} {p3 p3' : Int32} (e_p1 : p1 = p1') (e_p2 : p2 = p2') (e_p3 : p3 = p3') {K K' : GF → Prop} (hK : (∀ F1 F1' : GF, Sx b H H' F1 F1' → K F1 → K' F1'))  (h : P_X6_give F p1 p2 p3 K) : P_X6_give F' p1' p2' p3' K' := by
  subst e_p1
  subst e_p2
  subst e_p3
  unfold P_X6_give at h ⊢
  refine fun F_1' e_2' => ?_
  obtain ⟨F_1, e_2⟩ : ∃ z : GF, z = ffill F 35 0 5 0 := ⟨_, rfl⟩
  have h := h _ e_2
  have hs_3 : Sx b H H' F_1 F_1' := by rw [e_2, e_2']; exact hs.ffx rfl rfl rfl rfl
  refine fun F_4' e_5' => ?_
  obtain ⟨F_4, e_5⟩ : ∃ z : GF, z = fs F_1 27 0 4 0 := ⟨_, rfl⟩
  have h := h _ e_5
  have hs_6 : Sx b H H' F_4 F_4' := by rw [e_5, e_5']; exact hs_3.fsx rfl rfl rfl rfl
  refine fun F_7' e_8' => ?_
  obtain ⟨F_7, e_8⟩ : ∃ z : GF, z = fs F_4 27 0 5 0 := ⟨_, rfl⟩
  have h := h _ e_8
  have hs_9 : Sx b H H' F_7 F_7' := by rw [e_8, e_8']; exact hs_6.fsx rfl rfl rfl rfl
  refine fun F_10' e_11' => ?_
  obtain ⟨F_10, e_11⟩ : ∃ z : GF, z = fs F_7 27 0 6 p3 := ⟨_, rfl⟩
  have h := h _ e_11
  have hs_12 : Sx b H H' F_10 F_10' := by rw [e_11, e_11']; exact hs_9.fsx rfl rfl rfl rfl
  obtain ⟨n_13, h⟩ := h
  refine ⟨n_13, ?_⟩
  exact t_X6_give_26 hK n_13 _ _ _ _ _ _ _ _ hs_12 (rfl) (rfl) (rfl) h
theorem t_X10_giveByNumbers_2 {b : Bool} {H H' : GF}  {K K' : GF → Prop} (hK : (∀ F1 F1' : GF, Sx b H H' F1 F1' → K F1 → K' F1'))  : ∀ (n : Nat) (F F' : GF) (x1 x1' : Int32), Sx b H H' F F' → x1 = x1' → P_X10_giveByNumbers_2 K n F x1 → P_X10_giveByNumbers_2 K' n F' x1' := by
  intro n
  induction n with
  | zero => intro F F' x1 x1' hs _ h; exact False.elim h
  | succ n ih =>
    intro F F' x1 x1' hs e_x1 h
    subst e_x1
    rw [P_X10_giveByNumbers_2] at h ⊢
    rcases ite_elim h with ⟨c_1, h⟩ | ⟨c_1, h⟩
    · refine ite_pos (c_1) ?_
      refine t_X2_sumOfSeeds hs  (fun r_4 r_4' F_2 F_2' er_4 hs_3 h => ?_) h
      subst er_4
      refine t_X6_give hs_3 (by rw [(hs).rd 10 rfl]) (by rw [(hs).rd 10 rfl]) (rfl) (fun F_5 F_5' hs_6 h => ?_) h
      exact hK _ _ hs_6 h
    · refine ite_neg (c_1) ?_
      refine t_X2_numbersFor hs (rfl) (fun r_9 r_9' F_7 F_7' er_9 hs_8 h => ?_) h
      subst er_9
      obtain ⟨v_10, h⟩ := h
      refine And.intro (v_10) ?_
      refine fun F_11' e_12' => ?_
      obtain ⟨F_11, e_12⟩ : ∃ z : GF, z = fs F_7 34 0 x1.toNatClampNeg r_9 := ⟨_, rfl⟩
      have h := h _ e_12
      have hs_13 : Sx b H H' F_11 F_11' := by rw [e_12, e_12']; exact hs_8.fsx rfl rfl rfl rfl
      exact ih _ _ _ _ hs_13 (rfl) h
theorem t_X10_giveByNumbers {b : Bool} {H H' F F' : GF} (hs : Sx b H H' F F')   {K K' : GF → Prop} (hK : (∀ F1 F1' : GF, Sx b H H' F1 F1' → K F1 → K' F1'))  (h : P_X10_giveByNumbers F K) : P_X10_giveByNumbers F' K' := by
  unfold P_X10_giveByNumbers at h ⊢
  obtain ⟨n_1, h⟩ := h
  refine ⟨n_1, ?_⟩
  exact t_X10_giveByNumbers_2 hK n_1 _ _ _ _ hs (rfl) h
theorem t_X10_seats {b : Bool} {H H' F F' : GF} (hs : Sx b H H' F F') {p1 p1' : Int32} (e_p1 : p1 = p1') {K K' : Int32 → GF → Prop} {X X' : String → GF → Prop} (hK : (∀ (r r' : Int32) (F1 F1' : GF), r = r' → Sx b H H' F1 F1' → K r F1 → K' r' F1')) (hX : ∀ (e : String) (F1 F1' : GF), Sx b H H' F1 F1' → X e F1 → X' e F1') (h : P_X10_seats F p1 K X) : P_X10_seats F' p1' K' X' := by
  subst e_p1
  unfold P_X10_seats at h ⊢
  refine t_X10_needParty hs (rfl) (fun F_1 F_1' hs_2 h => ?_) hX h
  rcases ite_elim h with ⟨c_3, h⟩ | ⟨c_3, h⟩
  · refine ite_pos (by rw [(hs_2).rd 10 rfl]; exact c_3) ?_
    refine t_X10_giveByNumbers hs_2  (fun F_4 F_4' hs_5 h => ?_) h
    obtain ⟨v_6, h⟩ := h
    refine And.intro (v_6) ?_
    exact hK _ _ _ _ (by rw [(hs_5).rd 35 rfl]) hs_5 h
  · refine ite_neg (by rw [(hs_2).rd 10 rfl]; exact c_3) ?_
    exact hK _ _ _ _ (rfl) hs_2 h
theorem t_X6_partyAt {b : Bool} {H H' F F' : GF} (hs : Sx b H H' F F') {p1 p1' : Int32} (e_p1 : p1 = p1') {K K' : Int32 → GF → Prop} (hK : (∀ (r r' : Int32) (F1 F1' : GF), r = r' → Sx b H H' F1 F1' → K r F1 → K' r' F1'))  (h : P_X6_partyAt F p1 K) : P_X6_partyAt F' p1' K' := by
  subst e_p1
  unfold P_X6_partyAt at h ⊢
  rcases ite_elim h with ⟨c_1, h⟩ | ⟨c_1, h⟩
  · refine ite_pos (c_1) ?_
    exact hK _ _ _ _ (rfl) hs h
  · refine ite_neg (c_1) ?_
    rcases ite_elim h with ⟨c_2, h⟩ | ⟨c_2, h⟩
    · refine ite_pos (by rw [(hs).rd 27 rfl]; exact c_2) ?_
      exact hK _ _ _ _ (rfl) hs h
    · refine ite_neg (by rw [(hs).rd 27 rfl]; exact c_2) ?_
      rcases ite_elim h with ⟨c_3, h⟩ | ⟨c_3, h⟩
      · refine ite_pos (c_3) ?_
        obtain ⟨v_4, h⟩ := h
        refine And.intro (v_4) ?_
        exact hK _ _ _ _ (by rw [(hs).rd 36 rfl]) hs h
      · refine ite_neg (c_3) ?_
        exact hK _ _ _ _ (rfl) hs h
theorem t_X10_seatAt {b : Bool} {H H' F F' : GF} (hs : Sx b H H' F F') {p1 p1' : Int32} (e_p1 : p1 = p1') {K K' : Int32 → GF → Prop} {X X' : String → GF → Prop} (hK : (∀ (r r' : Int32) (F1 F1' : GF), r = r' → Sx b H H' F1 F1' → K r F1 → K' r' F1')) (hX : ∀ (e : String) (F1 F1' : GF), Sx b H H' F1 F1' → X e F1 → X' e F1') (h : P_X10_seatAt F p1 K X) : P_X10_seatAt F' p1' K' X' := by
  subst e_p1
  unfold P_X10_seatAt at h ⊢
  rcases ite_elim h with ⟨c_1, h⟩ | ⟨c_1, h⟩
  · refine ite_pos (c_1) ?_
    rcases ite_elim h with ⟨c_2, h⟩ | ⟨c_2, h⟩
    · refine ite_pos (by rw [(hs).rd 10 rfl]; exact c_2) ?_
      refine t_X10_giveByNumbers hs  (fun F_3 F_3' hs_4 h => ?_) h
      refine t_X6_partyAt hs_4 (rfl) (fun r_7 r_7' F_5 F_5' er_7 hs_6 h => ?_) h
      subst er_7
      exact hK _ _ _ _ (rfl) hs_6 h
    · refine ite_neg (by rw [(hs).rd 10 rfl]; exact c_2) ?_
      exact hK _ _ _ _ (rfl) hs h
  · refine ite_neg (c_1) ?_
    exact hX _ _ _ hs h
theorem t_X10_lots {b : Bool} {H H' F F' : GF} (hs : Sx b H H' F F')   {K K' : Int32 → GF → Prop} (hK : (∀ (r r' : Int32) (F1 F1' : GF), r = r' → Sx b H H' F1 F1' → K r F1 → K' r' F1'))  (h : P_X10_lots F K) : P_X10_lots F' K' := by
  unfold P_X10_lots at h ⊢
  rcases ite_elim h with ⟨c_1, h⟩ | ⟨c_1, h⟩
  · refine ite_pos (by rw [(hs).rd 10 rfl]; exact c_1) ?_
    refine t_X10_giveByNumbers hs  (fun F_2 F_2' hs_3 h => ?_) h
    exact hK _ _ _ _ (by rw [(hs_3).rd 27 rfl]) hs_3 h
  · refine ite_neg (by rw [(hs).rd 10 rfl]; exact c_1) ?_
    exact hK _ _ _ _ (rfl) hs h
theorem t_X2_ballotsFor_4 {b : Bool} {H H' : GF}  {K K' : Int32 → GF → Prop} (hK : (∀ (r r' : Int32) (F1 F1' : GF), r = r' → Sx b H H' F1 F1' → K r F1 → K' r' F1'))  : ∀ (n : Nat) (F F' : GF) (x1 x1' : Int32) (x2 x2' : Int32) (x3 x3' : Int32), Sx b H H' F F' → x1 = x1' → x2 = x2' → x3 = x3' → P_X2_ballotsFor_4 K n F x1 x2 x3 → P_X2_ballotsFor_4 K' n F' x1' x2' x3' := by
  intro n
  induction n with
  | zero => intro F F' x1 x1' x2 x2' x3 x3' hs _ _ _ h; exact False.elim h
  | succ n ih =>
    intro F F' x1 x1' x2 x2' x3 x3' hs e_x1 e_x2 e_x3 h
    subst e_x1
    subst e_x2
    subst e_x3
    rw [P_X2_ballotsFor_4] at h ⊢
    rcases ite_elim h with ⟨c_1, h⟩ | ⟨c_1, h⟩
    · refine ite_pos (by rw [(hs).rd 10 rfl]; exact c_1) ?_
      exact hK _ _ _ _ (rfl) hs h
    · refine ite_neg (by rw [(hs).rd 10 rfl]; exact c_1) ?_
      obtain ⟨v_2, h⟩ := h
      refine And.intro (v_2) ?_
      refine t_X1_ballotsFor hs (rfl) (rfl) (fun r_5 r_5' F_3 F_3' er_5 hs_4 h => ?_) h
      subst er_5
      exact ih _ _ _ _ _ _ _ _ hs_4 (rfl) (rfl) (rfl) h
theorem t_X2_ballotsFor {b : Bool} {H H' F F' : GF} (hs : Sx b H H' F F') {p1 p1' : Int32} (e_p1 : p1 = p1') {K K' : Int32 → GF → Prop} (hK : (∀ (r r' : Int32) (F1 F1' : GF), r = r' → Sx b H H' F1 F1' → K r F1 → K' r' F1'))  (h : P_X2_ballotsFor F p1 K) : P_X2_ballotsFor F' p1' K' := by
  subst e_p1
  unfold P_X2_ballotsFor at h ⊢
  obtain ⟨n_1, h⟩ := h
  refine ⟨n_1, ?_⟩
  exact t_X2_ballotsFor_4 hK n_1 _ _ _ _ _ _ _ _ hs (rfl) (rfl) (rfl) h
theorem t_X10_giveByBallots_2 {b : Bool} {H H' : GF}  {K K' : GF → Prop} (hK : (∀ F1 F1' : GF, Sx b H H' F1 F1' → K F1 → K' F1'))  : ∀ (n : Nat) (F F' : GF) (x1 x1' : Int32), Sx b H H' F F' → x1 = x1' → P_X10_giveByBallots_2 K n F x1 → P_X10_giveByBallots_2 K' n F' x1' := by
  intro n
  induction n with
  | zero => intro F F' x1 x1' hs _ h; exact False.elim h
  | succ n ih =>
    intro F F' x1 x1' hs e_x1 h
    subst e_x1
    rw [P_X10_giveByBallots_2] at h ⊢
    rcases ite_elim h with ⟨c_1, h⟩ | ⟨c_1, h⟩
    · refine ite_pos (c_1) ?_
      refine t_X2_sumOfSeeds hs  (fun r_4 r_4' F_2 F_2' er_4 hs_3 h => ?_) h
      subst er_4
      refine t_X6_give hs_3 (by rw [(hs).rd 10 rfl]) (by rw [(hs).rd 10 rfl]) (rfl) (fun F_5 F_5' hs_6 h => ?_) h
      exact hK _ _ hs_6 h
    · refine ite_neg (c_1) ?_
      refine t_X2_ballotsFor hs (rfl) (fun r_9 r_9' F_7 F_7' er_9 hs_8 h => ?_) h
      subst er_9
      obtain ⟨v_10, h⟩ := h
      refine And.intro (v_10) ?_
      refine fun F_11' e_12' => ?_
      obtain ⟨F_11, e_12⟩ : ∃ z : GF, z = fs F_7 34 0 x1.toNatClampNeg r_9 := ⟨_, rfl⟩
      have h := h _ e_12
      have hs_13 : Sx b H H' F_11 F_11' := by rw [e_12, e_12']; exact hs_8.fsx rfl rfl rfl rfl
      exact ih _ _ _ _ hs_13 (rfl) h
theorem t_X10_giveByBallots {b : Bool} {H H' F F' : GF} (hs : Sx b H H' F F')   {K K' : GF → Prop} (hK : (∀ F1 F1' : GF, Sx b H H' F1 F1' → K F1 → K' F1'))  (h : P_X10_giveByBallots F K) : P_X10_giveByBallots F' K' := by
  unfold P_X10_giveByBallots at h ⊢
  obtain ⟨n_1, h⟩ := h
  refine ⟨n_1, ?_⟩
  exact t_X10_giveByBallots_2 hK n_1 _ _ _ _ hs (rfl) h
theorem t_X10_seatsByBallots {b : Bool} {H H' F F' : GF} (hs : Sx b H H' F F') {p1 p1' : Int32} (e_p1 : p1 = p1') {K K' : Int32 → GF → Prop} {X X' : String → GF → Prop} (hK : (∀ (r r' : Int32) (F1 F1' : GF), r = r' → Sx b H H' F1 F1' → K r F1 → K' r' F1')) (hX : ∀ (e : String) (F1 F1' : GF), Sx b H H' F1 F1' → X e F1 → X' e F1') (h : P_X10_seatsByBallots F p1 K X) : P_X10_seatsByBallots F' p1' K' X' := by
  subst e_p1
  unfold P_X10_seatsByBallots at h ⊢
  refine t_X10_needParty hs (rfl) (fun F_1 F_1' hs_2 h => ?_) hX h
  rcases ite_elim h with ⟨c_3, h⟩ | ⟨c_3, h⟩
  · refine ite_pos (by rw [(hs_2).rd 10 rfl]; exact c_3) ?_
    unfold P_X10_seatsByBallots_28 at h ⊢
    refine t_X10_giveByBallots hs_2  (fun F_4 F_4' hs_5 h => ?_) h
    obtain ⟨v_6, h⟩ := h
    refine And.intro (v_6) ?_
    exact hK _ _ _ _ (by rw [(hs_5).rd 35 rfl]) hs_5 h
  · refine ite_neg (by rw [(hs_2).rd 10 rfl]; exact c_3) ?_
    rcases ite_elim h with ⟨c_7, h⟩ | ⟨c_7, h⟩
    · refine ite_pos (by rw [(hs_2).rd 10 rfl]; exact c_7) ?_
      unfold P_X10_seatsByBallots_28 at h ⊢
      refine t_X10_giveByBallots hs_2  (fun F_8 F_8' hs_9 h => ?_) h
      obtain ⟨v_10, h⟩ := h
      refine And.intro (v_10) ?_
      exact hK _ _ _ _ (by rw [(hs_9).rd 35 rfl]) hs_9 h
    · refine ite_neg (by rw [(hs_2).rd 10 rfl]; exact c_7) ?_
      exact hK _ _ _ _ (rfl) hs_2 h
theorem t_X10_notes {b : Bool} {H H' F F' : GF} (hs : Sx b H H' F F')   {K K' : Int32 → GF → Prop} (hK : (∀ (r r' : Int32) (F1 F1' : GF), r = r' → Sx b H H' F1 F1' → K r F1 → K' r' F1'))  (h : P_X10_notes F K) : P_X10_notes F' K' := by
  unfold P_X10_notes at h ⊢
  exact hK _ _ _ _ (by rw [(hs).rd 21 rfl]) hs h
theorem t_J5_ensureCapacityInternal_d00df {b : Bool} {H H' F F' : GF} (hs : Sx b H H' F F') {p1 p1' : Int32} (e_p1 : p1 = p1') {K K' : GF → Prop} (hK : (∀ F1 F1' : GF, Sx b H H' F1 F1' → K F1 → K' F1'))  (h : P_J5_ensureCapacityInternal_d00df F p1 K) : P_J5_ensureCapacityInternal_d00df F' p1' K' := by
  subst e_p1
  unfold P_J5_ensureCapacityInternal_d00df at h ⊢
  refine fun y_1 ey_1 => ?_
  have h := h y_1 (by rw [ey_1, (hs).rd 25 rfl])
  rcases ite_elim h with ⟨c_2, h⟩ | ⟨c_2, h⟩
  · refine ite_pos (c_2) ?_
    exact hK _ _ hs h
  · refine ite_neg (c_2) ?_
    exact False.elim h
theorem t_J5_isLatin1_aae02 {b : Bool} {H H' F F' : GF} (hs : Sx b H H' F F')   {K K' : Int32 → GF → Prop} (hK : (∀ (r r' : Int32) (F1 F1' : GF), r = r' → Sx b H H' F1 F1' → K r F1 → K' r' F1'))  (h : P_J5_isLatin1_aae02 F K) : P_J5_isLatin1_aae02 F' K' := by
  unfold P_J5_isLatin1_aae02 at h ⊢
  rcases ite_elim h with ⟨c_1, h⟩ | ⟨c_1, h⟩
  · refine ite_pos (c_1) ?_
    exact hK _ _ _ _ (rfl) hs h
  · refine ite_neg (c_1) ?_
    rcases ite_elim h with ⟨c_2, h⟩ | ⟨c_2, h⟩
    · refine ite_pos (by rw [(hs).rd 25 rfl]; exact c_2) ?_
      exact hK _ _ _ _ (rfl) hs h
    · refine ite_neg (by rw [(hs).rd 25 rfl]; exact c_2) ?_
      exact hK _ _ _ _ (rfl) hs h
theorem t_J5_setLength_d00df {b : Bool} {H H' F F' : GF} (hs : Sx b H H' F F') {p1 p1' : Int32} (e_p1 : p1 = p1') {K K' : GF → Prop} (hK : (∀ F1 F1' : GF, Sx b H H' F1 F1' → K F1 → K' F1'))  (h : P_J5_setLength_d00df F p1 K) : P_J5_setLength_d00df F' p1' K' := by
  subst e_p1
  unfold P_J5_setLength_d00df at h ⊢
  rcases ite_elim h with ⟨c_1, h⟩ | ⟨c_1, h⟩
  · refine ite_pos (c_1) ?_
    refine t_J5_ensureCapacityInternal_d00df hs (rfl) (fun F_2 F_2' hs_3 h => ?_) h
    rcases ite_elim h with ⟨c_4, h⟩ | ⟨c_4, h⟩
    · refine ite_pos (by rw [(hs_3).rd 25 rfl]; exact c_4) ?_
      rcases ite_elim h with ⟨c_5, h⟩ | ⟨c_5, h⟩
      · refine ite_pos (by rw [(hs_3).rd 25 rfl]; exact c_5) ?_
        unfold P_J5_setLength_d00df_76 at h ⊢
        refine fun F_6' e_7' => ?_
        obtain ⟨F_6, e_7⟩ : ∃ z : GF, z = fs F_2 25 0 3 p1 := ⟨_, rfl⟩
        have h := h _ e_7
        have hs_8 : Sx b H H' F_6 F_6' := by rw [e_7, e_7']; exact hs_3.fsx rfl rfl rfl rfl
        exact hK _ _ hs_8 h
      · refine ite_neg (by rw [(hs_3).rd 25 rfl]; exact c_5) ?_
        refine fun F_9' e_10' => ?_
        obtain ⟨F_9, e_10⟩ : ∃ z : GF, z = fs F_2 25 0 2 1 := ⟨_, rfl⟩
        have h := h _ e_10
        have hs_11 : Sx b H H' F_9 F_9' := by rw [e_10, e_10']; exact hs_3.fsx rfl rfl rfl rfl
        unfold P_J5_setLength_d00df_76 at h ⊢
        refine fun F_12' e_13' => ?_
        obtain ⟨F_12, e_13⟩ : ∃ z : GF, z = fs F_9 25 0 3 p1 := ⟨_, rfl⟩
        have h := h _ e_13
        have hs_14 : Sx b H H' F_12 F_12' := by rw [e_13, e_13']; exact hs_11.fsx rfl rfl rfl rfl
        exact hK _ _ hs_14 h
    · refine ite_neg (by rw [(hs_3).rd 25 rfl]; exact c_4) ?_
      refine t_J5_isLatin1_aae02 hs_3  (fun r_17 r_17' F_15 F_15' er_17 hs_16 h => ?_) h
      subst er_17
      rcases ite_elim h with ⟨c_18, h⟩ | ⟨c_18, h⟩
      · refine ite_pos (c_18) ?_
        exact False.elim h
      · refine ite_neg (c_18) ?_
        exact False.elim h
  · refine ite_neg (c_1) ?_
    exact False.elim h
theorem t_J4_setLength_d00df {b : Bool} {H H' F F' : GF} (hs : Sx b H H' F F') {p1 p1' : Int32} (e_p1 : p1 = p1') {K K' : GF → Prop} (hK : (∀ F1 F1' : GF, Sx b H H' F1 F1' → K F1 → K' F1'))  (h : P_J4_setLength_d00df F p1 K) : P_J4_setLength_d00df F' p1' K' := by
  subst e_p1
  unfold P_J4_setLength_d00df at h ⊢
  refine t_J5_setLength_d00df hs (rfl) (fun F_1 F_1' hs_2 h => ?_) h
  exact hK _ _ hs_2 h
theorem t_J6_stringSize_0f7a4_16 {b : Bool} {H H' : GF}  {K K' : Int32 → GF → Prop} (hK : (∀ (r r' : Int32) (F1 F1' : GF), r = r' → Sx b H H' F1 F1' → K r F1 → K' r' F1'))  : ∀ (n : Nat) (F F' : GF) (x0 x0' : Int32) (x1 x1' : Int32) (x2 x2' : Int32) (x3 x3' : Int32), Sx b H H' F F' → x0 = x0' → x1 = x1' → x2 = x2' → x3 = x3' → P_J6_stringSize_0f7a4_16 K n F x0 x1 x2 x3 → P_J6_stringSize_0f7a4_16 K' n F' x0' x1' x2' x3' := by
  intro n
  induction n with
  | zero => intro F F' x0 x0' x1 x1' x2 x2' x3 x3' hs _ _ _ _ h; exact False.elim h
  | succ n ih =>
    intro F F' x0 x0' x1 x1' x2 x2' x3 x3' hs e_x0 e_x1 e_x2 e_x3 h
    subst e_x0
    subst e_x1
    subst e_x2
    subst e_x3
    rw [P_J6_stringSize_0f7a4_16] at h ⊢
    rcases ite_elim h with ⟨c_1, h⟩ | ⟨c_1, h⟩
    · refine ite_pos (c_1) ?_
      exact hK _ _ _ _ (rfl) hs h
    · refine ite_neg (c_1) ?_
      rcases ite_elim h with ⟨c_2, h⟩ | ⟨c_2, h⟩
      · refine ite_pos (c_2) ?_
        exact ih _ _ _ _ _ _ _ _ _ _ hs (rfl) (rfl) (rfl) (rfl) h
      · refine ite_neg (c_2) ?_
        exact hK _ _ _ _ (rfl) hs h
theorem t_J6_stringSize_0f7a4 {b : Bool} {H H' F F' : GF} (hs : Sx b H H' F F') {p0 p0' : Int32} (e_p0 : p0 = p0') {K K' : Int32 → GF → Prop} (hK : (∀ (r r' : Int32) (F1 F1' : GF), r = r' → Sx b H H' F1 F1' → K r F1 → K' r' F1'))  (h : P_J6_stringSize_0f7a4 F p0 K) : P_J6_stringSize_0f7a4 F' p0' K' := by
  subst e_p0
  unfold P_J6_stringSize_0f7a4 at h ⊢
  rcases ite_elim h with ⟨c_1, h⟩ | ⟨c_1, h⟩
  · refine ite_pos (c_1) ?_
    unfold P_J6_stringSize_0f7a4_11 at h ⊢
    obtain ⟨n_2, h⟩ := h
    refine ⟨n_2, ?_⟩
    exact t_J6_stringSize_0f7a4_16 hK n_2 _ _ _ _ _ _ _ _ _ _ hs (rfl) (rfl) (rfl) (rfl) h
  · refine ite_neg (c_1) ?_
    unfold P_J6_stringSize_0f7a4_11 at h ⊢
    obtain ⟨n_3, h⟩ := h
    refine ⟨n_3, ?_⟩
    exact t_J6_stringSize_0f7a4_16 hK n_3 _ _ _ _ _ _ _ _ _ _ hs (rfl) (rfl) (rfl) (rfl) h
theorem t_J6_getChars_ba4f3_22 {b : Bool} {H H' : GF}  {K K' : Int32 → GF → Prop} (hK : (∀ (r r' : Int32) (F1 F1' : GF), r = r' → Sx b H H' F1 F1' → K r F1 → K' r' F1'))  : ∀ (n : Nat) (F F' : GF) (x0 x0' : Int32) (x5 x5' : Int32) (x6 x6' : Int32), Sx b H H' F F' → x0 = x0' → x5 = x5' → x6 = x6' → P_J6_getChars_ba4f3_22 K n F x0 x5 x6 → P_J6_getChars_ba4f3_22 K' n F' x0' x5' x6' := by
  intro n
  induction n with
  | zero => intro F F' x0 x0' x5 x5' x6 x6' hs _ _ _ h; exact False.elim h
  | succ n ih =>
    intro F F' x0 x0' x5 x5' x6 x6' hs e_x0 e_x5 e_x6 h
    subst e_x0
    subst e_x5
    subst e_x6
    rw [P_J6_getChars_ba4f3_22] at h ⊢
    rcases ite_elim h with ⟨c_1, h⟩ | ⟨c_1, h⟩
    · refine ite_pos (c_1) ?_
      obtain ⟨v_2, h⟩ := h
      refine And.intro (v_2) ?_
      obtain ⟨v_3, h⟩ := h
      refine And.intro (v_3) ?_
      refine fun F_4' e_5' => ?_
      obtain ⟨F_4, e_5⟩ : ∃ z : GF, z = fs F 26 0 (x5 + (-1)).toNatClampNeg (vp_nar .byte (nI (48 + (-x0).toNatClampNeg % 10))) := ⟨_, rfl⟩
      have h := h _ e_5
      have hs_6 : Sx b H H' F_4 F_4' := by rw [e_5, e_5']; exact hs.fsx rfl rfl rfl rfl
      rcases ite_elim h with ⟨c_7, h⟩ | ⟨c_7, h⟩
      · refine ite_pos (c_7) ?_
        unfold P_J6_getChars_ba4f3_104 at h ⊢
        rcases ite_elim h with ⟨c_8, h⟩ | ⟨c_8, h⟩
        · refine ite_pos (c_8) ?_
          exact hK _ _ _ _ (rfl) hs_6 h
        · refine ite_neg (c_8) ?_
          obtain ⟨v_9, h⟩ := h
          refine And.intro (v_9) ?_
          refine fun F_10' e_11' => ?_
          obtain ⟨F_10, e_11⟩ : ∃ z : GF, z = fs F_4 26 0 ((x5 + (-1)) + (-1)).toNatClampNeg (vp_nar .byte 45) := ⟨_, rfl⟩
          have h := h _ e_11
          have hs_12 : Sx b H H' F_10 F_10' := by rw [e_11, e_11']; exact hs_6.fsx rfl rfl rfl rfl
          exact hK _ _ _ _ (rfl) hs_12 h
      · refine ite_neg (c_7) ?_
        obtain ⟨v_13, h⟩ := h
        refine And.intro (v_13) ?_
        obtain ⟨v_14, h⟩ := h
        refine And.intro (v_14) ?_
        refine fun F_15' e_16' => ?_
        obtain ⟨F_15, e_16⟩ : ∃ z : GF, z = fs F_4 26 0 ((x5 + (-1)) + (-1)).toNatClampNeg (vp_nar .byte (nI (48 + (-x0).toNatClampNeg / 10))) := ⟨_, rfl⟩
        have h := h _ e_16
        have hs_17 : Sx b H H' F_15 F_15' := by rw [e_16, e_16']; exact hs_6.fsx rfl rfl rfl rfl
        unfold P_J6_getChars_ba4f3_104 at h ⊢
        rcases ite_elim h with ⟨c_18, h⟩ | ⟨c_18, h⟩
        · refine ite_pos (c_18) ?_
          exact hK _ _ _ _ (rfl) hs_17 h
        · refine ite_neg (c_18) ?_
          obtain ⟨v_19, h⟩ := h
          refine And.intro (v_19) ?_
          refine fun F_20' e_21' => ?_
          obtain ⟨F_20, e_21⟩ : ∃ z : GF, z = fs F_15 26 0 (((x5 + (-1)) + (-1)) + (-1)).toNatClampNeg (vp_nar .byte 45) := ⟨_, rfl⟩
          have h := h _ e_21
          have hs_22 : Sx b H H' F_20 F_20' := by rw [e_21, e_21']; exact hs_17.fsx rfl rfl rfl rfl
          exact hK _ _ _ _ (rfl) hs_22 h
    · refine ite_neg (c_1) ?_
      obtain ⟨v_23, h⟩ := h
      refine And.intro (v_23) ?_
      obtain ⟨v_24, h⟩ := h
      refine And.intro (v_24) ?_
      refine fun F_25' e_26' => ?_
      obtain ⟨F_25, e_26⟩ : ∃ z : GF, z = fs F 26 0 (x5 + (-1)).toNatClampNeg (vp_nar .byte (nI (48 + (((x0 / 100) * 100) - x0).toNatClampNeg % 10))) := ⟨_, rfl⟩
      have h := h _ e_26
      have hs_27 : Sx b H H' F_25 F_25' := by rw [e_26, e_26']; exact hs.fsx rfl rfl rfl rfl
      obtain ⟨v_28, h⟩ := h
      refine And.intro (v_28) ?_
      obtain ⟨v_29, h⟩ := h
      refine And.intro (v_29) ?_
      refine fun F_30' e_31' => ?_
      obtain ⟨F_30, e_31⟩ : ∃ z : GF, z = fs F_25 26 0 ((x5 + (-1)) + (-1)).toNatClampNeg (vp_nar .byte (nI (48 + (((x0 / 100) * 100) - x0).toNatClampNeg / 10))) := ⟨_, rfl⟩
      have h := h _ e_31
      have hs_32 : Sx b H H' F_30 F_30' := by rw [e_31, e_31']; exact hs_27.fsx rfl rfl rfl rfl
      exact ih _ _ _ _ _ _ _ _ hs_32 (rfl) (rfl) (rfl) h
theorem t_J6_getChars_ba4f3 {b : Bool} {H H' F F' : GF} (hs : Sx b H H' F F') {p0 p0' : Int32} {p1 p1' : Int32} (e_p0 : p0 = p0') (e_p1 : p1 = p1') {K K' : Int32 → GF → Prop} (hK : (∀ (r r' : Int32) (F1 F1' : GF), r = r' → Sx b H H' F1 F1' → K r F1 → K' r' F1'))  (h : P_J6_getChars_ba4f3 F p0 p1 K) : P_J6_getChars_ba4f3 F' p0' p1' K' := by
  subst e_p0
  subst e_p1
  unfold P_J6_getChars_ba4f3 at h ⊢
  rcases ite_elim h with ⟨c_1, h⟩ | ⟨c_1, h⟩
  · refine ite_pos (c_1) ?_
    unfold P_J6_getChars_ba4f3_12 at h ⊢
    rcases ite_elim h with ⟨c_2, h⟩ | ⟨c_2, h⟩
    · refine ite_pos (c_2) ?_
      obtain ⟨n_3, h⟩ := h
      refine ⟨n_3, ?_⟩
      exact t_J6_getChars_ba4f3_22 hK n_3 _ _ _ _ _ _ _ _ hs (rfl) (rfl) (rfl) h
    · refine ite_neg (c_2) ?_
      obtain ⟨n_4, h⟩ := h
      refine ⟨n_4, ?_⟩
      exact t_J6_getChars_ba4f3_22 hK n_4 _ _ _ _ _ _ _ _ hs (rfl) (rfl) (rfl) h
  · refine ite_neg (c_1) ?_
    unfold P_J6_getChars_ba4f3_12 at h ⊢
    rcases ite_elim h with ⟨c_5, h⟩ | ⟨c_5, h⟩
    · refine ite_pos (c_5) ?_
      obtain ⟨n_6, h⟩ := h
      refine ⟨n_6, ?_⟩
      exact t_J6_getChars_ba4f3_22 hK n_6 _ _ _ _ _ _ _ _ hs (rfl) (rfl) (rfl) h
    · refine ite_neg (c_5) ?_
      obtain ⟨n_7, h⟩ := h
      refine ⟨n_7, ?_⟩
      exact t_J6_getChars_ba4f3_22 hK n_7 _ _ _ _ _ _ _ _ hs (rfl) (rfl) (rfl) h
theorem t_J5_append_c97b9 {b : Bool} {H H' F F' : GF} (hs : Sx b H H' F F') {p1 p1' : Int32} (e_p1 : p1 = p1') {K K' : Nat → GF → Prop} (hK : (∀ (r r' : Nat) (F1 F1' : GF), r = r' → Sx b H H' F1 F1' → K r F1 → K' r' F1'))  (h : P_J5_append_c97b9 F p1 K) : P_J5_append_c97b9 F' p1' K' := by
  subst e_p1
  unfold P_J5_append_c97b9 at h ⊢
  refine t_J6_stringSize_0f7a4 hs (rfl) (fun r_3 r_3' F_1 F_1' er_3 hs_2 h => ?_) h
  subst er_3
  refine t_J5_ensureCapacityInternal_d00df hs_2 (by rw [(hs).rd 25 rfl]) (fun F_4 F_4' hs_5 h => ?_) h
  refine t_J5_isLatin1_aae02 hs_5  (fun r_8 r_8' F_6 F_6' er_8 hs_7 h => ?_) h
  subst er_8
  rcases ite_elim h with ⟨c_9, h⟩ | ⟨c_9, h⟩
  · refine ite_pos (c_9) ?_
    exact False.elim h
  · refine ite_neg (c_9) ?_
    refine t_J6_getChars_ba4f3 hs_7 (rfl) (by rw [(hs).rd 25 rfl]) (fun r_12 r_12' F_10 F_10' er_12 hs_11 h => ?_) h
    subst er_12
    unfold P_J5_append_c97b9_48 at h ⊢
    refine fun F_13' e_14' => ?_
    obtain ⟨F_13, e_14⟩ : ∃ z : GF, z = fs F_10 25 0 3 ((F 25 0 3) + r_3) := ⟨_, rfl⟩
    have h := h _ e_14
    have hs_15 : Sx b H H' F_13 F_13' := by rw [e_14, e_14']; exact hs_11.fsx rfl (by first | (simp only [(hs).rd 25 rfl]; done) | rfl) (by first | (simp only [(hs).rd 25 rfl]; done) | rfl) (by first | (simp only [(hs).rd 25 rfl]; done) | rfl)
    exact hK _ _ _ _ (rfl) hs_15 h
theorem t_J4_append_bf812 {b : Bool} {H H' F F' : GF} (hs : Sx b H H' F F') {p1 p1' : Int32} (e_p1 : p1 = p1') {K K' : Nat → GF → Prop} (hK : (∀ (r r' : Nat) (F1 F1' : GF), r = r' → Sx b H H' F1 F1' → K r F1 → K' r' F1'))  (h : P_J4_append_bf812 F p1 K) : P_J4_append_bf812 F' p1' K' := by
  subst e_p1
  unfold P_J4_append_bf812 at h ⊢
  refine t_J5_append_c97b9 hs (rfl) (fun r_3 r_3' F_1 F_1' er_3 hs_2 h => ?_) h
  subst er_3
  exact hK _ _ _ _ (rfl) hs_2 h
theorem t_J1_canEncode_fc78d {b : Bool} {H H' F F' : GF} (hs : Sx b H H' F F') {p0 p0' : Int32} (e_p0 : p0 = p0') {K K' : Int32 → GF → Prop} (hK : (∀ (r r' : Int32) (F1 F1' : GF), r = r' → Sx b H H' F1 F1' → K r F1 → K' r' F1'))  (h : P_J1_canEncode_fc78d F p0 K) : P_J1_canEncode_fc78d F' p0' K' := by
  subst e_p0
  unfold P_J1_canEncode_fc78d at h ⊢
  rcases ite_elim h with ⟨c_1, h⟩ | ⟨c_1, h⟩
  · refine ite_pos (c_1) ?_
    exact hK _ _ _ _ (rfl) hs h
  · refine ite_neg (c_1) ?_
    exact hK _ _ _ _ (rfl) hs h
theorem t_J5_append_3fe6f {b : Bool} {H H' F F' : GF} (hs : Sx b H H' F F') {p1 p1' : Int32} (e_p1 : p1 = p1') {K K' : Nat → GF → Prop} (hK : (∀ (r r' : Nat) (F1 F1' : GF), r = r' → Sx b H H' F1 F1' → K r F1 → K' r' F1'))  (h : P_J5_append_3fe6f F p1 K) : P_J5_append_3fe6f F' p1' K' := by
  subst e_p1
  unfold P_J5_append_3fe6f at h ⊢
  refine t_J5_ensureCapacityInternal_d00df hs (by rw [(hs).rd 25 rfl]) (fun F_1 F_1' hs_2 h => ?_) h
  refine t_J5_isLatin1_aae02 hs_2  (fun r_5 r_5' F_3 F_3' er_5 hs_4 h => ?_) h
  subst er_5
  rcases ite_elim h with ⟨c_6, h⟩ | ⟨c_6, h⟩
  · refine ite_pos (c_6) ?_
    unfold P_J5_append_3fe6f_45 at h ⊢
    refine t_J5_isLatin1_aae02 hs_4  (fun r_9 r_9' F_7 F_7' er_9 hs_8 h => ?_) h
    subst er_9
    rcases ite_elim h with ⟨c_10, h⟩ | ⟨c_10, h⟩
    · refine ite_pos (c_10) ?_
      unfold P_J5_append_3fe6f_56 at h ⊢
      refine fun F_11' e_12' => ?_
      obtain ⟨F_11, e_12⟩ : ∃ z : GF, z = fs F_7 25 0 3 ((F_7 25 0 3) + 1) := ⟨_, rfl⟩
      have h := h _ e_12
      have hs_13 : Sx b H H' F_11 F_11' := by rw [e_12, e_12']; exact hs_8.fsx rfl (by first | (simp only [(hs_8).rd 25 rfl]; done) | rfl) (by first | (simp only [(hs_8).rd 25 rfl]; done) | rfl) (by first | (simp only [(hs_8).rd 25 rfl]; done) | rfl)
      exact False.elim h
    · refine ite_neg (c_10) ?_
      exact False.elim h
  · refine ite_neg (c_6) ?_
    refine t_J1_canEncode_fc78d hs_4 (rfl) (fun r_16 r_16' F_14 F_14' er_16 hs_15 h => ?_) h
    subst er_16
    rcases ite_elim h with ⟨c_17, h⟩ | ⟨c_17, h⟩
    · refine ite_pos (c_17) ?_
      unfold P_J5_append_3fe6f_45 at h ⊢
      refine t_J5_isLatin1_aae02 hs_15  (fun r_20 r_20' F_18 F_18' er_20 hs_19 h => ?_) h
      subst er_20
      rcases ite_elim h with ⟨c_21, h⟩ | ⟨c_21, h⟩
      · refine ite_pos (c_21) ?_
        unfold P_J5_append_3fe6f_56 at h ⊢
        refine fun F_22' e_23' => ?_
        obtain ⟨F_22, e_23⟩ : ∃ z : GF, z = fs F_18 25 0 3 ((F_18 25 0 3) + 1) := ⟨_, rfl⟩
        have h := h _ e_23
        have hs_24 : Sx b H H' F_22 F_22' := by rw [e_23, e_23']; exact hs_19.fsx rfl (by first | (simp only [(hs_19).rd 25 rfl]; done) | rfl) (by first | (simp only [(hs_19).rd 25 rfl]; done) | rfl) (by first | (simp only [(hs_19).rd 25 rfl]; done) | rfl)
        exact False.elim h
      · refine ite_neg (c_21) ?_
        exact False.elim h
    · refine ite_neg (c_17) ?_
      refine fun F_25' e_26' => ?_
      obtain ⟨F_25, e_26⟩ : ∃ z : GF, z = fs F_14 25 0 3 ((F_14 25 0 3) + 1) := ⟨_, rfl⟩
      have h := h _ e_26
      have hs_27 : Sx b H H' F_25 F_25' := by rw [e_26, e_26']; exact hs_15.fsx rfl (by first | (simp only [(hs_15).rd 25 rfl]; done) | rfl) (by first | (simp only [(hs_15).rd 25 rfl]; done) | rfl) (by first | (simp only [(hs_15).rd 25 rfl]; done) | rfl)
      obtain ⟨v_28, h⟩ := h
      refine And.intro (by rw [(hs_15).rd 25 rfl]; exact v_28) ?_
      refine fun F_29' e_30' => ?_
      obtain ⟨F_29, e_30⟩ : ∃ z : GF, z = fs F_25 26 0 (F_14 25 0 3).toNatClampNeg (vp_nar .byte p1.toInt8.toInt32) := ⟨_, rfl⟩
      have h := h _ e_30
      have hs_31 : Sx b H H' F_29 F_29' := by rw [e_30, e_30']; exact hs_27.fsx rfl (by first | (simp only [(hs_15).rd 25 rfl]; done) | rfl) (by first | (simp only [(hs_15).rd 25 rfl]; done) | rfl) (by first | (simp only [(hs_15).rd 25 rfl]; done) | rfl)
      exact hK _ _ _ _ (rfl) hs_31 h
theorem t_J4_append_cf468 {b : Bool} {H H' F F' : GF} (hs : Sx b H H' F F') {p1 p1' : Int32} (e_p1 : p1 = p1') {K K' : Nat → GF → Prop} (hK : (∀ (r r' : Nat) (F1 F1' : GF), r = r' → Sx b H H' F1 F1' → K r F1 → K' r' F1'))  (h : P_J4_append_cf468 F p1 K) : P_J4_append_cf468 F' p1' K' := by
  subst e_p1
  unfold P_J4_append_cf468 at h ⊢
  refine t_J5_append_3fe6f hs (rfl) (fun r_3 r_3' F_1 F_1' er_3 hs_2 h => ?_) h
  subst er_3
  exact hK _ _ _ _ (rfl) hs_2 h
theorem t_J5_length_8abf5 {b : Bool} {H H' F F' : GF} (hs : Sx b H H' F F')   {K K' : Int32 → GF → Prop} (hK : (∀ (r r' : Int32) (F1 F1' : GF), r = r' → Sx b H H' F1 F1' → K r F1 → K' r' F1'))  (h : P_J5_length_8abf5 F K) : P_J5_length_8abf5 F' K' := by
  unfold P_J5_length_8abf5 at h ⊢
  exact hK _ _ _ _ (by rw [(hs).rd 25 rfl]) hs h
theorem t_J4_length_8abf5 {b : Bool} {H H' F F' : GF} (hs : Sx b H H' F F')   {K K' : Int32 → GF → Prop} (hK : (∀ (r r' : Int32) (F1 F1' : GF), r = r' → Sx b H H' F1 F1' → K r F1 → K' r' F1'))  (h : P_J4_length_8abf5 F K) : P_J4_length_8abf5 F' K' := by
  unfold P_J4_length_8abf5 at h ⊢
  refine t_J5_length_8abf5 hs  (fun r_3 r_3' F_1 F_1' er_3 hs_2 h => ?_) h
  subst er_3
  exact hK _ _ _ _ (rfl) hs_2 h
theorem t_J0_checkIndex_df160 {b : Bool} {H H' F F' : GF} (hs : Sx b H H' F F') {p0 p0' : Int32} {p1 p1' : Int32} (e_p0 : p0 = p0') (e_p1 : p1 = p1') {K K' : GF → Prop} (hK : (∀ F1 F1' : GF, Sx b H H' F1 F1' → K F1 → K' F1'))  (h : P_J0_checkIndex_df160 F p0 p1 K) : P_J0_checkIndex_df160 F' p0' p1' K' := by
  subst e_p0
  subst e_p1
  unfold P_J0_checkIndex_df160 at h ⊢
  obtain ⟨v_1, h⟩ := h
  refine And.intro (v_1) ?_
  exact hK _ _ hs h
theorem t_J5_charAt_5068e {b : Bool} {H H' F F' : GF} (hs : Sx b H H' F F') {p1 p1' : Int32} (e_p1 : p1 = p1') {K K' : Int32 → GF → Prop} (hK : (∀ (r r' : Int32) (F1 F1' : GF), r = r' → Sx b H H' F1 F1' → K r F1 → K' r' F1'))  (h : P_J5_charAt_5068e F p1 K) : P_J5_charAt_5068e F' p1' K' := by
  subst e_p1
  unfold P_J5_charAt_5068e at h ⊢
  refine fun y_1 ey_1 => ?_
  have h := h y_1 (by rw [ey_1, (hs).rd 25 rfl])
  refine t_J0_checkIndex_df160 hs (rfl) (rfl) (fun F_2 F_2' hs_3 h => ?_) h
  rcases ite_elim h with ⟨c_4, h⟩ | ⟨c_4, h⟩
  · refine ite_pos (by rw [(hs).rd 25 rfl]; exact c_4) ?_
    obtain ⟨v_5, h⟩ := h
    refine And.intro (v_5) ?_
    obtain ⟨v_6, h⟩ := h
    refine And.intro (by rw [(hs_3).rd 26 rfl]; exact v_6) ?_
    exact hK _ _ _ _ (by rw [(hs_3).rd 26 rfl]) hs_3 h
  · refine ite_neg (by rw [(hs).rd 25 rfl]; exact c_4) ?_
    exact False.elim h
theorem t_J4_charAt_5068e {b : Bool} {H H' F F' : GF} (hs : Sx b H H' F F') {p1 p1' : Int32} (e_p1 : p1 = p1') {K K' : Int32 → GF → Prop} (hK : (∀ (r r' : Int32) (F1 F1' : GF), r = r' → Sx b H H' F1 F1' → K r F1 → K' r' F1'))  (h : P_J4_charAt_5068e F p1 K) : P_J4_charAt_5068e F' p1' K' := by
  subst e_p1
  unfold P_J4_charAt_5068e at h ⊢
  refine t_J5_charAt_5068e hs (rfl) (fun r_3 r_3' F_1 F_1' er_3 hs_2 h => ?_) h
  subst er_3
  obtain ⟨v_4, h⟩ := h
  refine And.intro (v_4) ?_
  exact hK _ _ _ _ (rfl) hs_2 h
theorem t_X0_characterAt {b : Bool} {H H' F F' : GF} (hs : Sx b H H' F F') {p1 p1' : Int32} {p2 p2' : Int32} (e_p1 : p1 = p1') (e_p2 : p2 = p2') {K K' : Int32 → GF → Prop} (hK : (∀ (r r' : Int32) (F1 F1' : GF), r = r' → Sx b H H' F1 F1' → K r F1 → K' r' F1'))  (h : P_X0_characterAt F p1 p2 K) : P_X0_characterAt F' p1' p2' K' := by
  subst e_p1
  subst e_p2
  unfold P_X0_characterAt at h ⊢
  rcases ite_elim h with ⟨c_1, h⟩ | ⟨c_1, h⟩
  · refine ite_pos (c_1) ?_
    exact hK _ _ _ _ (rfl) hs h
  · refine ite_neg (c_1) ?_
    rcases ite_elim h with ⟨c_2, h⟩ | ⟨c_2, h⟩
    · refine ite_pos (by rw [(hs).rd 21 rfl]; exact c_2) ?_
      refine t_J4_setLength_d00df hs (rfl) (fun F_3 F_3' hs_4 h => ?_) h
      obtain ⟨v_5, h⟩ := h
      refine And.intro (v_5) ?_
      refine t_J4_append_bf812 hs_4 (by rw [(hs_4).rd 22 rfl]) (fun r_8 r_8' F_6 F_6' er_8 hs_7 h => ?_) h
      subst er_8
      obtain ⟨v_9, h⟩ := h
      refine And.intro (v_9) ?_
      refine t_J4_append_cf468 hs_7 (by rw [(hs_7).rd 23 rfl]) (fun r_12 r_12' F_10 F_10' er_12 hs_11 h => ?_) h
      subst er_12
      obtain ⟨v_13, h⟩ := h
      refine And.intro (v_13) ?_
      refine t_J4_append_bf812 hs_11 (by rw [(hs_11).rd 24 rfl]) (fun r_16 r_16' F_14 F_14' er_16 hs_15 h => ?_) h
      subst er_16
      rcases ite_elim h with ⟨c_17, h⟩ | ⟨c_17, h⟩
      · refine ite_pos (c_17) ?_
        exact hK _ _ _ _ (rfl) hs_15 h
      · refine ite_neg (c_17) ?_
        refine t_J4_length_8abf5 hs_15  (fun r_20 r_20' F_18 F_18' er_20 hs_19 h => ?_) h
        subst er_20
        rcases ite_elim h with ⟨c_21, h⟩ | ⟨c_21, h⟩
        · refine ite_pos (c_21) ?_
          refine t_J4_charAt_5068e hs_19 (rfl) (fun r_24 r_24' F_22 F_22' er_24 hs_23 h => ?_) h
          subst er_24
          exact hK _ _ _ _ (rfl) hs_23 h
        · refine ite_neg (c_21) ?_
          exact hK _ _ _ _ (rfl) hs_19 h
    · refine ite_neg (by rw [(hs).rd 21 rfl]; exact c_2) ?_
      exact hK _ _ _ _ (rfl) hs h
theorem t_X10_signAt {b : Bool} {H H' F F' : GF} (hs : Sx b H H' F F') {p1 p1' : Int32} {p2 p2' : Int32} (e_p1 : p1 = p1') (e_p2 : p2 = p2') {K K' : Int32 → GF → Prop} {X X' : String → GF → Prop} (hK : (∀ (r r' : Int32) (F1 F1' : GF), r = r' → Sx b H H' F1 F1' → K r F1 → K' r' F1')) (hX : ∀ (e : String) (F1 F1' : GF), Sx b H H' F1 F1' → X e F1 → X' e F1') (h : P_X10_signAt F p1 p2 K X) : P_X10_signAt F' p1' p2' K' X' := by
  subst e_p1
  subst e_p2
  unfold P_X10_signAt at h ⊢
  rcases ite_elim h with ⟨c_1, h⟩ | ⟨c_1, h⟩
  · refine ite_pos (c_1) ?_
    exact hX _ _ _ hs h
  · refine ite_neg (c_1) ?_
    rcases ite_elim h with ⟨c_2, h⟩ | ⟨c_2, h⟩
    · refine ite_pos (by rw [(hs).rd 21 rfl]; exact c_2) ?_
      rcases ite_elim h with ⟨c_3, h⟩ | ⟨c_3, h⟩
      · refine ite_pos (c_3) ?_
        refine t_X0_characterAt hs (rfl) (rfl) (fun r_6 r_6' F_4 F_4' er_6 hs_5 h => ?_) h
        subst er_6
        exact hK _ _ _ _ (rfl) hs_5 h
      · refine ite_neg (c_3) ?_
        exact hX _ _ _ hs h
    · refine ite_neg (by rw [(hs).rd 21 rfl]; exact c_2) ?_
      exact hX _ _ _ hs h
