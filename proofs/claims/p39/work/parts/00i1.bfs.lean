/-- how far, the row, how many -/
abbrev BS : Type := (Nat → Int32) × (Nat → Nat) × Nat
def adjB (x y : Nat) : Bool := (max x y - min x y == 6) || (max x y - min x y == 1 && max x y % 6 != 0)
/-- an open street -/
def Ed (F : GF) (x y : Nat) : Bool := if max x y - min x y = 6 then decide (F 2 0 (2 * min x y + 1) = 0) else if max x y - min x y = 1 ∧ max x y % 6 ≠ 0 then decide (F 2 0 (2 * min x y) = 0) else false
theorem Ed_adj {F : GF} {x y : Nat} (h : Ed F x y = true) : adjB x y = true := by
  unfold Ed at h
  unfold adjB
  by_cases h6 : max x y - min x y = 6
  · simp [h6]
  · rw [if_neg h6] at h
    by_cases h1 : max x y - min x y = 1 ∧ max x y % 6 ≠ 0
    · simp [h1.1, h1.2]
    · rw [if_neg h1] at h
      cases h
def updI (d : Nat → Int32) (y : Nat) (v : Int32) : Nat → Int32 := fun q => if q = y then v else d q
def vis (F : GF) (x : Nat) (s : BS) (y : Nat) : BS := if Ed F x y = true ∧ s.1 y = -1 then (updI s.1 y (s.1 x + 1), (fun q => if q = s.2.2 then y else s.2.1 q), s.2.2 + 1) else s
def stepM (F : GF) (x : Nat) (s : BS) : BS := (List.range 36).foldl (vis F x) s
def cand (x : Nat) : List Nat := (if 6 ≤ x then [x - 6] else []) ++ ((if 1 ≤ x then [x - 1] else []) ++ ((if x + 1 < 36 then [x + 1] else []) ++ (if x + 6 < 36 then [x + 6] else [])))
theorem cand_ok : ∀ x, x < 36 → (List.range 36).filter (adjB x) = (cand x).filter (adjB x) := by decide +kernel
theorem fold_filter {s : BS} {f : BS → Nat → BS} {p : Nat → Bool} (h : ∀ s y, p y = false → f s y = s) : ∀ (l : List Nat) (s : BS), l.foldl f s = (l.filter p).foldl f s := by
  intro l
  induction l with
  | nil => intro s; rfl
  | cons a r ih =>
    intro s
    cases hp : p a with
    | true =>
      rw [List.filter_cons_of_pos hp]
      exact ih (f s a)
    | false =>
      rw [List.filter_cons_of_neg (by simp [hp])]
      show r.foldl f (f s a) = _
      rw [h s a hp]
      exact ih s
theorem vis_id {F : GF} {x y : Nat} {s : BS} (h : adjB x y = false) : vis F x s y = s := by
  unfold vis
  rw [if_neg]
  intro q
  rw [Ed_adj q.1] at h
  cases h
theorem step_cand {F : GF} {x : Nat} {s : BS} (hx : x < 36) : stepM F x s = (cand x).foldl (vis F x) s := by
  unfold stepM
  rw [fold_filter (s := s) (f := vis F x) (p := adjB x) (fun s y h => vis_id h), cand_ok x hx, ← fold_filter (s := s) (f := vis F x) (p := adjB x) (fun s y h => vis_id h)]
def cntD (d : Nat → Int32) : Nat → Nat
  | 0 => 0
  | n + 1 => cntD d n + (if d n = -1 then 0 else 1)
theorem cntD_le {d : Nat → Int32} : ∀ n, cntD d n ≤ n := by
  intro n
  induction n with
  | zero => exact Nat.le_refl _
  | succ n ih =>
    unfold cntD
    split <;> omega
theorem cntD_lt {d : Nat → Int32} {y : Nat} (h : d y = -1) : ∀ n, y < n → cntD d n < n := by
  intro n
  induction n with
  | zero => intro h; exact absurd h (Nat.not_lt_zero y)
  | succ n ih =>
    intro hy
    unfold cntD
    have := cntD_le (d := d) n
    by_cases e : y = n
    · subst e
      rw [if_pos h]
      omega
    · have := ih (by omega)
      split <;> omega
theorem cntD_upd {d : Nat → Int32} {y : Nat} {v : Int32} (h : d y = -1) (hv : ¬ v = -1) : ∀ n, (y < n → cntD (updI d y v) n = cntD d n + 1) ∧ (n ≤ y → cntD (updI d y v) n = cntD d n) := by
  intro n
  induction n with
  | zero => exact ⟨fun q => absurd q (Nat.not_lt_zero y), fun _ => rfl⟩
  | succ n ih =>
    refine ⟨fun hy => ?_, fun hy => ?_⟩
    · unfold cntD
      by_cases e : y = n
      · subst e
        rw [ih.2 (Nat.le_refl y), if_pos h]
        unfold updI
        rw [if_pos rfl, if_neg hv]
      · rw [ih.1 (by omega)]
        have : updI d y v n = d n := by unfold updI; rw [if_neg (fun q => e q.symm)]
        rw [this]
        omega
    · unfold cntD
      rw [ih.2 (by omega)]
      have : updI d y v n = d n := by unfold updI; rw [if_neg (by omega)]
      rw [this]
/-- what holds of the search's state -/
def BI (s : BS) : Prop := s.2.2 = cntD s.1 36 ∧ (∀ y, y < 36 → s.1 y = -1 ∨ ∃ a, a < s.2.2 ∧ s.1 y = nI a) ∧ ∀ j, j < s.2.2 → s.2.1 j < 36 ∧ ¬ s.1 (s.2.1 j) = -1
theorem BI.le {s : BS} (h : BI s) : s.2.2 ≤ 36 := by
  rw [h.1]
  exact cntD_le 36
theorem vis_BI {F : GF} {x y : Nat} {s : BS} (hs : BI s) (hx : x < 36) (hy : y < 36) (hdx : ¬ s.1 x = -1) : BI (vis F x s y) ∧ ¬ (vis F x s y).1 x = -1 ∧ s.2.2 ≤ (vis F x s y).2.2 ∧ (∀ j, j < s.2.2 → (vis F x s y).2.1 j = s.2.1 j) ∧ ((Ed F x y = true ∧ s.1 y = -1) → s.2.2 < 36) := by
  obtain ⟨h1, h2, h3⟩ := hs
  unfold vis
  by_cases h : Ed F x y = true ∧ s.1 y = -1
  · rw [if_pos h]
    have hlt : s.2.2 < 36 := by rw [h1]; exact cntD_lt h.2 36 hy
    obtain ⟨a, ha, ea⟩ := (h2 x hx).resolve_left hdx
    have ev : s.1 x + 1 = nI (a + 1) := by rw [ea, nI_succ]
    have hv : ¬ s.1 x + 1 = -1 := by
      rw [ev]
      intro q
      have h := nI_eq_neg (a := a + 1) (by omega)
      rw [h] at q
      exact q
    have hxy : ¬ x = y := fun e => by subst e; exact hdx h.2
    refine ⟨⟨?_, fun q hq => ?_, fun j hj => ?_⟩, ?_, Nat.le_succ _, fun j hj => ?_, fun _ => hlt⟩
    · show s.2.2 + 1 = cntD (updI s.1 y (s.1 x + 1)) 36
      rw [(cntD_upd h.2 hv 36).1 hy, h1]
    · show updI s.1 y (s.1 x + 1) q = -1 ∨ ∃ a, a < s.2.2 + 1 ∧ updI s.1 y (s.1 x + 1) q = nI a
      unfold updI
      by_cases e : q = y
      · rw [if_pos e]
        exact Or.inr ⟨a + 1, by omega, ev⟩
      · rw [if_neg e]
        rcases h2 q hq with z | ⟨b, b1, b2⟩
        · exact Or.inl z
        · exact Or.inr ⟨b, by omega, b2⟩
    · show (if j = s.2.2 then y else s.2.1 j) < 36 ∧ ¬ updI s.1 y (s.1 x + 1) (if j = s.2.2 then y else s.2.1 j) = -1
      by_cases e : j = s.2.2
      · rw [if_pos e]
        refine ⟨hy, ?_⟩
        unfold updI
        rw [if_pos rfl]
        exact hv
      · rw [if_neg e]
        have hj2 : j < s.2.2 + 1 := hj
        obtain ⟨z1, z2⟩ := h3 j (by omega)
        refine ⟨z1, ?_⟩
        unfold updI
        by_cases e2 : s.2.1 j = y
        · rw [if_pos e2]
          exact hv
        · rw [if_neg e2]
          exact z2
    · show ¬ updI s.1 y (s.1 x + 1) x = -1
      unfold updI
      rw [if_neg hxy]
      exact hdx
    · show (if j = s.2.2 then y else s.2.1 j) = s.2.1 j
      rw [if_neg (by omega)]
  · rw [if_neg h]
    exact ⟨⟨h1, h2, h3⟩, hdx, Nat.le_refl _, fun _ _ => rfl, fun q => absurd q h⟩
theorem fold_BI {F : GF} {x : Nat} (hx : x < 36) : ∀ (l : List Nat) (s : BS), (∀ y ∈ l, y < 36) → BI s → ¬ s.1 x = -1 → BI (l.foldl (vis F x) s) ∧ ¬ (l.foldl (vis F x) s).1 x = -1 ∧ s.2.2 ≤ (l.foldl (vis F x) s).2.2 ∧ (∀ j, j < s.2.2 → (l.foldl (vis F x) s).2.1 j = s.2.1 j) := by
  intro l
  induction l with
  | nil => intro s _ h1 h2; exact ⟨h1, h2, Nat.le_refl _, fun _ _ => rfl⟩
  | cons a r ih =>
    intro s hl h1 h2
    obtain ⟨b1, b2, b3, b4, -⟩ := vis_BI (F := F) h1 hx (hl a List.mem_cons_self) h2
    obtain ⟨c1, c2, c3, c4⟩ := ih (vis F x s a) (fun y hy => hl y (List.mem_cons_of_mem _ hy)) b1 b2
    exact ⟨c1, c2, Nat.le_trans b3 c3, fun j hj => (c4 j (by omega)).trans (b4 j hj)⟩
/-- the whole search -/
def bfsN (F : GF) : Nat → Nat → BS → BS
  | 0, _, s => s
  | f + 1, i, s => if s.2.2 ≤ i then s else bfsN F f (i + 1) (stepM F (s.2.1 i) s)
def bfs0 (x : Nat) : BS := (fun q => if q = x then 0 else -1, fun _ => x, 1)
theorem bfs0_BI {x : Nat} (hx : x < 36) : BI (bfs0 x) := by
  refine ⟨?_, fun y hy => ?_, fun j hj => ?_⟩
  · show 1 = cntD (fun q => if q = x then 0 else -1) 36
    have h1 := (cntD_upd (d := fun _ => -1) (y := x) (v := 0) rfl (by decide) 36).1 hx
    have h2 : cntD (fun _ => (-1 : Int32)) 36 = 0 := by decide
    rw [h2] at h1
    exact h1.symm
  · show (if y = x then (0 : Int32) else -1) = -1 ∨ ∃ a, a < 1 ∧ (if y = x then (0 : Int32) else -1) = nI a
    by_cases e : y = x
    · rw [if_pos e]
      exact Or.inr ⟨0, by decide, rfl⟩
    · rw [if_neg e]
      exact Or.inl rfl
  · refine ⟨hx, ?_⟩
    show ¬ (if x = x then (0 : Int32) else -1) = -1
    rw [if_pos rfl]
    decide
/-- how far from x -/
def farN (F : GF) (x : Nat) : Nat → Int32 := (bfsN F 37 0 (bfs0 x)).1
theorem bfsN_BI {F : GF} : ∀ f i s, BI s → BI (bfsN F f i s) := by
  intro f
  induction f with
  | zero => intro i s h; exact h
  | succ f ih =>
    intro i s h
    unfold bfsN
    by_cases hi : s.2.2 ≤ i
    · rw [if_pos hi]; exact h
    · rw [if_neg hi]
      obtain ⟨x1, x2⟩ := h.2.2 i (by omega)
      exact ih (i + 1) _ (fold_BI x1 (List.range 36) s (fun y hy => List.mem_range.mp hy) h x2).1
theorem farN_val {F : GF} {x y : Nat} (hx : x < 36) (hy : y < 36) : farN F x y = -1 ∨ ∃ a, a < 37 ∧ farN F x y = nI a := by
  have h := bfsN_BI (F := F) 37 0 (bfs0 x) (bfs0_BI hx)
  rcases h.2.1 y hy with z | ⟨a, a1, a2⟩
  · exact Or.inl z
  · have := h.le
    exact Or.inr ⟨a, by omega, a2⟩
def BC (F0 : GF) (s : BS) (F : GF) : Prop := (∀ f, f ≠ 3 → f ≠ 4 → F f = F0 f) ∧ (∀ y, y < 36 → F 3 0 y = s.1 y) ∧ ∀ j, j < s.2.2 → F 4 0 j = nI (s.2.1 j)
def BM (F0 : GF) (s : BS) (F : GF) : Prop := (∀ f, f ≠ 42 → f ≠ 43 → F f = F0 f) ∧ (∀ y, y < 36 → F 42 0 y = s.1 y) ∧ ∀ j, j < s.2.2 → F 43 0 j = nI (s.2.1 j)
theorem sb_neg {F : GF} {x : Nat} {y : Int32} {K : Int32 → GF → Prop} (hx : x < 36) (hy : y < 0) (hK : K (-1) F) : P_X9_streetBetween F (nI x) y K := by
  have h1 : y ≤ nI x := by
    rw [Int32.le_iff_toInt_le, nI_toInt' (by omega)]
    rw [Int32.lt_iff_toInt_lt] at hy
    have : (0 : Int32).toInt = 0 := by decide
    omega
  unfold P_X9_streetBetween P_X9_streetBetween_10 P_X9_streetBetween_21
  rw [if_pos h1, if_pos h1, if_pos hy]
  exact hK
theorem sb_big {F : GF} {x y : Nat} {K : Int32 → GF → Prop} (hx : x < 36) (hy : 36 ≤ y) (hy2 : y < 2147483648) (hK : K (-1) F) : P_X9_streetBetween F (nI x) (nI y) K := by
  have h1 : ¬ nI y ≤ nI x := nI_ge (by omega) (by omega)
  unfold P_X9_streetBetween P_X9_streetBetween_10 P_X9_streetBetween_21
  rw [if_neg h1, if_neg h1, if_neg (nI_pos (by omega)), if_neg (show ¬ nI y < 36 from nI_nlt (b := 36) (by omega) (by omega))]
  exact hK
theorem rc_no {F : GF} {x : Nat} {y : Int32} {n : Int32} {K : Int32 → GF → Prop} (h : ∀ K' : Int32 → GF → Prop, K' (-1) F → P_X9_streetBetween F (nI x) y K') (hK : K n F) : P_X9_reach F (nI x) y n K := by
  unfold P_X9_reach
  refine h _ ?_
  rw [if_pos rfl]
  exact hK
theorem rc_yes {F F0 : GF} {s : BS} {x y : Nat} {K : Int32 → GF → Prop} (hbar : ∀ q, q < 72 → F0 2 0 q = 0 ∨ F0 2 0 q = 1) (hx : x < 36) (hy : y < 36) (hs : BI s) (hdx : ¬ s.1 x = -1) (hB : BC F0 s F) (hK : ∀ F1, BC F0 (vis F0 x s y) F1 → K (nI (vis F0 x s y).2.2) F1) : P_X9_reach F (nI x) (nI y) (nI s.2.2) K := by
  have hv := vis_BI (F := F0) hs hx hy hdx
  have hle := hs.le
  unfold P_X9_reach
  refine st_cls hx hy ?_
  have skip : ¬ (Ed F0 x y = true ∧ s.1 y = -1) → K (nI s.2.2) F := by
    intro hno
    have e : vis F0 x s y = s := by unfold vis; rw [if_neg hno]
    rw [e] at hK
    exact hK F hB
  have hsc : scls x y = -1 ∧ Ed F0 x y = false ∨ ∃ q, q < 72 ∧ scls x y = nI q ∧ Ed F0 x y = decide (F0 2 0 q = 0) := by
    unfold scls Ed
    by_cases h6 : max x y - min x y = 6
    · rw [if_pos h6, if_pos h6]
      exact Or.inr ⟨2 * min x y + 1, by omega, rfl, rfl⟩
    · rw [if_neg h6, if_neg h6]
      by_cases h1 : max x y - min x y = 1 ∧ max x y % 6 ≠ 0
      · rw [if_pos h1, if_pos h1]
        exact Or.inr ⟨2 * min x y, by omega, rfl, rfl⟩
      · rw [if_neg h1, if_neg h1]
        exact Or.inl ⟨rfl, rfl⟩
  rcases hsc with ⟨e1, e2⟩ | ⟨q, hq, e1, e2⟩
  · rw [e1, if_pos rfl]
    exact skip (fun z => by rw [e2] at z; cases z.1)
  · have hne : ¬ nI q = -1 := fun z => by have h := nI_eq_neg (a := q) (by omega); rw [h] at z; exact z
    rw [e1, if_neg hne, nI_clamp' (by omega), hB.1 2 (by decide) (by decide), nI_clamp' (by omega), hB.2.1 y hy]
    refine ⟨nI_in (by omega) (by omega), ?_⟩
    by_cases hb : F0 2 0 q = 0
    · rw [if_pos hb]
      refine ⟨nI_in (by omega) (by omega), ?_⟩
      by_cases hd : s.1 y = -1
      · have hE : Ed F0 x y = true ∧ s.1 y = -1 := ⟨by rw [e2]; exact decide_eq_true hb, hd⟩
        have hlt := hv.2.2.2.2 hE
        rw [if_pos hd, if_pos (show nI s.2.2 < 36 from nI_lt (b := 36) hlt (by omega)), nI_clamp' (by omega), hB.2.1 x hx]
        have e : vis F0 x s y = (updI s.1 y (s.1 x + 1), (fun q => if q = s.2.2 then y else s.2.1 q), s.2.2 + 1) := by unfold vis; rw [if_pos hE]
        rw [e] at hK
        refine ⟨nI_in (by omega) (by omega), nI_in (by omega) (by omega), fun F11 e11 => ⟨nI_in (by omega) (by omega), fun F13 e13 => ?_⟩⟩
        rw [← nI_succ]
        refine hK F13 ⟨fun f a b => ?_, fun u hu => ?_, fun j hj => ?_⟩
        · rw [e13, e11, fs_fam b, fs_fam a]
          exact hB.1 f a b
        · rw [e13, fs_fam (by decide), e11]
          show _ = (if u = y then s.1 x + 1 else s.1 u)
          by_cases eu : u = y
          · subst eu
            rw [fs_eq, if_pos rfl]
          · rw [fs_ne (Or.inr (Or.inr eu)), if_neg eu]
            exact hB.2.1 u hu
        · rw [e13, nI_clamp' (by omega)]
          show _ = nI (if j = s.2.2 then y else s.2.1 j)
          by_cases ej : j = s.2.2
          · subst ej
            rw [fs_eq, if_pos rfl]
          · rw [fs_ne (Or.inr (Or.inr ej)), if_neg ej, e11, fs_fam (by decide)]
            have hj2 : j < s.2.2 + 1 := hj
            exact hB.2.2 j (by omega)
      · rw [if_neg hd]
        exact skip (fun z => hd z.2)
    · rw [if_neg hb]
      exact skip (fun z => by rw [e2] at z; exact hb (of_decide_eq_true z.1))
theorem cand_lt (x : Nat) (hx : x < 36) : ∀ y ∈ cand x, y < 36 := by
  intro y hy
  unfold cand at hy
  simp only [List.mem_append] at hy
  rcases hy with h | h | h | h
  · split at h <;> simp at h; omega
  · split at h <;> simp at h; omega
  · split at h <;> simp at h; omega
  · split at h <;> simp at h; omega
/-- one place of the class's row -/
theorem place_cls {F F0 : GF} {s : BS} {x : Nat} {K : Int32 → GF → Prop} (hbar : ∀ q, q < 72 → F0 2 0 q = 0 ∨ F0 2 0 q = 1) (hx : x < 36) (hs : BI s) (hdx : ¬ s.1 x = -1) (hB : BC F0 s F) (hK : ∀ F1, BC F0 (stepM F0 x s) F1 → K (nI (stepM F0 x s).2.2) F1) : P_X9_reach F (nI x) (nI x - 6) (nI s.2.2) (fun r12 F13 => P_X9_reach F13 (nI x) (nI x - 1) r12 (fun r14 F15 => P_X9_reach F15 (nI x) (nI x + 1) r14 (fun r16 F17 => P_X9_reach F17 (nI x) (nI x + 6) r16 K))) := by
  rw [step_cand hx] at hK
  unfold cand at hK
  rw [List.foldl_append, List.foldl_append, List.foldl_append] at hK
  -- one of the four
  have one : ∀ (l : List Nat) (s : BS) (F : GF) (y : Int32) (K' : Int32 → GF → Prop), BI s → ¬ s.1 x = -1 → BC F0 s F → ((∃ v, v < 36 ∧ y = nI v ∧ l = [v]) ∨ ((y < 0 ∨ ∃ v, 36 ≤ v ∧ v < 2147483648 ∧ y = nI v) ∧ l = [])) → (∀ F1, BI (l.foldl (vis F0 x) s) → ¬ (l.foldl (vis F0 x) s).1 x = -1 → BC F0 (l.foldl (vis F0 x) s) F1 → K' (nI (l.foldl (vis F0 x) s).2.2) F1) → P_X9_reach F (nI x) y (nI s.2.2) K' := by
    intro l s F y K' h1 h2 h3 h4 h5
    rcases h4 with ⟨v, v1, rfl, rfl⟩ | ⟨h4, rfl⟩
    · obtain ⟨b1, b2, -⟩ := vis_BI (F := F0) h1 hx v1 h2
      exact rc_yes hbar hx v1 h1 h2 h3 (fun F1 q => h5 F1 b1 b2 q)
    · refine rc_no (fun K'' hK'' => ?_) (h5 F h1 h2 h3)
      rcases h4 with h4 | ⟨v, v1, v2, rfl⟩
      · exact sb_neg hx h4 hK''
      · exact sb_big hx v1 v2 hK''
  have ngt : ∀ c : Nat, c < 100 → x < c → nI x - nI c < 0 := by
    intro c hc h
    rw [Int32.lt_iff_toInt_lt, dif_toInt (by omega) (by omega)]
    have : (0 : Int32).toInt = 0 := by decide
    omega
  refine one (if 6 ≤ x then [x - 6] else []) s F _ _ hs hdx hB ?_ (fun F1 c1 c2 c3 => ?_)
  · by_cases h : 6 ≤ x
    · rw [if_pos h, li6, nI_sub h]
      exact Or.inl ⟨x - 6, by omega, rfl, rfl⟩
    · rw [if_neg h]
      exact Or.inr ⟨Or.inl (ngt 6 (by omega) (by omega)), rfl⟩
  refine one (if 1 ≤ x then [x - 1] else []) _ F1 _ _ c1 c2 c3 ?_ (fun F2 d1 d2 d3 => ?_)
  · by_cases h : 1 ≤ x
    · rw [if_pos h, li1, nI_sub h]
      exact Or.inl ⟨x - 1, by omega, rfl, rfl⟩
    · rw [if_neg h]
      exact Or.inr ⟨Or.inl (ngt 1 (by omega) (by omega)), rfl⟩
  refine one (if x + 1 < 36 then [x + 1] else []) _ F2 _ _ d1 d2 d3 ?_ (fun F3 e1 e2 e3 => ?_)
  · rw [li1, nI_add]
    by_cases h : x + 1 < 36
    · rw [if_pos h]
      exact Or.inl ⟨x + 1, h, rfl, rfl⟩
    · rw [if_neg h]
      exact Or.inr ⟨Or.inr ⟨x + 1, by omega, by omega, rfl⟩, rfl⟩
  refine one (if x + 6 < 36 then [x + 6] else []) _ F3 _ _ e1 e2 e3 ?_ (fun F4 g1 g2 g3 => hK F4 g3)
  · rw [li6, nI_add]
    by_cases h : x + 6 < 36
    · rw [if_pos h]
      exact Or.inl ⟨x + 6, h, rfl, rfl⟩
    · rw [if_neg h]
      exact Or.inr ⟨Or.inr ⟨x + 6, by omega, by omega, rfl⟩, rfl⟩
theorem mf_cls {F0 : GF} {x : Nat} {K : GF → Prop} (hbar : ∀ q, q < 72 → F0 2 0 q = 0 ∨ F0 2 0 q = 1) (hx : x < 36) (hK : ∀ F1, (∀ f, f ≠ 3 → f ≠ 4 → F1 f = F0 f) → (∀ y, y < 36 → F1 3 0 y = farN F0 x y) → K F1) : P_X9_measureFrom F0 (nI x) K := by
  intro F2 e2
  rw [if_neg (nI_pos (by omega)), if_pos (show nI x < 36 from nI_lt (b := 36) hx (by omega)), nI_clamp' (by omega)]
  refine ⟨nI_in hx (by omega), fun F6 e6 => ⟨by unfold vp_in; decide, fun F8 e8 => ⟨37, ?_⟩⟩⟩
  rw [show (0 : Int32).toNatClampNeg = 0 by decide] at e8
  have key : ∀ m i s F, i + m = 37 → BI s → i ≤ s.2.2 → BC F0 s F → (bfsN F0 m i s).1 = farN F0 x → P_X9_measureFrom_37 K m F (nI s.2.2) (nI i) := by
    intro m
    induction m with
    | zero =>
      intro i s F hi hs his hB hf
      have := hs.le
      omega
    | succ m ih =>
      intro i s F hi hs his hB hf
      have hle := hs.le
      have hfin : s.2.2 ≤ i → K F := by
        intro h
        unfold bfsN at hf
        rw [if_pos h] at hf
        exact hK F hB.1 (fun y hy => by rw [hB.2.1 y hy, hf])
      unfold P_X9_measureFrom_37
      by_cases h : s.2.2 ≤ i
      · rw [if_pos (nI_le h (by omega))]
        exact hfin h
      · obtain ⟨r1, r2⟩ := hs.2.2 i (by omega)
        unfold bfsN at hf
        rw [if_neg h] at hf
        obtain ⟨b1, b2, b3, b4⟩ := fold_BI (F := F0) r1 (List.range 36) s (fun y hy => List.mem_range.mp hy) hs r2
        rw [if_neg (nI_ge (by omega) (by omega)), if_neg (show ¬ (36 : Int32) ≤ nI i from nI_ge (b := 36) (by omega) (by omega)), nI_clamp' (by omega), hB.2.2 i (by omega)]
        refine ⟨nI_in (by omega) (by omega), place_cls hbar r1 hs r2 hB (fun F1 hB1 => ?_)⟩
        rw [← nI_succ]
        exact ih (i + 1) _ F1 (by omega) b1 (Nat.le_trans (by omega) b3) hB1 hf
  refine key 37 0 (bfs0 x) F8 rfl (bfs0_BI hx) (Nat.zero_le _) ⟨fun f a b => ?_, fun y hy => ?_, fun j hj => ?_⟩ rfl
  · rw [e8, e6, e2, fs_fam b, fs_fam a, ffill_fam a]
  · rw [e8, fs_fam (by decide), e6]
    show _ = (if y = x then (0 : Int32) else -1)
    by_cases e : y = x
    · subst e
      rw [fs_eq, if_pos rfl]
    · rw [fs_ne (Or.inr (Or.inr e)), if_neg e, e2, ffill_in hy]
  · have hj1 : j < 1 := hj
    obtain rfl : j = 0 := by omega
    rw [e8, fs_eq]
    rfl
