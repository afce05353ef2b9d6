/-- the nearest station with a seat, of the first j -/
def nbS (dd st cw : Nat → Int32) : Nat → Int32
  | 0 => -1
  | j + 1 => if dd j = -1 then nbS dd st cw j else if st j ≤ cw j then nbS dd st cw j else if nbS dd st cw j = -1 then nI j else if dd (nbS dd st cw j).toNatClampNeg ≤ dd j then nbS dd st cw j else nI j
/-- the emptiest with a way -/
def ewS (dd cw : Nat → Int32) : Nat → Int32
  | 0 => -1
  | j + 1 => if dd j = -1 then ewS dd cw j else if ewS dd cw j = -1 then nI j else if cw (ewS dd cw j).toNatClampNeg ≤ cw j then ewS dd cw j else nI j
def chS (dd st cw : Nat → Int32) (m : Nat) : Int32 := if nbS dd st cw m = -1 then (if ewS dd cw m = -1 then 0 else ewS dd cw m) else nbS dd st cw m
theorem nbS_val {dd st cw : Nat → Int32} : ∀ m, nbS dd st cw m = -1 ∨ ∃ i, i < m ∧ nbS dd st cw m = nI i := by
  intro m
  induction m with
  | zero => exact Or.inl rfl
  | succ m ih =>
    have es : nbS dd st cw (m + 1) = if dd m = -1 then nbS dd st cw m else if st m ≤ cw m then nbS dd st cw m else if nbS dd st cw m = -1 then nI m else if dd (nbS dd st cw m).toNatClampNeg ≤ dd m then nbS dd st cw m else nI m := rfl
    have keep : nbS dd st cw (m + 1) = nbS dd st cw m → nbS dd st cw (m + 1) = -1 ∨ ∃ i, i < m + 1 ∧ nbS dd st cw (m + 1) = nI i := by
      intro e
      rw [e]
      rcases ih with h | ⟨i, h1, h2⟩
      · exact Or.inl h
      · exact Or.inr ⟨i, by omega, h2⟩
    have take : nbS dd st cw (m + 1) = nI m → nbS dd st cw (m + 1) = -1 ∨ ∃ i, i < m + 1 ∧ nbS dd st cw (m + 1) = nI i := fun e => Or.inr ⟨m, Nat.lt_succ_self m, e⟩
    by_cases g1 : dd m = -1
    · exact keep (by rw [es, if_pos g1])
    · by_cases g2 : st m ≤ cw m
      · exact keep (by rw [es, if_neg g1, if_pos g2])
      · by_cases g3 : nbS dd st cw m = -1
        · exact take (by rw [es, if_neg g1, if_neg g2, if_pos g3])
        · by_cases g4 : dd (nbS dd st cw m).toNatClampNeg ≤ dd m
          · exact keep (by rw [es, if_neg g1, if_neg g2, if_neg g3, if_pos g4])
          · exact take (by rw [es, if_neg g1, if_neg g2, if_neg g3, if_neg g4])
theorem ewS_val {dd cw : Nat → Int32} : ∀ m, ewS dd cw m = -1 ∨ ∃ i, i < m ∧ ewS dd cw m = nI i := by
  intro m
  induction m with
  | zero => exact Or.inl rfl
  | succ m ih =>
    have es : ewS dd cw (m + 1) = if dd m = -1 then ewS dd cw m else if ewS dd cw m = -1 then nI m else if cw (ewS dd cw m).toNatClampNeg ≤ cw m then ewS dd cw m else nI m := rfl
    have keep : ewS dd cw (m + 1) = ewS dd cw m → ewS dd cw (m + 1) = -1 ∨ ∃ i, i < m + 1 ∧ ewS dd cw (m + 1) = nI i := by
      intro e
      rw [e]
      rcases ih with h | ⟨i, h1, h2⟩
      · exact Or.inl h
      · exact Or.inr ⟨i, by omega, h2⟩
    have take : ewS dd cw (m + 1) = nI m → ewS dd cw (m + 1) = -1 ∨ ∃ i, i < m + 1 ∧ ewS dd cw (m + 1) = nI i := fun e => Or.inr ⟨m, Nat.lt_succ_self m, e⟩
    by_cases g1 : dd m = -1
    · exact keep (by rw [es, if_pos g1])
    · by_cases g3 : ewS dd cw m = -1
      · exact take (by rw [es, if_neg g1, if_pos g3])
      · by_cases g4 : cw (ewS dd cw m).toNatClampNeg ≤ cw m
        · exact keep (by rw [es, if_neg g1, if_neg g3, if_pos g4])
        · exact take (by rw [es, if_neg g1, if_neg g3, if_neg g4])
theorem chS_val {dd st cw : Nat → Int32} {m : Nat} (hm : m ≤ 5) : ∃ s, s < 5 ∧ chS dd st cw m = nI s := by
  unfold chS
  split
  · split
    · exact ⟨0, by decide, rfl⟩
    · rcases ewS_val (dd := dd) (cw := cw) m with h | ⟨i, h1, h2⟩
      · contradiction
      · exact ⟨i, by omega, h2⟩
  · rcases nbS_val (dd := dd) (st := st) (cw := cw) m with h | ⟨i, h1, h2⟩
    · contradiction
    · exact ⟨i, by omega, h2⟩
theorem nbS_congr {dd st cw dd' st' cw' : Nat → Int32} : ∀ m, m < 100 → (∀ j, j < m → dd' j = dd j ∧ st' j = st j ∧ cw' j = cw j) → nbS dd' st' cw' m = nbS dd st cw m := by
  intro m
  induction m with
  | zero => intro _ _; rfl
  | succ m ih =>
    intro hm h
    have e := ih (by omega) (fun j hj => h j (by omega))
    obtain ⟨h1, h2, h3⟩ := h m (Nat.lt_succ_self m)
    show (if dd' m = -1 then nbS dd' st' cw' m else if st' m ≤ cw' m then nbS dd' st' cw' m else if nbS dd' st' cw' m = -1 then nI m else if dd' (nbS dd' st' cw' m).toNatClampNeg ≤ dd' m then nbS dd' st' cw' m else nI m) = (if dd m = -1 then nbS dd st cw m else if st m ≤ cw m then nbS dd st cw m else if nbS dd st cw m = -1 then nI m else if dd (nbS dd st cw m).toNatClampNeg ≤ dd m then nbS dd st cw m else nI m)
    rw [e, h1, h2, h3]
    rcases nbS_val (dd := dd) (st := st) (cw := cw) m with z | ⟨i, i1, i2⟩
    · rw [if_pos z, if_pos z]
    · rw [i2, nI_clamp' (by omega), (h i (by omega)).1]
theorem ewS_congr {dd cw dd' cw' : Nat → Int32} : ∀ m, m < 100 → (∀ j, j < m → dd' j = dd j ∧ cw' j = cw j) → ewS dd' cw' m = ewS dd cw m := by
  intro m
  induction m with
  | zero => intro _ _; rfl
  | succ m ih =>
    intro hm h
    have e := ih (by omega) (fun j hj => h j (by omega))
    obtain ⟨h1, h3⟩ := h m (Nat.lt_succ_self m)
    show (if dd' m = -1 then ewS dd' cw' m else if ewS dd' cw' m = -1 then nI m else if cw' (ewS dd' cw' m).toNatClampNeg ≤ cw' m then ewS dd' cw' m else nI m) = (if dd m = -1 then ewS dd cw m else if ewS dd cw m = -1 then nI m else if cw (ewS dd cw m).toNatClampNeg ≤ cw m then ewS dd cw m else nI m)
    rw [e, h1, h3]
    rcases ewS_val (dd := dd) (cw := cw) m with z | ⟨i, i1, i2⟩
    · rw [if_pos z, if_pos z]
    · rw [i2, nI_clamp' (by omega), (h i (by omega)).2]
theorem chS_congr {dd st cw dd' st' cw' : Nat → Int32} {m : Nat} (hm : m ≤ 5) (h : ∀ j, j < m → dd' j = dd j ∧ st' j = st j ∧ cw' j = cw j) : chS dd' st' cw' m = chS dd st cw m := by
  unfold chS
  rw [nbS_congr m (by omega) h, ewS_congr m (by omega) (fun j hj => ⟨(h j hj).1, (h j hj).2.2⟩)]
theorem md_cls {F : GF} {c : Nat} {K : Int32 → GF → Prop} (hc : c < 36) (hK : K (F 3 0 c) F) : P_X9_measuredTo F (nI c) K := by
  unfold P_X9_measuredTo
  rw [if_neg (nI_pos (by omega)), if_pos (show nI c < 36 from nI_lt (b := 36) hc (by omega)), nI_clamp' (by omega)]
  exact ⟨nI_in hc (by omega), hK⟩
theorem pa_cls {F : GF} {s : Nat} {K : Int32 → GF → Prop} (hs : s < 5) (hK : K (F 14 0 s) F) : P_X5_peopleAt F (nI s) K := by
  unfold P_X5_peopleAt
  rw [if_neg (nI_pos (by omega)), if_pos (show nI s < 5 from nI_lt (b := 5) hs (by omega)), nI_clamp' (by omega)]
  exact ⟨nI_in hs (by omega), hK⟩
theorem nw_cls {F : GF} {m : Nat} {dd : Nat → Int32} {K : Int32 → GF → Prop} (em : F 6 0 2 = nI m) (hm : m ≤ 5) (hd : ∀ j, j < m → ∃ c, c < 36 ∧ F 7 0 j = nI c ∧ F 3 0 c = dd j) (hK : K (nbS dd (F 8 0) (F 14 0) m) F) : P_X10_nearestWithSeat F K := by
  have key : ∀ q j x2, j + q = m → (∀ i, i < j → nbS dd (F 8 0) (F 14 0) j = nI i → x2 = dd i) → P_X10_nearestWithSeat_6 K (q + 1) F (nbS dd (F 8 0) (F 14 0) j) x2 (nI j) := by
    intro q
    induction q with
    | zero =>
      intro j x2 hj h
      obtain rfl : j = m := by omega
      unfold P_X10_nearestWithSeat_6
      rw [em, if_pos (Int32.le_refl _)]
      exact hK
    | succ q ih =>
      intro j x2 hj h
      obtain ⟨c, hc, e7, e3⟩ := hd j (by omega)
      unfold P_X10_nearestWithSeat_6 P_X10_nearestWithSeat_63 P_X10_nearestWithSeat_87 P_X10_nearestWithSeat_92
      rw [em, if_neg (nI_ge (by omega) (by omega)), nI_clamp' (by omega), e7]
      refine ⟨nI_in (by omega) (by omega), md_cls hc (pa_cls (by omega) ⟨nI_in (by omega) (by omega), ?_⟩)⟩
      have hv := nbS_val (dd := dd) (st := F 8 0) (cw := F 14 0) j
      have keep : nbS dd (F 8 0) (F 14 0) (j + 1) = nbS dd (F 8 0) (F 14 0) j → P_X10_nearestWithSeat_6 K (q + 1) F (nbS dd (F 8 0) (F 14 0) j) x2 (nI j + 1) := by
        intro e
        rw [← nI_succ, ← e]
        refine ih (j + 1) x2 (by omega) (fun i hi q => ?_)
        rw [e] at q
        rcases hv with z | ⟨i2, z1, z2⟩
        · rw [z] at q
          exact absurd q.symm (neg_ne_nI (by omega))
        · exact h i (by have := (nI_eq_iff (by omega) (by omega)).mp (z2.symm.trans q); omega) q
      have take : nbS dd (F 8 0) (F 14 0) (j + 1) = nI j → P_X10_nearestWithSeat_6 K (q + 1) F (nI j) (dd j) (nI j + 1) := by
        intro e
        rw [← nI_succ, ← e]
        refine ih (j + 1) (dd j) (by omega) (fun i hi q => ?_)
        rw [e] at q
        rw [(nI_eq_iff (by omega) (by omega)).mp q]
      have es : nbS dd (F 8 0) (F 14 0) (j + 1) = if dd j = -1 then nbS dd (F 8 0) (F 14 0) j else if F 8 0 j ≤ F 14 0 j then nbS dd (F 8 0) (F 14 0) j else if nbS dd (F 8 0) (F 14 0) j = -1 then nI j else if dd (nbS dd (F 8 0) (F 14 0) j).toNatClampNeg ≤ dd j then nbS dd (F 8 0) (F 14 0) j else nI j := rfl
      by_cases g2 : F 8 0 j ≤ F 14 0 j
      · rw [if_pos g2, e3]
        by_cases g1 : dd j = -1
        · rw [if_pos g1]
          exact keep (by rw [es, if_pos g1])
        · rw [if_neg g1, if_pos (show (0 : Int32) = 0 from rfl)]
          exact keep (by rw [es, if_neg g1, if_pos g2])
      · rw [if_neg g2, e3]
        by_cases g1 : dd j = -1
        · rw [if_pos g1]
          exact keep (by rw [es, if_pos g1])
        · rw [if_neg g1, if_neg (show ¬ (1 : Int32) = 0 by decide)]
          rcases hv with z | ⟨i, z1, z2⟩
          · rw [if_pos z]
            exact take (by rw [es, if_neg g1, if_neg g2, if_pos z])
          · have hz : ¬ nbS dd (F 8 0) (F 14 0) j = -1 := by rw [z2]; exact neg_ne_nI (by omega)
            have hx2 : x2 = dd i := h i z1 z2
            rw [if_neg hz, hx2]
            by_cases g3 : dd i ≤ dd j
            · rw [if_pos g3, ← hx2]
              exact keep (by rw [es, if_neg g1, if_neg g2, if_neg hz, z2, nI_clamp' (by omega), if_pos g3])
            · rw [if_neg g3]
              exact take (by rw [es, if_neg g1, if_neg g2, if_neg hz, z2, nI_clamp' (by omega), if_neg g3])
  exact ⟨m + 1, key m 0 0 (by omega) (fun i hi => absurd hi (Nat.not_lt_zero i))⟩
theorem ew_cls {F : GF} {m : Nat} {dd : Nat → Int32} {K : Int32 → GF → Prop} (em : F 6 0 2 = nI m) (hm : m ≤ 5) (hd : ∀ j, j < m → ∃ c, c < 36 ∧ F 7 0 j = nI c ∧ F 3 0 c = dd j) (hK : K (ewS dd (F 14 0) m) F) : P_X10_emptiestWithWay F K := by
  have key : ∀ q j x2, j + q = m → (∀ i, i < j → ewS dd (F 14 0) j = nI i → x2 = F 14 0 i) → P_X10_emptiestWithWay_6 K (q + 1) F (ewS dd (F 14 0) j) x2 (nI j) := by
    intro q
    induction q with
    | zero =>
      intro j x2 hj h
      obtain rfl : j = m := by omega
      unfold P_X10_emptiestWithWay_6
      rw [em, if_pos (Int32.le_refl _)]
      exact hK
    | succ q ih =>
      intro j x2 hj h
      obtain ⟨c, hc, e7, e3⟩ := hd j (by omega)
      unfold P_X10_emptiestWithWay_6 P_X10_emptiestWithWay_65 P_X10_emptiestWithWay_70
      rw [em, if_neg (nI_ge (by omega) (by omega)), nI_clamp' (by omega), e7]
      refine ⟨nI_in (by omega) (by omega), md_cls hc (pa_cls (by omega) ?_)⟩
      have hv := ewS_val (dd := dd) (cw := F 14 0) j
      have keep : ewS dd (F 14 0) (j + 1) = ewS dd (F 14 0) j → P_X10_emptiestWithWay_6 K (q + 1) F (ewS dd (F 14 0) j) x2 (nI j + 1) := by
        intro e
        rw [← nI_succ, ← e]
        refine ih (j + 1) x2 (by omega) (fun i hi q => ?_)
        rw [e] at q
        rcases hv with z | ⟨i2, z1, z2⟩
        · rw [z] at q
          exact absurd q.symm (neg_ne_nI (by omega))
        · exact h i (by have := (nI_eq_iff (by omega) (by omega)).mp (z2.symm.trans q); omega) q
      have take : ewS dd (F 14 0) (j + 1) = nI j → P_X10_emptiestWithWay_6 K (q + 1) F (nI j) (F 14 0 j) (nI j + 1) := by
        intro e
        rw [← nI_succ, ← e]
        refine ih (j + 1) _ (by omega) (fun i hi q => ?_)
        rw [e] at q
        rw [(nI_eq_iff (by omega) (by omega)).mp q]
      have es : ewS dd (F 14 0) (j + 1) = if dd j = -1 then ewS dd (F 14 0) j else if ewS dd (F 14 0) j = -1 then nI j else if F 14 0 (ewS dd (F 14 0) j).toNatClampNeg ≤ F 14 0 j then ewS dd (F 14 0) j else nI j := rfl
      show if F 3 0 c = -1 then _ else _
      rw [e3]
      by_cases g1 : dd j = -1
      · rw [if_pos g1]
        exact keep (by rw [es, if_pos g1])
      · rw [if_neg g1]
        rcases hv with z | ⟨i, z1, z2⟩
        · rw [if_pos z]
          exact take (by rw [es, if_neg g1, if_pos z])
        · have hz : ¬ ewS dd (F 14 0) j = -1 := by rw [z2]; exact neg_ne_nI (by omega)
          have hx2 : x2 = F 14 0 i := h i z1 z2
          rw [if_neg hz, hx2]
          by_cases g3 : F 14 0 i ≤ F 14 0 j
          · rw [if_pos g3, ← hx2]
            exact keep (by rw [es, if_neg g1, if_neg hz, z2, nI_clamp' (by omega), if_pos g3])
          · rw [if_neg g3]
            exact take (by rw [es, if_neg g1, if_neg hz, z2, nI_clamp' (by omega), if_neg g3])
  exact ⟨m + 1, key m 0 0 (by omega) (fun i hi => absurd hi (Nat.not_lt_zero i))⟩
theorem cs_cls {F : GF} {m : Nat} {dd : Nat → Int32} {K : Int32 → GF → Prop} (em : F 6 0 2 = nI m) (hm : m ≤ 5) (hd : ∀ j, j < m → ∃ c, c < 36 ∧ F 7 0 j = nI c ∧ F 3 0 c = dd j) (hK : K (chS dd (F 8 0) (F 14 0) m) F) : P_X10_chooseStation F K := by
  unfold P_X10_chooseStation
  refine nw_cls em hm hd ?_
  unfold chS at hK
  by_cases g1 : nbS dd (F 8 0) (F 14 0) m = -1
  · rw [if_pos g1] at hK
    rw [if_pos g1]
    refine ew_cls em hm hd ?_
    by_cases g2 : ewS dd (F 14 0) m = -1
    · rw [if_pos g2] at hK
      rw [if_pos g2]
      exact hK
    · rw [if_neg g2] at hK
      rw [if_neg g2]
      exact hK
  · rw [if_neg g1] at hK
    rw [if_neg g1]
    exact hK
theorem sf_mod {F : GF} {m : Nat} {dd : Nat → Int32} {K : Int32 → GF → Prop} (e19 : F 40 0 19 = nI m) (hm : m ≤ 5) (hd : ∀ j, j < m → ∃ c, c < 36 ∧ F 44 0 j = nI c ∧ F 42 0 c = dd j) (hK : K (chS dd (F 45 0) (F 53 0) m) F) : P_X11_stationFor F K := by
  have key2 : nbS dd (F 45 0) (F 53 0) m = -1 → ∀ q j, j + q = m → P_X11_stationFor_85 K (q + 1) F (ewS dd (F 53 0) j) (nI j) := by
    intro g0 q
    induction q with
    | zero =>
      intro j hj
      obtain rfl : j = m := by omega
      unfold P_X11_stationFor_85
      rw [e19, if_pos (Int32.le_refl _)]
      unfold chS at hK
      rw [if_pos g0] at hK
      by_cases g2 : ewS dd (F 53 0) j = -1
      · rw [if_pos g2] at hK
        rw [if_pos g2]
        exact hK
      · rw [if_neg g2] at hK
        rw [if_neg g2]
        exact hK
    | succ q ih =>
      intro j hj
      obtain ⟨c, hc, e44, e42⟩ := hd j (by omega)
      have hnx := ih (j + 1) (by omega)
      rw [nI_succ] at hnx
      have es : ewS dd (F 53 0) (j + 1) = if dd j = -1 then ewS dd (F 53 0) j else if ewS dd (F 53 0) j = -1 then nI j else if F 53 0 (ewS dd (F 53 0) j).toNatClampNeg ≤ F 53 0 j then ewS dd (F 53 0) j else nI j := rfl
      rw [es] at hnx
      unfold P_X11_stationFor_85 P_X11_stationFor_132 P_X11_stationFor_128 P_X11_stationFor_133
      rw [e19, if_neg (nI_ge (by omega) (by omega)), nI_clamp' (by omega), e44, nI_clamp' (by omega), e42]
      refine ⟨nI_in (by omega) (by omega), nI_in hc (by omega), ?_⟩
      by_cases g1 : dd j = -1
      · rw [if_pos g1] at hnx ⊢
        exact hnx
      · rw [if_neg g1] at hnx ⊢
        rcases ewS_val (dd := dd) (cw := F 53 0) j with z | ⟨i, z1, z2⟩
        · rw [if_pos z] at hnx ⊢
          exact hnx
        · have hz : ¬ ewS dd (F 53 0) j = -1 := by rw [z2]; exact neg_ne_nI (by omega)
          rw [if_neg hz] at hnx ⊢
          rw [z2, nI_clamp' (by omega)] at hnx ⊢
          refine ⟨nI_in (by omega) (by omega), nI_in (by omega) (by omega), ?_⟩
          by_cases g3 : F 53 0 i ≤ F 53 0 j
          · rw [if_pos g3] at hnx ⊢
            exact hnx
          · rw [if_neg g3] at hnx ⊢
            exact hnx
  have key : ∀ q j, j + q = m → P_X11_stationFor_4 K (q + 1) F (nbS dd (F 45 0) (F 53 0) j) (nI j) := by
    intro q
    induction q with
    | zero =>
      intro j hj
      obtain rfl : j = m := by omega
      unfold P_X11_stationFor_4
      rw [e19, if_pos (Int32.le_refl _)]
      by_cases g0 : nbS dd (F 45 0) (F 53 0) j = -1
      · rw [if_pos g0, g0]
        exact ⟨j + 1, key2 g0 j 0 (by omega)⟩
      · rw [if_neg g0]
        unfold chS at hK
        rw [if_neg g0] at hK
        exact hK
    | succ q ih =>
      intro j hj
      obtain ⟨c, hc, e44, e42⟩ := hd j (by omega)
      have hnx := ih (j + 1) (by omega)
      rw [nI_succ] at hnx
      have es : nbS dd (F 45 0) (F 53 0) (j + 1) = if dd j = -1 then nbS dd (F 45 0) (F 53 0) j else if F 45 0 j ≤ F 53 0 j then nbS dd (F 45 0) (F 53 0) j else if nbS dd (F 45 0) (F 53 0) j = -1 then nI j else if dd (nbS dd (F 45 0) (F 53 0) j).toNatClampNeg ≤ dd j then nbS dd (F 45 0) (F 53 0) j else nI j := rfl
      rw [es] at hnx
      unfold P_X11_stationFor_4 P_X11_stationFor_68 P_X11_stationFor_64 P_X11_stationFor_69
      rw [e19, if_neg (nI_ge (by omega) (by omega)), nI_clamp' (by omega), e44, nI_clamp' (by omega), e42]
      refine ⟨nI_in (by omega) (by omega), nI_in hc (by omega), fun y ey => ?_⟩
      rw [ey]
      by_cases g1 : dd j = -1
      · rw [if_pos g1] at hnx ⊢
        exact hnx
      · rw [if_neg g1] at hnx ⊢
        refine ⟨nI_in (by omega) (by omega), nI_in (by omega) (by omega), ?_⟩
        by_cases g2 : F 45 0 j ≤ F 53 0 j
        · rw [if_pos g2] at hnx ⊢
          exact hnx
        · rw [if_neg g2] at hnx ⊢
          rcases nbS_val (dd := dd) (st := F 45 0) (cw := F 53 0) j with z | ⟨i, z1, z2⟩
          · rw [if_pos z] at hnx ⊢
            exact hnx
          · have hz : ¬ nbS dd (F 45 0) (F 53 0) j = -1 := by rw [z2]; exact neg_ne_nI (by omega)
            obtain ⟨c2, hc2, e442, e422⟩ := hd i (by omega)
            rw [if_neg hz] at hnx ⊢
            rw [z2, nI_clamp' (by omega)] at hnx ⊢
            rw [e442, nI_clamp' (by omega), e422]
            refine ⟨nI_in (by omega) (by omega), nI_in hc2 (by omega), ?_⟩
            by_cases g3 : dd i ≤ dd j
            · rw [if_pos g3] at hnx ⊢
              exact hnx
            · rw [if_neg g3] at hnx ⊢
              exact hnx
  exact ⟨m + 1, key m 0 (by omega)⟩
theorem en_cls {F : GF} {p s : Nat} {K : GF → Prop} (hp : p < 20) (hs : s < 5) (hK : K (fs (fs F 13 0 p (nI s)) 14 0 s (F 14 0 s + 1))) : P_X5_enter F (nI p) (nI s) K := by
  unfold P_X5_enter
  rw [if_neg (nI_pos (by omega)), if_neg (show ¬ (20 : Int32) ≤ nI p from nI_ge (b := 20) hp (by omega)), if_neg (nI_pos (by omega)), if_pos (show nI s < 5 from nI_lt (b := 5) hs (by omega)), nI_clamp' (by omega), nI_clamp' (by omega)]
  refine ⟨nI_in hp (by omega), fun F6 e6 => ⟨nI_in hs (by omega), nI_in hs (by omega), fun F9 e9 => ?_⟩⟩
  rw [e9, e6, fs_ne (by omega)]
  exact hK
theorem dwl_val {wv dv cv : Nat → Int32} {x T : Int32} : ∀ n, (∀ j, j < n → ¬ T < dv j) → (∃ j, j < n ∧ wv j = x) → ∃ j, j < n ∧ wv j = x ∧ dwl wv dv cv x T n = cv j := by
  intro n
  induction n with
  | zero =>
    rintro - ⟨j, h, -⟩
    exact absurd h (Nat.not_lt_zero j)
  | succ n ih =>
    intro h1 h2
    unfold dwl
    by_cases hw : wv n = x
    · rw [if_pos hw, if_neg (h1 n (Nat.lt_succ_self n))]
      exact ⟨n, Nat.lt_succ_self n, hw, rfl⟩
    · rw [if_neg hw]
      obtain ⟨j, j1, j2⟩ := h2
      have : j ≠ n := fun e => by subst e; exact hw j2
      obtain ⟨i, i1, i2, i3⟩ := ih (fun j hj => h1 j (by omega)) ⟨j, by omega, j2⟩
      exact ⟨i, by omega, i2, i3⟩
/-- the class's half of a state, but for the stage -/
def Ac0 (Fc F : GF) : Prop := (∀ f, f < 40 ∨ f = 48 ∨ f = 49 ∨ f = 50 → trF f = false → f ≠ 10 → Fc f = F f) ∧ ∀ i j, ¬ (i = 0 ∧ j = 0) → Fc 10 i j = F 10 i j
/-- the reference's half -/
def Am (Fm F : GF) : Prop := (∀ f, 40 < f ∨ f = 2 → trF f = false → Fm f = F f) ∧ ∀ j, j ≠ 37 → j ≠ 38 → j ≠ 43 → Fm 40 0 j = F 40 0 j
def UpC (F' F : GF) : Prop := (∀ f, 40 ≤ f ∨ f = 25 ∨ f = 2 → F' f = F f) ∧ F' 10 0 0 = F 10 0 0
def UpM (F' F : GF) : Prop := (∀ f, f < 40 ∨ f = 79 → F' f = F f) ∧ F' 40 0 43 = F 40 0 43
theorem UpC.refl (F : GF) : UpC F F := ⟨fun _ _ => rfl, rfl⟩
theorem UpM.refl (F : GF) : UpM F F := ⟨fun _ _ => rfl, rfl⟩
theorem UpC.trans {A B C : GF} (h : UpC A B) (h2 : UpC B C) : UpC A C := ⟨fun f hf => (h.1 f hf).trans (h2.1 f hf), h.2.trans h2.2⟩
theorem UpM.trans {A B C : GF} (h : UpM A B) (h2 : UpM B C) : UpM A C := ⟨fun f hf => (h.1 f hf).trans (h2.1 f hf), h.2.trans h2.2⟩
theorem fs_cong {G G' : GF} {a i k f : Nat} {v : Int32} (h : G f = G' f) : fs G a i k v f = fs G' a i k v f := by
  funext i1 k1
  rw [fs_app, fs_app, h]
/-- one who comes onto the roll -/
def rlF (F : GF) (p s : Nat) : GF := fs (fs (fs (fs F 13 0 p (nI s)) 14 0 s (F 14 0 s + 1)) 52 0 p (nI s)) 53 0 s (F 53 0 s + 1)
/-- what stays while the roll is made -/
def RK (m n N : Nat) (T : Int32) (F0 F : GF) : Prop := (∀ f, f ≠ 13 → f ≠ 14 → f ≠ 52 → f ≠ 53 → F f = F0 f) ∧ ∀ s, s < 5 → F 53 0 s = F 14 0 s
set_option maxHeartbeats 1000000 in
set_option maxRecDepth 20000 in
theorem roll_inv {k p s : Nat} {F : GF} (h : Inv k F) (hp : p < 20) (hs : s < 5) : Inv k (rlF F p s) := by
  obtain ⟨⟨q0, q1, q2, q3, q4, q5, q6, q7, q8, q9, q10, q11⟩, ⟨r0, r1, r2, r3, r4, r5, r6, r7, r8, r9, r10, r11, r12, r13, r14⟩, cb, lg⟩ := h
  refine ⟨⟨q0, q1, q2, q3, q4, q5, q6, ?_, q8, q9, q10, q11⟩, ⟨r0, r1, r2, r3, r4, ?_, ?_, r7, b_vot.fam (F := F) rfl rfl r8, r9, r10, r11, r12, r13, r14⟩, c_book.fam (F := F) rfl rfl rfl cb, lg⟩
  · unfold rlF
    refine ⟨fun q hq => ⟨?_, ?_⟩, fun u hu => ?_⟩
    · by_cases e : q = p
      · subst e
        simp (disch := omega) only [fs_ne, fs_eq]
      · simp (disch := omega) only [fs_ne]
        exact (q7.1 q hq).1
    · simp (disch := omega) only [fs_ne]
      exact (q7.1 q hq).2
    · by_cases e : u = s
      · subst e
        simp (disch := omega) only [fs_ne, fs_eq]
        rw [q7.2 u hu]
      · simp (disch := omega) only [fs_ne]
        exact q7.2 u hu
  · intro e he hse
    obtain ⟨⟨s1, h1, h2⟩, h3, h4⟩ := r5 e he hse
    refine ⟨?_, h3, h4⟩
    show ∃ s1, s1 < 5 ∧ rlF F p s 13 0 (F 17 0 e).toNatClampNeg = nI s1
    unfold rlF
    by_cases e2 : (F 17 0 e).toNatClampNeg = p
    · rw [e2]
      simp (disch := omega) only [fs_ne, fs_eq]
      exact ⟨s, hs, rfl⟩
    · simp (disch := omega) only [fs_ne]
      exact ⟨s1, h1, h2⟩
  · intro q hq
    unfold rlF
    by_cases e : q = p
    · subst e
      simp (disch := omega) only [fs_ne, fs_eq]
      exact Or.inr ⟨s, hs, rfl⟩
    · simp (disch := omega) only [fs_ne]
      exact r6 q hq
set_option maxHeartbeats 1000000 in
set_option maxRecDepth 20000 in
theorem roll_one {k m n N p d : Nat} {F : GF} (h : Inv k F) (hk : k < 512) (em : F 6 0 2 = nI m) (hm : m ≤ 5) (ee : F 10 0 4 = nI m) (en : F 0 0 2 = nI n) (hn : n ≤ 20) (hp : p < n) (ed : F 10 0 1 = nI d) (hd7 : 7 ≤ d) (hd : d ≤ 2000) (eN : F 38 0 0 = nI N) (hN : N ≤ 512) (hx : ∃ x, x < 36 ∧ dwl (F 48 0) (F 49 0) (F 50 0) (nI p) (nI (d - 7)) N = nI x) : ∃ F', Inv k F' ∧ (∀ f, f ≠ 13 → f ≠ 14 → f ≠ 52 → f ≠ 53 → F' f = F f) ∧ (∀ (Fc : GF) (q : Nat) (K : GF → Prop), Ac0 Fc F → (∀ Fc', Ac0 Fc' F' → UpC Fc' Fc → P_X10_makeRoll_27 K q Fc' (nI (d - 7)) (nI (p + 1))) → P_X10_makeRoll_27 K (q + 1) Fc (nI (d - 7)) (nI p)) ∧ (∀ (Fm : GF) (q : Nat) (K : GF → Prop), Am Fm F → (∀ Fm', Am Fm' F' → UpM Fm' Fm → P_X11_makesRoll_15 K q Fm' (nI (p + 1))) → P_X11_makesRoll_15 K (q + 1) Fm (nI p)) := by
  have hI := h
  obtain ⟨⟨q0, q1, q2, q3, q4, q5, q6, q7, q8, q9, q10, q11⟩, ⟨r0, r1, r2, r3, r4, r5, r6, r7, r8, r9, r10, r11, r12, r13, r14⟩, cb, lg⟩ := h
  have hp20 : p < 20 := by omega
  obtain ⟨t, g, dx, s, e, ht, et, -⟩ := r3
  have hlog := lg t et ht
  obtain ⟨-, eM, hst, hla⟩ := hlog.stays eN (by omega) (by omega)
  obtain ⟨x, hx36, ex⟩ := hx
  obtain ⟨m', hm', em2, hcr⟩ := r1
  have emm : m' = m := (nI_eq_iff (by omega) (by omega)).mp (em2.symm.trans em)
  subst emm
  by_cases hdead : F 33 p 2 = 0
  · by_cases hage : F 10 0 1 < F 33 p 0
    · -- not of age
      refine ⟨F, hI, fun _ _ _ _ _ => rfl, fun Fc q K hA hK => ?_, fun Fm q K hA hK => ?_⟩
      · have a33 := hA.1 33 (Or.inl (by decide)) rfl (by decide)
        have a0 := hA.1 0 (Or.inl (by decide)) rfl (by decide)
        unfold P_X10_makeRoll_27 P_X10_makeRoll_90
        rw [a0, en, if_neg (nI_ge hp (by omega)), nI_clamp' (by omega), a33, if_pos hdead, hA.2 0 1 (by decide), if_pos hage, ← nI_succ]
        exact ⟨nI_in hp20 (by omega), hK Fc hA (UpC.refl Fc)⟩
      · have a47 := hA.1 47 (Or.inl (by decide)) rfl
        have a46 := hA.1 46 (Or.inl (by decide)) rfl
        unfold P_X11_makesRoll_15 P_X11_makesRoll_86
        rw [hA.2 9 (by decide) (by decide) (by decide), q4.1, en, if_neg (nI_ge hp (by omega)), nI_clamp' (by omega), a47, (q4.2 p hp20).2, if_pos hdead, hA.2 15 (by decide) (by decide) (by decide), q5.2.1, a46, (q4.2 p hp20).1, if_pos hage, ← nI_succ]
        exact ⟨nI_in hp20 (by omega), nI_in hp20 (by omega), hK Fm hA (UpM.refl Fm)⟩
    · -- on the roll
      obtain ⟨sx, hsx, esx⟩ := chS_val (dd := fun j => farN F x (F 7 0 j).toNatClampNeg) (st := F 8 0) (cw := F 14 0) hm
      refine ⟨rlF F p sx, roll_inv hI hp20 hsx, fun f h1 h2 h3 h4 => by unfold rlF; rw [fs_fam h4, fs_fam h3, fs_fam h2, fs_fam h1], fun Fc q K hA hK => ?_, fun Fm q K hA hK => ?_⟩
      · have a : ∀ f, f < 40 ∨ f = 48 ∨ f = 49 ∨ f = 50 → trF f = false → f ≠ 10 → Fc f = F f := hA.1
        have a33 := a 33 (Or.inl (by decide)) rfl (by decide)
        have a0 := a 0 (Or.inl (by decide)) rfl (by decide)
        have a2 := a 2 (Or.inl (by decide)) rfl (by decide)
        have a6 := a 6 (Or.inl (by decide)) rfl (by decide)
        have a7 := a 7 (Or.inl (by decide)) rfl (by decide)
        have a8 := a 8 (Or.inl (by decide)) rfl (by decide)
        have a14 := a 14 (Or.inl (by decide)) rfl (by decide)
        have a38 := a 38 (Or.inl (by decide)) rfl (by decide)
        have a39 := a 39 (Or.inl (by decide)) rfl (by decide)
        have a48 := a 48 (by omega) rfl (by decide)
        have a49 := a 49 (by omega) rfl (by decide)
        have a50 := a 50 (by omega) rfl (by decide)
        unfold P_X10_makeRoll_27 P_X10_makeRoll_90
        rw [a0, en, if_neg (nI_ge hp (by omega)), nI_clamp' (by omega), a33, if_pos hdead, hA.2 0 1 (by decide), if_neg hage, ← nI_succ]
        refine ⟨nI_in hp20 (by omega), cr_run (n := N) (by rw [a38]; exact eN) (by omega) (by rw [a39, a48, a49, a50]; exact hst) (by rw [a33, a48]; exact hla p hp20) ?_⟩
        rw [a48, a49, a50, ex]
        refine mf_cls (by rw [a2]; exact r0) hx36 (fun F1 hF1 hy1 => ?_)
        refine cs_cls (m := m') (dd := fun j => farN F x (F 7 0 j).toNatClampNeg) (by rw [hF1 6 (by decide) (by decide), a6]; exact em) hm (fun j hj => ?_) ?_
        · obtain ⟨c, hc, ec⟩ := hcr j hj
          refine ⟨c, hc, by rw [hF1 7 (by decide) (by decide), a7]; exact ec, ?_⟩
          rw [hy1 c hc, farN_congr a2]
          show _ = farN F x (F 7 0 j).toNatClampNeg
          rw [ec, nI_clamp' (by omega)]
        · rw [hF1 8 (by decide) (by decide), hF1 14 (by decide) (by decide), a8, a14, esx]
          refine en_cls hp20 hsx ?_
          refine hK _ ⟨fun f hf ht10 h10 => ?_, fun i j hj => ?_⟩ ⟨fun f hf => ?_, ?_⟩
          · unfold rlF
            rw [fs_fam (show f ≠ 53 by omega), fs_fam (show f ≠ 52 by omega), hF1 14 (by decide) (by decide), a14]
            have h3 : f ≠ 3 := fun z => by rw [z] at ht10; cases ht10
            have h4 : f ≠ 4 := fun z => by rw [z] at ht10; cases ht10
            exact fs_cong (fs_cong ((hF1 f h3 h4).trans (a f hf ht10 h10)))
          · unfold rlF
            simp (disch := omega) only [fs_ne]
            rw [hF1 10 (by decide) (by decide)]
            exact hA.2 i j hj
          · rw [fs_fam (show f ≠ 14 by omega), fs_fam (show f ≠ 13 by omega)]
            exact hF1 f (by omega) (by omega)
          · simp (disch := omega) only [fs_ne]
            rw [hF1 10 (by decide) (by decide)]
      · have a : ∀ f, 40 < f ∨ f = 2 → trF f = false → Fm f = F f := hA.1
        have a47 := a 47 (Or.inl (by decide)) rfl
        have a46 := a 46 (Or.inl (by decide)) rfl
        have a41 := a 41 (Or.inl (by decide)) rfl
        have a44 := a 44 (Or.inl (by decide)) rfl
        have a45 := a 45 (Or.inl (by decide)) rfl
        have a48 := a 48 (Or.inl (by decide)) rfl
        have a49 := a 49 (Or.inl (by decide)) rfl
        have a50 := a 50 (Or.inl (by decide)) rfl
        have a53 := a 53 (Or.inl (by decide)) rfl
        have a2 := a 2 (Or.inr rfl) rfl
        have b : ∀ j, j ≠ 37 → j ≠ 38 → j ≠ 43 → Fm 40 0 j = F 40 0 j := hA.2
        unfold P_X11_makesRoll_15 P_X11_makesRoll_86
        rw [b 9 (by decide) (by decide) (by decide), q4.1, en, if_neg (nI_ge hp (by omega)), nI_clamp' (by omega), a47, (q4.2 p hp20).2, if_pos hdead, b 15 (by decide) (by decide) (by decide), q5.2.1, a46, (q4.2 p hp20).1, if_neg hage, ed, li7, nI_sub hd7, ← nI_succ]
        refine ⟨nI_in hp20 (by omega), nI_in hp20 (by omega), dw_run (n := N) (by rw [b 13 (by decide) (by decide) (by decide)]; exact eM) (by omega) ?_⟩
        rw [a48, a49, a50, ex]
        refine fd_mod (by rw [a41, a2]; exact q1) hx36 (fun F1 hF1 hy1 => ?_)
        have c40 : ∀ j, j ≠ 37 → j ≠ 38 → j ≠ 43 → F1 40 0 j = F 40 0 j := fun j h1 h2 h3 => by rw [hF1 40 (by decide) (by decide)]; exact b j h1 h2 h3
        refine sf_mod (m := m') (dd := fun j => farN F x (F 7 0 j).toNatClampNeg) (by rw [c40 19 (by decide) (by decide) (by decide), q5.2.2.2.2]; exact ee) hm (fun j hj => ?_) ?_
        · obtain ⟨c, hc, ec⟩ := hcr j hj
          refine ⟨c, hc, by rw [hF1 44 (by decide) (by decide), a44, (q2.2 j (by omega)).1]; exact ec, ?_⟩
          rw [hy1 c hc, farN_congr a2]
          show _ = farN F x (F 7 0 j).toNatClampNeg
          rw [ec, nI_clamp' (by omega)]
        · have e1 : chS (fun j => farN F x (F 7 0 j).toNatClampNeg) (F1 45 0) (F1 53 0) m' = nI sx := by
            rw [hF1 45 (by decide) (by decide), hF1 53 (by decide) (by decide), a45, a53, ← esx]
            exact chS_congr hm (fun j hj => ⟨rfl, (q2.2 j (by omega)).2, q7.2 j (by omega)⟩)
          rw [e1]
          refine ⟨nI_in hp20 (by omega), fun F15 e15 => ?_⟩
          have h15 : F15 52 0 p = nI sx := by rw [e15, fs_eq]
          rw [h15]
          refine ⟨nI_in hp20 (by omega), nI_in hsx (by omega), nI_in hsx (by omega), fun F19 e19 => ?_⟩
          rw [nI_clamp' (by omega)] at e19
          have h53 : F15 53 0 sx = F 53 0 sx := by rw [e15, fs_fam (by decide), hF1 53 (by decide) (by decide), a53]
          rw [h53, e15] at e19
          refine hK F19 ⟨fun f hf htf => ?_, fun j h1 h2 h3 => ?_⟩ ⟨fun f hf => ?_, ?_⟩
          · have h42 : f ≠ 42 := fun z => by rw [z] at htf; cases htf
            have h43 : f ≠ 43 := fun z => by rw [z] at htf; cases htf
            rw [e19]
            unfold rlF
            refine fs_cong (fs_cong ?_)
            rw [fs_fam (show f ≠ 14 by omega), fs_fam (show f ≠ 13 by omega)]
            exact (hF1 f h42 h43).trans (a f hf htf)
          · rw [e19]
            unfold rlF
            simp (disch := omega) only [fs_ne]
            exact c40 j h1 h2 h3
          · rw [e19, fs_fam (show f ≠ 53 by omega), fs_fam (show f ≠ 52 by omega)]
            exact hF1 f (by omega) (by omega)
          · rw [e19]
            simp (disch := omega) only [fs_ne]
            rw [hF1 40 (by decide) (by decide)]
  · -- dead
    refine ⟨F, hI, fun _ _ _ _ _ => rfl, fun Fc q K hA hK => ?_, fun Fm q K hA hK => ?_⟩
    · have a33 := hA.1 33 (Or.inl (by decide)) rfl (by decide)
      have a0 := hA.1 0 (Or.inl (by decide)) rfl (by decide)
      unfold P_X10_makeRoll_27 P_X10_makeRoll_90
      rw [a0, en, if_neg (nI_ge hp (by omega)), nI_clamp' (by omega), a33, if_neg hdead, ← nI_succ]
      exact ⟨nI_in hp20 (by omega), hK Fc hA (UpC.refl Fc)⟩
    · have a47 := hA.1 47 (Or.inl (by decide)) rfl
      unfold P_X11_makesRoll_15 P_X11_makesRoll_86
      rw [hA.2 9 (by decide) (by decide) (by decide), q4.1, en, if_neg (nI_ge hp (by omega)), nI_clamp' (by omega), a47, (q4.2 p hp20).2, if_neg hdead, ← nI_succ]
      exact ⟨nI_in hp20 (by omega), hK Fm hA (UpM.refl Fm)⟩
set_option maxHeartbeats 1000000 in
set_option maxRecDepth 20000 in
theorem roll_all {k m n N d : Nat} (hk : k < 512) (hm : m ≤ 5) (hn : n ≤ 20) (hd7 : 7 ≤ d) (hd : d ≤ 2000) (hN : N ≤ 512) : ∀ (u p : Nat) (F : GF), p + u = n → Inv k F → F 6 0 2 = nI m → F 10 0 4 = nI m → F 0 0 2 = nI n → F 10 0 1 = nI d → F 38 0 0 = nI N → (∀ p, p < n → ∃ x, x < 36 ∧ dwl (F 48 0) (F 49 0) (F 50 0) (nI p) (nI (d - 7)) N = nI x) → ∃ F', Inv k F' ∧ (∀ f, f ≠ 13 → f ≠ 14 → f ≠ 52 → f ≠ 53 → F' f = F f) ∧ (∀ (Fc : GF) (K : GF → Prop), Ac0 Fc F → (∀ Fc', Ac0 Fc' F' → UpC Fc' Fc → K Fc') → P_X10_makeRoll_27 K (u + 1) Fc (nI (d - 7)) (nI p)) ∧ (∀ (Fm : GF) (K : GF → Prop), Am Fm F → (∀ Fm', Am Fm' F' → UpM Fm' Fm → K Fm') → P_X11_makesRoll_15 K (u + 1) Fm (nI p)) := by
  intro u
  induction u with
  | zero =>
    intro p F hp h em ee en ed eN hx
    obtain rfl : p = n := by omega
    have q4 := h.1.2.2.2.2.1
    refine ⟨F, h, fun _ _ _ _ _ => rfl, fun Fc K hA hK => ?_, fun Fm K hA hK => ?_⟩
    · unfold P_X10_makeRoll_27
      rw [hA.1 0 (Or.inl (by decide)) rfl (by decide), en, if_pos (Int32.le_refl _)]
      exact hK Fc hA (UpC.refl Fc)
    · unfold P_X11_makesRoll_15
      rw [hA.2 9 (by decide) (by decide) (by decide), q4.1, en, if_pos (Int32.le_refl _)]
      exact hK Fm hA (UpM.refl Fm)
  | succ u ih =>
    intro p F hp h em ee en ed eN hx
    obtain ⟨F1, i1, f1, c1, m1⟩ := roll_one h hk em hm ee en hn (by omega) ed hd7 hd eN hN (hx p (by omega))
    obtain ⟨F2, i2, f2, c2, m2⟩ := ih (p + 1) F1 (by omega) i1 (by rw [f1 6 (by decide) (by decide) (by decide) (by decide)]; exact em) (by rw [f1 10 (by decide) (by decide) (by decide) (by decide)]; exact ee) (by rw [f1 0 (by decide) (by decide) (by decide) (by decide)]; exact en) (by rw [f1 10 (by decide) (by decide) (by decide) (by decide)]; exact ed) (by rw [f1 38 (by decide) (by decide) (by decide) (by decide)]; exact eN) (by rw [f1 48 (by decide) (by decide) (by decide) (by decide), f1 49 (by decide) (by decide) (by decide) (by decide), f1 50 (by decide) (by decide) (by decide) (by decide)]; exact hx)
    refine ⟨F2, i2, fun f h1 h2 h3 h4 => (f2 f h1 h2 h3 h4).trans (f1 f h1 h2 h3 h4), fun Fc K hA hK => ?_, fun Fm K hA hK => ?_⟩
    · exact c1 Fc (u + 1) K hA (fun Fc' hA' hU' => c2 Fc' K hA' (fun Fc'' hA'' hU'' => hK Fc'' hA'' (hU''.trans hU')))
    · exact m1 Fm (u + 1) K hA (fun Fm' hA' hU' => m2 Fm' K hA' (fun Fm'' hA'' hU'' => hK Fm'' hA'' (hU''.trans hU')))
