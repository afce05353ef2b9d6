theorem li1103 : (1103 : Int32) = nI 1103 := rfl
theorem li12345 : (12345 : Int32) = nI 12345 := rfl
theorem li65536 : (65536 : Int32) = nI 65536 := rfl
def updN (g : Nat → Nat) (p v : Nat) : Nat → Nat := fun q => if q = p then v else g q
/-- the greatest at the seats g -/
def gLs (V : Nat → Nat) (x : Int32) (g : Nat → Nat) : List Nat := fg V (fun p => dvN x (g p)) 5
def lk2 (n : Nat) : Nat := (n * 1103 + 12345) % 65536
def gPick (V : Nat → Nat) (x : Int32) (g : Nat → Nat) (lk : Nat) : Nat := if (gLs V x g).length ≤ 1 then (gLs V x g).getD 0 0 else (gLs V x g).getD (lk2 lk % (gLs V x g).length) 0
/-- seats, luck, lots, order after i seats -/
def gsq (V : Nat → Nat) (x : Int32) (l0 : Nat) : Nat → (Nat → Nat) × Nat × Nat × (Nat → Nat)
  | 0 => (fun _ => 0, l0, 0, fun _ => 0)
  | i + 1 => (updN (gsq V x l0 i).1 (gPick V x (gsq V x l0 i).1 (gsq V x l0 i).2.1) ((gsq V x l0 i).1 (gPick V x (gsq V x l0 i).1 (gsq V x l0 i).2.1) + 1), if (gLs V x (gsq V x l0 i).1).length ≤ 1 then (gsq V x l0 i).2.1 else lk2 (gsq V x l0 i).2.1, if (gLs V x (gsq V x l0 i).1).length ≤ 1 then (gsq V x l0 i).2.2.1 else (gsq V x l0 i).2.2.1 + 1, updN (gsq V x l0 i).2.2.2 i (gPick V x (gsq V x l0 i).1 (gsq V x l0 i).2.1))
theorem lk2_lt (n : Nat) : lk2 n < 65536 := Nat.mod_lt _ (by decide)
theorem gst_le {V : Nat → Nat} {x : Int32} {l0 : Nat} (h0 : l0 < 100000) : ∀ i, (∀ p, (gsq V x l0 i).1 p ≤ i) ∧ (gsq V x l0 i).2.1 < 100000 ∧ (gsq V x l0 i).2.2.1 ≤ i := by
  intro i
  induction i with
  | zero => exact ⟨fun _ => Nat.le_refl _, h0, Nat.le_refl _⟩
  | succ i ih =>
    obtain ⟨h1, h2, h3⟩ := ih
    refine ⟨fun p => ?_, ?_, ?_⟩
    · show updN _ _ _ p ≤ i + 1
      unfold updN
      split
      · exact Nat.succ_le_succ (h1 _)
      · exact Nat.le_succ_of_le (h1 p)
    · show (if _ then _ else _) < 100000
      split
      · exact h2
      · have := lk2_lt (gsq V x l0 i).2.1
        omega
    · show (if _ then _ else _) ≤ i + 1
      split
      · exact Nat.le_succ_of_le h3
      · exact Nat.succ_le_succ h3
theorem gLs_lt {V : Nat → Nat} {x : Int32} {g : Nat → Nat} : (∀ q ∈ gLs V x g, q < 5) ∧ (gLs V x g).length ≤ 5 := fg_lt 5
theorem getD_mem {l : List Nat} {i : Nat} (h : i < l.length) : l.getD i 0 ∈ l ∧ l[i]? = some (l.getD i 0) := by
  have e : l[i]? = some l[i] := List.getElem?_eq_getElem h
  have e2 : l.getD i 0 = l[i] := by
    rw [List.getD_eq_getElem?_getD, e]
    rfl
  rw [e2]
  exact ⟨List.getElem_mem h, e⟩
theorem gPick_lt {V : Nat → Nat} {x : Int32} {g : Nat → Nat} {lk : Nat} (h : 0 < (gLs V x g).length) : gPick V x g lk < 5 := by
  unfold gPick
  split
  · exact gLs_lt.1 _ (getD_mem h).1
  · exact gLs_lt.1 _ (getD_mem (Nat.mod_lt _ h)).1
theorem gLs_pos {V : Nat → Nat} {x : Int32} {g : Nat → Nat} (h : ∃ p, p < 5 ∧ 0 < V p) : 0 < (gLs V x g).length := by
  rcases fg_mb (V := V) (d := fun p => dvN x (g p)) (fun p => by unfold dvN; split <;> omega) 5 with ⟨h1, -⟩ | ⟨-, -, -, -, -, r, h6⟩ | h1
  · obtain ⟨p, a, b⟩ := h
    rw [h1 p a] at b
    exact absurd b (Nat.lt_irrefl 0)
  · unfold gLs
    rw [h6]
    simp
  · exact absurd h1 (by decide)
/-- the class's state after i seats -/
def GC (F0 : GF) (i : Nat) (st : (Nat → Nat) × Nat × Nat × (Nat → Nat)) (F : GF) : Prop := (∀ f, f ≠ 27 → f ≠ 35 → f ≠ 36 → f ≠ 37 → F f = F0 f) ∧ (∀ p, p < 5 → F 35 0 p = nI (st.1 p)) ∧ F 27 0 4 = nI i ∧ F 27 0 5 = nI st.2.2.1 ∧ F 27 0 6 = nI st.2.1 ∧ ∀ j, j < i → F 36 0 j = nI (st.2.2.2 j)
theorem np_cls {F0 F : GF} {V : Nat → Nat} {x : Int32} {l0 i : Nat} {K : Int32 → GF → Prop} (hl0 : l0 < 100000) (hi : i < 30) (hpos : ∃ p, p < 5 ∧ 0 < V p) (hV : ∀ q, q < 5 → V q ≤ 100 ∧ F0 34 0 q = nI (V q)) (hG : GC F0 i (gsq V x l0 i) F) (hK : ∀ F1, (∀ f, f ≠ 27 → f ≠ 37 → F1 f = F f) → F1 27 0 4 = F 27 0 4 → F1 27 0 5 = nI (gsq V x l0 (i + 1)).2.2.1 → F1 27 0 6 = nI (gsq V x l0 (i + 1)).2.1 → K (nI (gPick V x (gsq V x l0 i).1 (gsq V x l0 i).2.1)) F1) : P_X6_nextParty F x K := by
  obtain ⟨hF, h35, h4, h5, h6, h36⟩ := hG
  obtain ⟨b1, b2, b3⟩ := gst_le (V := V) (x := x) hl0 i
  have hp := gLs_pos (V := V) (x := x) (g := (gsq V x l0 i).1) hpos
  have hlt := gLs_lt (V := V) (x := x) (g := (gsq V x l0 i).1)
  unfold P_X6_nextParty
  refine fg_cls (V := V) (g := (gsq V x l0 i).1) (fun q hq => ⟨(hV q hq).1, by rw [hF 34 (by decide) (by decide) (by decide) (by decide)]; exact (hV q hq).2⟩) (fun q hq => ⟨by have := b1 q; omega, h35 q hq⟩) (fun F1 hF1 hT => ?_)
  have hT : TL (gLs V x (gsq V x l0 i).1) F1 := hT
  have eL : fg V (fun p => dvN x ((gsq V x l0 i).1 p)) 5 = gLs V x (gsq V x l0 i).1 := rfl
  rw [eL]
  show if (0 : Int32) < nI (gLs V x (gsq V x l0 i).1).length then _ else _
  have s1 : (gsq V x l0 (i + 1)).2.1 = if (gLs V x (gsq V x l0 i).1).length ≤ 1 then (gsq V x l0 i).2.1 else lk2 (gsq V x l0 i).2.1 := rfl
  have s2 : (gsq V x l0 (i + 1)).2.2.1 = if (gLs V x (gsq V x l0 i).1).length ≤ 1 then (gsq V x l0 i).2.2.1 else (gsq V x l0 i).2.2.1 + 1 := rfl
  have s3 : gPick V x (gsq V x l0 i).1 (gsq V x l0 i).2.1 = if (gLs V x (gsq V x l0 i).1).length ≤ 1 then (gLs V x (gsq V x l0 i).1).getD 0 0 else (gLs V x (gsq V x l0 i).1).getD (lk2 (gsq V x l0 i).2.1 % (gLs V x (gsq V x l0 i).1).length) 0 := rfl
  rw [s1, s2, s3] at hK
  generalize gLs V x (gsq V x l0 i).1 = l at *
  generalize (gsq V x l0 i).2.1 = lk at *
  generalize (gsq V x l0 i).2.2.1 = lt at *
  have hll := hlt.2
  rw [if_pos (show (0 : Int32) < nI l.length from nI_lt (a := 0) hp (by omega))]
  by_cases h1 : l.length ≤ 1
  · rw [if_pos h1, if_pos h1, if_pos h1] at hK
    have e1 : l.length = 1 := by omega
    rw [e1, if_pos (show nI 1 = 1 by decide)]
    refine ⟨by unfold vp_in; decide, ?_⟩
    obtain ⟨q, z1, z2⟩ := hT 0 (by omega)
    rw [show (0 : Int32).toNatClampNeg = 0 by decide, z2]
    have e2 := (getD_mem (l := l) (i := 0) (by omega)).2
    rw [z1] at e2
    rw [Option.some.inj e2]
    exact hK F1 (fun f _ hf => hF1 f hf) (by rw [hF1 27 (by decide)]) (by rw [hF1 27 (by decide)]; exact h5) (by rw [hF1 27 (by decide)]; exact h6)
  · rw [if_neg h1, if_neg h1, if_neg h1] at hK
    rw [if_neg (show ¬ nI l.length = 1 from fun q => h1 (by have := (nI_eq_iff (a := l.length) (b := 1) (by omega) (by omega)).mp q; omega))]
    unfold P_X6_drawLot
    have e27 : F1 27 0 6 = nI lk := by rw [hF1 27 (by decide)]; exact h6
    have e27b : F1 27 0 5 = nI lt := by rw [hF1 27 (by decide)]; exact h5
    have hb : lk * 1103 + 12345 < 2147483648 := by omega
    have hm : lk2 lk = (lk * 1103 + 12345) % 65536 := rfl
    have hm2 := lk2_lt lk
    have hpl : 0 < l.length := by omega
    have hdr : lk2 lk % l.length < l.length := Nat.mod_lt _ hpl
    intro A eA B eB
    have eA6 : A 27 0 6 = nI (lk2 lk) := by
      rw [eA, fs_eq, e27, li1103, li12345, li65536, nI_mul, nI_add, nI_mod hb (by omega), hm]
    have eA5 : A 27 0 5 = nI lt := by
      rw [eA, fs_ne (by omega)]
      exact e27b
    have eB6 : B 27 0 6 = nI (lk2 lk) := by
      rw [eB, fs_ne (by omega)]
      exact eA6
    rw [if_neg (show ¬ nI l.length ≤ 0 from nI_nle hpl (by omega))]
    refine ⟨nI_ne0 hpl (by omega), ?_⟩
    rw [eB6, nI_mod (by omega) (by omega)]
    show if nI (lk2 lk % l.length) < 0 then _ else _
    rw [if_neg (nI_pos (by omega)), if_pos (show nI (lk2 lk % l.length) < 5 from nI_lt (b := 5) (by omega) (by omega))]
    refine ⟨nI_in (by omega) (by omega), ?_⟩
    rw [nI_clamp' (by omega)]
    obtain ⟨q, z1, z2⟩ := hT _ hdr
    have z3 : B 37 0 (lk2 lk % l.length) = nI q := by
      rw [eB, eA, fs_fam (by decide), fs_fam (by decide)]
      exact z2
    rw [z3]
    have e2 := (getD_mem (l := l) (i := lk2 lk % l.length) hdr).2
    rw [z1] at e2
    rw [Option.some.inj e2]
    refine hK B (fun f h1 h2 => ?_) ?_ ?_ eB6
    · rw [eB, eA, fs_fam h1, fs_fam h1]
      exact hF1 f h2
    · rw [eB, eA, fs_ne (by omega), fs_ne (by omega), hF1 27 (by decide)]
    · rw [eB, fs_eq, eA5, nI_succ]
theorem gv_cls {F0 : GF} {V : Nat → Nat} {x : Int32} {l0 s : Nat} {K : GF → Prop} (hl0 : l0 < 100000) (hs : s ≤ 30) (hV : ∀ q, q < 5 → V q ≤ 100 ∧ F0 34 0 q = nI (V q)) (hK : ∀ F n, ((∃ p, p < 5 ∧ 0 < V p) ∧ n = s ∨ (∀ p, p < 5 → V p = 0) ∧ n = 0) → GC F0 n (gsq V x l0 n) F → K F) : P_X6_give F0 (nI s) x (nI l0) K := by
  unfold P_X6_give
  intro A eA B eB C eC D eD
  refine ⟨s + 1, ?_⟩
  have hD : GC F0 0 (gsq V x l0 0) D := by
    refine ⟨fun f h1 h2 h3 h4 => ?_, fun p hp => ?_, ?_, ?_, ?_, fun j hj => absurd hj (Nat.not_lt_zero j)⟩
    · rw [eD, eC, eB, eA, fs_fam h1, fs_fam h1, fs_fam h1, ffill_fam h2]
    · rw [eD, eC, eB, eA, fs_fam (by decide), fs_fam (by decide), fs_fam (by decide), ffill_in hp]
      rfl
    · rw [eD, eC, eB]
      simp (disch := omega) only [fs_ne, fs_eq]
      rfl
    · rw [eD, eC]
      simp (disch := omega) only [fs_ne, fs_eq]
      rfl
    · rw [eD, fs_eq]
      rfl
  by_cases hpos : ∃ p, p < 5 ∧ 0 < V p
  · have key : ∀ m i F, i + m = s → GC F0 i (gsq V x l0 i) F → P_X6_give_26 K (m + 1) F (nI s) x (nI i) := by
      intro m
      induction m with
      | zero =>
        intro i F hi hG
        obtain rfl : i = s := by omega
        unfold P_X6_give_26
        rw [if_pos (Int32.le_refl _)]
        exact hK F i (Or.inl ⟨hpos, rfl⟩) hG
      | succ m ih =>
        intro i F hi hG
        unfold P_X6_give_26
        rw [if_neg (nI_ge (by omega) (by omega)), if_neg (show ¬ (30 : Int32) ≤ nI i from nI_ge (b := 30) (by omega) (by omega))]
        refine np_cls hl0 (by omega) hpos hV hG (fun F1 h1 h2 h3 h4 => ?_)
        obtain ⟨hF, g35, g4, g5, g6, g36⟩ := hG
        obtain ⟨b1, b2, b3⟩ := gst_le (V := V) (x := x) hl0 i
        have hp5 : gPick V x (gsq V x l0 i).1 (gsq V x l0 i).2.1 < 5 := gPick_lt (gLs_pos hpos)
        have e1 : (gsq V x l0 (i + 1)).1 = updN (gsq V x l0 i).1 (gPick V x (gsq V x l0 i).1 (gsq V x l0 i).2.1) ((gsq V x l0 i).1 (gPick V x (gsq V x l0 i).1 (gsq V x l0 i).2.1) + 1) := rfl
        have e2 : (gsq V x l0 (i + 1)).2.2.2 = updN (gsq V x l0 i).2.2.2 i (gPick V x (gsq V x l0 i).1 (gsq V x l0 i).2.1) := rfl
        have hgst := ih (i + 1)
        generalize gPick V x (gsq V x l0 i).1 (gsq V x l0 i).2.1 = p at *
        have b1p := b1 p
        rw [if_neg (nI_pos (by omega)), if_pos (show nI p < 5 from nI_lt (b := 5) (by omega) (by omega)), nI_clamp' (by omega), nI_clamp' (by omega)]
        refine ⟨nI_in (by omega) (by omega), fun F13 e13 => ⟨nI_in (by omega) (by omega), nI_in (by omega) (by omega), fun F16 e16 F17 e17 => ?_⟩⟩
        have e35 : F13 35 0 p = nI ((gsq V x l0 i).1 p) := by
          rw [e13, fs_fam (by decide), h1 35 (by decide) (by decide)]
          exact g35 p hp5
        rw [← nI_succ]
        refine hgst F17 (by omega) ⟨fun f a1 a2 a3 a4 => ?_, fun q hq => ?_, ?_, ?_, ?_, fun j hj => ?_⟩
        · rw [e17, e16, e13, fs_fam a1, fs_fam a2, fs_fam a3, h1 f a1 a4]
          exact hF f a1 a2 a3 a4
        · rw [e17, fs_fam (by decide), e16, e1]
          unfold updN
          by_cases e : q = p
          · subst e
            rw [fs_eq, if_pos rfl, e35, nI_succ]
          · rw [fs_ne (Or.inr (Or.inr e)), if_neg e, e13, fs_fam (by decide), h1 35 (by decide) (by decide)]
            exact g35 q hq
        · rw [e17, fs_eq, e16, e13, fs_fam (by decide), fs_fam (by decide), h2, g4, nI_succ]
        · rw [e17, fs_ne (by omega), e16, e13, fs_fam (by decide), fs_fam (by decide)]
          exact h3
        · rw [e17, fs_ne (by omega), e16, e13, fs_fam (by decide), fs_fam (by decide)]
          exact h4
        · rw [e17, e16, fs_fam (by decide), fs_fam (by decide), e13, e2]
          unfold updN
          by_cases e : j = i
          · subst e
            rw [fs_eq, if_pos rfl]
          · rw [fs_ne (Or.inr (Or.inr e)), if_neg e, h1 36 (by decide) (by decide)]
            exact g36 j (by omega)
    exact key s 0 D (by omega) hD
  · have hz : ∀ p, p < 5 → V p = 0 := by
      intro p hp
      by_cases h : V p = 0
      · exact h
      · exact absurd ⟨p, hp, Nat.pos_of_ne_zero h⟩ hpos
    unfold P_X6_give_26
    by_cases hs0 : nI s ≤ 0
    · rw [if_pos hs0]
      exact hK D 0 (Or.inr ⟨hz, rfl⟩) hD
    · rw [if_neg hs0, if_neg (show ¬ (30 : Int32) ≤ 0 by decide)]
      unfold P_X6_nextParty
      refine fg_cls (V := V) (g := fun _ => 0) (fun q hq => ⟨(hV q hq).1, by rw [hD.1 34 (by decide) (by decide) (by decide) (by decide)]; exact (hV q hq).2⟩) (fun q hq => ⟨by omega, hD.2.1 q hq⟩) (fun F1 hF1 hT => ?_)
      have hnil : fg V (fun p => dvN x ((fun _ => 0) p)) 5 = [] := by
        have hn : ∀ j, j ≤ 5 → fg V (fun p => dvN x ((fun _ => 0) p)) j = [] := by
          intro j
          induction j with
          | zero => intro _; rfl
          | succ j ih =>
            intro hj
            unfold fg
            rw [if_pos (hz j (by omega)), ih (by omega)]
        exact hn 5 (Nat.le_refl 5)
      rw [hnil, if_neg (show ¬ (0 : Int32) < nI ([] : List Nat).length by decide)]
      show if (-1 : Int32) < 0 then _ else _
      rw [if_pos (show (-1 : Int32) < 0 by decide)]
      refine hK F1 0 (Or.inr ⟨hz, rfl⟩) ⟨fun f a1 a2 a3 a4 => (hF1 f a4).trans (hD.1 f a1 a2 a3 a4), fun p hp => ?_, ?_, ?_, ?_, fun j hj => absurd hj (Nat.not_lt_zero j)⟩
      · rw [hF1 35 (by decide)]
        exact hD.2.1 p hp
      · rw [hF1 27 (by decide)]
        exact hD.2.2.1
      · rw [hF1 27 (by decide)]
        exact hD.2.2.2.1
      · rw [hF1 27 (by decide)]
        exact hD.2.2.2.2.1
