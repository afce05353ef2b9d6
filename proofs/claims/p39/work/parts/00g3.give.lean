/-- the r-th from p on of those that E holds of -/
def nthE (E : Nat → Prop) [DecidablePred E] : Nat → Nat → Nat → Option Nat
  | 0, _, _ => none
  | m + 1, p, r => if E p then (if r = 0 then some p else nthE E m (p + 1) (r - 1)) else nthE E m (p + 1) r
theorem nthE_range (E : Nat → Prop) [DecidablePred E] : ∀ m p r, ((List.range' p m).filter (fun q => decide (E q)))[r]? = nthE E m p r := by
  intro m
  induction m with
  | zero => intro p r; rfl
  | succ m ih =>
    intro p r
    unfold nthE
    rw [List.range'_succ]
    by_cases h : E p
    · rw [if_pos h, List.filter_cons_of_pos (by exact decide_eq_true h)]
      cases r with
      | zero => rfl
      | succ r =>
        rw [if_neg (Nat.succ_ne_zero r), List.getElem?_cons_succ, Nat.add_sub_cancel]
        exact ih (p + 1) r
    · rw [if_neg h, List.filter_cons_of_neg (by simpa using h)]
      exact ih (p + 1) r
theorem eqs_nth {V d : Nat → Nat} {b : Nat} (hb : b ≤ 5) (r : Nat) : (eqs V d b 5)[r]? = nthE (fun q => b ≤ q ∧ V b * d q = V q * d b) (5 - b) b r := by
  have h1 : (eqs V d b 5)[r]? = nthE (fun q => b ≤ q ∧ V b * d q = V q * d b) 5 0 r := by
    rw [← nthE_range]
    unfold eqs
    rw [List.range_eq_range']
  rw [h1]
  have h2 : ∀ k, k ≤ b → nthE (fun q => b ≤ q ∧ V b * d q = V q * d b) 5 0 r = nthE (fun q => b ≤ q ∧ V b * d q = V q * d b) (5 - k) k r := by
    intro k
    induction k with
    | zero => intro _; rfl
    | succ k ih =>
      intro hk
      rw [ih (by omega)]
      obtain ⟨m, hm⟩ : ∃ m, 5 - k = m + 1 := ⟨5 - k - 1, by omega⟩
      have hm2 : 5 - (k + 1) = m := by omega
      rw [hm, hm2]
      conv => lhs; unfold nthE
      rw [if_neg (by omega)]
  exact h2 b (Nat.le_refl b)
/-- the reference's state after i seats -/
def GM (V : Nat → Nat) (F0 : GF) (i : Nat) (st : (Nat → Nat) × Nat × Nat × (Nat → Nat)) (F : GF) : Prop := (∀ f, f ≠ 65 → f ≠ 66 → f ≠ 67 → f ≠ 40 → F f = F0 f) ∧ (∀ j, j ≠ 37 → j ≠ 38 → F 40 0 j = F0 40 0 j) ∧ (∀ p, p < 5 → F 65 0 p = nI (V p)) ∧ (∀ p, p < 5 → F 66 0 p = nI (st.1 p)) ∧ F 40 0 37 = nI i ∧ F 40 0 38 = nI st.2.2.1 ∧ ∀ j, j < i → F 67 0 j = nI (st.2.2.2 j)
theorem mb_run {F : GF} {V g : Nat → Nat} {x2 x3 : Int32} {k149 : GF → Int32 → Int32 → Prop} {K : GF → Prop} (hV : ∀ q, q < 5 → V q ≤ 100 ∧ F 65 0 q = nI (V q)) (hg : ∀ q, q < 5 → g q ≤ 30 ∧ F 66 0 q = nI (g q)) (hK : if nI (mb V (fun p => dvN (F 40 0 17) (g p)) 5).2 ≤ 1 then P_X11_gives_280 k149 K F x2 x3 (nI (mb V (fun p => dvN (F 40 0 17) (g p)) 5).1) 0 else ∀ y27 : Int32, y27 = (((x2 * 1103) + 12345) - ((x2 * 1103) + 12345) / 65536 * 65536) → (¬ nI (mb V (fun p => dvN (F 40 0 17) (g p)) 5).2 = 0 ∧ (∀ F29 : GF, F29 = fs F 40 0 38 ((F 40 0 38) + 1) → (P_X11_gives_280 k149 K F29 y27 x3 (nI (mb V (fun p => dvN (F 40 0 17) (g p)) 5).1) (y27 - y27 / nI (mb V (fun p => dvN (F 40 0 17) (g p)) 5).2 * nI (mb V (fun p => dvN (F 40 0 17) (g p)) 5).2))))) : ∀ m j, j + m = 5 → P_X11_gives_173 k149 K (m + 1) F x2 x3 (nI (mb V (fun p => dvN (F 40 0 17) (g p)) j).1) (nI (mb V (fun p => dvN (F 40 0 17) (g p)) j).2) (nI j) := by
  intro m
  induction m with
  | zero =>
    intro j hj
    obtain rfl : j = 5 := by omega
    unfold P_X11_gives_173
    rw [if_pos (show (5 : Int32) ≤ nI 5 by decide)]
    exact hK
  | succ m ih =>
    intro j hj
    have hnx := ih (j + 1) (by omega)
    have hlt := mb_lt (V := V) (d := fun p => dvN (F 40 0 17) (g p)) j
    unfold P_X11_gives_173
    rw [if_neg (show ¬ (5 : Int32) ≤ nI j from nI_ge (b := 5) (by omega) (by omega))]
    unfold mb at hnx
    rw [nI_succ] at hnx
    generalize hbt : mb V (fun p => dvN (F 40 0 17) (g p)) j = bt at *
    obtain ⟨b, t⟩ := bt
    simp only at hlt hnx ⊢
    have hb5 : b < 5 := by omega
    have hj5 : j < 5 := by omega
    have b1 := mul_le_6100 (hV j hj5).1 (dvN_le (x := F 40 0 17) (hg b hb5).1).1
    have b2 := mul_le_6100 (hV b hb5).1 (dvN_le (x := F 40 0 17) (hg j hj5).1).1
    refine by_mod (V := V) (g := g) hj5 hb5 hV hg ?_
    by_cases hgt : V b * dvN (F 40 0 17) (g j) < V j * dvN (F 40 0 17) (g b)
    · rw [if_pos hgt] at hnx
      rw [if_neg (show ¬ nI (V j * dvN (F 40 0 17) (g b)) - nI (V b * dvN (F 40 0 17) (g j)) ≤ 0 from fun q => by have := (dif_le (by omega) (by omega)).mp q; omega)]
      unfold P_X11_gives_214 P_X11_gives_234
      refine by_mod (V := V) (g := g) hj5 hb5 hV hg ?_
      rw [if_neg (show ¬ nI (V j * dvN (F 40 0 17) (g b)) - nI (V b * dvN (F 40 0 17) (g j)) ≤ 0 from fun q => by have := (dif_le (by omega) (by omega)).mp q; omega)]
      exact hnx
    · rw [if_neg hgt] at hnx
      have hle : nI (V j * dvN (F 40 0 17) (g b)) - nI (V b * dvN (F 40 0 17) (g j)) ≤ 0 := (dif_le (by omega) (by omega)).mpr (by omega)
      rw [if_pos hle]
      refine by_mod (V := V) (g := g) hj5 hb5 hV hg ?_
      by_cases heq : V b * dvN (F 40 0 17) (g j) = V j * dvN (F 40 0 17) (g b)
      · rw [if_pos heq] at hnx
        rw [if_pos (show nI (V j * dvN (F 40 0 17) (g b)) - nI (V b * dvN (F 40 0 17) (g j)) = 0 from (dif_eq (by omega) (by omega)).mpr heq.symm)]
        unfold P_X11_gives_214 P_X11_gives_234
        refine by_mod (V := V) (g := g) hj5 hb5 hV hg ?_
        rw [if_pos hle]
        rw [nI_succ] at hnx
        exact hnx
      · rw [if_neg heq] at hnx
        rw [if_neg (show ¬ nI (V j * dvN (F 40 0 17) (g b)) - nI (V b * dvN (F 40 0 17) (g j)) = 0 from fun q => heq ((dif_eq (by omega) (by omega)).mp q).symm)]
        unfold P_X11_gives_214 P_X11_gives_234
        refine by_mod (V := V) (g := g) hj5 hb5 hV hg ?_
        rw [if_pos hle]
        exact hnx
theorem sel_run {F : GF} {V g : Nat → Nat} {x2 x3 : Int32} {b q : Nat} {k149 : GF → Int32 → Int32 → Prop} {K : GF → Prop} (hb5 : b < 5) (hV : ∀ q, q < 5 → V q ≤ 100 ∧ F 65 0 q = nI (V q)) (hg : ∀ q, q < 5 → g q ≤ 30 ∧ F 66 0 q = nI (g q)) (hK : q < 5 → ∀ F23 : GF, F23 = fs F 66 0 q ((F 66 0 q) + 1) → (vp_in (F23 40 0 37) 30 ∧ (∀ F25 : GF, F25 = fs F23 67 0 (F23 40 0 37).toNatClampNeg (nI q) → (∀ F26 : GF, F26 = fs F25 40 0 37 ((F25 40 0 37) + 1) → (k149 F26 x2 x3))))) : ∀ m p r, p + m = 5 → b ≤ p → r < 100 → nthE (fun q => b ≤ q ∧ V b * dvN (F 40 0 17) (g q) = V q * dvN (F 40 0 17) (g b)) m p r = some q → P_X11_gives_284 k149 K m F x2 x3 (nI b) (nI r) (nI p) := by
  intro m
  induction m with
  | zero => intro p r _ _ _ h; cases h
  | succ m ih =>
    intro p r hp hbp hr h
    have hp5 : p < 5 := by omega
    have b1 := mul_le_6100 (hV p hp5).1 (dvN_le (x := F 40 0 17) (hg b hb5).1).1
    have b2 := mul_le_6100 (hV b hb5).1 (dvN_le (x := F 40 0 17) (hg p hp5).1).1
    unfold nthE at h
    unfold P_X11_gives_284
    by_cases hE : b ≤ p ∧ V b * dvN (F 40 0 17) (g p) = V p * dvN (F 40 0 17) (g b)
    · rw [if_pos hE] at h
      have hz : nI (V p * dvN (F 40 0 17) (g b)) - nI (V b * dvN (F 40 0 17) (g p)) = 0 := (dif_eq (by omega) (by omega)).mpr hE.2.symm
      by_cases h0 : r = 0
      · subst h0
        rw [if_pos rfl] at h
        obtain rfl : p = q := Option.some.inj h
        rw [if_neg (show ¬ (0 : Int32) < nI 0 by decide)]
        refine by_mod (V := V) (g := g) hp5 hb5 hV hg ?_
        rw [if_pos hz, nI_clamp' (by omega)]
        exact ⟨nI_in (by omega) (by omega), nI_in (by omega) (by omega), hK hp5⟩
      · rw [if_neg h0] at h
        rw [if_pos (show (0 : Int32) < nI r from nI_lt (a := 0) (by omega) (by omega))]
        unfold P_X11_gives_300 P_X11_gives_318
        refine by_mod (V := V) (g := g) hp5 hb5 hV hg ?_
        rw [if_pos hz, ← nI_succ, show nI r - 1 = nI (r - 1) from nI_sub (a := r) (b := 1) (by omega)]
        exact ih (p + 1) (r - 1) (by omega) (by omega) (by omega) h
    · rw [if_neg hE] at h
      have hnz : ¬ nI (V p * dvN (F 40 0 17) (g b)) - nI (V b * dvN (F 40 0 17) (g p)) = 0 := fun z => hE ⟨hbp, ((dif_eq (by omega) (by omega)).mp z).symm⟩
      have hgo : P_X11_gives_300 k149 (fun F a0 a1 a2 a3 a4 => P_X11_gives_284 k149 K m F a0 a1 a2 a3 a4) K F x2 x3 (nI b) (nI r) (nI p) := by
        unfold P_X11_gives_300 P_X11_gives_318
        refine by_mod (V := V) (g := g) hp5 hb5 hV hg ?_
        rw [if_neg hnz, ← nI_succ, show nI r - 0 = nI r from nI_sub (a := r) (b := 0) (Nat.zero_le _)]
        exact ih (p + 1) r (by omega) (by omega) hr h
      by_cases h0 : r = 0
      · subst h0
        rw [if_neg (show ¬ (0 : Int32) < nI 0 by decide)]
        refine by_mod (V := V) (g := g) hp5 hb5 hV hg ?_
        rw [if_neg hnz]
        exact hgo
      · rw [if_pos (show (0 : Int32) < nI r from nI_lt (a := 0) (by omega) (by omega))]
        exact hgo
/-- all seats, by the reference -/
theorem gv_mod {F0 : GF} {V : Nat → Nat} {l0 s : Nat} {K : GF → Prop} (hl0 : l0 < 100000) (hs : s ≤ 30) (hVb : ∀ q, q < 5 → V q ≤ 100) (h16 : F0 40 0 16 = nI s) (hpos : ∃ p, p < 5 ∧ 0 < V p) (hK : ∀ F, GM V F0 s (gsq V (F0 40 0 17) l0 s) F → K F) : ∀ m i F, i + m = s → GM V F0 i (gsq V (F0 40 0 17) l0 i) F → P_X11_gives_149 K (m + 1) F (nI (gsq V (F0 40 0 17) l0 i).2.1) 1 := by
  intro m
  induction m with
  | zero =>
    intro i F hi hG
    obtain rfl : i = s := by omega
    unfold P_X11_gives_149
    rw [if_neg (show ¬ (1 : Int32) = 0 by decide), hG.2.1 16 (by decide) (by decide), h16, hG.2.2.2.2.1, if_pos (Int32.le_refl _)]
    exact hK F hG
  | succ m ih =>
    intro i F hi hG
    have hnx := ih (i + 1)
    obtain ⟨hF, h40, h65, h66, h37, h38, h67⟩ := hG
    obtain ⟨b1, b2, b3⟩ := gst_le (V := V) (x := F0 40 0 17) hl0 i
    have h17 : F 40 0 17 = F0 40 0 17 := h40 17 (by decide) (by decide)
    unfold P_X11_gives_149
    rw [if_neg (show ¬ (1 : Int32) = 0 by decide), h40 16 (by decide) (by decide), h16, h37, if_neg (nI_ge (by omega) (by omega))]
    refine ⟨6, ?_⟩
    have hV : ∀ q, q < 5 → V q ≤ 100 ∧ F 65 0 q = nI (V q) := fun q hq => ⟨hVb q hq, h65 q hq⟩
    have hg : ∀ q, q < 5 → (gsq V (F0 40 0 17) l0 i).1 q ≤ 30 ∧ F 66 0 q = nI ((gsq V (F0 40 0 17) l0 i).1 q) := fun q hq => ⟨by have := b1 q; omega, h66 q hq⟩
    have hdp : ∀ p, 0 < (fun p => dvN (F0 40 0 17) ((gsq V (F0 40 0 17) l0 i).1 p)) p := fun p => by
      show 0 < dvN _ _
      unfold dvN
      split <;> omega
    have hm0 : mb V (fun p => dvN (F 40 0 17) ((gsq V (F0 40 0 17) l0 i).1 p)) 0 = (0, 0) := rfl
    have hrun := mb_run (F := F) (V := V) (g := (gsq V (F0 40 0 17) l0 i).1) (x2 := nI (gsq V (F0 40 0 17) l0 i).2.1) (x3 := 1) (k149 := fun F a0 a1 => P_X11_gives_149 K (m + 1) F a0 a1) (K := K) hV hg
    rw [h17] at hrun
    refine hrun ?_ 5 0 rfl
    rcases fg_mb (V := V) (d := fun p => dvN (F0 40 0 17) ((gsq V (F0 40 0 17) l0 i).1 p)) hdp 5 with ⟨z1, -⟩ | ⟨-, e1, e2, e3, e4, r, e5⟩ | z
    · obtain ⟨p, a, c⟩ := hpos
      rw [z1 p a] at c
      exact absurd c (Nat.lt_irrefl 0)
    · have hgl : gLs V (F0 40 0 17) (gsq V (F0 40 0 17) l0 i).1 = fg V (fun p => dvN (F0 40 0 17) ((gsq V (F0 40 0 17) l0 i).1 p)) 5 := rfl
      have hlt := gLs_lt (V := V) (x := F0 40 0 17) (g := (gsq V (F0 40 0 17) l0 i).1)
      have hpl := gLs_pos (V := V) (x := F0 40 0 17) (g := (gsq V (F0 40 0 17) l0 i).1) hpos
      have s0 : (gsq V (F0 40 0 17) l0 (i + 1)).1 = updN (gsq V (F0 40 0 17) l0 i).1 (gPick V (F0 40 0 17) (gsq V (F0 40 0 17) l0 i).1 (gsq V (F0 40 0 17) l0 i).2.1) ((gsq V (F0 40 0 17) l0 i).1 (gPick V (F0 40 0 17) (gsq V (F0 40 0 17) l0 i).1 (gsq V (F0 40 0 17) l0 i).2.1) + 1) := rfl
      have s1 : (gsq V (F0 40 0 17) l0 (i + 1)).2.1 = if (gLs V (F0 40 0 17) (gsq V (F0 40 0 17) l0 i).1).length ≤ 1 then (gsq V (F0 40 0 17) l0 i).2.1 else lk2 (gsq V (F0 40 0 17) l0 i).2.1 := rfl
      have s2 : (gsq V (F0 40 0 17) l0 (i + 1)).2.2.1 = if (gLs V (F0 40 0 17) (gsq V (F0 40 0 17) l0 i).1).length ≤ 1 then (gsq V (F0 40 0 17) l0 i).2.2.1 else (gsq V (F0 40 0 17) l0 i).2.2.1 + 1 := rfl
      have s3 : gPick V (F0 40 0 17) (gsq V (F0 40 0 17) l0 i).1 (gsq V (F0 40 0 17) l0 i).2.1 = if (gLs V (F0 40 0 17) (gsq V (F0 40 0 17) l0 i).1).length ≤ 1 then (gLs V (F0 40 0 17) (gsq V (F0 40 0 17) l0 i).1).getD 0 0 else (gLs V (F0 40 0 17) (gsq V (F0 40 0 17) l0 i).1).getD (lk2 (gsq V (F0 40 0 17) l0 i).2.1 % (gLs V (F0 40 0 17) (gsq V (F0 40 0 17) l0 i).1).length) 0 := rfl
      have s4 : (gsq V (F0 40 0 17) l0 (i + 1)).2.2.2 = updN (gsq V (F0 40 0 17) l0 i).2.2.2 i (gPick V (F0 40 0 17) (gsq V (F0 40 0 17) l0 i).1 (gsq V (F0 40 0 17) l0 i).2.1) := rfl
      rw [hgl] at hlt hpl s1 s2 s3
      rw [← e2]
      have hpick : ∀ r, r < (fg V (fun p => dvN (F0 40 0 17) ((gsq V (F0 40 0 17) l0 i).1 p)) 5).length → nthE (fun q => (mb V (fun p => dvN (F0 40 0 17) ((gsq V (F0 40 0 17) l0 i).1 p)) 5).1 ≤ q ∧ V (mb V (fun p => dvN (F0 40 0 17) ((gsq V (F0 40 0 17) l0 i).1 p)) 5).1 * dvN (F0 40 0 17) ((gsq V (F0 40 0 17) l0 i).1 q) = V q * dvN (F0 40 0 17) ((gsq V (F0 40 0 17) l0 i).1 (mb V (fun p => dvN (F0 40 0 17) ((gsq V (F0 40 0 17) l0 i).1 p)) 5).1)) (5 - (mb V (fun p => dvN (F0 40 0 17) ((gsq V (F0 40 0 17) l0 i).1 p)) 5).1) (mb V (fun p => dvN (F0 40 0 17) ((gsq V (F0 40 0 17) l0 i).1 p)) 5).1 r = some ((fg V (fun p => dvN (F0 40 0 17) ((gsq V (F0 40 0 17) l0 i).1 p)) 5).getD r 0) := by
        intro r hr
        have z1 := eqs_nth (V := V) (d := fun p => dvN (F0 40 0 17) ((gsq V (F0 40 0 17) l0 i).1 p)) (b := (mb V (fun p => dvN (F0 40 0 17) ((gsq V (F0 40 0 17) l0 i).1 p)) 5).1) (by omega) r
        rw [← e1] at z1
        exact z1.symm.trans (getD_mem hr).2
      -- what follows a pick
      have hafter : ∀ (G : GF) (lk lt q : Nat), (∀ f, f ≠ 40 → G f = F f) → (∀ j, j ≠ 38 → G 40 0 j = F 40 0 j) → G 40 0 38 = nI lt → gPick V (F0 40 0 17) (gsq V (F0 40 0 17) l0 i).1 (gsq V (F0 40 0 17) l0 i).2.1 = q → (gsq V (F0 40 0 17) l0 (i + 1)).2.1 = lk → (gsq V (F0 40 0 17) l0 (i + 1)).2.2.1 = lt → q < 5 → ∀ F23 : GF, F23 = fs G 66 0 q ((G 66 0 q) + 1) → (vp_in (F23 40 0 37) 30 ∧ (∀ F25 : GF, F25 = fs F23 67 0 (F23 40 0 37).toNatClampNeg (nI q) → (∀ F26 : GF, F26 = fs F25 40 0 37 ((F25 40 0 37) + 1) → (P_X11_gives_149 K (m + 1) F26 (nI lk) 1)))) := by
        intro G lk lt q g1 g2 g3 p1 p2 p3 hq5 F23 e23
        have g37 : F23 40 0 37 = nI i := by
          rw [e23, fs_fam (by decide), g2 37 (by decide)]
          exact h37
        rw [g37, nI_clamp' (by omega)]
        refine ⟨nI_in (by omega) (by omega), fun F25 e25 F26 e26 => ?_⟩
        have hq66 : G 66 0 q = nI ((gsq V (F0 40 0 17) l0 i).1 q) := by
          rw [g1 66 (by decide)]
          exact h66 q hq5
        have hgoal := hnx F26 (by omega) ⟨fun f a1 a2 a3 a4 => ?_, fun j a1 a2 => ?_, fun p hp => ?_, fun p hp => ?_, ?_, ?_, fun j hj => ?_⟩
        · rw [p2] at hgoal
          exact hgoal
        · rw [e26, e25, e23, fs_fam a4, fs_fam a3, fs_fam a2, g1 f a4]
          exact hF f a1 a2 a3 a4
        · rw [e26, fs_ne (Or.inr (Or.inr a1)), e25, e23, fs_fam (by decide), fs_fam (by decide), g2 j a2]
          exact h40 j a1 a2
        · rw [e26, e25, e23, fs_fam (by decide), fs_fam (by decide), fs_fam (by decide), g1 65 (by decide)]
          exact h65 p hp
        · rw [e26, e25, fs_fam (by decide), fs_fam (by decide), e23, s0, p1]
          unfold updN
          by_cases e : p = q
          · subst e
            rw [fs_eq, if_pos rfl, hq66, nI_succ]
          · rw [fs_ne (Or.inr (Or.inr e)), if_neg e, g1 66 (by decide)]
            exact h66 p hp
        · rw [e26, fs_eq, e25, fs_fam (by decide), g37, nI_succ]
        · rw [e26, fs_ne (by omega), e25, e23, fs_fam (by decide), fs_fam (by decide), g3, p3]
        · rw [e26, e25, fs_fam (by decide), s4, p1]
          unfold updN
          by_cases e : j = i
          · subst e
            rw [fs_eq, if_pos rfl]
          · rw [fs_ne (Or.inr (Or.inr e)), if_neg e, e23, fs_fam (by decide), g1 67 (by decide)]
            exact h67 j (by omega)
      clear hnx hrun
      generalize hlg : fg V (fun p => dvN (F0 40 0 17) ((gsq V (F0 40 0 17) l0 i).1 p)) 5 = l at *
      have hll := hlt.2
      by_cases h1 : l.length ≤ 1
      · rw [if_pos h1] at s1 s2 s3
        have e1' : l.length = 1 := by omega
        rw [e1', if_pos (show nI 1 ≤ 1 by decide)]
        refine ⟨5 - (mb V (fun p => dvN (F0 40 0 17) ((gsq V (F0 40 0 17) l0 i).1 p)) 5).1, ?_⟩
        refine sel_run (V := V) (g := (gsq V (F0 40 0 17) l0 i).1) (q := l.getD 0 0) e4 hV hg (hafter F _ _ _ (fun _ _ => rfl) (fun _ _ => rfl) (by rw [h38, ← s2]) s3 s1 s2.symm.symm) _ _ 0 (by omega) (Nat.le_refl _) (by decide) ?_
        rw [h17]
        exact hpick 0 (by omega)
      · rw [if_neg h1] at s1 s2 s3
        rw [if_neg (show ¬ nI l.length ≤ 1 from fun z => h1 (by have := (nI_le_iff (a := l.length) (b := 1) (by omega) (by omega)).mp z; omega))]
        intro y27 ey
        have hlb : (gsq V (F0 40 0 17) l0 i).2.1 * 1103 + 12345 < 2147483648 := by omega
        have hy : y27 = nI (lk2 (gsq V (F0 40 0 17) l0 i).2.1) := by
          rw [ey, li1103, li12345, li65536, nI_mul, nI_add, nI_mod hlb (by omega)]
          rfl
        have hm2 := lk2_lt (gsq V (F0 40 0 17) l0 i).2.1
        rw [hy, nI_mod (by omega) (by omega)]
        have hdr : lk2 (gsq V (F0 40 0 17) l0 i).2.1 % l.length < l.length := Nat.mod_lt _ (by omega)
        refine ⟨nI_ne0 (by omega) (by omega), fun F29 e29 => ?_⟩
        have k17 : F29 40 0 17 = F0 40 0 17 := by rw [e29, fs_ne (by omega)]; exact h17
        refine ⟨5 - (mb V (fun p => dvN (F0 40 0 17) ((gsq V (F0 40 0 17) l0 i).1 p)) 5).1, ?_⟩
        refine sel_run (V := V) (g := (gsq V (F0 40 0 17) l0 i).1) (q := l.getD (lk2 (gsq V (F0 40 0 17) l0 i).2.1 % l.length) 0) e4 (fun q hq => ⟨hVb q hq, by rw [e29, fs_fam (by decide)]; exact h65 q hq⟩) (fun q hq => ⟨(hg q hq).1, by rw [e29, fs_fam (by decide)]; exact h66 q hq⟩) (hafter F29 _ _ _ (fun f hf => by rw [e29, fs_fam hf]) (fun j hj => by rw [e29, fs_ne (Or.inr (Or.inr hj))]) (by rw [e29, fs_eq, h38, s2, nI_succ]) s3 s1 rfl) _ _ _ (by omega) (Nat.le_refl _) (by omega) ?_
        rw [k17]
        exact hpick _ hdr
    · exact absurd z (by decide)
