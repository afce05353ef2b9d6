theorem ffill_in {F : GF} {f i n k : Nat} {v : Int32} (h : k < n) : ffill F f i n v f i k = v := by
  rw [ffill_app, if_pos ⟨rfl, rfl, h⟩]
theorem ffill_ne {F : GF} {f i n f1 i1 k1 : Nat} {v : Int32} (h : f1 ≠ f ∨ i1 ≠ i ∨ n ≤ k1) : ffill F f i n v f1 i1 k1 = F f1 i1 k1 := by
  rw [ffill_app, if_neg]
  rintro ⟨rfl, rfl, h3⟩
  rcases h with h | h | h
  · exact h rfl
  · exact h rfl
  · omega
/-- boxes cleared up to j -/
def ClB (F : GF) (j : Nat) (F1 : GF) : Prop := (∀ f, f ≠ 28 → F1 f = F f) ∧ ∀ s, s < j → F1 28 s 1 = 0 ∧ F1 28 s 4 = 0 ∧ F1 28 s 5 = -1
theorem clB_run {F : GF} {K : GF → Prop} (hK : ∀ F1, ClB F 5 F1 → K (fs F1 21 0 4 0)) : ∀ m j F1, j + m = 5 → ClB F j F1 → P_X2_start_51 K (m + 1) F1 (nI j) := by
  intro m
  induction m with
  | zero =>
    intro j F1 hj hc
    obtain rfl : j = 5 := by omega
    unfold P_X2_start_51
    rw [if_pos (show (5 : Int32) ≤ nI 5 by decide)]
    intro F13 e
    rw [e]
    exact hK F1 hc
  | succ m ih =>
    intro j F1 hj hc
    have hcl : (nI j).toNatClampNeg = j := nI_clamp' (by omega)
    unfold P_X2_start_51
    rw [if_neg (show ¬ (5 : Int32) ≤ nI j from nI_ge (b := 5) (by omega) (by omega))]
    refine ⟨nI_in (by omega) (by omega), ?_⟩
    unfold P_X1_clear
    rw [hcl]
    intro A eA B eB C eC
    rw [← nI_succ]
    refine ih (j + 1) C (by omega) ⟨fun f hf => ?_, fun s hs => ?_⟩
    · rw [eC, eB, eA, fs_fam hf, fs_fam hf, fs_fam hf]
      exact hc.1 f hf
    · rw [eC, eB, eA]
      by_cases e : s = j
      · subst e
        refine ⟨?_, ?_, ?_⟩ <;> simp (disch := omega) only [fs_ne, fs_eq]
      · obtain ⟨h1, h2, h3⟩ := hc.2 s (by omega)
        refine ⟨?_, ?_, ?_⟩ <;> simp (disch := omega) only [fs_ne]
        · exact h1
        · exact h2
        · exact h3
def ClP (F : GF) (j : Nat) (F1 : GF) : Prop := (∀ f, f ≠ 52 → f ≠ 54 → F1 f = F f) ∧ ∀ s, s < j → F1 52 0 s = -1 ∧ F1 54 0 s = 0
def ClS (F : GF) (j : Nat) (F1 : GF) : Prop := (∀ f, f ≠ 51 → f ≠ 53 → f ≠ 59 → f ≠ 62 → f ≠ 63 → F1 f = F f) ∧ ∀ s, s < j → F1 51 0 s = 0 ∧ F1 53 0 s = 0 ∧ F1 59 0 s = 0 ∧ F1 62 0 s = 0 ∧ F1 63 0 s = -1
theorem clS_run {F : GF} {K : GF → Prop} (hK : ∀ F1, ClS F 5 F1 → K F1) : ∀ m j F1, j + m = 5 → ClS F j F1 → P_X11_clears_45 K (m + 1) F1 (nI j) := by
  intro m
  induction m with
  | zero =>
    intro j F1 hj hc
    obtain rfl : j = 5 := by omega
    unfold P_X11_clears_45
    rw [if_pos (show (5 : Int32) ≤ nI 5 by decide)]
    exact hK F1 hc
  | succ m ih =>
    intro j F1 hj hc
    have hcl : (nI j).toNatClampNeg = j := nI_clamp' (by omega)
    have hv : vp_in (nI j) 5 := nI_in (by omega) (by omega)
    unfold P_X11_clears_45
    rw [if_neg (show ¬ (5 : Int32) ≤ nI j from nI_ge (b := 5) (by omega) (by omega)), hcl]
    refine ⟨hv, fun A eA => ⟨hv, fun B eB => ⟨hv, fun C eC => ⟨hv, fun D eD => ⟨hv, fun E eE => ?_⟩⟩⟩⟩⟩
    rw [← nI_succ]
    refine ih (j + 1) E (by omega) ⟨fun f h1 h2 h3 h4 h5 => ?_, fun s hs => ?_⟩
    · rw [eE, eD, eC, eB, eA, fs_fam h5, fs_fam h4, fs_fam h3, fs_fam h2, fs_fam h1]
      exact hc.1 f h1 h2 h3 h4 h5
    · rw [eE, eD, eC, eB, eA]
      by_cases e : s = j
      · subst e
        refine ⟨?_, ?_, ?_, ?_, ?_⟩ <;> simp (disch := omega) only [fs_ne, fs_eq]
      · obtain ⟨h1, h2, h3, h4, h5⟩ := hc.2 s (by omega)
        refine ⟨?_, ?_, ?_, ?_, ?_⟩ <;> simp (disch := omega) only [fs_ne]
        · exact h1
        · exact h2
        · exact h3
        · exact h4
        · exact h5
theorem clP_run {F : GF} {K : GF → Prop} (hK : ∀ F1, ClP F 20 F1 → ∀ F2, ClS F1 5 F2 → K F2) : ∀ m j F1, j + m = 20 → ClP F j F1 → P_X11_clears_17 K (m + 1) F1 (nI j) := by
  intro m
  induction m with
  | zero =>
    intro j F1 hj hc
    obtain rfl : j = 20 := by omega
    unfold P_X11_clears_17
    rw [if_pos (show (20 : Int32) ≤ nI 20 by decide)]
    exact ⟨6, clS_run (F := F1) (hK F1 hc) 5 0 F1 rfl ⟨fun _ _ _ _ _ _ => rfl, fun s hs => absurd hs (Nat.not_lt_zero s)⟩⟩
  | succ m ih =>
    intro j F1 hj hc
    have hcl : (nI j).toNatClampNeg = j := nI_clamp' (by omega)
    have hv : vp_in (nI j) 20 := nI_in (by omega) (by omega)
    unfold P_X11_clears_17
    rw [if_neg (show ¬ (20 : Int32) ≤ nI j from nI_ge (b := 20) (by omega) (by omega)), hcl]
    refine ⟨hv, fun A eA => ⟨hv, fun B eB => ?_⟩⟩
    rw [← nI_succ]
    refine ih (j + 1) B (by omega) ⟨fun f h1 h2 => ?_, fun s hs => ?_⟩
    · rw [eB, eA, fs_fam h2, fs_fam h1]
      exact hc.1 f h1 h2
    · rw [eB, eA]
      by_cases e : s = j
      · subst e
        refine ⟨?_, ?_⟩ <;> simp (disch := omega) only [fs_ne, fs_eq]
      · obtain ⟨h1, h2⟩ := hc.2 s (by omega)
        refine ⟨?_, ?_⟩ <;> simp (disch := omega) only [fs_ne]
        · exact h1
        · exact h2
theorem clears_run {F : GF} {K : GF → Prop} (hK : ∀ F1, ClP (fs (fs (fs F 40 0 19 0) 40 0 26 0) 40 0 42 0) 20 F1 → ∀ F2, ClS F1 5 F2 → K F2) : P_X11_clears F K := by
  intro A eA B eB C eC
  rw [eC, eB, eA]
  exact ⟨21, clP_run hK 20 0 _ rfl ⟨fun _ _ _ => rfl, fun s hs => absurd hs (Nat.not_lt_zero s)⟩⟩
theorem ffill_0 {F : GF} {f i : Nat} {v : Int32} : ffill F f i 0 v = F := by
  funext f1 i1 k1
  simp [ffill]
theorem ffill_succ {F : GF} {f i k : Nat} {v : Int32} : fs (ffill F f i k v) f i k v = ffill F f i (k + 1) v := by
  funext f1 i1 k1
  simp only [fs, ffill]
  by_cases h : f1 = f ∧ i1 = i
  · obtain ⟨rfl, rfl⟩ := h
    by_cases h2 : k1 = k
    · subst h2
      simp
    · by_cases h3 : k1 < k
      · simp [h2, h3, Nat.lt_succ_of_lt h3]
      · have h4 : ¬ k1 < k + 1 := by omega
        simp [h2, h3, h4]
  · rw [if_neg (fun q => h ⟨q.1, q.2.1⟩), if_neg (fun q => h ⟨q.1, q.2.1⟩), if_neg (fun q => h ⟨q.1, q.2.1⟩)]
theorem clV_run {F : GF} {K : GF → Prop} (hK : K (ffill F 15 0 20 0)) : ∀ m j, j + m = 20 → P_X5_clear_18 K (m + 1) (ffill F 15 0 j 0) (nI j) := by
  intro m
  induction m with
  | zero =>
    intro j hj
    obtain rfl : j = 20 := by omega
    unfold P_X5_clear_18
    rw [if_pos (show (20 : Int32) ≤ nI 20 by decide)]
    exact hK
  | succ m ih =>
    intro j hj
    have hcl : (nI j).toNatClampNeg = j := nI_clamp' (by omega)
    unfold P_X5_clear_18
    rw [if_neg (show ¬ (20 : Int32) ≤ nI j from nI_ge (b := 20) (by omega) (by omega)), hcl]
    refine ⟨nI_in (by omega) (by omega), fun A eA => ?_⟩
    rw [eA, ffill_succ, ← nI_succ]
    exact ih (j + 1) (by omega)
theorem clear_run {F : GF} {K : GF → Prop} (hK : K (ffill (ffill (ffill F 13 0 20 (-1)) 14 0 5 0) 15 0 20 0)) : P_X5_clear F K := by
  intro A eA B eB
  rw [eB, eA]
  have h := clV_run hK 20 0 rfl
  rw [ffill_0] at h
  exact ⟨21, h⟩
theorem start_run {F : GF} {d s o : Int32} {K : GF → Prop} (ho : o = 0 ∨ o = 1) (hK : ∀ F1, ClB (fs (ffill (ffill (ffill (ffill (fs (fs (fs (fs (fs F 10 0 0 1) 10 0 1 d) 10 0 2 s) 10 0 3 o) 10 0 4 0) 11 0 5 0) 13 0 20 (-1)) 14 0 5 0) 15 0 20 0) 16 0 3 0) 5 F1 → K (fs F1 21 0 4 0)) : P_X2_start F d s o K := by
  unfold P_X2_start
  intro A eA B eB C eC
  refine ⟨ho, fun D eD E eE G eG => clear_run (fun L eL => ?_)⟩
  rw [eL, eG, eE, eD, eC, eB, eA]
  exact ⟨6, clB_run hK 5 0 _ rfl ⟨fun _ _ => rfl, fun s hs => absurd hs (Nat.not_lt_zero s)⟩⟩
set_option maxHeartbeats 1000000 in
set_option maxRecDepth 20000 in
theorem call_inv {k t y u : Nat} {OO : Int32} {F G3 : GF} (hk : k < 512) (hI : Inv k F) (et : F 0 0 5 = nI t) (ht : t ≤ 2100) (hy : 8 ≤ y) (hty : t + y ≤ 2000) (hu : u ≤ 30) (e40 : ∀ j, j ≠ 19 → j ≠ 26 → j ≠ 42 → j ≠ 43 → G3 40 0 j = F 40 0 j) (f10 : G3 10 = (fs (fs (fs (fs (fs F 10 0 0 1) 10 0 1 (nI (t + y))) 10 0 2 (nI u)) 10 0 3 OO) 10 0 4 0) 10) (f11 : ∀ q, q < 5 → G3 11 0 q = 0) (f13 : ∀ q, q < 20 → G3 13 0 q = -1) (f14 : ∀ q, q < 5 → G3 14 0 q = 0) (f15 : ∀ q, q < 20 → G3 15 0 q = 0) (f16 : G3 16 0 3 = 0) (f21 : G3 21 0 4 = 0) (f28 : ∀ q, q < 5 → G3 28 q 1 = 0 ∧ G3 28 q 4 = 0 ∧ G3 28 q 5 = -1) (f19 : G3 40 0 19 = 0 ∧ G3 40 0 26 = 0 ∧ G3 40 0 42 = 0) (f52 : ∀ q, q < 20 → G3 52 0 q = -1 ∧ G3 54 0 q = 0) (hG3c : ∀ s, s < 5 → G3 51 0 s = 0 ∧ G3 53 0 s = 0 ∧ G3 59 0 s = 0 ∧ G3 62 0 s = 0 ∧ G3 63 0 s = -1) (fo : ∀ f, f ≠ 10 → f ≠ 11 → f ≠ 13 → f ≠ 14 → f ≠ 15 → f ≠ 16 → f ≠ 21 → f ≠ 28 → f ≠ 79 → f ≠ 40 → f ≠ 52 → f ≠ 54 → f ≠ 51 → f ≠ 53 → f ≠ 59 → f ≠ 62 → f ≠ 63 → G3 f = F f) : Inv (k + 1) (fs (fs (fs (fs G3 40 0 14 (nI 1)) 40 0 15 (nI (t + y))) 40 0 16 (nI u)) 40 0 17 OO) := by
  obtain ⟨⟨q0, q1, q2, q3, q4, q5, q6, q7, q8, q9, q10, q11⟩, ⟨r0, r1, r2, r3, r4, r5, r6, r7, r8, r9, r10, r11, r12, r13, r14⟩, cb, lg⟩ := hI
  generalize hH : fs (fs (fs (fs G3 40 0 14 (nI 1)) 40 0 15 (nI (t + y))) 40 0 16 (nI u)) 40 0 17 OO = H
  have g : ∀ f, f ≠ 40 → H f = G3 f := fun f hf => by rw [← hH, fs_fam hf, fs_fam hf, fs_fam hf, fs_fam hf]
  have h40 : ∀ j, j ≠ 14 → j ≠ 15 → j ≠ 16 → j ≠ 17 → H 40 0 j = G3 40 0 j := fun j h1 h2 h3 h4 => by rw [← hH, fs_ne (by omega), fs_ne (by omega), fs_ne (by omega), fs_ne (by omega)]
  have k14 : H 40 0 14 = nI 1 := by rw [← hH]; simp (disch := omega) only [fs_ne, fs_eq]
  have k15 : H 40 0 15 = nI (t + y) := by rw [← hH]; simp (disch := omega) only [fs_ne, fs_eq]
  have k16 : H 40 0 16 = nI u := by rw [← hH]; simp (disch := omega) only [fs_ne, fs_eq]
  have k17 : H 40 0 17 = OO := by rw [← hH]; simp (disch := omega) only [fs_ne, fs_eq]
  have u0 : H 10 0 0 = 1 := by rw [g 10 (by decide), f10]; simp (disch := omega) only [fs_ne, fs_eq]
  have u1 : H 10 0 1 = nI (t + y) := by rw [g 10 (by decide), f10]; simp (disch := omega) only [fs_ne, fs_eq]
  have u2 : H 10 0 2 = nI u := by rw [g 10 (by decide), f10]; simp (disch := omega) only [fs_ne, fs_eq]
  have u3 : H 10 0 3 = OO := by rw [g 10 (by decide), f10]; simp (disch := omega) only [fs_ne, fs_eq]
  have u4 : H 10 0 4 = 0 := by rw [g 10 (by decide), f10]; simp (disch := omega) only [fs_ne, fs_eq]
  have k0 : ∀ j, j ≠ 14 → j ≠ 15 → j ≠ 16 → j ≠ 17 → j ≠ 19 → j ≠ 26 → j ≠ 42 → j ≠ 43 → H 40 0 j = F 40 0 j := fun j h1 h2 h3 h4 h5 h6 h7 h8 => (h40 j h1 h2 h3 h4).trans (e40 j h5 h6 h7 h8)
  have k19 : H 40 0 19 = 0 := (h40 19 (by decide) (by decide) (by decide) (by decide)).trans f19.1
  have k26 : H 40 0 26 = 0 := (h40 26 (by decide) (by decide) (by decide) (by decide)).trans f19.2.1
  have k42 : H 40 0 42 = 0 := (h40 42 (by decide) (by decide) (by decide) (by decide)).trans f19.2.2
  have i11 : ∀ q, q < 5 → H 11 0 q = 0 := fun q hq => by rw [g 11 (by decide)]; exact f11 q hq
  have i13 : ∀ q, q < 20 → H 13 0 q = -1 := fun q hq => by rw [g 13 (by decide)]; exact f13 q hq
  have i14 : ∀ q, q < 5 → H 14 0 q = 0 := fun q hq => by rw [g 14 (by decide)]; exact f14 q hq
  have i15 : ∀ q, q < 20 → H 15 0 q = 0 := fun q hq => by rw [g 15 (by decide)]; exact f15 q hq
  have i16 : H 16 0 3 = 0 := by rw [g 16 (by decide)]; exact f16
  have i21 : H 21 0 4 = 0 := by rw [g 21 (by decide)]; exact f21
  have i28 : ∀ q, q < 5 → H 28 q 1 = 0 ∧ H 28 q 4 = 0 ∧ H 28 q 5 = -1 := fun q hq => by rw [g 28 (by decide)]; exact f28 q hq
  have i52 : ∀ q, q < 20 → H 52 0 q = -1 ∧ H 54 0 q = 0 := fun q hq => by rw [g 52 (by decide), g 54 (by decide)]; exact f52 q hq
  have i51 : ∀ s, s < 5 → H 51 0 s = 0 ∧ H 53 0 s = 0 ∧ H 59 0 s = 0 ∧ H 62 0 s = 0 ∧ H 63 0 s = -1 := fun s hs => by rw [g 51 (by decide), g 53 (by decide), g 59 (by decide), g 62 (by decide), g 63 (by decide)]; exact hG3c s hs
  have o : ∀ f, f ∈ [0, 2, 6, 7, 8, 9, 17, 18, 19, 22, 23, 24, 25, 29, 30, 32, 33, 38, 39, 41, 44, 45, 46, 47, 48, 49, 50, 55, 56, 57, 58, 60, 61, 64, 68, 69, 70] → H f = F f := by
    intro f hf
    simp only [List.mem_cons, List.not_mem_nil, or_false] at hf
    rw [g f (by omega), fo f (by omega) (by omega) (by omega) (by omega) (by omega) (by omega) (by omega) (by omega) (by omega) (by omega) (by omega) (by omega) (by omega) (by omega) (by omega) (by omega) (by omega)]
  have o0 := o 0 (by decide)
  refine ⟨⟨?_, ?_, ?_, ?_, ?_, ?_, ?_, ?_, ?_, ?_, ?_, ?_⟩, ⟨?_, ?_, ?_, ?_, ?_, ?_, ?_, ?_, ?_, ?_, ?_, ?_, ?_, ?_, ?_⟩, ?_, ?_⟩
  · unfold t_now; rw [k0 0 (by decide) (by decide) (by decide) (by decide) (by decide) (by decide) (by decide) (by decide), o0]; exact q0
  · unfold t_bar; rw [o 41 (by decide), o 2 (by decide)]; exact q1
  · unfold t_st; rw [k0 6 (by decide) (by decide) (by decide) (by decide) (by decide) (by decide) (by decide) (by decide), o 6 (by decide), o 7 (by decide), o 8 (by decide), o 44 (by decide), o 45 (by decide)]; exact q2
  · unfold t_slip; rw [o 64 (by decide), o 9 (by decide)]; exact q3
  · unfold t_pe; rw [k0 9 (by decide) (by decide) (by decide) (by decide) (by decide) (by decide) (by decide) (by decide), o0, o 46 (by decide), o 47 (by decide), o 33 (by decide)]; exact q4
  · exact ⟨k14.trans u0.symm, k15.trans u1.symm, k16.trans u2.symm, k17.trans u3.symm, k19.trans u4.symm⟩
  · intro q hq; rw [(i51 q hq).1, i11 q hq]
  · exact ⟨fun q hq => ⟨(i52 q hq).1.trans (i13 q hq).symm, (i52 q hq).2.trans (i15 q hq).symm⟩, fun q hq => (i51 q hq).2.1.trans (i14 q hq).symm⟩
  · unfold t_env; rw [o 55 (by decide), o 56 (by decide), o 57 (by decide), o 17 (by decide), o 18 (by decide), o 19 (by decide)]; exact ⟨k26.trans i16.symm, q8.2⟩
  · intro q hq
    rw [o 58 (by decide), o 29 (by decide), o 61 (by decide), o 30 (by decide)]
    exact ⟨(i51 q hq).2.2.1.trans (i28 q hq).1.symm, (i51 q hq).2.2.2.1.trans (i28 q hq).2.1.symm, (q9 q hq).2.2⟩
  · unfold t_num; rw [o 60 (by decide), o 32 (by decide)]; exact q10
  · unfold t_book; rw [o 68 (by decide), o 69 (by decide), o 70 (by decide), o 22 (by decide), o 23 (by decide), o 24 (by decide)]; exact ⟨k42.trans i21.symm, q11.2⟩
  · unfold b_bar; rw [o 2 (by decide)]; exact r0
  · unfold b_st; rw [o 6 (by decide), o 7 (by decide)]; exact r1
  · unfold b_pe; rw [o0]; exact r2
  · obtain ⟨m, hm, em, -⟩ := r1
    exact ⟨t, 1, t + y, u, 0, ht, by rw [o0]; exact et, by omega, u0, by omega, u1, hu, u2, by omega, u4, ⟨m, by omega, hm, by rw [o 6 (by decide)]; exact em⟩, fun _ => by omega, fun z => absurd z (by decide), fun z => absurd z (by decide)⟩
  · unfold b_env; rw [o 17 (by decide), o 18 (by decide)]; exact ⟨⟨0, by omega, i16⟩, r4.2⟩
  · intro e he hs
    have := hs.1
    rw [i16] at this
    exact absurd this (nI_pos (by omega))
  · exact fun q hq => Or.inl (i13 q hq)
  · intro q hq
    rw [o 29 (by decide)]
    exact ⟨⟨0, by omega, (i28 q hq).2.1⟩, Or.inl ⟨(i28 q hq).2.2, (i51 q hq).2.2.2.2⟩, (r7 q hq).2.2⟩
  · exact fun q hq => ⟨0, Nat.zero_le _, (i28 q hq).1⟩
  · unfold b_num; rw [o 32 (by decide)]; exact r9
  · intro z; rw [u0] at z; exact absurd z (by decide)
  · unfold b_book; rw [o 22 (by decide), o 23 (by decide), o 24 (by decide)]; exact r11
  · exact fun q hq => ⟨0, by omega, i11 q hq⟩
  · unfold b_sb; rw [o 25 (by decide)]; exact r13
  · exact fun _ => i15
  · exact ⟨0, 0, i21, i16, by omega, by show 0 + 0 ≤ k + 1 + 0; omega⟩
  · intro t2 h1 h2
    rw [o0] at h1
    refine c_log_mono (c_log_eq (lg t2 h1 h2) ?_ ?_ ?_ ?_ ?_ ?_ ?_ ?_)
    · rw [o0]
    · rw [o 38 (by decide)]
    · exact k0 13 (by decide) (by decide) (by decide) (by decide) (by decide) (by decide) (by decide) (by decide)
    · exact o 48 (by decide)
    · exact o 49 (by decide)
    · exact o 50 (by decide)
    · exact o 39 (by decide)
    · intro q; rw [o 33 (by decide)]
set_option maxHeartbeats 1000000 in
set_option maxRecDepth 20000 in
theorem m8 {k : Nat} {F : GF} (hk : k < 512) (h : Inv k F) (a1 a2 a3 : Int32) : PL_8 a1 a2 a3 (Inv (k + 1)) F := by
  have hI := h
  obtain ⟨⟨q0, q1, q2, q3, q4, q5, q6, q7, q8, q9, q10, q11⟩, ⟨r0, r1, r2, r3, r4, r5, r6, r7, r8, r9, r10, r11, r12, r13, r14⟩, cb, lg⟩ := h
  have R1 := r1
  have R2 := r2
  have R3 := r3
  have R4 := r4
  obtain ⟨m, hm, em, hmc⟩ := r1
  have em' : F 40 0 6 = nI m := q2.1.trans em
  obtain ⟨n, hn, en⟩ := r2
  have en' : F 40 0 9 = nI n := q4.1.trans en
  obtain ⟨t, g, d, s, e, ht, et, hg, eg, hd, ed, hs, es, he, ee, hem, hg1, hg2, hg3⟩ := r3
  have et' : F 40 0 0 = nI t := q0.trans et
  have eg' : F 40 0 14 = nI g := q5.1.trans eg
  have ed' : F 40 0 15 = nI d := q5.2.1.trans ed
  have es' : F 40 0 16 = nI s := q5.2.2.1.trans es
  have eo' : F 40 0 17 = F 10 0 3 := q5.2.2.2.1
  have ee' : F 40 0 19 = nI e := q5.2.2.2.2.trans ee
  obtain ⟨⟨v, hv, ev⟩, hev⟩ := r4
  have ev' : F 40 0 26 = nI v := q8.1.trans ev
  have hlog := lg t et ht
  obtain ⟨N, hN, eN⟩ := hlog.n (by omega)
  obtain ⟨-, eM, hst, hla⟩ := hlog.stays eN (by omega) (by omega)
  by_cases h3 : a3 = nI 0
  · rcases int_cases a1 with hneg_y | ⟨y, hbig_y, rfl⟩
    · rcases int_cases a2 with hneg_u | ⟨u, hbig_u, rfl⟩
      · first
          | exfalso; omega
          | simp (disch := first | omega | assumption) only [PL_8, P_L_law_797, P_L_law_830, P_L_call, P_X10_call, P_X10_call_46, P_X11_call, P_X11_call_25, P_X11_call_26, P_X11_call_51, P_X11_call_74, P_X11_call_75, P_X10_needRange, P_X11_in, P_X11_asked, P_X11_asked_10, P_X11_asked_, P_X11_asked__18, P_X11_asked__, P_X11_asked___26, P_X11_thrown, P_X11_told, ↓reduceIte, ↓forall_eq, ↓hold_ca, ↓hold_cam, ↓hold_cl, ↓hold_se, ↓hold_sem, ↓hold_st, ↓hold_wr, ↓hold_wrm, li0, li1, li2, li3, li4, li5, li6, li7, li8, li10, li20, li30, li35, li36, li60, li72, li100, li572, li2000, li2100, li9999, nI_lt_t, nI_lt_f, nI_le_t, nI_le_f, nI_eq_t, nI_eq_f, nI_eq_neg2, neg_eq_nI2, neg_lt2, neg_le2, nI_lt_neg2, nI_le_neg2, pred_t, pred_f, nI_clamp', vp_t, lt0_t, lt0_le, lt0_lt, lt0_eq, if_true, if_false, ite_true, ite_false, true_and, and_true, false_and, and_false, false_or, or_false, true_or, or_true, eq_self, fs_ne, fs_eq, fs_eq', st12, st13, st21, st23, st31, st32, not_true_eq_false, not_false_eq_true, em, em', en, en', et, et', eg, eg', ed, ed', es, es', eo', ee, ee', ev, ev', h3, nI_add]
            refine hI.end ?_
            repeat (first | exact Sm.refl _ | refine Sm.fs40 ?_ _ _ (by decide) | refine Sm.fsT ?_ _ _ _ _ rfl (by decide) (by decide))
      · by_cases hlt_u : u < 31
        · first
            | exfalso; omega
            | simp (disch := first | omega | assumption) only [PL_8, P_L_law_797, P_L_law_830, P_L_call, P_X10_call, P_X10_call_46, P_X11_call, P_X11_call_25, P_X11_call_26, P_X11_call_51, P_X11_call_74, P_X11_call_75, P_X10_needRange, P_X11_in, P_X11_asked, P_X11_asked_10, P_X11_asked_, P_X11_asked__18, P_X11_asked__, P_X11_asked___26, P_X11_thrown, P_X11_told, ↓reduceIte, ↓forall_eq, ↓hold_ca, ↓hold_cam, ↓hold_cl, ↓hold_se, ↓hold_sem, ↓hold_st, ↓hold_wr, ↓hold_wrm, li0, li1, li2, li3, li4, li5, li6, li7, li8, li10, li20, li30, li35, li36, li60, li72, li100, li572, li2000, li2100, li9999, nI_lt_t, nI_lt_f, nI_le_t, nI_le_f, nI_eq_t, nI_eq_f, nI_eq_neg2, neg_eq_nI2, neg_lt2, neg_le2, nI_lt_neg2, nI_le_neg2, pred_t, pred_f, nI_clamp', vp_t, lt0_t, lt0_le, lt0_lt, lt0_eq, if_true, if_false, ite_true, ite_false, true_and, and_true, false_and, and_false, false_or, or_false, true_or, or_true, eq_self, fs_ne, fs_eq, fs_eq', st12, st13, st21, st23, st31, st32, not_true_eq_false, not_false_eq_true, em, em', en, en', et, et', eg, eg', ed, ed', es, es', eo', ee, ee', ev, ev', h3, nI_add]
              refine hI.end ?_
              repeat (first | exact Sm.refl _ | refine Sm.fs40 ?_ _ _ (by decide) | refine Sm.fsT ?_ _ _ _ _ rfl (by decide) (by decide))
        · first
            | exfalso; omega
            | simp (disch := first | omega | assumption) only [PL_8, P_L_law_797, P_L_law_830, P_L_call, P_X10_call, P_X10_call_46, P_X11_call, P_X11_call_25, P_X11_call_26, P_X11_call_51, P_X11_call_74, P_X11_call_75, P_X10_needRange, P_X11_in, P_X11_asked, P_X11_asked_10, P_X11_asked_, P_X11_asked__18, P_X11_asked__, P_X11_asked___26, P_X11_thrown, P_X11_told, ↓reduceIte, ↓forall_eq, ↓hold_ca, ↓hold_cam, ↓hold_cl, ↓hold_se, ↓hold_sem, ↓hold_st, ↓hold_wr, ↓hold_wrm, li0, li1, li2, li3, li4, li5, li6, li7, li8, li10, li20, li30, li35, li36, li60, li72, li100, li572, li2000, li2100, li9999, nI_lt_t, nI_lt_f, nI_le_t, nI_le_f, nI_eq_t, nI_eq_f, nI_eq_neg2, neg_eq_nI2, neg_lt2, neg_le2, nI_lt_neg2, nI_le_neg2, pred_t, pred_f, nI_clamp', vp_t, lt0_t, lt0_le, lt0_lt, lt0_eq, if_true, if_false, ite_true, ite_false, true_and, and_true, false_and, and_false, false_or, or_false, true_or, or_true, eq_self, fs_ne, fs_eq, fs_eq', st12, st13, st21, st23, st31, st32, not_true_eq_false, not_false_eq_true, em, em', en, en', et, et', eg, eg', ed, ed', es, es', eo', ee, ee', ev, ev', h3, nI_add]
              refine hI.end ?_
              repeat (first | exact Sm.refl _ | refine Sm.fs40 ?_ _ _ (by decide) | refine Sm.fsT ?_ _ _ _ _ rfl (by decide) (by decide))
    · by_cases hlo : y < 8
      · rcases int_cases a2 with hneg_u | ⟨u, hbig_u, rfl⟩
        · first
            | exfalso; omega
            | simp (disch := first | omega | assumption) only [PL_8, P_L_law_797, P_L_law_830, P_L_call, P_X10_call, P_X10_call_46, P_X11_call, P_X11_call_25, P_X11_call_26, P_X11_call_51, P_X11_call_74, P_X11_call_75, P_X10_needRange, P_X11_in, P_X11_asked, P_X11_asked_10, P_X11_asked_, P_X11_asked__18, P_X11_asked__, P_X11_asked___26, P_X11_thrown, P_X11_told, ↓reduceIte, ↓forall_eq, ↓hold_ca, ↓hold_cam, ↓hold_cl, ↓hold_se, ↓hold_sem, ↓hold_st, ↓hold_wr, ↓hold_wrm, li0, li1, li2, li3, li4, li5, li6, li7, li8, li10, li20, li30, li35, li36, li60, li72, li100, li572, li2000, li2100, li9999, nI_lt_t, nI_lt_f, nI_le_t, nI_le_f, nI_eq_t, nI_eq_f, nI_eq_neg2, neg_eq_nI2, neg_lt2, neg_le2, nI_lt_neg2, nI_le_neg2, pred_t, pred_f, nI_clamp', vp_t, lt0_t, lt0_le, lt0_lt, lt0_eq, if_true, if_false, ite_true, ite_false, true_and, and_true, false_and, and_false, false_or, or_false, true_or, or_true, eq_self, fs_ne, fs_eq, fs_eq', st12, st13, st21, st23, st31, st32, not_true_eq_false, not_false_eq_true, em, em', en, en', et, et', eg, eg', ed, ed', es, es', eo', ee, ee', ev, ev', h3, nI_add]
              refine hI.end ?_
              repeat (first | exact Sm.refl _ | refine Sm.fs40 ?_ _ _ (by decide) | refine Sm.fsT ?_ _ _ _ _ rfl (by decide) (by decide))
        · by_cases hlt_u : u < 31
          · first
              | exfalso; omega
              | simp (disch := first | omega | assumption) only [PL_8, P_L_law_797, P_L_law_830, P_L_call, P_X10_call, P_X10_call_46, P_X11_call, P_X11_call_25, P_X11_call_26, P_X11_call_51, P_X11_call_74, P_X11_call_75, P_X10_needRange, P_X11_in, P_X11_asked, P_X11_asked_10, P_X11_asked_, P_X11_asked__18, P_X11_asked__, P_X11_asked___26, P_X11_thrown, P_X11_told, ↓reduceIte, ↓forall_eq, ↓hold_ca, ↓hold_cam, ↓hold_cl, ↓hold_se, ↓hold_sem, ↓hold_st, ↓hold_wr, ↓hold_wrm, li0, li1, li2, li3, li4, li5, li6, li7, li8, li10, li20, li30, li35, li36, li60, li72, li100, li572, li2000, li2100, li9999, nI_lt_t, nI_lt_f, nI_le_t, nI_le_f, nI_eq_t, nI_eq_f, nI_eq_neg2, neg_eq_nI2, neg_lt2, neg_le2, nI_lt_neg2, nI_le_neg2, pred_t, pred_f, nI_clamp', vp_t, lt0_t, lt0_le, lt0_lt, lt0_eq, if_true, if_false, ite_true, ite_false, true_and, and_true, false_and, and_false, false_or, or_false, true_or, or_true, eq_self, fs_ne, fs_eq, fs_eq', st12, st13, st21, st23, st31, st32, not_true_eq_false, not_false_eq_true, em, em', en, en', et, et', eg, eg', ed, ed', es, es', eo', ee, ee', ev, ev', h3, nI_add]
                refine hI.end ?_
                repeat (first | exact Sm.refl _ | refine Sm.fs40 ?_ _ _ (by decide) | refine Sm.fsT ?_ _ _ _ _ rfl (by decide) (by decide))
          · first
              | exfalso; omega
              | simp (disch := first | omega | assumption) only [PL_8, P_L_law_797, P_L_law_830, P_L_call, P_X10_call, P_X10_call_46, P_X11_call, P_X11_call_25, P_X11_call_26, P_X11_call_51, P_X11_call_74, P_X11_call_75, P_X10_needRange, P_X11_in, P_X11_asked, P_X11_asked_10, P_X11_asked_, P_X11_asked__18, P_X11_asked__, P_X11_asked___26, P_X11_thrown, P_X11_told, ↓reduceIte, ↓forall_eq, ↓hold_ca, ↓hold_cam, ↓hold_cl, ↓hold_se, ↓hold_sem, ↓hold_st, ↓hold_wr, ↓hold_wrm, li0, li1, li2, li3, li4, li5, li6, li7, li8, li10, li20, li30, li35, li36, li60, li72, li100, li572, li2000, li2100, li9999, nI_lt_t, nI_lt_f, nI_le_t, nI_le_f, nI_eq_t, nI_eq_f, nI_eq_neg2, neg_eq_nI2, neg_lt2, neg_le2, nI_lt_neg2, nI_le_neg2, pred_t, pred_f, nI_clamp', vp_t, lt0_t, lt0_le, lt0_lt, lt0_eq, if_true, if_false, ite_true, ite_false, true_and, and_true, false_and, and_false, false_or, or_false, true_or, or_true, eq_self, fs_ne, fs_eq, fs_eq', st12, st13, st21, st23, st31, st32, not_true_eq_false, not_false_eq_true, em, em', en, en', et, et', eg, eg', ed, ed', es, es', eo', ee, ee', ev, ev', h3, nI_add]
                refine hI.end ?_
                repeat (first | exact Sm.refl _ | refine Sm.fs40 ?_ _ _ (by decide) | refine Sm.fsT ?_ _ _ _ _ rfl (by decide) (by decide))
      · by_cases hlt_y : y < 101
        · rcases int_cases a2 with hneg_u | ⟨u, hbig_u, rfl⟩
          · first
              | exfalso; omega
              | simp (disch := first | omega | assumption) only [PL_8, P_L_law_797, P_L_law_830, P_L_call, P_X10_call, P_X10_call_46, P_X11_call, P_X11_call_25, P_X11_call_26, P_X11_call_51, P_X11_call_74, P_X11_call_75, P_X10_needRange, P_X11_in, P_X11_asked, P_X11_asked_10, P_X11_asked_, P_X11_asked__18, P_X11_asked__, P_X11_asked___26, P_X11_thrown, P_X11_told, ↓reduceIte, ↓forall_eq, ↓hold_ca, ↓hold_cam, ↓hold_cl, ↓hold_se, ↓hold_sem, ↓hold_st, ↓hold_wr, ↓hold_wrm, li0, li1, li2, li3, li4, li5, li6, li7, li8, li10, li20, li30, li35, li36, li60, li72, li100, li572, li2000, li2100, li9999, nI_lt_t, nI_lt_f, nI_le_t, nI_le_f, nI_eq_t, nI_eq_f, nI_eq_neg2, neg_eq_nI2, neg_lt2, neg_le2, nI_lt_neg2, nI_le_neg2, pred_t, pred_f, nI_clamp', vp_t, lt0_t, lt0_le, lt0_lt, lt0_eq, if_true, if_false, ite_true, ite_false, true_and, and_true, false_and, and_false, false_or, or_false, true_or, or_true, eq_self, fs_ne, fs_eq, fs_eq', st12, st13, st21, st23, st31, st32, not_true_eq_false, not_false_eq_true, em, em', en, en', et, et', eg, eg', ed, ed', es, es', eo', ee, ee', ev, ev', h3, nI_add]
                refine hI.end ?_
                repeat (first | exact Sm.refl _ | refine Sm.fs40 ?_ _ _ (by decide) | refine Sm.fsT ?_ _ _ _ _ rfl (by decide) (by decide))
          · by_cases hlt_u : u < 31
            · by_cases hm0 : m = 0
              · by_cases g0 : g = 0
                · simp (disch := first | omega | assumption) only [PL_8, P_L_law_797, P_L_law_830, P_L_call, P_X10_call, P_X10_call_46, P_X11_call, P_X11_call_25, P_X11_call_26, P_X11_call_51, P_X11_call_74, P_X11_call_75, P_X10_needRange, P_X11_in, P_X11_asked, P_X11_asked_10, P_X11_asked_, P_X11_asked__18, P_X11_asked__, P_X11_asked___26, P_X11_thrown, P_X11_told, ↓reduceIte, ↓forall_eq, ↓hold_ca, ↓hold_cam, ↓hold_cl, ↓hold_se, ↓hold_sem, ↓hold_st, ↓hold_wr, ↓hold_wrm, li0, li1, li2, li3, li4, li5, li6, li7, li8, li10, li20, li30, li35, li36, li60, li72, li100, li572, li2000, li2100, li9999, nI_lt_t, nI_lt_f, nI_le_t, nI_le_f, nI_eq_t, nI_eq_f, nI_eq_neg2, neg_eq_nI2, neg_lt2, neg_le2, nI_lt_neg2, nI_le_neg2, pred_t, pred_f, nI_clamp', vp_t, lt0_t, lt0_le, lt0_lt, lt0_eq, if_true, if_false, ite_true, ite_false, true_and, and_true, false_and, and_false, false_or, or_false, true_or, or_true, eq_self, fs_ne, fs_eq, fs_eq', st12, st13, st21, st23, st31, st32, not_true_eq_false, not_false_eq_true, em, em', en, en', et, et', eg, eg', ed, ed', es, es', eo', ee, ee', ev, ev', h3, nI_add]
                  refine hI.end ?_
                  repeat (first | exact Sm.refl _ | refine Sm.fs40 ?_ _ _ (by decide) | refine Sm.fsT ?_ _ _ _ _ rfl (by decide) (by decide))
                · by_cases g5 : g = 5
                  · simp (disch := first | omega | assumption) only [PL_8, P_L_law_797, P_L_law_830, P_L_call, P_X10_call, P_X10_call_46, P_X11_call, P_X11_call_25, P_X11_call_26, P_X11_call_51, P_X11_call_74, P_X11_call_75, P_X10_needRange, P_X11_in, P_X11_asked, P_X11_asked_10, P_X11_asked_, P_X11_asked__18, P_X11_asked__, P_X11_asked___26, P_X11_thrown, P_X11_told, ↓reduceIte, ↓forall_eq, ↓hold_ca, ↓hold_cam, ↓hold_cl, ↓hold_se, ↓hold_sem, ↓hold_st, ↓hold_wr, ↓hold_wrm, li0, li1, li2, li3, li4, li5, li6, li7, li8, li10, li20, li30, li35, li36, li60, li72, li100, li572, li2000, li2100, li9999, nI_lt_t, nI_lt_f, nI_le_t, nI_le_f, nI_eq_t, nI_eq_f, nI_eq_neg2, neg_eq_nI2, neg_lt2, neg_le2, nI_lt_neg2, nI_le_neg2, pred_t, pred_f, nI_clamp', vp_t, lt0_t, lt0_le, lt0_lt, lt0_eq, if_true, if_false, ite_true, ite_false, true_and, and_true, false_and, and_false, false_or, or_false, true_or, or_true, eq_self, fs_ne, fs_eq, fs_eq', st12, st13, st21, st23, st31, st32, not_true_eq_false, not_false_eq_true, em, em', en, en', et, et', eg, eg', ed, ed', es, es', eo', ee, ee', ev, ev', h3, nI_add]
                    refine hI.end ?_
                    repeat (first | exact Sm.refl _ | refine Sm.fs40 ?_ _ _ (by decide) | refine Sm.fsT ?_ _ _ _ _ rfl (by decide) (by decide))
                  · simp (disch := first | omega | assumption) only [PL_8, P_L_law_797, P_L_law_830, P_L_call, P_X10_call, P_X10_call_46, P_X11_call, P_X11_call_25, P_X11_call_26, P_X11_call_51, P_X11_call_74, P_X11_call_75, P_X10_needRange, P_X11_in, P_X11_asked, P_X11_asked_10, P_X11_asked_, P_X11_asked__18, P_X11_asked__, P_X11_asked___26, P_X11_thrown, P_X11_told, ↓reduceIte, ↓forall_eq, ↓hold_ca, ↓hold_cam, ↓hold_cl, ↓hold_se, ↓hold_sem, ↓hold_st, ↓hold_wr, ↓hold_wrm, li0, li1, li2, li3, li4, li5, li6, li7, li8, li10, li20, li30, li35, li36, li60, li72, li100, li572, li2000, li2100, li9999, nI_lt_t, nI_lt_f, nI_le_t, nI_le_f, nI_eq_t, nI_eq_f, nI_eq_neg2, neg_eq_nI2, neg_lt2, neg_le2, nI_lt_neg2, nI_le_neg2, pred_t, pred_f, nI_clamp', vp_t, lt0_t, lt0_le, lt0_lt, lt0_eq, if_true, if_false, ite_true, ite_false, true_and, and_true, false_and, and_false, false_or, or_false, true_or, or_true, eq_self, fs_ne, fs_eq, fs_eq', st12, st13, st21, st23, st31, st32, not_true_eq_false, not_false_eq_true, em, em', en, en', et, et', eg, eg', ed, ed', es, es', eo', ee, ee', ev, ev', h3, nI_add]
                    refine hI.end ?_
                    repeat (first | exact Sm.refl _ | refine Sm.fs40 ?_ _ _ (by decide) | refine Sm.fsT ?_ _ _ _ _ rfl (by decide) (by decide))
              · by_cases hty : t + y ≤ 2000
                · by_cases g0 : g = 0
                  · simp (disch := first | omega | assumption) only [PL_8, P_L_law_797, P_L_law_830, P_L_call, P_X10_call, P_X10_call_46, P_X11_call, P_X11_call_25, P_X11_call_26, P_X11_call_51, P_X11_call_74, P_X11_call_75, P_X10_needRange, P_X11_in, P_X11_asked, P_X11_asked_10, P_X11_asked_, P_X11_asked__18, P_X11_asked__, P_X11_asked___26, P_X11_thrown, P_X11_told, ↓reduceIte, ↓forall_eq, ↓hold_ca, ↓hold_cam, ↓hold_cl, ↓hold_se, ↓hold_sem, ↓hold_st, ↓hold_wr, ↓hold_wrm, li0, li1, li2, li3, li4, li5, li6, li7, li8, li10, li20, li30, li35, li36, li60, li72, li100, li572, li2000, li2100, li9999, nI_lt_t, nI_lt_f, nI_le_t, nI_le_f, nI_eq_t, nI_eq_f, nI_eq_neg2, neg_eq_nI2, neg_lt2, neg_le2, nI_lt_neg2, nI_le_neg2, pred_t, pred_f, nI_clamp', vp_t, lt0_t, lt0_le, lt0_lt, lt0_eq, if_true, if_false, ite_true, ite_false, true_and, and_true, false_and, and_false, false_or, or_false, true_or, or_true, eq_self, fs_ne, fs_eq, fs_eq', st12, st13, st21, st23, st31, st32, not_true_eq_false, not_false_eq_true, em, em', en, en', et, et', eg, eg', ed, ed', es, es', eo', ee, ee', ev, ev', h3, nI_add]
                    try refine unhold ?_
                    refine start_run (by decide) (fun G1 hG1 => ?_)
                    obtain ⟨hG1f, hG1c⟩ := hG1
                    simp (disch := first | omega | assumption) only [PL_8, P_L_law_797, P_L_law_830, P_L_call, P_X10_call, P_X10_call_46, P_X11_call, P_X11_call_25, P_X11_call_26, P_X11_call_51, P_X11_call_74, P_X11_call_75, P_X10_needRange, P_X11_in, P_X11_asked, P_X11_asked_10, P_X11_asked_, P_X11_asked__18, P_X11_asked__, P_X11_asked___26, P_X11_thrown, P_X11_told, ↓reduceIte, ↓forall_eq, ↓hold_ca, ↓hold_cam, ↓hold_cl, ↓hold_se, ↓hold_sem, ↓hold_st, ↓hold_wr, ↓hold_wrm, li0, li1, li2, li3, li4, li5, li6, li7, li8, li10, li20, li30, li35, li36, li60, li72, li100, li572, li2000, li2100, li9999, nI_lt_t, nI_lt_f, nI_le_t, nI_le_f, nI_eq_t, nI_eq_f, nI_eq_neg2, neg_eq_nI2, neg_lt2, neg_le2, nI_lt_neg2, nI_le_neg2, pred_t, pred_f, nI_clamp', vp_t, lt0_t, lt0_le, lt0_lt, lt0_eq, if_true, if_false, ite_true, ite_false, true_and, and_true, false_and, and_false, false_or, or_false, true_or, or_true, eq_self, fs_ne, fs_eq, fs_eq', st12, st13, st21, st23, st31, st32, not_true_eq_false, not_false_eq_true, em, em', en, en', et, et', eg, eg', ed, ed', es, es', eo', ee, ee', ev, ev', h3, nI_add, hG1f, ffill_ne]
                    try refine unhold ?_
                    refine clears_run (fun G2 hG2 G3 hG3 => ?_)
                    obtain ⟨hG2f, hG2c⟩ := hG2
                    obtain ⟨hG3f, hG3c⟩ := hG3
                    have e40 : ∀ j, j ≠ 19 → j ≠ 26 → j ≠ 42 → j ≠ 43 → G3 40 0 j = F 40 0 j := by
                      intro j h1 h2 h3 h4
                      simp (disch := first | omega | decide) only [hG3f, hG2f, hG1f, ffill_ne, ffill_in, fs_ne, fs_eq]
                    have e79 : G3 79 0 0 = nI (t + y) := by
                      simp (disch := first | omega | decide) only [hG3f, hG2f, hG1f, ffill_ne, ffill_in, fs_ne, fs_eq]
                    have f10 : G3 10 = (fs (fs (fs (fs (fs F 10 0 0 1) 10 0 1 (nI (t + y))) 10 0 2 (nI u)) 10 0 3 (nI 0)) 10 0 4 0) 10 := by
                      funext i k
                      simp (disch := first | omega | decide) only [hG3f, hG2f, hG1f, ffill_ne, ffill_in, fs_ne, fs_eq]
                    have f11 : ∀ q, q < 5 → G3 11 0 q = 0 := fun q hq => by simp (disch := first | omega | decide) only [hG3f, hG2f, hG1f, ffill_ne, ffill_in, fs_ne, fs_eq]
                    have f13 : ∀ q, q < 20 → G3 13 0 q = -1 := fun q hq => by simp (disch := first | omega | decide) only [hG3f, hG2f, hG1f, ffill_ne, ffill_in, fs_ne, fs_eq]
                    have f14 : ∀ q, q < 5 → G3 14 0 q = 0 := fun q hq => by simp (disch := first | omega | decide) only [hG3f, hG2f, hG1f, ffill_ne, ffill_in, fs_ne, fs_eq]
                    have f15 : ∀ q, q < 20 → G3 15 0 q = 0 := fun q hq => by simp (disch := first | omega | decide) only [hG3f, hG2f, hG1f, ffill_ne, ffill_in, fs_ne, fs_eq]
                    have f16 : G3 16 0 3 = 0 := by simp (disch := first | omega | decide) only [hG3f, hG2f, hG1f, ffill_ne, ffill_in, fs_ne, fs_eq]
                    have f21 : G3 21 0 4 = 0 := by simp (disch := first | omega | decide) only [hG3f, hG2f, hG1f, ffill_ne, ffill_in, fs_ne, fs_eq]; rfl
                    have e43 : G3 40 0 43 = nI 0 := by simp (disch := first | omega | decide) only [hG3f, hG2f, hG1f, ffill_ne, ffill_in, fs_ne, fs_eq]
                    have f28 : ∀ q, q < 5 → G3 28 q 1 = 0 ∧ G3 28 q 4 = 0 ∧ G3 28 q 5 = -1 := fun q hq => by
                      have := hG1c q hq
                      simp (disch := first | omega | decide) only [hG3f, hG2f, hG1f, ffill_ne, ffill_in, fs_ne, fs_eq]
                      exact this
                    have f19 : G3 40 0 19 = 0 ∧ G3 40 0 26 = 0 ∧ G3 40 0 42 = 0 := by
                      refine ⟨?_, ?_, ?_⟩ <;> simp (disch := first | omega | decide) only [hG3f, hG2f, hG1f, ffill_ne, ffill_in, fs_ne, fs_eq]
                    have f52 : ∀ q, q < 20 → G3 52 0 q = -1 ∧ G3 54 0 q = 0 := fun q hq => by
                      have := hG2c q hq
                      simp (disch := first | omega | decide) only [hG3f, hG2f, hG1f, ffill_ne, ffill_in, fs_ne, fs_eq]
                      exact this
                    have fo : ∀ f, f ≠ 10 → f ≠ 11 → f ≠ 13 → f ≠ 14 → f ≠ 15 → f ≠ 16 → f ≠ 21 → f ≠ 28 → f ≠ 79 → f ≠ 40 → f ≠ 52 → f ≠ 54 → f ≠ 51 → f ≠ 53 → f ≠ 59 → f ≠ 62 → f ≠ 63 → G3 f = F f := by
                      intro f h1 h2 h3 h4 h5 h6 h7 h8 h9 h10 h11 h12 h13 h14 h15 h16 h17
                      funext i k
                      rw [hG3f f h13 h14 h15 h16 h17, hG2f f h11 h12]
                      simp (disch := first | omega | assumption) only [fs_ne]
                      rw [hG1f f h8]
                      simp (disch := first | omega | assumption) only [fs_ne, ffill_ne]
                    clear hG3f hG2f hG1f hG1c hG2c
                    simp (disch := first | omega | assumption) only [PL_8, P_L_law_797, P_L_law_830, P_L_call, P_X10_call, P_X10_call_46, P_X11_call, P_X11_call_25, P_X11_call_26, P_X11_call_51, P_X11_call_74, P_X11_call_75, P_X10_needRange, P_X11_in, P_X11_asked, P_X11_asked_10, P_X11_asked_, P_X11_asked__18, P_X11_asked__, P_X11_asked___26, P_X11_thrown, P_X11_told, ↓reduceIte, ↓forall_eq, ↓hold_ca, ↓hold_cam, ↓hold_cl, ↓hold_se, ↓hold_sem, ↓hold_st, ↓hold_wr, ↓hold_wrm, li0, li1, li2, li3, li4, li5, li6, li7, li8, li10, li20, li30, li35, li36, li60, li72, li100, li572, li2000, li2100, li9999, nI_lt_t, nI_lt_f, nI_le_t, nI_le_f, nI_eq_t, nI_eq_f, nI_eq_neg2, neg_eq_nI2, neg_lt2, neg_le2, nI_lt_neg2, nI_le_neg2, pred_t, pred_f, nI_clamp', vp_t, lt0_t, lt0_le, lt0_lt, lt0_eq, if_true, if_false, ite_true, ite_false, true_and, and_true, false_and, and_false, false_or, or_false, true_or, or_true, eq_self, fs_ne, fs_eq, fs_eq', st12, st13, st21, st23, st31, st32, not_true_eq_false, not_false_eq_true, e40, e43, e79, et', nI_add]
                    refine call_inv hk hI et (t := t) (y := y) (by omega) (by omega) (by omega) (u := u) (by omega) e40 f10 f11 f13 f14 f15 f16 f21 f28 f19 f52 hG3c fo
                  · by_cases g5 : g = 5
                    · simp (disch := first | omega | assumption) only [PL_8, P_L_law_797, P_L_law_830, P_L_call, P_X10_call, P_X10_call_46, P_X11_call, P_X11_call_25, P_X11_call_26, P_X11_call_51, P_X11_call_74, P_X11_call_75, P_X10_needRange, P_X11_in, P_X11_asked, P_X11_asked_10, P_X11_asked_, P_X11_asked__18, P_X11_asked__, P_X11_asked___26, P_X11_thrown, P_X11_told, ↓reduceIte, ↓forall_eq, ↓hold_ca, ↓hold_cam, ↓hold_cl, ↓hold_se, ↓hold_sem, ↓hold_st, ↓hold_wr, ↓hold_wrm, li0, li1, li2, li3, li4, li5, li6, li7, li8, li10, li20, li30, li35, li36, li60, li72, li100, li572, li2000, li2100, li9999, nI_lt_t, nI_lt_f, nI_le_t, nI_le_f, nI_eq_t, nI_eq_f, nI_eq_neg2, neg_eq_nI2, neg_lt2, neg_le2, nI_lt_neg2, nI_le_neg2, pred_t, pred_f, nI_clamp', vp_t, lt0_t, lt0_le, lt0_lt, lt0_eq, if_true, if_false, ite_true, ite_false, true_and, and_true, false_and, and_false, false_or, or_false, true_or, or_true, eq_self, fs_ne, fs_eq, fs_eq', st12, st13, st21, st23, st31, st32, not_true_eq_false, not_false_eq_true, em, em', en, en', et, et', eg, eg', ed, ed', es, es', eo', ee, ee', ev, ev', h3, nI_add]
                      try refine unhold ?_
                      refine start_run (by decide) (fun G1 hG1 => ?_)
                      obtain ⟨hG1f, hG1c⟩ := hG1
                      simp (disch := first | omega | assumption) only [PL_8, P_L_law_797, P_L_law_830, P_L_call, P_X10_call, P_X10_call_46, P_X11_call, P_X11_call_25, P_X11_call_26, P_X11_call_51, P_X11_call_74, P_X11_call_75, P_X10_needRange, P_X11_in, P_X11_asked, P_X11_asked_10, P_X11_asked_, P_X11_asked__18, P_X11_asked__, P_X11_asked___26, P_X11_thrown, P_X11_told, ↓reduceIte, ↓forall_eq, ↓hold_ca, ↓hold_cam, ↓hold_cl, ↓hold_se, ↓hold_sem, ↓hold_st, ↓hold_wr, ↓hold_wrm, li0, li1, li2, li3, li4, li5, li6, li7, li8, li10, li20, li30, li35, li36, li60, li72, li100, li572, li2000, li2100, li9999, nI_lt_t, nI_lt_f, nI_le_t, nI_le_f, nI_eq_t, nI_eq_f, nI_eq_neg2, neg_eq_nI2, neg_lt2, neg_le2, nI_lt_neg2, nI_le_neg2, pred_t, pred_f, nI_clamp', vp_t, lt0_t, lt0_le, lt0_lt, lt0_eq, if_true, if_false, ite_true, ite_false, true_and, and_true, false_and, and_false, false_or, or_false, true_or, or_true, eq_self, fs_ne, fs_eq, fs_eq', st12, st13, st21, st23, st31, st32, not_true_eq_false, not_false_eq_true, em, em', en, en', et, et', eg, eg', ed, ed', es, es', eo', ee, ee', ev, ev', h3, nI_add, hG1f, ffill_ne]
                      try refine unhold ?_
                      refine clears_run (fun G2 hG2 G3 hG3 => ?_)
                      obtain ⟨hG2f, hG2c⟩ := hG2
                      obtain ⟨hG3f, hG3c⟩ := hG3
                      have e40 : ∀ j, j ≠ 19 → j ≠ 26 → j ≠ 42 → j ≠ 43 → G3 40 0 j = F 40 0 j := by
                        intro j h1 h2 h3 h4
                        simp (disch := first | omega | decide) only [hG3f, hG2f, hG1f, ffill_ne, ffill_in, fs_ne, fs_eq]
                      have e79 : G3 79 0 0 = nI (t + y) := by
                        simp (disch := first | omega | decide) only [hG3f, hG2f, hG1f, ffill_ne, ffill_in, fs_ne, fs_eq]
                      have f10 : G3 10 = (fs (fs (fs (fs (fs F 10 0 0 1) 10 0 1 (nI (t + y))) 10 0 2 (nI u)) 10 0 3 (nI 0)) 10 0 4 0) 10 := by
                        funext i k
                        simp (disch := first | omega | decide) only [hG3f, hG2f, hG1f, ffill_ne, ffill_in, fs_ne, fs_eq]
                      have f11 : ∀ q, q < 5 → G3 11 0 q = 0 := fun q hq => by simp (disch := first | omega | decide) only [hG3f, hG2f, hG1f, ffill_ne, ffill_in, fs_ne, fs_eq]
                      have f13 : ∀ q, q < 20 → G3 13 0 q = -1 := fun q hq => by simp (disch := first | omega | decide) only [hG3f, hG2f, hG1f, ffill_ne, ffill_in, fs_ne, fs_eq]
                      have f14 : ∀ q, q < 5 → G3 14 0 q = 0 := fun q hq => by simp (disch := first | omega | decide) only [hG3f, hG2f, hG1f, ffill_ne, ffill_in, fs_ne, fs_eq]
                      have f15 : ∀ q, q < 20 → G3 15 0 q = 0 := fun q hq => by simp (disch := first | omega | decide) only [hG3f, hG2f, hG1f, ffill_ne, ffill_in, fs_ne, fs_eq]
                      have f16 : G3 16 0 3 = 0 := by simp (disch := first | omega | decide) only [hG3f, hG2f, hG1f, ffill_ne, ffill_in, fs_ne, fs_eq]
                      have f21 : G3 21 0 4 = 0 := by simp (disch := first | omega | decide) only [hG3f, hG2f, hG1f, ffill_ne, ffill_in, fs_ne, fs_eq]; rfl
                      have e43 : G3 40 0 43 = nI 0 := by simp (disch := first | omega | decide) only [hG3f, hG2f, hG1f, ffill_ne, ffill_in, fs_ne, fs_eq]
                      have f28 : ∀ q, q < 5 → G3 28 q 1 = 0 ∧ G3 28 q 4 = 0 ∧ G3 28 q 5 = -1 := fun q hq => by
                        have := hG1c q hq
                        simp (disch := first | omega | decide) only [hG3f, hG2f, hG1f, ffill_ne, ffill_in, fs_ne, fs_eq]
                        exact this
                      have f19 : G3 40 0 19 = 0 ∧ G3 40 0 26 = 0 ∧ G3 40 0 42 = 0 := by
                        refine ⟨?_, ?_, ?_⟩ <;> simp (disch := first | omega | decide) only [hG3f, hG2f, hG1f, ffill_ne, ffill_in, fs_ne, fs_eq]
                      have f52 : ∀ q, q < 20 → G3 52 0 q = -1 ∧ G3 54 0 q = 0 := fun q hq => by
                        have := hG2c q hq
                        simp (disch := first | omega | decide) only [hG3f, hG2f, hG1f, ffill_ne, ffill_in, fs_ne, fs_eq]
                        exact this
                      have fo : ∀ f, f ≠ 10 → f ≠ 11 → f ≠ 13 → f ≠ 14 → f ≠ 15 → f ≠ 16 → f ≠ 21 → f ≠ 28 → f ≠ 79 → f ≠ 40 → f ≠ 52 → f ≠ 54 → f ≠ 51 → f ≠ 53 → f ≠ 59 → f ≠ 62 → f ≠ 63 → G3 f = F f := by
                        intro f h1 h2 h3 h4 h5 h6 h7 h8 h9 h10 h11 h12 h13 h14 h15 h16 h17
                        funext i k
                        rw [hG3f f h13 h14 h15 h16 h17, hG2f f h11 h12]
                        simp (disch := first | omega | assumption) only [fs_ne]
                        rw [hG1f f h8]
                        simp (disch := first | omega | assumption) only [fs_ne, ffill_ne]
                      clear hG3f hG2f hG1f hG1c hG2c
                      simp (disch := first | omega | assumption) only [PL_8, P_L_law_797, P_L_law_830, P_L_call, P_X10_call, P_X10_call_46, P_X11_call, P_X11_call_25, P_X11_call_26, P_X11_call_51, P_X11_call_74, P_X11_call_75, P_X10_needRange, P_X11_in, P_X11_asked, P_X11_asked_10, P_X11_asked_, P_X11_asked__18, P_X11_asked__, P_X11_asked___26, P_X11_thrown, P_X11_told, ↓reduceIte, ↓forall_eq, ↓hold_ca, ↓hold_cam, ↓hold_cl, ↓hold_se, ↓hold_sem, ↓hold_st, ↓hold_wr, ↓hold_wrm, li0, li1, li2, li3, li4, li5, li6, li7, li8, li10, li20, li30, li35, li36, li60, li72, li100, li572, li2000, li2100, li9999, nI_lt_t, nI_lt_f, nI_le_t, nI_le_f, nI_eq_t, nI_eq_f, nI_eq_neg2, neg_eq_nI2, neg_lt2, neg_le2, nI_lt_neg2, nI_le_neg2, pred_t, pred_f, nI_clamp', vp_t, lt0_t, lt0_le, lt0_lt, lt0_eq, if_true, if_false, ite_true, ite_false, true_and, and_true, false_and, and_false, false_or, or_false, true_or, or_true, eq_self, fs_ne, fs_eq, fs_eq', st12, st13, st21, st23, st31, st32, not_true_eq_false, not_false_eq_true, e40, e43, e79, et', nI_add]
                      refine call_inv hk hI et (t := t) (y := y) (by omega) (by omega) (by omega) (u := u) (by omega) e40 f10 f11 f13 f14 f15 f16 f21 f28 f19 f52 hG3c fo
                    · simp (disch := first | omega | assumption) only [PL_8, P_L_law_797, P_L_law_830, P_L_call, P_X10_call, P_X10_call_46, P_X11_call, P_X11_call_25, P_X11_call_26, P_X11_call_51, P_X11_call_74, P_X11_call_75, P_X10_needRange, P_X11_in, P_X11_asked, P_X11_asked_10, P_X11_asked_, P_X11_asked__18, P_X11_asked__, P_X11_asked___26, P_X11_thrown, P_X11_told, ↓reduceIte, ↓forall_eq, ↓hold_ca, ↓hold_cam, ↓hold_cl, ↓hold_se, ↓hold_sem, ↓hold_st, ↓hold_wr, ↓hold_wrm, li0, li1, li2, li3, li4, li5, li6, li7, li8, li10, li20, li30, li35, li36, li60, li72, li100, li572, li2000, li2100, li9999, nI_lt_t, nI_lt_f, nI_le_t, nI_le_f, nI_eq_t, nI_eq_f, nI_eq_neg2, neg_eq_nI2, neg_lt2, neg_le2, nI_lt_neg2, nI_le_neg2, pred_t, pred_f, nI_clamp', vp_t, lt0_t, lt0_le, lt0_lt, lt0_eq, if_true, if_false, ite_true, ite_false, true_and, and_true, false_and, and_false, false_or, or_false, true_or, or_true, eq_self, fs_ne, fs_eq, fs_eq', st12, st13, st21, st23, st31, st32, not_true_eq_false, not_false_eq_true, em, em', en, en', et, et', eg, eg', ed, ed', es, es', eo', ee, ee', ev, ev', h3, nI_add]
                      refine hI.end ?_
                      repeat (first | exact Sm.refl _ | refine Sm.fs40 ?_ _ _ (by decide) | refine Sm.fsT ?_ _ _ _ _ rfl (by decide) (by decide))
                · by_cases g0 : g = 0
                  · simp (disch := first | omega | assumption) only [PL_8, P_L_law_797, P_L_law_830, P_L_call, P_X10_call, P_X10_call_46, P_X11_call, P_X11_call_25, P_X11_call_26, P_X11_call_51, P_X11_call_74, P_X11_call_75, P_X10_needRange, P_X11_in, P_X11_asked, P_X11_asked_10, P_X11_asked_, P_X11_asked__18, P_X11_asked__, P_X11_asked___26, P_X11_thrown, P_X11_told, ↓reduceIte, ↓forall_eq, ↓hold_ca, ↓hold_cam, ↓hold_cl, ↓hold_se, ↓hold_sem, ↓hold_st, ↓hold_wr, ↓hold_wrm, li0, li1, li2, li3, li4, li5, li6, li7, li8, li10, li20, li30, li35, li36, li60, li72, li100, li572, li2000, li2100, li9999, nI_lt_t, nI_lt_f, nI_le_t, nI_le_f, nI_eq_t, nI_eq_f, nI_eq_neg2, neg_eq_nI2, neg_lt2, neg_le2, nI_lt_neg2, nI_le_neg2, pred_t, pred_f, nI_clamp', vp_t, lt0_t, lt0_le, lt0_lt, lt0_eq, if_true, if_false, ite_true, ite_false, true_and, and_true, false_and, and_false, false_or, or_false, true_or, or_true, eq_self, fs_ne, fs_eq, fs_eq', st12, st13, st21, st23, st31, st32, not_true_eq_false, not_false_eq_true, em, em', en, en', et, et', eg, eg', ed, ed', es, es', eo', ee, ee', ev, ev', h3, nI_add]
                    refine hI.end ?_
                    repeat (first | exact Sm.refl _ | refine Sm.fs40 ?_ _ _ (by decide) | refine Sm.fsT ?_ _ _ _ _ rfl (by decide) (by decide))
                  · by_cases g5 : g = 5
                    · simp (disch := first | omega | assumption) only [PL_8, P_L_law_797, P_L_law_830, P_L_call, P_X10_call, P_X10_call_46, P_X11_call, P_X11_call_25, P_X11_call_26, P_X11_call_51, P_X11_call_74, P_X11_call_75, P_X10_needRange, P_X11_in, P_X11_asked, P_X11_asked_10, P_X11_asked_, P_X11_asked__18, P_X11_asked__, P_X11_asked___26, P_X11_thrown, P_X11_told, ↓reduceIte, ↓forall_eq, ↓hold_ca, ↓hold_cam, ↓hold_cl, ↓hold_se, ↓hold_sem, ↓hold_st, ↓hold_wr, ↓hold_wrm, li0, li1, li2, li3, li4, li5, li6, li7, li8, li10, li20, li30, li35, li36, li60, li72, li100, li572, li2000, li2100, li9999, nI_lt_t, nI_lt_f, nI_le_t, nI_le_f, nI_eq_t, nI_eq_f, nI_eq_neg2, neg_eq_nI2, neg_lt2, neg_le2, nI_lt_neg2, nI_le_neg2, pred_t, pred_f, nI_clamp', vp_t, lt0_t, lt0_le, lt0_lt, lt0_eq, if_true, if_false, ite_true, ite_false, true_and, and_true, false_and, and_false, false_or, or_false, true_or, or_true, eq_self, fs_ne, fs_eq, fs_eq', st12, st13, st21, st23, st31, st32, not_true_eq_false, not_false_eq_true, em, em', en, en', et, et', eg, eg', ed, ed', es, es', eo', ee, ee', ev, ev', h3, nI_add]
                      refine hI.end ?_
                      repeat (first | exact Sm.refl _ | refine Sm.fs40 ?_ _ _ (by decide) | refine Sm.fsT ?_ _ _ _ _ rfl (by decide) (by decide))
                    · simp (disch := first | omega | assumption) only [PL_8, P_L_law_797, P_L_law_830, P_L_call, P_X10_call, P_X10_call_46, P_X11_call, P_X11_call_25, P_X11_call_26, P_X11_call_51, P_X11_call_74, P_X11_call_75, P_X10_needRange, P_X11_in, P_X11_asked, P_X11_asked_10, P_X11_asked_, P_X11_asked__18, P_X11_asked__, P_X11_asked___26, P_X11_thrown, P_X11_told, ↓reduceIte, ↓forall_eq, ↓hold_ca, ↓hold_cam, ↓hold_cl, ↓hold_se, ↓hold_sem, ↓hold_st, ↓hold_wr, ↓hold_wrm, li0, li1, li2, li3, li4, li5, li6, li7, li8, li10, li20, li30, li35, li36, li60, li72, li100, li572, li2000, li2100, li9999, nI_lt_t, nI_lt_f, nI_le_t, nI_le_f, nI_eq_t, nI_eq_f, nI_eq_neg2, neg_eq_nI2, neg_lt2, neg_le2, nI_lt_neg2, nI_le_neg2, pred_t, pred_f, nI_clamp', vp_t, lt0_t, lt0_le, lt0_lt, lt0_eq, if_true, if_false, ite_true, ite_false, true_and, and_true, false_and, and_false, false_or, or_false, true_or, or_true, eq_self, fs_ne, fs_eq, fs_eq', st12, st13, st21, st23, st31, st32, not_true_eq_false, not_false_eq_true, em, em', en, en', et, et', eg, eg', ed, ed', es, es', eo', ee, ee', ev, ev', h3, nI_add]
                      refine hI.end ?_
                      repeat (first | exact Sm.refl _ | refine Sm.fs40 ?_ _ _ (by decide) | refine Sm.fsT ?_ _ _ _ _ rfl (by decide) (by decide))
            · first
                | exfalso; omega
                | simp (disch := first | omega | assumption) only [PL_8, P_L_law_797, P_L_law_830, P_L_call, P_X10_call, P_X10_call_46, P_X11_call, P_X11_call_25, P_X11_call_26, P_X11_call_51, P_X11_call_74, P_X11_call_75, P_X10_needRange, P_X11_in, P_X11_asked, P_X11_asked_10, P_X11_asked_, P_X11_asked__18, P_X11_asked__, P_X11_asked___26, P_X11_thrown, P_X11_told, ↓reduceIte, ↓forall_eq, ↓hold_ca, ↓hold_cam, ↓hold_cl, ↓hold_se, ↓hold_sem, ↓hold_st, ↓hold_wr, ↓hold_wrm, li0, li1, li2, li3, li4, li5, li6, li7, li8, li10, li20, li30, li35, li36, li60, li72, li100, li572, li2000, li2100, li9999, nI_lt_t, nI_lt_f, nI_le_t, nI_le_f, nI_eq_t, nI_eq_f, nI_eq_neg2, neg_eq_nI2, neg_lt2, neg_le2, nI_lt_neg2, nI_le_neg2, pred_t, pred_f, nI_clamp', vp_t, lt0_t, lt0_le, lt0_lt, lt0_eq, if_true, if_false, ite_true, ite_false, true_and, and_true, false_and, and_false, false_or, or_false, true_or, or_true, eq_self, fs_ne, fs_eq, fs_eq', st12, st13, st21, st23, st31, st32, not_true_eq_false, not_false_eq_true, em, em', en, en', et, et', eg, eg', ed, ed', es, es', eo', ee, ee', ev, ev', h3, nI_add]
                  refine hI.end ?_
                  repeat (first | exact Sm.refl _ | refine Sm.fs40 ?_ _ _ (by decide) | refine Sm.fsT ?_ _ _ _ _ rfl (by decide) (by decide))
        · rcases int_cases a2 with hneg_u | ⟨u, hbig_u, rfl⟩
          · first
              | exfalso; omega
              | simp (disch := first | omega | assumption) only [PL_8, P_L_law_797, P_L_law_830, P_L_call, P_X10_call, P_X10_call_46, P_X11_call, P_X11_call_25, P_X11_call_26, P_X11_call_51, P_X11_call_74, P_X11_call_75, P_X10_needRange, P_X11_in, P_X11_asked, P_X11_asked_10, P_X11_asked_, P_X11_asked__18, P_X11_asked__, P_X11_asked___26, P_X11_thrown, P_X11_told, ↓reduceIte, ↓forall_eq, ↓hold_ca, ↓hold_cam, ↓hold_cl, ↓hold_se, ↓hold_sem, ↓hold_st, ↓hold_wr, ↓hold_wrm, li0, li1, li2, li3, li4, li5, li6, li7, li8, li10, li20, li30, li35, li36, li60, li72, li100, li572, li2000, li2100, li9999, nI_lt_t, nI_lt_f, nI_le_t, nI_le_f, nI_eq_t, nI_eq_f, nI_eq_neg2, neg_eq_nI2, neg_lt2, neg_le2, nI_lt_neg2, nI_le_neg2, pred_t, pred_f, nI_clamp', vp_t, lt0_t, lt0_le, lt0_lt, lt0_eq, if_true, if_false, ite_true, ite_false, true_and, and_true, false_and, and_false, false_or, or_false, true_or, or_true, eq_self, fs_ne, fs_eq, fs_eq', st12, st13, st21, st23, st31, st32, not_true_eq_false, not_false_eq_true, em, em', en, en', et, et', eg, eg', ed, ed', es, es', eo', ee, ee', ev, ev', h3, nI_add]
                refine hI.end ?_
                repeat (first | exact Sm.refl _ | refine Sm.fs40 ?_ _ _ (by decide) | refine Sm.fsT ?_ _ _ _ _ rfl (by decide) (by decide))
          · by_cases hlt_u : u < 31
            · first
                | exfalso; omega
                | simp (disch := first | omega | assumption) only [PL_8, P_L_law_797, P_L_law_830, P_L_call, P_X10_call, P_X10_call_46, P_X11_call, P_X11_call_25, P_X11_call_26, P_X11_call_51, P_X11_call_74, P_X11_call_75, P_X10_needRange, P_X11_in, P_X11_asked, P_X11_asked_10, P_X11_asked_, P_X11_asked__18, P_X11_asked__, P_X11_asked___26, P_X11_thrown, P_X11_told, ↓reduceIte, ↓forall_eq, ↓hold_ca, ↓hold_cam, ↓hold_cl, ↓hold_se, ↓hold_sem, ↓hold_st, ↓hold_wr, ↓hold_wrm, li0, li1, li2, li3, li4, li5, li6, li7, li8, li10, li20, li30, li35, li36, li60, li72, li100, li572, li2000, li2100, li9999, nI_lt_t, nI_lt_f, nI_le_t, nI_le_f, nI_eq_t, nI_eq_f, nI_eq_neg2, neg_eq_nI2, neg_lt2, neg_le2, nI_lt_neg2, nI_le_neg2, pred_t, pred_f, nI_clamp', vp_t, lt0_t, lt0_le, lt0_lt, lt0_eq, if_true, if_false, ite_true, ite_false, true_and, and_true, false_and, and_false, false_or, or_false, true_or, or_true, eq_self, fs_ne, fs_eq, fs_eq', st12, st13, st21, st23, st31, st32, not_true_eq_false, not_false_eq_true, em, em', en, en', et, et', eg, eg', ed, ed', es, es', eo', ee, ee', ev, ev', h3, nI_add]
                  refine hI.end ?_
                  repeat (first | exact Sm.refl _ | refine Sm.fs40 ?_ _ _ (by decide) | refine Sm.fsT ?_ _ _ _ _ rfl (by decide) (by decide))
            · first
                | exfalso; omega
                | simp (disch := first | omega | assumption) only [PL_8, P_L_law_797, P_L_law_830, P_L_call, P_X10_call, P_X10_call_46, P_X11_call, P_X11_call_25, P_X11_call_26, P_X11_call_51, P_X11_call_74, P_X11_call_75, P_X10_needRange, P_X11_in, P_X11_asked, P_X11_asked_10, P_X11_asked_, P_X11_asked__18, P_X11_asked__, P_X11_asked___26, P_X11_thrown, P_X11_told, ↓reduceIte, ↓forall_eq, ↓hold_ca, ↓hold_cam, ↓hold_cl, ↓hold_se, ↓hold_sem, ↓hold_st, ↓hold_wr, ↓hold_wrm, li0, li1, li2, li3, li4, li5, li6, li7, li8, li10, li20, li30, li35, li36, li60, li72, li100, li572, li2000, li2100, li9999, nI_lt_t, nI_lt_f, nI_le_t, nI_le_f, nI_eq_t, nI_eq_f, nI_eq_neg2, neg_eq_nI2, neg_lt2, neg_le2, nI_lt_neg2, nI_le_neg2, pred_t, pred_f, nI_clamp', vp_t, lt0_t, lt0_le, lt0_lt, lt0_eq, if_true, if_false, ite_true, ite_false, true_and, and_true, false_and, and_false, false_or, or_false, true_or, or_true, eq_self, fs_ne, fs_eq, fs_eq', st12, st13, st21, st23, st31, st32, not_true_eq_false, not_false_eq_true, em, em', en, en', et, et', eg, eg', ed, ed', es, es', eo', ee, ee', ev, ev', h3, nI_add]
                  refine hI.end ?_
                  repeat (first | exact Sm.refl _ | refine Sm.fs40 ?_ _ _ (by decide) | refine Sm.fsT ?_ _ _ _ _ rfl (by decide) (by decide))
  · rcases int_cases a1 with hneg_y | ⟨y, hbig_y, rfl⟩
    · rcases int_cases a2 with hneg_u | ⟨u, hbig_u, rfl⟩
      · first
          | exfalso; omega
          | simp (disch := first | omega | assumption) only [PL_8, P_L_law_797, P_L_law_830, P_L_call, P_X10_call, P_X10_call_46, P_X11_call, P_X11_call_25, P_X11_call_26, P_X11_call_51, P_X11_call_74, P_X11_call_75, P_X10_needRange, P_X11_in, P_X11_asked, P_X11_asked_10, P_X11_asked_, P_X11_asked__18, P_X11_asked__, P_X11_asked___26, P_X11_thrown, P_X11_told, ↓reduceIte, ↓forall_eq, ↓hold_ca, ↓hold_cam, ↓hold_cl, ↓hold_se, ↓hold_sem, ↓hold_st, ↓hold_wr, ↓hold_wrm, li0, li1, li2, li3, li4, li5, li6, li7, li8, li10, li20, li30, li35, li36, li60, li72, li100, li572, li2000, li2100, li9999, nI_lt_t, nI_lt_f, nI_le_t, nI_le_f, nI_eq_t, nI_eq_f, nI_eq_neg2, neg_eq_nI2, neg_lt2, neg_le2, nI_lt_neg2, nI_le_neg2, pred_t, pred_f, nI_clamp', vp_t, lt0_t, lt0_le, lt0_lt, lt0_eq, if_true, if_false, ite_true, ite_false, true_and, and_true, false_and, and_false, false_or, or_false, true_or, or_true, eq_self, fs_ne, fs_eq, fs_eq', st12, st13, st21, st23, st31, st32, not_true_eq_false, not_false_eq_true, em, em', en, en', et, et', eg, eg', ed, ed', es, es', eo', ee, ee', ev, ev', h3, nI_add]
            refine hI.end ?_
            repeat (first | exact Sm.refl _ | refine Sm.fs40 ?_ _ _ (by decide) | refine Sm.fsT ?_ _ _ _ _ rfl (by decide) (by decide))
      · by_cases hlt_u : u < 31
        · first
            | exfalso; omega
            | simp (disch := first | omega | assumption) only [PL_8, P_L_law_797, P_L_law_830, P_L_call, P_X10_call, P_X10_call_46, P_X11_call, P_X11_call_25, P_X11_call_26, P_X11_call_51, P_X11_call_74, P_X11_call_75, P_X10_needRange, P_X11_in, P_X11_asked, P_X11_asked_10, P_X11_asked_, P_X11_asked__18, P_X11_asked__, P_X11_asked___26, P_X11_thrown, P_X11_told, ↓reduceIte, ↓forall_eq, ↓hold_ca, ↓hold_cam, ↓hold_cl, ↓hold_se, ↓hold_sem, ↓hold_st, ↓hold_wr, ↓hold_wrm, li0, li1, li2, li3, li4, li5, li6, li7, li8, li10, li20, li30, li35, li36, li60, li72, li100, li572, li2000, li2100, li9999, nI_lt_t, nI_lt_f, nI_le_t, nI_le_f, nI_eq_t, nI_eq_f, nI_eq_neg2, neg_eq_nI2, neg_lt2, neg_le2, nI_lt_neg2, nI_le_neg2, pred_t, pred_f, nI_clamp', vp_t, lt0_t, lt0_le, lt0_lt, lt0_eq, if_true, if_false, ite_true, ite_false, true_and, and_true, false_and, and_false, false_or, or_false, true_or, or_true, eq_self, fs_ne, fs_eq, fs_eq', st12, st13, st21, st23, st31, st32, not_true_eq_false, not_false_eq_true, em, em', en, en', et, et', eg, eg', ed, ed', es, es', eo', ee, ee', ev, ev', h3, nI_add]
              refine hI.end ?_
              repeat (first | exact Sm.refl _ | refine Sm.fs40 ?_ _ _ (by decide) | refine Sm.fsT ?_ _ _ _ _ rfl (by decide) (by decide))
        · first
            | exfalso; omega
            | simp (disch := first | omega | assumption) only [PL_8, P_L_law_797, P_L_law_830, P_L_call, P_X10_call, P_X10_call_46, P_X11_call, P_X11_call_25, P_X11_call_26, P_X11_call_51, P_X11_call_74, P_X11_call_75, P_X10_needRange, P_X11_in, P_X11_asked, P_X11_asked_10, P_X11_asked_, P_X11_asked__18, P_X11_asked__, P_X11_asked___26, P_X11_thrown, P_X11_told, ↓reduceIte, ↓forall_eq, ↓hold_ca, ↓hold_cam, ↓hold_cl, ↓hold_se, ↓hold_sem, ↓hold_st, ↓hold_wr, ↓hold_wrm, li0, li1, li2, li3, li4, li5, li6, li7, li8, li10, li20, li30, li35, li36, li60, li72, li100, li572, li2000, li2100, li9999, nI_lt_t, nI_lt_f, nI_le_t, nI_le_f, nI_eq_t, nI_eq_f, nI_eq_neg2, neg_eq_nI2, neg_lt2, neg_le2, nI_lt_neg2, nI_le_neg2, pred_t, pred_f, nI_clamp', vp_t, lt0_t, lt0_le, lt0_lt, lt0_eq, if_true, if_false, ite_true, ite_false, true_and, and_true, false_and, and_false, false_or, or_false, true_or, or_true, eq_self, fs_ne, fs_eq, fs_eq', st12, st13, st21, st23, st31, st32, not_true_eq_false, not_false_eq_true, em, em', en, en', et, et', eg, eg', ed, ed', es, es', eo', ee, ee', ev, ev', h3, nI_add]
              refine hI.end ?_
              repeat (first | exact Sm.refl _ | refine Sm.fs40 ?_ _ _ (by decide) | refine Sm.fsT ?_ _ _ _ _ rfl (by decide) (by decide))
    · by_cases hlo : y < 8
      · rcases int_cases a2 with hneg_u | ⟨u, hbig_u, rfl⟩
        · first
            | exfalso; omega
            | simp (disch := first | omega | assumption) only [PL_8, P_L_law_797, P_L_law_830, P_L_call, P_X10_call, P_X10_call_46, P_X11_call, P_X11_call_25, P_X11_call_26, P_X11_call_51, P_X11_call_74, P_X11_call_75, P_X10_needRange, P_X11_in, P_X11_asked, P_X11_asked_10, P_X11_asked_, P_X11_asked__18, P_X11_asked__, P_X11_asked___26, P_X11_thrown, P_X11_told, ↓reduceIte, ↓forall_eq, ↓hold_ca, ↓hold_cam, ↓hold_cl, ↓hold_se, ↓hold_sem, ↓hold_st, ↓hold_wr, ↓hold_wrm, li0, li1, li2, li3, li4, li5, li6, li7, li8, li10, li20, li30, li35, li36, li60, li72, li100, li572, li2000, li2100, li9999, nI_lt_t, nI_lt_f, nI_le_t, nI_le_f, nI_eq_t, nI_eq_f, nI_eq_neg2, neg_eq_nI2, neg_lt2, neg_le2, nI_lt_neg2, nI_le_neg2, pred_t, pred_f, nI_clamp', vp_t, lt0_t, lt0_le, lt0_lt, lt0_eq, if_true, if_false, ite_true, ite_false, true_and, and_true, false_and, and_false, false_or, or_false, true_or, or_true, eq_self, fs_ne, fs_eq, fs_eq', st12, st13, st21, st23, st31, st32, not_true_eq_false, not_false_eq_true, em, em', en, en', et, et', eg, eg', ed, ed', es, es', eo', ee, ee', ev, ev', h3, nI_add]
              refine hI.end ?_
              repeat (first | exact Sm.refl _ | refine Sm.fs40 ?_ _ _ (by decide) | refine Sm.fsT ?_ _ _ _ _ rfl (by decide) (by decide))
        · by_cases hlt_u : u < 31
          · first
              | exfalso; omega
              | simp (disch := first | omega | assumption) only [PL_8, P_L_law_797, P_L_law_830, P_L_call, P_X10_call, P_X10_call_46, P_X11_call, P_X11_call_25, P_X11_call_26, P_X11_call_51, P_X11_call_74, P_X11_call_75, P_X10_needRange, P_X11_in, P_X11_asked, P_X11_asked_10, P_X11_asked_, P_X11_asked__18, P_X11_asked__, P_X11_asked___26, P_X11_thrown, P_X11_told, ↓reduceIte, ↓forall_eq, ↓hold_ca, ↓hold_cam, ↓hold_cl, ↓hold_se, ↓hold_sem, ↓hold_st, ↓hold_wr, ↓hold_wrm, li0, li1, li2, li3, li4, li5, li6, li7, li8, li10, li20, li30, li35, li36, li60, li72, li100, li572, li2000, li2100, li9999, nI_lt_t, nI_lt_f, nI_le_t, nI_le_f, nI_eq_t, nI_eq_f, nI_eq_neg2, neg_eq_nI2, neg_lt2, neg_le2, nI_lt_neg2, nI_le_neg2, pred_t, pred_f, nI_clamp', vp_t, lt0_t, lt0_le, lt0_lt, lt0_eq, if_true, if_false, ite_true, ite_false, true_and, and_true, false_and, and_false, false_or, or_false, true_or, or_true, eq_self, fs_ne, fs_eq, fs_eq', st12, st13, st21, st23, st31, st32, not_true_eq_false, not_false_eq_true, em, em', en, en', et, et', eg, eg', ed, ed', es, es', eo', ee, ee', ev, ev', h3, nI_add]
                refine hI.end ?_
                repeat (first | exact Sm.refl _ | refine Sm.fs40 ?_ _ _ (by decide) | refine Sm.fsT ?_ _ _ _ _ rfl (by decide) (by decide))
          · first
              | exfalso; omega
              | simp (disch := first | omega | assumption) only [PL_8, P_L_law_797, P_L_law_830, P_L_call, P_X10_call, P_X10_call_46, P_X11_call, P_X11_call_25, P_X11_call_26, P_X11_call_51, P_X11_call_74, P_X11_call_75, P_X10_needRange, P_X11_in, P_X11_asked, P_X11_asked_10, P_X11_asked_, P_X11_asked__18, P_X11_asked__, P_X11_asked___26, P_X11_thrown, P_X11_told, ↓reduceIte, ↓forall_eq, ↓hold_ca, ↓hold_cam, ↓hold_cl, ↓hold_se, ↓hold_sem, ↓hold_st, ↓hold_wr, ↓hold_wrm, li0, li1, li2, li3, li4, li5, li6, li7, li8, li10, li20, li30, li35, li36, li60, li72, li100, li572, li2000, li2100, li9999, nI_lt_t, nI_lt_f, nI_le_t, nI_le_f, nI_eq_t, nI_eq_f, nI_eq_neg2, neg_eq_nI2, neg_lt2, neg_le2, nI_lt_neg2, nI_le_neg2, pred_t, pred_f, nI_clamp', vp_t, lt0_t, lt0_le, lt0_lt, lt0_eq, if_true, if_false, ite_true, ite_false, true_and, and_true, false_and, and_false, false_or, or_false, true_or, or_true, eq_self, fs_ne, fs_eq, fs_eq', st12, st13, st21, st23, st31, st32, not_true_eq_false, not_false_eq_true, em, em', en, en', et, et', eg, eg', ed, ed', es, es', eo', ee, ee', ev, ev', h3, nI_add]
                refine hI.end ?_
                repeat (first | exact Sm.refl _ | refine Sm.fs40 ?_ _ _ (by decide) | refine Sm.fsT ?_ _ _ _ _ rfl (by decide) (by decide))
      · by_cases hlt_y : y < 101
        · rcases int_cases a2 with hneg_u | ⟨u, hbig_u, rfl⟩
          · first
              | exfalso; omega
              | simp (disch := first | omega | assumption) only [PL_8, P_L_law_797, P_L_law_830, P_L_call, P_X10_call, P_X10_call_46, P_X11_call, P_X11_call_25, P_X11_call_26, P_X11_call_51, P_X11_call_74, P_X11_call_75, P_X10_needRange, P_X11_in, P_X11_asked, P_X11_asked_10, P_X11_asked_, P_X11_asked__18, P_X11_asked__, P_X11_asked___26, P_X11_thrown, P_X11_told, ↓reduceIte, ↓forall_eq, ↓hold_ca, ↓hold_cam, ↓hold_cl, ↓hold_se, ↓hold_sem, ↓hold_st, ↓hold_wr, ↓hold_wrm, li0, li1, li2, li3, li4, li5, li6, li7, li8, li10, li20, li30, li35, li36, li60, li72, li100, li572, li2000, li2100, li9999, nI_lt_t, nI_lt_f, nI_le_t, nI_le_f, nI_eq_t, nI_eq_f, nI_eq_neg2, neg_eq_nI2, neg_lt2, neg_le2, nI_lt_neg2, nI_le_neg2, pred_t, pred_f, nI_clamp', vp_t, lt0_t, lt0_le, lt0_lt, lt0_eq, if_true, if_false, ite_true, ite_false, true_and, and_true, false_and, and_false, false_or, or_false, true_or, or_true, eq_self, fs_ne, fs_eq, fs_eq', st12, st13, st21, st23, st31, st32, not_true_eq_false, not_false_eq_true, em, em', en, en', et, et', eg, eg', ed, ed', es, es', eo', ee, ee', ev, ev', h3, nI_add]
                refine hI.end ?_
                repeat (first | exact Sm.refl _ | refine Sm.fs40 ?_ _ _ (by decide) | refine Sm.fsT ?_ _ _ _ _ rfl (by decide) (by decide))
          · by_cases hlt_u : u < 31
            · by_cases hm0 : m = 0
              · by_cases g0 : g = 0
                · simp (disch := first | omega | assumption) only [PL_8, P_L_law_797, P_L_law_830, P_L_call, P_X10_call, P_X10_call_46, P_X11_call, P_X11_call_25, P_X11_call_26, P_X11_call_51, P_X11_call_74, P_X11_call_75, P_X10_needRange, P_X11_in, P_X11_asked, P_X11_asked_10, P_X11_asked_, P_X11_asked__18, P_X11_asked__, P_X11_asked___26, P_X11_thrown, P_X11_told, ↓reduceIte, ↓forall_eq, ↓hold_ca, ↓hold_cam, ↓hold_cl, ↓hold_se, ↓hold_sem, ↓hold_st, ↓hold_wr, ↓hold_wrm, li0, li1, li2, li3, li4, li5, li6, li7, li8, li10, li20, li30, li35, li36, li60, li72, li100, li572, li2000, li2100, li9999, nI_lt_t, nI_lt_f, nI_le_t, nI_le_f, nI_eq_t, nI_eq_f, nI_eq_neg2, neg_eq_nI2, neg_lt2, neg_le2, nI_lt_neg2, nI_le_neg2, pred_t, pred_f, nI_clamp', vp_t, lt0_t, lt0_le, lt0_lt, lt0_eq, if_true, if_false, ite_true, ite_false, true_and, and_true, false_and, and_false, false_or, or_false, true_or, or_true, eq_self, fs_ne, fs_eq, fs_eq', st12, st13, st21, st23, st31, st32, not_true_eq_false, not_false_eq_true, em, em', en, en', et, et', eg, eg', ed, ed', es, es', eo', ee, ee', ev, ev', h3, nI_add]
                  refine hI.end ?_
                  repeat (first | exact Sm.refl _ | refine Sm.fs40 ?_ _ _ (by decide) | refine Sm.fsT ?_ _ _ _ _ rfl (by decide) (by decide))
                · by_cases g5 : g = 5
                  · simp (disch := first | omega | assumption) only [PL_8, P_L_law_797, P_L_law_830, P_L_call, P_X10_call, P_X10_call_46, P_X11_call, P_X11_call_25, P_X11_call_26, P_X11_call_51, P_X11_call_74, P_X11_call_75, P_X10_needRange, P_X11_in, P_X11_asked, P_X11_asked_10, P_X11_asked_, P_X11_asked__18, P_X11_asked__, P_X11_asked___26, P_X11_thrown, P_X11_told, ↓reduceIte, ↓forall_eq, ↓hold_ca, ↓hold_cam, ↓hold_cl, ↓hold_se, ↓hold_sem, ↓hold_st, ↓hold_wr, ↓hold_wrm, li0, li1, li2, li3, li4, li5, li6, li7, li8, li10, li20, li30, li35, li36, li60, li72, li100, li572, li2000, li2100, li9999, nI_lt_t, nI_lt_f, nI_le_t, nI_le_f, nI_eq_t, nI_eq_f, nI_eq_neg2, neg_eq_nI2, neg_lt2, neg_le2, nI_lt_neg2, nI_le_neg2, pred_t, pred_f, nI_clamp', vp_t, lt0_t, lt0_le, lt0_lt, lt0_eq, if_true, if_false, ite_true, ite_false, true_and, and_true, false_and, and_false, false_or, or_false, true_or, or_true, eq_self, fs_ne, fs_eq, fs_eq', st12, st13, st21, st23, st31, st32, not_true_eq_false, not_false_eq_true, em, em', en, en', et, et', eg, eg', ed, ed', es, es', eo', ee, ee', ev, ev', h3, nI_add]
                    refine hI.end ?_
                    repeat (first | exact Sm.refl _ | refine Sm.fs40 ?_ _ _ (by decide) | refine Sm.fsT ?_ _ _ _ _ rfl (by decide) (by decide))
                  · simp (disch := first | omega | assumption) only [PL_8, P_L_law_797, P_L_law_830, P_L_call, P_X10_call, P_X10_call_46, P_X11_call, P_X11_call_25, P_X11_call_26, P_X11_call_51, P_X11_call_74, P_X11_call_75, P_X10_needRange, P_X11_in, P_X11_asked, P_X11_asked_10, P_X11_asked_, P_X11_asked__18, P_X11_asked__, P_X11_asked___26, P_X11_thrown, P_X11_told, ↓reduceIte, ↓forall_eq, ↓hold_ca, ↓hold_cam, ↓hold_cl, ↓hold_se, ↓hold_sem, ↓hold_st, ↓hold_wr, ↓hold_wrm, li0, li1, li2, li3, li4, li5, li6, li7, li8, li10, li20, li30, li35, li36, li60, li72, li100, li572, li2000, li2100, li9999, nI_lt_t, nI_lt_f, nI_le_t, nI_le_f, nI_eq_t, nI_eq_f, nI_eq_neg2, neg_eq_nI2, neg_lt2, neg_le2, nI_lt_neg2, nI_le_neg2, pred_t, pred_f, nI_clamp', vp_t, lt0_t, lt0_le, lt0_lt, lt0_eq, if_true, if_false, ite_true, ite_false, true_and, and_true, false_and, and_false, false_or, or_false, true_or, or_true, eq_self, fs_ne, fs_eq, fs_eq', st12, st13, st21, st23, st31, st32, not_true_eq_false, not_false_eq_true, em, em', en, en', et, et', eg, eg', ed, ed', es, es', eo', ee, ee', ev, ev', h3, nI_add]
                    refine hI.end ?_
                    repeat (first | exact Sm.refl _ | refine Sm.fs40 ?_ _ _ (by decide) | refine Sm.fsT ?_ _ _ _ _ rfl (by decide) (by decide))
              · by_cases hty : t + y ≤ 2000
                · by_cases g0 : g = 0
                  · simp (disch := first | omega | assumption) only [PL_8, P_L_law_797, P_L_law_830, P_L_call, P_X10_call, P_X10_call_46, P_X11_call, P_X11_call_25, P_X11_call_26, P_X11_call_51, P_X11_call_74, P_X11_call_75, P_X10_needRange, P_X11_in, P_X11_asked, P_X11_asked_10, P_X11_asked_, P_X11_asked__18, P_X11_asked__, P_X11_asked___26, P_X11_thrown, P_X11_told, ↓reduceIte, ↓forall_eq, ↓hold_ca, ↓hold_cam, ↓hold_cl, ↓hold_se, ↓hold_sem, ↓hold_st, ↓hold_wr, ↓hold_wrm, li0, li1, li2, li3, li4, li5, li6, li7, li8, li10, li20, li30, li35, li36, li60, li72, li100, li572, li2000, li2100, li9999, nI_lt_t, nI_lt_f, nI_le_t, nI_le_f, nI_eq_t, nI_eq_f, nI_eq_neg2, neg_eq_nI2, neg_lt2, neg_le2, nI_lt_neg2, nI_le_neg2, pred_t, pred_f, nI_clamp', vp_t, lt0_t, lt0_le, lt0_lt, lt0_eq, if_true, if_false, ite_true, ite_false, true_and, and_true, false_and, and_false, false_or, or_false, true_or, or_true, eq_self, fs_ne, fs_eq, fs_eq', st12, st13, st21, st23, st31, st32, not_true_eq_false, not_false_eq_true, em, em', en, en', et, et', eg, eg', ed, ed', es, es', eo', ee, ee', ev, ev', h3, nI_add]
                    try refine unhold ?_
                    refine start_run (by decide) (fun G1 hG1 => ?_)
                    obtain ⟨hG1f, hG1c⟩ := hG1
                    simp (disch := first | omega | assumption) only [PL_8, P_L_law_797, P_L_law_830, P_L_call, P_X10_call, P_X10_call_46, P_X11_call, P_X11_call_25, P_X11_call_26, P_X11_call_51, P_X11_call_74, P_X11_call_75, P_X10_needRange, P_X11_in, P_X11_asked, P_X11_asked_10, P_X11_asked_, P_X11_asked__18, P_X11_asked__, P_X11_asked___26, P_X11_thrown, P_X11_told, ↓reduceIte, ↓forall_eq, ↓hold_ca, ↓hold_cam, ↓hold_cl, ↓hold_se, ↓hold_sem, ↓hold_st, ↓hold_wr, ↓hold_wrm, li0, li1, li2, li3, li4, li5, li6, li7, li8, li10, li20, li30, li35, li36, li60, li72, li100, li572, li2000, li2100, li9999, nI_lt_t, nI_lt_f, nI_le_t, nI_le_f, nI_eq_t, nI_eq_f, nI_eq_neg2, neg_eq_nI2, neg_lt2, neg_le2, nI_lt_neg2, nI_le_neg2, pred_t, pred_f, nI_clamp', vp_t, lt0_t, lt0_le, lt0_lt, lt0_eq, if_true, if_false, ite_true, ite_false, true_and, and_true, false_and, and_false, false_or, or_false, true_or, or_true, eq_self, fs_ne, fs_eq, fs_eq', st12, st13, st21, st23, st31, st32, not_true_eq_false, not_false_eq_true, em, em', en, en', et, et', eg, eg', ed, ed', es, es', eo', ee, ee', ev, ev', h3, nI_add, hG1f, ffill_ne]
                    try refine unhold ?_
                    refine clears_run (fun G2 hG2 G3 hG3 => ?_)
                    obtain ⟨hG2f, hG2c⟩ := hG2
                    obtain ⟨hG3f, hG3c⟩ := hG3
                    have e40 : ∀ j, j ≠ 19 → j ≠ 26 → j ≠ 42 → j ≠ 43 → G3 40 0 j = F 40 0 j := by
                      intro j h1 h2 h3 h4
                      simp (disch := first | omega | decide) only [hG3f, hG2f, hG1f, ffill_ne, ffill_in, fs_ne, fs_eq]
                    have e79 : G3 79 0 0 = nI (t + y) := by
                      simp (disch := first | omega | decide) only [hG3f, hG2f, hG1f, ffill_ne, ffill_in, fs_ne, fs_eq]
                    have f10 : G3 10 = (fs (fs (fs (fs (fs F 10 0 0 1) 10 0 1 (nI (t + y))) 10 0 2 (nI u)) 10 0 3 (nI 1)) 10 0 4 0) 10 := by
                      funext i k
                      simp (disch := first | omega | decide) only [hG3f, hG2f, hG1f, ffill_ne, ffill_in, fs_ne, fs_eq]
                    have f11 : ∀ q, q < 5 → G3 11 0 q = 0 := fun q hq => by simp (disch := first | omega | decide) only [hG3f, hG2f, hG1f, ffill_ne, ffill_in, fs_ne, fs_eq]
                    have f13 : ∀ q, q < 20 → G3 13 0 q = -1 := fun q hq => by simp (disch := first | omega | decide) only [hG3f, hG2f, hG1f, ffill_ne, ffill_in, fs_ne, fs_eq]
                    have f14 : ∀ q, q < 5 → G3 14 0 q = 0 := fun q hq => by simp (disch := first | omega | decide) only [hG3f, hG2f, hG1f, ffill_ne, ffill_in, fs_ne, fs_eq]
                    have f15 : ∀ q, q < 20 → G3 15 0 q = 0 := fun q hq => by simp (disch := first | omega | decide) only [hG3f, hG2f, hG1f, ffill_ne, ffill_in, fs_ne, fs_eq]
                    have f16 : G3 16 0 3 = 0 := by simp (disch := first | omega | decide) only [hG3f, hG2f, hG1f, ffill_ne, ffill_in, fs_ne, fs_eq]
                    have f21 : G3 21 0 4 = 0 := by simp (disch := first | omega | decide) only [hG3f, hG2f, hG1f, ffill_ne, ffill_in, fs_ne, fs_eq]; rfl
                    have e43 : G3 40 0 43 = nI 0 := by simp (disch := first | omega | decide) only [hG3f, hG2f, hG1f, ffill_ne, ffill_in, fs_ne, fs_eq]
                    have f28 : ∀ q, q < 5 → G3 28 q 1 = 0 ∧ G3 28 q 4 = 0 ∧ G3 28 q 5 = -1 := fun q hq => by
                      have := hG1c q hq
                      simp (disch := first | omega | decide) only [hG3f, hG2f, hG1f, ffill_ne, ffill_in, fs_ne, fs_eq]
                      exact this
                    have f19 : G3 40 0 19 = 0 ∧ G3 40 0 26 = 0 ∧ G3 40 0 42 = 0 := by
                      refine ⟨?_, ?_, ?_⟩ <;> simp (disch := first | omega | decide) only [hG3f, hG2f, hG1f, ffill_ne, ffill_in, fs_ne, fs_eq]
                    have f52 : ∀ q, q < 20 → G3 52 0 q = -1 ∧ G3 54 0 q = 0 := fun q hq => by
                      have := hG2c q hq
                      simp (disch := first | omega | decide) only [hG3f, hG2f, hG1f, ffill_ne, ffill_in, fs_ne, fs_eq]
                      exact this
                    have fo : ∀ f, f ≠ 10 → f ≠ 11 → f ≠ 13 → f ≠ 14 → f ≠ 15 → f ≠ 16 → f ≠ 21 → f ≠ 28 → f ≠ 79 → f ≠ 40 → f ≠ 52 → f ≠ 54 → f ≠ 51 → f ≠ 53 → f ≠ 59 → f ≠ 62 → f ≠ 63 → G3 f = F f := by
                      intro f h1 h2 h3 h4 h5 h6 h7 h8 h9 h10 h11 h12 h13 h14 h15 h16 h17
                      funext i k
                      rw [hG3f f h13 h14 h15 h16 h17, hG2f f h11 h12]
                      simp (disch := first | omega | assumption) only [fs_ne]
                      rw [hG1f f h8]
                      simp (disch := first | omega | assumption) only [fs_ne, ffill_ne]
                    clear hG3f hG2f hG1f hG1c hG2c
                    simp (disch := first | omega | assumption) only [PL_8, P_L_law_797, P_L_law_830, P_L_call, P_X10_call, P_X10_call_46, P_X11_call, P_X11_call_25, P_X11_call_26, P_X11_call_51, P_X11_call_74, P_X11_call_75, P_X10_needRange, P_X11_in, P_X11_asked, P_X11_asked_10, P_X11_asked_, P_X11_asked__18, P_X11_asked__, P_X11_asked___26, P_X11_thrown, P_X11_told, ↓reduceIte, ↓forall_eq, ↓hold_ca, ↓hold_cam, ↓hold_cl, ↓hold_se, ↓hold_sem, ↓hold_st, ↓hold_wr, ↓hold_wrm, li0, li1, li2, li3, li4, li5, li6, li7, li8, li10, li20, li30, li35, li36, li60, li72, li100, li572, li2000, li2100, li9999, nI_lt_t, nI_lt_f, nI_le_t, nI_le_f, nI_eq_t, nI_eq_f, nI_eq_neg2, neg_eq_nI2, neg_lt2, neg_le2, nI_lt_neg2, nI_le_neg2, pred_t, pred_f, nI_clamp', vp_t, lt0_t, lt0_le, lt0_lt, lt0_eq, if_true, if_false, ite_true, ite_false, true_and, and_true, false_and, and_false, false_or, or_false, true_or, or_true, eq_self, fs_ne, fs_eq, fs_eq', st12, st13, st21, st23, st31, st32, not_true_eq_false, not_false_eq_true, e40, e43, e79, et', nI_add]
                    refine call_inv hk hI et (t := t) (y := y) (by omega) (by omega) (by omega) (u := u) (by omega) e40 f10 f11 f13 f14 f15 f16 f21 f28 f19 f52 hG3c fo
                  · by_cases g5 : g = 5
                    · simp (disch := first | omega | assumption) only [PL_8, P_L_law_797, P_L_law_830, P_L_call, P_X10_call, P_X10_call_46, P_X11_call, P_X11_call_25, P_X11_call_26, P_X11_call_51, P_X11_call_74, P_X11_call_75, P_X10_needRange, P_X11_in, P_X11_asked, P_X11_asked_10, P_X11_asked_, P_X11_asked__18, P_X11_asked__, P_X11_asked___26, P_X11_thrown, P_X11_told, ↓reduceIte, ↓forall_eq, ↓hold_ca, ↓hold_cam, ↓hold_cl, ↓hold_se, ↓hold_sem, ↓hold_st, ↓hold_wr, ↓hold_wrm, li0, li1, li2, li3, li4, li5, li6, li7, li8, li10, li20, li30, li35, li36, li60, li72, li100, li572, li2000, li2100, li9999, nI_lt_t, nI_lt_f, nI_le_t, nI_le_f, nI_eq_t, nI_eq_f, nI_eq_neg2, neg_eq_nI2, neg_lt2, neg_le2, nI_lt_neg2, nI_le_neg2, pred_t, pred_f, nI_clamp', vp_t, lt0_t, lt0_le, lt0_lt, lt0_eq, if_true, if_false, ite_true, ite_false, true_and, and_true, false_and, and_false, false_or, or_false, true_or, or_true, eq_self, fs_ne, fs_eq, fs_eq', st12, st13, st21, st23, st31, st32, not_true_eq_false, not_false_eq_true, em, em', en, en', et, et', eg, eg', ed, ed', es, es', eo', ee, ee', ev, ev', h3, nI_add]
                      try refine unhold ?_
                      refine start_run (by decide) (fun G1 hG1 => ?_)
                      obtain ⟨hG1f, hG1c⟩ := hG1
                      simp (disch := first | omega | assumption) only [PL_8, P_L_law_797, P_L_law_830, P_L_call, P_X10_call, P_X10_call_46, P_X11_call, P_X11_call_25, P_X11_call_26, P_X11_call_51, P_X11_call_74, P_X11_call_75, P_X10_needRange, P_X11_in, P_X11_asked, P_X11_asked_10, P_X11_asked_, P_X11_asked__18, P_X11_asked__, P_X11_asked___26, P_X11_thrown, P_X11_told, ↓reduceIte, ↓forall_eq, ↓hold_ca, ↓hold_cam, ↓hold_cl, ↓hold_se, ↓hold_sem, ↓hold_st, ↓hold_wr, ↓hold_wrm, li0, li1, li2, li3, li4, li5, li6, li7, li8, li10, li20, li30, li35, li36, li60, li72, li100, li572, li2000, li2100, li9999, nI_lt_t, nI_lt_f, nI_le_t, nI_le_f, nI_eq_t, nI_eq_f, nI_eq_neg2, neg_eq_nI2, neg_lt2, neg_le2, nI_lt_neg2, nI_le_neg2, pred_t, pred_f, nI_clamp', vp_t, lt0_t, lt0_le, lt0_lt, lt0_eq, if_true, if_false, ite_true, ite_false, true_and, and_true, false_and, and_false, false_or, or_false, true_or, or_true, eq_self, fs_ne, fs_eq, fs_eq', st12, st13, st21, st23, st31, st32, not_true_eq_false, not_false_eq_true, em, em', en, en', et, et', eg, eg', ed, ed', es, es', eo', ee, ee', ev, ev', h3, nI_add, hG1f, ffill_ne]
                      try refine unhold ?_
                      refine clears_run (fun G2 hG2 G3 hG3 => ?_)
                      obtain ⟨hG2f, hG2c⟩ := hG2
                      obtain ⟨hG3f, hG3c⟩ := hG3
                      have e40 : ∀ j, j ≠ 19 → j ≠ 26 → j ≠ 42 → j ≠ 43 → G3 40 0 j = F 40 0 j := by
                        intro j h1 h2 h3 h4
                        simp (disch := first | omega | decide) only [hG3f, hG2f, hG1f, ffill_ne, ffill_in, fs_ne, fs_eq]
                      have e79 : G3 79 0 0 = nI (t + y) := by
                        simp (disch := first | omega | decide) only [hG3f, hG2f, hG1f, ffill_ne, ffill_in, fs_ne, fs_eq]
                      have f10 : G3 10 = (fs (fs (fs (fs (fs F 10 0 0 1) 10 0 1 (nI (t + y))) 10 0 2 (nI u)) 10 0 3 (nI 1)) 10 0 4 0) 10 := by
                        funext i k
                        simp (disch := first | omega | decide) only [hG3f, hG2f, hG1f, ffill_ne, ffill_in, fs_ne, fs_eq]
                      have f11 : ∀ q, q < 5 → G3 11 0 q = 0 := fun q hq => by simp (disch := first | omega | decide) only [hG3f, hG2f, hG1f, ffill_ne, ffill_in, fs_ne, fs_eq]
                      have f13 : ∀ q, q < 20 → G3 13 0 q = -1 := fun q hq => by simp (disch := first | omega | decide) only [hG3f, hG2f, hG1f, ffill_ne, ffill_in, fs_ne, fs_eq]
                      have f14 : ∀ q, q < 5 → G3 14 0 q = 0 := fun q hq => by simp (disch := first | omega | decide) only [hG3f, hG2f, hG1f, ffill_ne, ffill_in, fs_ne, fs_eq]
                      have f15 : ∀ q, q < 20 → G3 15 0 q = 0 := fun q hq => by simp (disch := first | omega | decide) only [hG3f, hG2f, hG1f, ffill_ne, ffill_in, fs_ne, fs_eq]
                      have f16 : G3 16 0 3 = 0 := by simp (disch := first | omega | decide) only [hG3f, hG2f, hG1f, ffill_ne, ffill_in, fs_ne, fs_eq]
                      have f21 : G3 21 0 4 = 0 := by simp (disch := first | omega | decide) only [hG3f, hG2f, hG1f, ffill_ne, ffill_in, fs_ne, fs_eq]; rfl
                      have e43 : G3 40 0 43 = nI 0 := by simp (disch := first | omega | decide) only [hG3f, hG2f, hG1f, ffill_ne, ffill_in, fs_ne, fs_eq]
                      have f28 : ∀ q, q < 5 → G3 28 q 1 = 0 ∧ G3 28 q 4 = 0 ∧ G3 28 q 5 = -1 := fun q hq => by
                        have := hG1c q hq
                        simp (disch := first | omega | decide) only [hG3f, hG2f, hG1f, ffill_ne, ffill_in, fs_ne, fs_eq]
                        exact this
                      have f19 : G3 40 0 19 = 0 ∧ G3 40 0 26 = 0 ∧ G3 40 0 42 = 0 := by
                        refine ⟨?_, ?_, ?_⟩ <;> simp (disch := first | omega | decide) only [hG3f, hG2f, hG1f, ffill_ne, ffill_in, fs_ne, fs_eq]
                      have f52 : ∀ q, q < 20 → G3 52 0 q = -1 ∧ G3 54 0 q = 0 := fun q hq => by
                        have := hG2c q hq
                        simp (disch := first | omega | decide) only [hG3f, hG2f, hG1f, ffill_ne, ffill_in, fs_ne, fs_eq]
                        exact this
                      have fo : ∀ f, f ≠ 10 → f ≠ 11 → f ≠ 13 → f ≠ 14 → f ≠ 15 → f ≠ 16 → f ≠ 21 → f ≠ 28 → f ≠ 79 → f ≠ 40 → f ≠ 52 → f ≠ 54 → f ≠ 51 → f ≠ 53 → f ≠ 59 → f ≠ 62 → f ≠ 63 → G3 f = F f := by
                        intro f h1 h2 h3 h4 h5 h6 h7 h8 h9 h10 h11 h12 h13 h14 h15 h16 h17
                        funext i k
                        rw [hG3f f h13 h14 h15 h16 h17, hG2f f h11 h12]
                        simp (disch := first | omega | assumption) only [fs_ne]
                        rw [hG1f f h8]
                        simp (disch := first | omega | assumption) only [fs_ne, ffill_ne]
                      clear hG3f hG2f hG1f hG1c hG2c
                      simp (disch := first | omega | assumption) only [PL_8, P_L_law_797, P_L_law_830, P_L_call, P_X10_call, P_X10_call_46, P_X11_call, P_X11_call_25, P_X11_call_26, P_X11_call_51, P_X11_call_74, P_X11_call_75, P_X10_needRange, P_X11_in, P_X11_asked, P_X11_asked_10, P_X11_asked_, P_X11_asked__18, P_X11_asked__, P_X11_asked___26, P_X11_thrown, P_X11_told, ↓reduceIte, ↓forall_eq, ↓hold_ca, ↓hold_cam, ↓hold_cl, ↓hold_se, ↓hold_sem, ↓hold_st, ↓hold_wr, ↓hold_wrm, li0, li1, li2, li3, li4, li5, li6, li7, li8, li10, li20, li30, li35, li36, li60, li72, li100, li572, li2000, li2100, li9999, nI_lt_t, nI_lt_f, nI_le_t, nI_le_f, nI_eq_t, nI_eq_f, nI_eq_neg2, neg_eq_nI2, neg_lt2, neg_le2, nI_lt_neg2, nI_le_neg2, pred_t, pred_f, nI_clamp', vp_t, lt0_t, lt0_le, lt0_lt, lt0_eq, if_true, if_false, ite_true, ite_false, true_and, and_true, false_and, and_false, false_or, or_false, true_or, or_true, eq_self, fs_ne, fs_eq, fs_eq', st12, st13, st21, st23, st31, st32, not_true_eq_false, not_false_eq_true, e40, e43, e79, et', nI_add]
                      refine call_inv hk hI et (t := t) (y := y) (by omega) (by omega) (by omega) (u := u) (by omega) e40 f10 f11 f13 f14 f15 f16 f21 f28 f19 f52 hG3c fo
                    · simp (disch := first | omega | assumption) only [PL_8, P_L_law_797, P_L_law_830, P_L_call, P_X10_call, P_X10_call_46, P_X11_call, P_X11_call_25, P_X11_call_26, P_X11_call_51, P_X11_call_74, P_X11_call_75, P_X10_needRange, P_X11_in, P_X11_asked, P_X11_asked_10, P_X11_asked_, P_X11_asked__18, P_X11_asked__, P_X11_asked___26, P_X11_thrown, P_X11_told, ↓reduceIte, ↓forall_eq, ↓hold_ca, ↓hold_cam, ↓hold_cl, ↓hold_se, ↓hold_sem, ↓hold_st, ↓hold_wr, ↓hold_wrm, li0, li1, li2, li3, li4, li5, li6, li7, li8, li10, li20, li30, li35, li36, li60, li72, li100, li572, li2000, li2100, li9999, nI_lt_t, nI_lt_f, nI_le_t, nI_le_f, nI_eq_t, nI_eq_f, nI_eq_neg2, neg_eq_nI2, neg_lt2, neg_le2, nI_lt_neg2, nI_le_neg2, pred_t, pred_f, nI_clamp', vp_t, lt0_t, lt0_le, lt0_lt, lt0_eq, if_true, if_false, ite_true, ite_false, true_and, and_true, false_and, and_false, false_or, or_false, true_or, or_true, eq_self, fs_ne, fs_eq, fs_eq', st12, st13, st21, st23, st31, st32, not_true_eq_false, not_false_eq_true, em, em', en, en', et, et', eg, eg', ed, ed', es, es', eo', ee, ee', ev, ev', h3, nI_add]
                      refine hI.end ?_
                      repeat (first | exact Sm.refl _ | refine Sm.fs40 ?_ _ _ (by decide) | refine Sm.fsT ?_ _ _ _ _ rfl (by decide) (by decide))
                · by_cases g0 : g = 0
                  · simp (disch := first | omega | assumption) only [PL_8, P_L_law_797, P_L_law_830, P_L_call, P_X10_call, P_X10_call_46, P_X11_call, P_X11_call_25, P_X11_call_26, P_X11_call_51, P_X11_call_74, P_X11_call_75, P_X10_needRange, P_X11_in, P_X11_asked, P_X11_asked_10, P_X11_asked_, P_X11_asked__18, P_X11_asked__, P_X11_asked___26, P_X11_thrown, P_X11_told, ↓reduceIte, ↓forall_eq, ↓hold_ca, ↓hold_cam, ↓hold_cl, ↓hold_se, ↓hold_sem, ↓hold_st, ↓hold_wr, ↓hold_wrm, li0, li1, li2, li3, li4, li5, li6, li7, li8, li10, li20, li30, li35, li36, li60, li72, li100, li572, li2000, li2100, li9999, nI_lt_t, nI_lt_f, nI_le_t, nI_le_f, nI_eq_t, nI_eq_f, nI_eq_neg2, neg_eq_nI2, neg_lt2, neg_le2, nI_lt_neg2, nI_le_neg2, pred_t, pred_f, nI_clamp', vp_t, lt0_t, lt0_le, lt0_lt, lt0_eq, if_true, if_false, ite_true, ite_false, true_and, and_true, false_and, and_false, false_or, or_false, true_or, or_true, eq_self, fs_ne, fs_eq, fs_eq', st12, st13, st21, st23, st31, st32, not_true_eq_false, not_false_eq_true, em, em', en, en', et, et', eg, eg', ed, ed', es, es', eo', ee, ee', ev, ev', h3, nI_add]
                    refine hI.end ?_
                    repeat (first | exact Sm.refl _ | refine Sm.fs40 ?_ _ _ (by decide) | refine Sm.fsT ?_ _ _ _ _ rfl (by decide) (by decide))
                  · by_cases g5 : g = 5
                    · simp (disch := first | omega | assumption) only [PL_8, P_L_law_797, P_L_law_830, P_L_call, P_X10_call, P_X10_call_46, P_X11_call, P_X11_call_25, P_X11_call_26, P_X11_call_51, P_X11_call_74, P_X11_call_75, P_X10_needRange, P_X11_in, P_X11_asked, P_X11_asked_10, P_X11_asked_, P_X11_asked__18, P_X11_asked__, P_X11_asked___26, P_X11_thrown, P_X11_told, ↓reduceIte, ↓forall_eq, ↓hold_ca, ↓hold_cam, ↓hold_cl, ↓hold_se, ↓hold_sem, ↓hold_st, ↓hold_wr, ↓hold_wrm, li0, li1, li2, li3, li4, li5, li6, li7, li8, li10, li20, li30, li35, li36, li60, li72, li100, li572, li2000, li2100, li9999, nI_lt_t, nI_lt_f, nI_le_t, nI_le_f, nI_eq_t, nI_eq_f, nI_eq_neg2, neg_eq_nI2, neg_lt2, neg_le2, nI_lt_neg2, nI_le_neg2, pred_t, pred_f, nI_clamp', vp_t, lt0_t, lt0_le, lt0_lt, lt0_eq, if_true, if_false, ite_true, ite_false, true_and, and_true, false_and, and_false, false_or, or_false, true_or, or_true, eq_self, fs_ne, fs_eq, fs_eq', st12, st13, st21, st23, st31, st32, not_true_eq_false, not_false_eq_true, em, em', en, en', et, et', eg, eg', ed, ed', es, es', eo', ee, ee', ev, ev', h3, nI_add]
                      refine hI.end ?_
                      repeat (first | exact Sm.refl _ | refine Sm.fs40 ?_ _ _ (by decide) | refine Sm.fsT ?_ _ _ _ _ rfl (by decide) (by decide))
                    · simp (disch := first | omega | assumption) only [PL_8, P_L_law_797, P_L_law_830, P_L_call, P_X10_call, P_X10_call_46, P_X11_call, P_X11_call_25, P_X11_call_26, P_X11_call_51, P_X11_call_74, P_X11_call_75, P_X10_needRange, P_X11_in, P_X11_asked, P_X11_asked_10, P_X11_asked_, P_X11_asked__18, P_X11_asked__, P_X11_asked___26, P_X11_thrown, P_X11_told, ↓reduceIte, ↓forall_eq, ↓hold_ca, ↓hold_cam, ↓hold_cl, ↓hold_se, ↓hold_sem, ↓hold_st, ↓hold_wr, ↓hold_wrm, li0, li1, li2, li3, li4, li5, li6, li7, li8, li10, li20, li30, li35, li36, li60, li72, li100, li572, li2000, li2100, li9999, nI_lt_t, nI_lt_f, nI_le_t, nI_le_f, nI_eq_t, nI_eq_f, nI_eq_neg2, neg_eq_nI2, neg_lt2, neg_le2, nI_lt_neg2, nI_le_neg2, pred_t, pred_f, nI_clamp', vp_t, lt0_t, lt0_le, lt0_lt, lt0_eq, if_true, if_false, ite_true, ite_false, true_and, and_true, false_and, and_false, false_or, or_false, true_or, or_true, eq_self, fs_ne, fs_eq, fs_eq', st12, st13, st21, st23, st31, st32, not_true_eq_false, not_false_eq_true, em, em', en, en', et, et', eg, eg', ed, ed', es, es', eo', ee, ee', ev, ev', h3, nI_add]
                      refine hI.end ?_
                      repeat (first | exact Sm.refl _ | refine Sm.fs40 ?_ _ _ (by decide) | refine Sm.fsT ?_ _ _ _ _ rfl (by decide) (by decide))
            · first
                | exfalso; omega
                | simp (disch := first | omega | assumption) only [PL_8, P_L_law_797, P_L_law_830, P_L_call, P_X10_call, P_X10_call_46, P_X11_call, P_X11_call_25, P_X11_call_26, P_X11_call_51, P_X11_call_74, P_X11_call_75, P_X10_needRange, P_X11_in, P_X11_asked, P_X11_asked_10, P_X11_asked_, P_X11_asked__18, P_X11_asked__, P_X11_asked___26, P_X11_thrown, P_X11_told, ↓reduceIte, ↓forall_eq, ↓hold_ca, ↓hold_cam, ↓hold_cl, ↓hold_se, ↓hold_sem, ↓hold_st, ↓hold_wr, ↓hold_wrm, li0, li1, li2, li3, li4, li5, li6, li7, li8, li10, li20, li30, li35, li36, li60, li72, li100, li572, li2000, li2100, li9999, nI_lt_t, nI_lt_f, nI_le_t, nI_le_f, nI_eq_t, nI_eq_f, nI_eq_neg2, neg_eq_nI2, neg_lt2, neg_le2, nI_lt_neg2, nI_le_neg2, pred_t, pred_f, nI_clamp', vp_t, lt0_t, lt0_le, lt0_lt, lt0_eq, if_true, if_false, ite_true, ite_false, true_and, and_true, false_and, and_false, false_or, or_false, true_or, or_true, eq_self, fs_ne, fs_eq, fs_eq', st12, st13, st21, st23, st31, st32, not_true_eq_false, not_false_eq_true, em, em', en, en', et, et', eg, eg', ed, ed', es, es', eo', ee, ee', ev, ev', h3, nI_add]
                  refine hI.end ?_
                  repeat (first | exact Sm.refl _ | refine Sm.fs40 ?_ _ _ (by decide) | refine Sm.fsT ?_ _ _ _ _ rfl (by decide) (by decide))
        · rcases int_cases a2 with hneg_u | ⟨u, hbig_u, rfl⟩
          · first
              | exfalso; omega
              | simp (disch := first | omega | assumption) only [PL_8, P_L_law_797, P_L_law_830, P_L_call, P_X10_call, P_X10_call_46, P_X11_call, P_X11_call_25, P_X11_call_26, P_X11_call_51, P_X11_call_74, P_X11_call_75, P_X10_needRange, P_X11_in, P_X11_asked, P_X11_asked_10, P_X11_asked_, P_X11_asked__18, P_X11_asked__, P_X11_asked___26, P_X11_thrown, P_X11_told, ↓reduceIte, ↓forall_eq, ↓hold_ca, ↓hold_cam, ↓hold_cl, ↓hold_se, ↓hold_sem, ↓hold_st, ↓hold_wr, ↓hold_wrm, li0, li1, li2, li3, li4, li5, li6, li7, li8, li10, li20, li30, li35, li36, li60, li72, li100, li572, li2000, li2100, li9999, nI_lt_t, nI_lt_f, nI_le_t, nI_le_f, nI_eq_t, nI_eq_f, nI_eq_neg2, neg_eq_nI2, neg_lt2, neg_le2, nI_lt_neg2, nI_le_neg2, pred_t, pred_f, nI_clamp', vp_t, lt0_t, lt0_le, lt0_lt, lt0_eq, if_true, if_false, ite_true, ite_false, true_and, and_true, false_and, and_false, false_or, or_false, true_or, or_true, eq_self, fs_ne, fs_eq, fs_eq', st12, st13, st21, st23, st31, st32, not_true_eq_false, not_false_eq_true, em, em', en, en', et, et', eg, eg', ed, ed', es, es', eo', ee, ee', ev, ev', h3, nI_add]
                refine hI.end ?_
                repeat (first | exact Sm.refl _ | refine Sm.fs40 ?_ _ _ (by decide) | refine Sm.fsT ?_ _ _ _ _ rfl (by decide) (by decide))
          · by_cases hlt_u : u < 31
            · first
                | exfalso; omega
                | simp (disch := first | omega | assumption) only [PL_8, P_L_law_797, P_L_law_830, P_L_call, P_X10_call, P_X10_call_46, P_X11_call, P_X11_call_25, P_X11_call_26, P_X11_call_51, P_X11_call_74, P_X11_call_75, P_X10_needRange, P_X11_in, P_X11_asked, P_X11_asked_10, P_X11_asked_, P_X11_asked__18, P_X11_asked__, P_X11_asked___26, P_X11_thrown, P_X11_told, ↓reduceIte, ↓forall_eq, ↓hold_ca, ↓hold_cam, ↓hold_cl, ↓hold_se, ↓hold_sem, ↓hold_st, ↓hold_wr, ↓hold_wrm, li0, li1, li2, li3, li4, li5, li6, li7, li8, li10, li20, li30, li35, li36, li60, li72, li100, li572, li2000, li2100, li9999, nI_lt_t, nI_lt_f, nI_le_t, nI_le_f, nI_eq_t, nI_eq_f, nI_eq_neg2, neg_eq_nI2, neg_lt2, neg_le2, nI_lt_neg2, nI_le_neg2, pred_t, pred_f, nI_clamp', vp_t, lt0_t, lt0_le, lt0_lt, lt0_eq, if_true, if_false, ite_true, ite_false, true_and, and_true, false_and, and_false, false_or, or_false, true_or, or_true, eq_self, fs_ne, fs_eq, fs_eq', st12, st13, st21, st23, st31, st32, not_true_eq_false, not_false_eq_true, em, em', en, en', et, et', eg, eg', ed, ed', es, es', eo', ee, ee', ev, ev', h3, nI_add]
                  refine hI.end ?_
                  repeat (first | exact Sm.refl _ | refine Sm.fs40 ?_ _ _ (by decide) | refine Sm.fsT ?_ _ _ _ _ rfl (by decide) (by decide))
            · first
                | exfalso; omega
                | simp (disch := first | omega | assumption) only [PL_8, P_L_law_797, P_L_law_830, P_L_call, P_X10_call, P_X10_call_46, P_X11_call, P_X11_call_25, P_X11_call_26, P_X11_call_51, P_X11_call_74, P_X11_call_75, P_X10_needRange, P_X11_in, P_X11_asked, P_X11_asked_10, P_X11_asked_, P_X11_asked__18, P_X11_asked__, P_X11_asked___26, P_X11_thrown, P_X11_told, ↓reduceIte, ↓forall_eq, ↓hold_ca, ↓hold_cam, ↓hold_cl, ↓hold_se, ↓hold_sem, ↓hold_st, ↓hold_wr, ↓hold_wrm, li0, li1, li2, li3, li4, li5, li6, li7, li8, li10, li20, li30, li35, li36, li60, li72, li100, li572, li2000, li2100, li9999, nI_lt_t, nI_lt_f, nI_le_t, nI_le_f, nI_eq_t, nI_eq_f, nI_eq_neg2, neg_eq_nI2, neg_lt2, neg_le2, nI_lt_neg2, nI_le_neg2, pred_t, pred_f, nI_clamp', vp_t, lt0_t, lt0_le, lt0_lt, lt0_eq, if_true, if_false, ite_true, ite_false, true_and, and_true, false_and, and_false, false_or, or_false, true_or, or_true, eq_self, fs_ne, fs_eq, fs_eq', st12, st13, st21, st23, st31, st32, not_true_eq_false, not_false_eq_true, em, em', en, en', et, et', eg, eg', ed, ed', es, es', eo', ee, ee', ev, ev', h3, nI_add]
                  refine hI.end ?_
                  repeat (first | exact Sm.refl _ | refine Sm.fs40 ?_ _ _ (by decide) | refine Sm.fsT ?_ _ _ _ _ rfl (by decide) (by decide))
