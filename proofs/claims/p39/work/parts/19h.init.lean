/-- what is set while the two objects are made: family, index, from, how many, value -/
def zL : List (Nat × Nat × Nat × Nat × Int32) := [(1, 0, 0, 1, 1), (1, 0, 1, 1, 1), (1, 0, 2, 1, 1), (0, 0, 0, 1, 1), (0, 0, 1, 1, 1), (0, 0, 2, 1, 0), (6, 0, 0, 1, 1), (6, 0, 1, 1, 1), (6, 0, 2, 1, 0), (0, 0, 3, 1, 1), (0, 0, 4, 1, 1), (0, 0, 5, 1, 0), (10, 0, 0, 1, 0), (10, 0, 1, 1, 0), (10, 0, 2, 1, 0), (10, 0, 3, 1, 0), (10, 0, 4, 1, 0), (10, 0, 5, 1, 1), (12, 0, 0, 1, 1), (12, 0, 1, 1, 1), (12, 0, 2, 1, 1), (13, 0, 0, 20, -1), (10, 0, 6, 1, 1), (16, 0, 0, 1, 1), (16, 0, 1, 1, 1), (16, 0, 2, 1, 1), (16, 0, 3, 1, 0), (10, 0, 7, 1, 1), (10, 0, 8, 1, 1), (21, 0, 0, 1, 1), (21, 0, 1, 1, 1), (21, 0, 2, 1, 1), (25, 0, 0, 1, 1), (25, 0, 1, 1, 0), (21, 0, 3, 1, 1), (21, 0, 4, 1, 0), (10, 0, 9, 1, 1), (28, 0, 0, 1, 1), (28, 0, 1, 1, 0), (28, 0, 2, 1, 1), (31, 0, 0, 8, 1), (28, 0, 3, 1, 1), (28, 0, 4, 1, 0), (28, 0, 5, 1, -1), (20, 0, 0, 1, 1), (28, 1, 0, 1, 1), (28, 1, 1, 1, 0), (28, 1, 2, 1, 1), (31, 1, 0, 8, 1), (28, 1, 3, 1, 1), (28, 1, 4, 1, 0), (28, 1, 5, 1, -1), (20, 0, 1, 1, 1), (28, 2, 0, 1, 1), (28, 2, 1, 1, 0), (28, 2, 2, 1, 1), (31, 2, 0, 8, 1), (28, 2, 3, 1, 1), (28, 2, 4, 1, 0), (28, 2, 5, 1, -1), (20, 0, 2, 1, 1), (28, 3, 0, 1, 1), (28, 3, 1, 1, 0), (28, 3, 2, 1, 1), (31, 3, 0, 8, 1), (28, 3, 3, 1, 1), (28, 3, 4, 1, 0), (28, 3, 5, 1, -1), (20, 0, 3, 1, 1), (28, 4, 0, 1, 1), (28, 4, 1, 1, 0), (28, 4, 2, 1, 1), (31, 4, 0, 8, 1), (28, 4, 3, 1, 1), (28, 4, 4, 1, 0), (28, 4, 5, 1, -1), (20, 0, 4, 1, 1), (0, 0, 6, 1, 1), (27, 0, 0, 1, 1), (27, 0, 1, 1, 1), (27, 0, 2, 1, 1), (27, 0, 3, 1, 1), (27, 0, 4, 1, 0), (27, 0, 5, 1, 0), (27, 0, 6, 1, 0), (0, 0, 7, 1, 1), (33, 0, 0, 1, 0), (33, 0, 1, 1, -1), (33, 0, 2, 1, 0), (5, 0, 0, 1, 1), (33, 1, 0, 1, 0), (33, 1, 1, 1, -1), (33, 1, 2, 1, 0), (5, 0, 1, 1, 1), (33, 2, 0, 1, 0), (33, 2, 1, 1, -1), (33, 2, 2, 1, 0), (5, 0, 2, 1, 1), (33, 3, 0, 1, 0), (33, 3, 1, 1, -1), (33, 3, 2, 1, 0), (5, 0, 3, 1, 1), (33, 4, 0, 1, 0), (33, 4, 1, 1, -1), (33, 4, 2, 1, 0), (5, 0, 4, 1, 1), (33, 5, 0, 1, 0), (33, 5, 1, 1, -1), (33, 5, 2, 1, 0), (5, 0, 5, 1, 1), (33, 6, 0, 1, 0), (33, 6, 1, 1, -1), (33, 6, 2, 1, 0), (5, 0, 6, 1, 1), (33, 7, 0, 1, 0), (33, 7, 1, 1, -1), (33, 7, 2, 1, 0), (5, 0, 7, 1, 1), (33, 8, 0, 1, 0), (33, 8, 1, 1, -1), (33, 8, 2, 1, 0), (5, 0, 8, 1, 1), (33, 9, 0, 1, 0), (33, 9, 1, 1, -1), (33, 9, 2, 1, 0), (5, 0, 9, 1, 1), (33, 10, 0, 1, 0), (33, 10, 1, 1, -1), (33, 10, 2, 1, 0), (5, 0, 10, 1, 1), (33, 11, 0, 1, 0), (33, 11, 1, 1, -1), (33, 11, 2, 1, 0), (5, 0, 11, 1, 1), (33, 12, 0, 1, 0), (33, 12, 1, 1, -1), (33, 12, 2, 1, 0), (5, 0, 12, 1, 1), (33, 13, 0, 1, 0), (33, 13, 1, 1, -1), (33, 13, 2, 1, 0), (5, 0, 13, 1, 1), (33, 14, 0, 1, 0), (33, 14, 1, 1, -1), (33, 14, 2, 1, 0), (5, 0, 14, 1, 1), (33, 15, 0, 1, 0), (33, 15, 1, 1, -1), (33, 15, 2, 1, 0), (5, 0, 15, 1, 1), (33, 16, 0, 1, 0), (33, 16, 1, 1, -1), (33, 16, 2, 1, 0), (5, 0, 16, 1, 1), (33, 17, 0, 1, 0), (33, 17, 1, 1, -1), (33, 17, 2, 1, 0), (5, 0, 17, 1, 1), (33, 18, 0, 1, 0), (33, 18, 1, 1, -1), (33, 18, 2, 1, 0), (5, 0, 18, 1, 1), (33, 19, 0, 1, 0), (33, 19, 1, 1, -1), (33, 19, 2, 1, 0), (5, 0, 19, 1, 1), (40, 0, 1, 1, 1), (40, 0, 2, 1, 1), (40, 0, 3, 1, 1), (40, 0, 4, 1, 1), (40, 0, 5, 1, 1), (40, 0, 7, 1, 1), (40, 0, 8, 1, 1), (40, 0, 10, 1, 1), (40, 0, 11, 1, 1), (40, 0, 12, 1, 1), (40, 0, 14, 1, 0), (40, 0, 18, 1, 1), (40, 0, 20, 1, 1), (40, 0, 21, 1, 1), (40, 0, 22, 1, 1), (40, 0, 23, 1, 1), (40, 0, 24, 1, 1), (40, 0, 25, 1, 1), (40, 0, 27, 1, 1), (40, 0, 28, 1, 1), (40, 0, 29, 1, 1), (40, 0, 30, 1, 1), (40, 0, 31, 1, 1), (40, 0, 32, 1, 1), (40, 0, 33, 1, 1), (40, 0, 34, 1, 1), (40, 0, 35, 1, 1), (40, 0, 36, 1, 1), (40, 0, 39, 1, 1), (40, 0, 40, 1, 1), (40, 0, 41, 1, 1), (40, 0, 19, 1, 0), (40, 0, 26, 1, 0), (40, 0, 42, 1, 0)]
def zop (F : GF) (q : Nat × Nat × Nat × Nat × Int32) : GF := fun f1 i1 k1 => if f1 = q.1 ∧ i1 = q.2.1 ∧ q.2.2.1 ≤ k1 ∧ k1 < q.2.2.1 + q.2.2.2.1 then q.2.2.2.2 else F f1 i1 k1
def zrun (l : List (Nat × Nat × Nat × Nat × Int32)) : GF := l.foldl zop zF
theorem zr_snoc {n : Nat} {q : Nat × Nat × Nat × Nat × Int32} (h : zL[n]? = some q) : zop (zrun (zL.take n)) q = zrun (zL.take (n + 1)) := by
  unfold zrun
  rw [List.take_succ, h, Option.toList_some, List.foldl_append]
  rfl
theorem zr_fs {n a b c : Nat} {v : Int32} (h : zL[n]? = some (a, b, c, 1, v)) : fs (zrun (zL.take n)) a b c v = zrun (zL.take (n + 1)) := by
  rw [← zr_snoc h]
  funext f1 i1 k1
  show (if f1 = a ∧ i1 = b ∧ k1 = c then v else _) = (if f1 = a ∧ i1 = b ∧ c ≤ k1 ∧ k1 < c + 1 then v else _)
  by_cases e : f1 = a ∧ i1 = b ∧ k1 = c
  · rw [if_pos e, if_pos ⟨e.1, e.2.1, by omega, by omega⟩]
  · rw [if_neg e, if_neg (fun q => e ⟨q.1, q.2.1, by omega⟩)]
theorem zr_ff {n a b m : Nat} {v : Int32} (h : zL[n]? = some (a, b, 0, m, v)) : ffill (zrun (zL.take n)) a b m v = zrun (zL.take (n + 1)) := by
  rw [← zr_snoc h]
  funext f1 i1 k1
  show (if f1 = a ∧ i1 = b ∧ k1 < m then v else _) = (if f1 = a ∧ i1 = b ∧ 0 ≤ k1 ∧ k1 < 0 + m then v else _)
  by_cases e : f1 = a ∧ i1 = b ∧ k1 < m
  · rw [if_pos e, if_pos ⟨e.1, e.2.1, by omega, by omega⟩]
  · rw [if_neg e, if_neg (fun q => e ⟨q.1, q.2.1, by omega⟩)]
theorem zr_gen (f i : Nat) : ∀ (l : List (Nat × Nat × Nat × Nat × Int32)) (F : GF), l.all (fun q => !(q.1 == f && q.2.1 == i)) = true → l.foldl zop F f i = F f i := by
  intro l
  induction l with
  | nil => intro F _; rfl
  | cons q r ih =>
    intro F h
    rw [List.all_cons, Bool.and_eq_true] at h
    show r.foldl zop (zop F q) f i = F f i
    rw [ih (zop F q) h.2]
    have hq : ¬ (f = q.1 ∧ i = q.2.1) := by
      rintro ⟨rfl, rfl⟩
      simp at h
    funext k1
    show (if _ then _ else _) = _
    rw [if_neg (fun z => hq ⟨z.1, z.2.1⟩)]
theorem zr_row {l : List (Nat × Nat × Nat × Nat × Int32)} {f i : Nat} (h : l.all (fun q => !(q.1 == f && q.2.1 == i)) = true) : zrun l f i = zdef f := zr_gen f i l zF h
theorem zr_rowj {l : List (Nat × Nat × Nat × Nat × Int32)} (i : Nat) {j : Nat} (hj : j < 8) (h : l.all (fun q => !(q.1 == 32)) = true) : zrun l 32 (8 * i + j) = zdef 32 := by
  refine zr_gen 32 _ l zF ?_
  rw [List.all_eq_true] at h ⊢
  intro q hq
  have := h q hq
  simp at this
  simp [this]
theorem zr_fam {l : List (Nat × Nat × Nat × Nat × Int32)} {f : Nat} (h : l.all (fun q => !(q.1 == f)) = true) (i k : Nat) : zrun l f i k = zdef f k := by
  have e : zrun l f i = zdef f := by
    refine zr_gen f i l zF ?_
    rw [List.all_eq_true] at h ⊢
    intro q hq
    have := h q hq
    simp at this
    simp [this]
  rw [e]
theorem zd0 {f : Nat} (h : f ≠ 33) (k : Nat) : zdef f k = 0 := by
  unfold zdef
  rw [if_neg (fun q => h q.1)]
/-- the families that nobody sets -/
theorem zz {f : Nat} (h : zL.all (fun q => !(q.1 == f)) = true) (h33 : f ≠ 33) (i k : Nat) : zrun zL f i k = 0 := (zr_fam h i k).trans (zd0 h33 k)
set_option maxHeartbeats 4000000 in
set_option maxRecDepth 100000 in
theorem init_cls {K : GF → Prop} (hK : K (zrun (zL.take 166))) : PZ_X10_init zF K := by
  show PZ_X10_init (zrun (zL.take 0)) K
  unfold PZ_X10_init
  refine ⟨zr_row (by decide +kernel), ?_⟩
  unfold PZ_X9_init
  refine ⟨zr_row (by decide +kernel), ?_⟩
  intro F0 e0
  rw [zr_fs (n := 0) rfl] at e0
  subst e0
  refine ⟨zr_row (by decide +kernel), ?_⟩
  intro F0 e0
  rw [zr_fs (n := 1) rfl] at e0
  subst e0
  refine ⟨zr_row (by decide +kernel), ?_⟩
  intro F0 e0
  rw [zr_fs (n := 2) rfl] at e0
  subst e0
  intro F0 e0
  rw [zr_fs (n := 3) rfl] at e0
  subst e0
  refine ⟨zr_row (by decide +kernel), ?_⟩
  intro F0 e0
  rw [zr_fs (n := 4) rfl] at e0
  subst e0
  intro F0 e0
  rw [zr_fs (n := 5) rfl] at e0
  subst e0
  refine ⟨zr_row (by decide +kernel), ?_⟩
  unfold PZ_X7_init
  refine ⟨zr_row (by decide +kernel), ?_⟩
  intro F0 e0
  rw [zr_fs (n := 6) rfl] at e0
  subst e0
  refine ⟨zr_row (by decide +kernel), ?_⟩
  intro F0 e0
  rw [zr_fs (n := 7) rfl] at e0
  subst e0
  intro F0 e0
  rw [zr_fs (n := 8) rfl] at e0
  subst e0
  intro F0 e0
  rw [zr_fs (n := 9) rfl] at e0
  subst e0
  refine ⟨zr_row (by decide +kernel), ?_⟩
  intro F0 e0
  rw [zr_fs (n := 10) rfl] at e0
  subst e0
  intro F0 e0
  rw [zr_fs (n := 11) rfl] at e0
  subst e0
  refine ⟨zr_row (by decide +kernel), ?_⟩
  unfold PZ_X2_init
  intro F0 e0
  rw [zr_fs (n := 12) rfl] at e0
  subst e0
  intro F0 e0
  rw [zr_fs (n := 13) rfl] at e0
  subst e0
  intro F0 e0
  rw [zr_fs (n := 14) rfl] at e0
  subst e0
  intro F0 e0
  rw [zr_fs (n := 15) rfl] at e0
  subst e0
  intro F0 e0
  rw [zr_fs (n := 16) rfl] at e0
  subst e0
  refine ⟨zr_row (by decide +kernel), ?_⟩
  intro F0 e0
  rw [zr_fs (n := 17) rfl] at e0
  subst e0
  refine ⟨zr_row (by decide +kernel), ?_⟩
  unfold PZ_X5_init
  refine ⟨zr_row (by decide +kernel), ?_⟩
  intro F0 e0
  rw [zr_fs (n := 18) rfl] at e0
  subst e0
  refine ⟨zr_row (by decide +kernel), ?_⟩
  intro F0 e0
  rw [zr_fs (n := 19) rfl] at e0
  subst e0
  refine ⟨zr_row (by decide +kernel), ?_⟩
  intro F0 e0
  rw [zr_fs (n := 20) rfl] at e0
  subst e0
  refine ⟨by decide +kernel, ?_⟩
  intro F0 e0
  rw [zr_ff (n := 21) rfl] at e0
  subst e0
  intro F0 e0
  rw [zr_fs (n := 22) rfl] at e0
  subst e0
  refine ⟨zr_row (by decide +kernel), ?_⟩
  unfold PZ_X3_init
  refine ⟨zr_row (by decide +kernel), ?_⟩
  intro F0 e0
  rw [zr_fs (n := 23) rfl] at e0
  subst e0
  refine ⟨zr_row (by decide +kernel), ?_⟩
  intro F0 e0
  rw [zr_fs (n := 24) rfl] at e0
  subst e0
  refine ⟨zr_row (by decide +kernel), ?_⟩
  intro F0 e0
  rw [zr_fs (n := 25) rfl] at e0
  subst e0
  intro F0 e0
  rw [zr_fs (n := 26) rfl] at e0
  subst e0
  intro F0 e0
  rw [zr_fs (n := 27) rfl] at e0
  subst e0
  refine ⟨zr_row (by decide +kernel), ?_⟩
  intro F0 e0
  rw [zr_fs (n := 28) rfl] at e0
  subst e0
  refine ⟨zr_row (by decide +kernel), ?_⟩
  unfold PZ_X0_init
  refine ⟨zr_row (by decide +kernel), ?_⟩
  intro F0 e0
  rw [zr_fs (n := 29) rfl] at e0
  subst e0
  refine ⟨zr_row (by decide +kernel), ?_⟩
  intro F0 e0
  rw [zr_fs (n := 30) rfl] at e0
  subst e0
  refine ⟨zr_row (by decide +kernel), ?_⟩
  intro F0 e0
  rw [zr_fs (n := 31) rfl] at e0
  subst e0
  refine ⟨zr_row (by decide +kernel), ?_⟩
  unfold PZ_J4_init_da8c8
  unfold PZ_J5_init_d00df
  refine ⟨zr_row (by decide +kernel), ?_⟩
  refine ⟨rfl, ?_⟩
  intro F0 e0
  rw [zr_fs (n := 32) rfl] at e0
  subst e0
  intro F0 e0
  rw [zr_fs (n := 33) rfl] at e0
  subst e0
  intro F0 e0
  rw [zr_fs (n := 34) rfl] at e0
  subst e0
  intro F0 e0
  rw [zr_fs (n := 35) rfl] at e0
  subst e0
  intro F0 e0
  rw [zr_fs (n := 36) rfl] at e0
  subst e0
  refine ⟨by decide +kernel, ?_⟩
  refine ⟨zr_row (by decide +kernel), ?_⟩
  unfold PZ_X1_init_0
  refine ⟨zr_row (by decide +kernel), ?_⟩
  intro F0 e0
  rw [zr_fs (n := 37) rfl] at e0
  subst e0
  intro F0 e0
  rw [zr_fs (n := 38) rfl] at e0
  subst e0
  refine ⟨zr_row (by decide +kernel), ?_⟩
  intro F0 e0
  rw [zr_fs (n := 39) rfl] at e0
  subst e0
  refine ⟨⟨zr_row (by decide +kernel), fun j hj => zr_rowj 0 hj (by decide +kernel)⟩, ?_⟩
  intro F0 e0
  rw [zr_ff (n := 40) rfl] at e0
  subst e0
  intro F0 e0
  rw [zr_fs (n := 41) rfl] at e0
  subst e0
  intro F0 e0
  rw [zr_fs (n := 42) rfl] at e0
  subst e0
  intro F0 e0
  rw [zr_fs (n := 43) rfl] at e0
  subst e0
  intro F0 e0
  rw [show (0 : Int32).toNatClampNeg = 0 by decide] at e0
  rw [zr_fs (n := 44) rfl] at e0
  subst e0
  refine ⟨by decide +kernel, ?_⟩
  refine ⟨zr_row (by decide +kernel), ?_⟩
  unfold PZ_X1_init_1
  refine ⟨zr_row (by decide +kernel), ?_⟩
  intro F0 e0
  rw [zr_fs (n := 45) rfl] at e0
  subst e0
  intro F0 e0
  rw [zr_fs (n := 46) rfl] at e0
  subst e0
  refine ⟨zr_row (by decide +kernel), ?_⟩
  intro F0 e0
  rw [zr_fs (n := 47) rfl] at e0
  subst e0
  refine ⟨⟨zr_row (by decide +kernel), fun j hj => zr_rowj 1 hj (by decide +kernel)⟩, ?_⟩
  intro F0 e0
  rw [zr_ff (n := 48) rfl] at e0
  subst e0
  intro F0 e0
  rw [zr_fs (n := 49) rfl] at e0
  subst e0
  intro F0 e0
  rw [zr_fs (n := 50) rfl] at e0
  subst e0
  intro F0 e0
  rw [zr_fs (n := 51) rfl] at e0
  subst e0
  intro F0 e0
  rw [show (1 : Int32).toNatClampNeg = 1 by decide] at e0
  rw [zr_fs (n := 52) rfl] at e0
  subst e0
  refine ⟨by decide +kernel, ?_⟩
  refine ⟨zr_row (by decide +kernel), ?_⟩
  unfold PZ_X1_init_2
  refine ⟨zr_row (by decide +kernel), ?_⟩
  intro F0 e0
  rw [zr_fs (n := 53) rfl] at e0
  subst e0
  intro F0 e0
  rw [zr_fs (n := 54) rfl] at e0
  subst e0
  refine ⟨zr_row (by decide +kernel), ?_⟩
  intro F0 e0
  rw [zr_fs (n := 55) rfl] at e0
  subst e0
  refine ⟨⟨zr_row (by decide +kernel), fun j hj => zr_rowj 2 hj (by decide +kernel)⟩, ?_⟩
  intro F0 e0
  rw [zr_ff (n := 56) rfl] at e0
  subst e0
  intro F0 e0
  rw [zr_fs (n := 57) rfl] at e0
  subst e0
  intro F0 e0
  rw [zr_fs (n := 58) rfl] at e0
  subst e0
  intro F0 e0
  rw [zr_fs (n := 59) rfl] at e0
  subst e0
  intro F0 e0
  rw [show (2 : Int32).toNatClampNeg = 2 by decide] at e0
  rw [zr_fs (n := 60) rfl] at e0
  subst e0
  refine ⟨by decide +kernel, ?_⟩
  refine ⟨zr_row (by decide +kernel), ?_⟩
  unfold PZ_X1_init_3
  refine ⟨zr_row (by decide +kernel), ?_⟩
  intro F0 e0
  rw [zr_fs (n := 61) rfl] at e0
  subst e0
  intro F0 e0
  rw [zr_fs (n := 62) rfl] at e0
  subst e0
  refine ⟨zr_row (by decide +kernel), ?_⟩
  intro F0 e0
  rw [zr_fs (n := 63) rfl] at e0
  subst e0
  refine ⟨⟨zr_row (by decide +kernel), fun j hj => zr_rowj 3 hj (by decide +kernel)⟩, ?_⟩
  intro F0 e0
  rw [zr_ff (n := 64) rfl] at e0
  subst e0
  intro F0 e0
  rw [zr_fs (n := 65) rfl] at e0
  subst e0
  intro F0 e0
  rw [zr_fs (n := 66) rfl] at e0
  subst e0
  intro F0 e0
  rw [zr_fs (n := 67) rfl] at e0
  subst e0
  intro F0 e0
  rw [show (3 : Int32).toNatClampNeg = 3 by decide] at e0
  rw [zr_fs (n := 68) rfl] at e0
  subst e0
  refine ⟨by decide +kernel, ?_⟩
  refine ⟨zr_row (by decide +kernel), ?_⟩
  unfold PZ_X1_init_4
  refine ⟨zr_row (by decide +kernel), ?_⟩
  intro F0 e0
  rw [zr_fs (n := 69) rfl] at e0
  subst e0
  intro F0 e0
  rw [zr_fs (n := 70) rfl] at e0
  subst e0
  refine ⟨zr_row (by decide +kernel), ?_⟩
  intro F0 e0
  rw [zr_fs (n := 71) rfl] at e0
  subst e0
  refine ⟨⟨zr_row (by decide +kernel), fun j hj => zr_rowj 4 hj (by decide +kernel)⟩, ?_⟩
  intro F0 e0
  rw [zr_ff (n := 72) rfl] at e0
  subst e0
  intro F0 e0
  rw [zr_fs (n := 73) rfl] at e0
  subst e0
  intro F0 e0
  rw [zr_fs (n := 74) rfl] at e0
  subst e0
  intro F0 e0
  rw [zr_fs (n := 75) rfl] at e0
  subst e0
  intro F0 e0
  rw [show (4 : Int32).toNatClampNeg = 4 by decide] at e0
  rw [zr_fs (n := 76) rfl] at e0
  subst e0
  intro F0 e0
  rw [zr_fs (n := 77) rfl] at e0
  subst e0
  refine ⟨zr_row (by decide +kernel), ?_⟩
  unfold PZ_X6_init
  refine ⟨zr_row (by decide +kernel), ?_⟩
  intro F0 e0
  rw [zr_fs (n := 78) rfl] at e0
  subst e0
  refine ⟨zr_row (by decide +kernel), ?_⟩
  intro F0 e0
  rw [zr_fs (n := 79) rfl] at e0
  subst e0
  refine ⟨zr_row (by decide +kernel), ?_⟩
  intro F0 e0
  rw [zr_fs (n := 80) rfl] at e0
  subst e0
  refine ⟨zr_row (by decide +kernel), ?_⟩
  intro F0 e0
  rw [zr_fs (n := 81) rfl] at e0
  subst e0
  intro F0 e0
  rw [zr_fs (n := 82) rfl] at e0
  subst e0
  intro F0 e0
  rw [zr_fs (n := 83) rfl] at e0
  subst e0
  intro F0 e0
  rw [zr_fs (n := 84) rfl] at e0
  subst e0
  intro F0 e0
  rw [zr_fs (n := 85) rfl] at e0
  subst e0
  refine ⟨by decide +kernel, ?_⟩
  refine ⟨zr_row (by decide +kernel), ?_⟩
  unfold PZ_X4_init_0
  intro F0 e0
  rw [zr_fs (n := 86) rfl] at e0
  subst e0
  intro F0 e0
  rw [zr_fs (n := 87) rfl] at e0
  subst e0
  intro F0 e0
  rw [zr_fs (n := 88) rfl] at e0
  subst e0
  intro F0 e0
  rw [show (0 : Int32).toNatClampNeg = 0 by decide] at e0
  rw [zr_fs (n := 89) rfl] at e0
  subst e0
  refine ⟨by decide +kernel, ?_⟩
  refine ⟨zr_row (by decide +kernel), ?_⟩
  unfold PZ_X4_init_1
  intro F0 e0
  rw [zr_fs (n := 90) rfl] at e0
  subst e0
  intro F0 e0
  rw [zr_fs (n := 91) rfl] at e0
  subst e0
  intro F0 e0
  rw [zr_fs (n := 92) rfl] at e0
  subst e0
  intro F0 e0
  rw [show (1 : Int32).toNatClampNeg = 1 by decide] at e0
  rw [zr_fs (n := 93) rfl] at e0
  subst e0
  refine ⟨by decide +kernel, ?_⟩
  refine ⟨zr_row (by decide +kernel), ?_⟩
  unfold PZ_X4_init_2
  intro F0 e0
  rw [zr_fs (n := 94) rfl] at e0
  subst e0
  intro F0 e0
  rw [zr_fs (n := 95) rfl] at e0
  subst e0
  intro F0 e0
  rw [zr_fs (n := 96) rfl] at e0
  subst e0
  intro F0 e0
  rw [show (2 : Int32).toNatClampNeg = 2 by decide] at e0
  rw [zr_fs (n := 97) rfl] at e0
  subst e0
  refine ⟨by decide +kernel, ?_⟩
  refine ⟨zr_row (by decide +kernel), ?_⟩
  unfold PZ_X4_init_3
  intro F0 e0
  rw [zr_fs (n := 98) rfl] at e0
  subst e0
  intro F0 e0
  rw [zr_fs (n := 99) rfl] at e0
  subst e0
  intro F0 e0
  rw [zr_fs (n := 100) rfl] at e0
  subst e0
  intro F0 e0
  rw [show (3 : Int32).toNatClampNeg = 3 by decide] at e0
  rw [zr_fs (n := 101) rfl] at e0
  subst e0
  refine ⟨by decide +kernel, ?_⟩
  refine ⟨zr_row (by decide +kernel), ?_⟩
  unfold PZ_X4_init_4
  intro F0 e0
  rw [zr_fs (n := 102) rfl] at e0
  subst e0
  intro F0 e0
  rw [zr_fs (n := 103) rfl] at e0
  subst e0
  intro F0 e0
  rw [zr_fs (n := 104) rfl] at e0
  subst e0
  intro F0 e0
  rw [show (4 : Int32).toNatClampNeg = 4 by decide] at e0
  rw [zr_fs (n := 105) rfl] at e0
  subst e0
  refine ⟨by decide +kernel, ?_⟩
  refine ⟨zr_row (by decide +kernel), ?_⟩
  unfold PZ_X4_init_5
  intro F0 e0
  rw [zr_fs (n := 106) rfl] at e0
  subst e0
  intro F0 e0
  rw [zr_fs (n := 107) rfl] at e0
  subst e0
  intro F0 e0
  rw [zr_fs (n := 108) rfl] at e0
  subst e0
  intro F0 e0
  rw [show (5 : Int32).toNatClampNeg = 5 by decide] at e0
  rw [zr_fs (n := 109) rfl] at e0
  subst e0
  refine ⟨by decide +kernel, ?_⟩
  refine ⟨zr_row (by decide +kernel), ?_⟩
  unfold PZ_X4_init_6
  intro F0 e0
  rw [zr_fs (n := 110) rfl] at e0
  subst e0
  intro F0 e0
  rw [zr_fs (n := 111) rfl] at e0
  subst e0
  intro F0 e0
  rw [zr_fs (n := 112) rfl] at e0
  subst e0
  intro F0 e0
  rw [show (6 : Int32).toNatClampNeg = 6 by decide] at e0
  rw [zr_fs (n := 113) rfl] at e0
  subst e0
  refine ⟨by decide +kernel, ?_⟩
  refine ⟨zr_row (by decide +kernel), ?_⟩
  unfold PZ_X4_init_7
  intro F0 e0
  rw [zr_fs (n := 114) rfl] at e0
  subst e0
  intro F0 e0
  rw [zr_fs (n := 115) rfl] at e0
  subst e0
  intro F0 e0
  rw [zr_fs (n := 116) rfl] at e0
  subst e0
  intro F0 e0
  rw [show (7 : Int32).toNatClampNeg = 7 by decide] at e0
  rw [zr_fs (n := 117) rfl] at e0
  subst e0
  refine ⟨by decide +kernel, ?_⟩
  refine ⟨zr_row (by decide +kernel), ?_⟩
  unfold PZ_X4_init_8
  intro F0 e0
  rw [zr_fs (n := 118) rfl] at e0
  subst e0
  intro F0 e0
  rw [zr_fs (n := 119) rfl] at e0
  subst e0
  intro F0 e0
  rw [zr_fs (n := 120) rfl] at e0
  subst e0
  intro F0 e0
  rw [show (8 : Int32).toNatClampNeg = 8 by decide] at e0
  rw [zr_fs (n := 121) rfl] at e0
  subst e0
  refine ⟨by decide +kernel, ?_⟩
  refine ⟨zr_row (by decide +kernel), ?_⟩
  unfold PZ_X4_init_9
  intro F0 e0
  rw [zr_fs (n := 122) rfl] at e0
  subst e0
  intro F0 e0
  rw [zr_fs (n := 123) rfl] at e0
  subst e0
  intro F0 e0
  rw [zr_fs (n := 124) rfl] at e0
  subst e0
  intro F0 e0
  rw [show (9 : Int32).toNatClampNeg = 9 by decide] at e0
  rw [zr_fs (n := 125) rfl] at e0
  subst e0
  refine ⟨by decide +kernel, ?_⟩
  refine ⟨zr_row (by decide +kernel), ?_⟩
  unfold PZ_X4_init_10
  intro F0 e0
  rw [zr_fs (n := 126) rfl] at e0
  subst e0
  intro F0 e0
  rw [zr_fs (n := 127) rfl] at e0
  subst e0
  intro F0 e0
  rw [zr_fs (n := 128) rfl] at e0
  subst e0
  intro F0 e0
  rw [show (10 : Int32).toNatClampNeg = 10 by decide] at e0
  rw [zr_fs (n := 129) rfl] at e0
  subst e0
  refine ⟨by decide +kernel, ?_⟩
  refine ⟨zr_row (by decide +kernel), ?_⟩
  unfold PZ_X4_init_11
  intro F0 e0
  rw [zr_fs (n := 130) rfl] at e0
  subst e0
  intro F0 e0
  rw [zr_fs (n := 131) rfl] at e0
  subst e0
  intro F0 e0
  rw [zr_fs (n := 132) rfl] at e0
  subst e0
  intro F0 e0
  rw [show (11 : Int32).toNatClampNeg = 11 by decide] at e0
  rw [zr_fs (n := 133) rfl] at e0
  subst e0
  refine ⟨by decide +kernel, ?_⟩
  refine ⟨zr_row (by decide +kernel), ?_⟩
  unfold PZ_X4_init_12
  intro F0 e0
  rw [zr_fs (n := 134) rfl] at e0
  subst e0
  intro F0 e0
  rw [zr_fs (n := 135) rfl] at e0
  subst e0
  intro F0 e0
  rw [zr_fs (n := 136) rfl] at e0
  subst e0
  intro F0 e0
  rw [show (12 : Int32).toNatClampNeg = 12 by decide] at e0
  rw [zr_fs (n := 137) rfl] at e0
  subst e0
  refine ⟨by decide +kernel, ?_⟩
  refine ⟨zr_row (by decide +kernel), ?_⟩
  unfold PZ_X4_init_13
  intro F0 e0
  rw [zr_fs (n := 138) rfl] at e0
  subst e0
  intro F0 e0
  rw [zr_fs (n := 139) rfl] at e0
  subst e0
  intro F0 e0
  rw [zr_fs (n := 140) rfl] at e0
  subst e0
  intro F0 e0
  rw [show (13 : Int32).toNatClampNeg = 13 by decide] at e0
  rw [zr_fs (n := 141) rfl] at e0
  subst e0
  refine ⟨by decide +kernel, ?_⟩
  refine ⟨zr_row (by decide +kernel), ?_⟩
  unfold PZ_X4_init_14
  intro F0 e0
  rw [zr_fs (n := 142) rfl] at e0
  subst e0
  intro F0 e0
  rw [zr_fs (n := 143) rfl] at e0
  subst e0
  intro F0 e0
  rw [zr_fs (n := 144) rfl] at e0
  subst e0
  intro F0 e0
  rw [show (14 : Int32).toNatClampNeg = 14 by decide] at e0
  rw [zr_fs (n := 145) rfl] at e0
  subst e0
  refine ⟨by decide +kernel, ?_⟩
  refine ⟨zr_row (by decide +kernel), ?_⟩
  unfold PZ_X4_init_15
  intro F0 e0
  rw [zr_fs (n := 146) rfl] at e0
  subst e0
  intro F0 e0
  rw [zr_fs (n := 147) rfl] at e0
  subst e0
  intro F0 e0
  rw [zr_fs (n := 148) rfl] at e0
  subst e0
  intro F0 e0
  rw [show (15 : Int32).toNatClampNeg = 15 by decide] at e0
  rw [zr_fs (n := 149) rfl] at e0
  subst e0
  refine ⟨by decide +kernel, ?_⟩
  refine ⟨zr_row (by decide +kernel), ?_⟩
  unfold PZ_X4_init_16
  intro F0 e0
  rw [zr_fs (n := 150) rfl] at e0
  subst e0
  intro F0 e0
  rw [zr_fs (n := 151) rfl] at e0
  subst e0
  intro F0 e0
  rw [zr_fs (n := 152) rfl] at e0
  subst e0
  intro F0 e0
  rw [show (16 : Int32).toNatClampNeg = 16 by decide] at e0
  rw [zr_fs (n := 153) rfl] at e0
  subst e0
  refine ⟨by decide +kernel, ?_⟩
  refine ⟨zr_row (by decide +kernel), ?_⟩
  unfold PZ_X4_init_17
  intro F0 e0
  rw [zr_fs (n := 154) rfl] at e0
  subst e0
  intro F0 e0
  rw [zr_fs (n := 155) rfl] at e0
  subst e0
  intro F0 e0
  rw [zr_fs (n := 156) rfl] at e0
  subst e0
  intro F0 e0
  rw [show (17 : Int32).toNatClampNeg = 17 by decide] at e0
  rw [zr_fs (n := 157) rfl] at e0
  subst e0
  refine ⟨by decide +kernel, ?_⟩
  refine ⟨zr_row (by decide +kernel), ?_⟩
  unfold PZ_X4_init_18
  intro F0 e0
  rw [zr_fs (n := 158) rfl] at e0
  subst e0
  intro F0 e0
  rw [zr_fs (n := 159) rfl] at e0
  subst e0
  intro F0 e0
  rw [zr_fs (n := 160) rfl] at e0
  subst e0
  intro F0 e0
  rw [show (18 : Int32).toNatClampNeg = 18 by decide] at e0
  rw [zr_fs (n := 161) rfl] at e0
  subst e0
  refine ⟨by decide +kernel, ?_⟩
  refine ⟨zr_row (by decide +kernel), ?_⟩
  unfold PZ_X4_init_19
  intro F0 e0
  rw [zr_fs (n := 162) rfl] at e0
  subst e0
  intro F0 e0
  rw [zr_fs (n := 163) rfl] at e0
  subst e0
  intro F0 e0
  rw [zr_fs (n := 164) rfl] at e0
  subst e0
  intro F0 e0
  rw [show (19 : Int32).toNatClampNeg = 19 by decide] at e0
  rw [zr_fs (n := 165) rfl] at e0
  subst e0
  exact hK
set_option maxHeartbeats 4000000 in
set_option maxRecDepth 100000 in
theorem init_mod {K : GF → Prop} (hK : P_X11_clears (zrun (zL.take 197)) K) : PZ_X11_init (zrun (zL.take 166)) K := by
  unfold PZ_X11_init
  refine ⟨zr_row (by decide +kernel), ?_⟩
  intro F0 e0
  rw [zr_fs (n := 166) rfl] at e0
  subst e0
  refine ⟨zr_row (by decide +kernel), ?_⟩
  intro F0 e0
  rw [zr_fs (n := 167) rfl] at e0
  subst e0
  refine ⟨zr_row (by decide +kernel), ?_⟩
  intro F0 e0
  rw [zr_fs (n := 168) rfl] at e0
  subst e0
  refine ⟨zr_row (by decide +kernel), ?_⟩
  intro F0 e0
  rw [zr_fs (n := 169) rfl] at e0
  subst e0
  refine ⟨zr_row (by decide +kernel), ?_⟩
  intro F0 e0
  rw [zr_fs (n := 170) rfl] at e0
  subst e0
  refine ⟨zr_row (by decide +kernel), ?_⟩
  intro F0 e0
  rw [zr_fs (n := 171) rfl] at e0
  subst e0
  refine ⟨zr_row (by decide +kernel), ?_⟩
  intro F0 e0
  rw [zr_fs (n := 172) rfl] at e0
  subst e0
  refine ⟨zr_row (by decide +kernel), ?_⟩
  intro F0 e0
  rw [zr_fs (n := 173) rfl] at e0
  subst e0
  refine ⟨zr_row (by decide +kernel), ?_⟩
  intro F0 e0
  rw [zr_fs (n := 174) rfl] at e0
  subst e0
  refine ⟨zr_row (by decide +kernel), ?_⟩
  intro F0 e0
  rw [zr_fs (n := 175) rfl] at e0
  subst e0
  intro F0 e0
  rw [zr_fs (n := 176) rfl] at e0
  subst e0
  refine ⟨zr_row (by decide +kernel), ?_⟩
  intro F0 e0
  rw [zr_fs (n := 177) rfl] at e0
  subst e0
  refine ⟨zr_row (by decide +kernel), ?_⟩
  intro F0 e0
  rw [zr_fs (n := 178) rfl] at e0
  subst e0
  refine ⟨zr_row (by decide +kernel), ?_⟩
  intro F0 e0
  rw [zr_fs (n := 179) rfl] at e0
  subst e0
  refine ⟨zr_row (by decide +kernel), ?_⟩
  intro F0 e0
  rw [zr_fs (n := 180) rfl] at e0
  subst e0
  refine ⟨zr_row (by decide +kernel), ?_⟩
  intro F0 e0
  rw [zr_fs (n := 181) rfl] at e0
  subst e0
  refine ⟨zr_row (by decide +kernel), ?_⟩
  intro F0 e0
  rw [zr_fs (n := 182) rfl] at e0
  subst e0
  refine ⟨zr_row (by decide +kernel), ?_⟩
  intro F0 e0
  rw [zr_fs (n := 183) rfl] at e0
  subst e0
  refine ⟨zr_row (by decide +kernel), ?_⟩
  intro F0 e0
  rw [zr_fs (n := 184) rfl] at e0
  subst e0
  refine ⟨zr_row (by decide +kernel), ?_⟩
  intro F0 e0
  rw [zr_fs (n := 185) rfl] at e0
  subst e0
  refine ⟨zr_row (by decide +kernel), ?_⟩
  intro F0 e0
  rw [zr_fs (n := 186) rfl] at e0
  subst e0
  refine ⟨zr_row (by decide +kernel), ?_⟩
  intro F0 e0
  rw [zr_fs (n := 187) rfl] at e0
  subst e0
  refine ⟨zr_row (by decide +kernel), ?_⟩
  intro F0 e0
  rw [zr_fs (n := 188) rfl] at e0
  subst e0
  refine ⟨zr_row (by decide +kernel), ?_⟩
  intro F0 e0
  rw [zr_fs (n := 189) rfl] at e0
  subst e0
  refine ⟨zr_row (by decide +kernel), ?_⟩
  intro F0 e0
  rw [zr_fs (n := 190) rfl] at e0
  subst e0
  refine ⟨zr_row (by decide +kernel), ?_⟩
  intro F0 e0
  rw [zr_fs (n := 191) rfl] at e0
  subst e0
  refine ⟨zr_row (by decide +kernel), ?_⟩
  intro F0 e0
  rw [zr_fs (n := 192) rfl] at e0
  subst e0
  refine ⟨zr_row (by decide +kernel), ?_⟩
  intro F0 e0
  rw [zr_fs (n := 193) rfl] at e0
  subst e0
  refine ⟨zr_row (by decide +kernel), ?_⟩
  intro F0 e0
  rw [zr_fs (n := 194) rfl] at e0
  subst e0
  refine ⟨zr_row (by decide +kernel), ?_⟩
  intro F0 e0
  rw [zr_fs (n := 195) rfl] at e0
  subst e0
  refine ⟨zr_row (by decide +kernel), ?_⟩
  intro F0 e0
  rw [zr_fs (n := 196) rfl] at e0
  subst e0
  refine ⟨by unfold zfl; decide +kernel, ?_⟩
  exact hK
theorem zL_len : zL.length = 200 := by decide +kernel
theorem zB : fs (fs (fs (zrun (zL.take 197)) 40 0 19 0) 40 0 26 0) 40 0 42 0 = zrun zL := by
  rw [zr_fs (n := 197) rfl, zr_fs (n := 198) rfl, zr_fs (n := 199) rfl, show 199 + 1 = zL.length from rfl, List.take_length]
theorem zok_run : zok (zrun zL) := by
  unfold zok
  decide +kernel
theorem zrefs_fam : ∀ q ∈ zrefs, q.1 ≠ 51 ∧ q.1 ≠ 52 ∧ q.1 ≠ 53 ∧ q.1 ≠ 54 ∧ q.1 ≠ 59 ∧ q.1 ≠ 62 ∧ q.1 ≠ 63 := by decide +kernel
theorem zv_ints : zrun zL 40 0 0 = 0 ∧ zrun zL 0 0 5 = 0 ∧ zrun zL 40 0 6 = 0 ∧ zrun zL 6 0 2 = 0 ∧ zrun zL 40 0 9 = 0 ∧ zrun zL 0 0 2 = 0 ∧ zrun zL 40 0 13 = 0 ∧ zrun zL 40 0 14 = 0 ∧ zrun zL 10 0 0 = 0 ∧ zrun zL 40 0 15 = 0 ∧ zrun zL 10 0 1 = 0 ∧ zrun zL 40 0 16 = 0 ∧ zrun zL 10 0 2 = 0 ∧ zrun zL 40 0 17 = 0 ∧ zrun zL 10 0 3 = 0 ∧ zrun zL 40 0 19 = 0 ∧ zrun zL 10 0 4 = 0 ∧ zrun zL 40 0 26 = 0 ∧ zrun zL 16 0 3 = 0 ∧ zrun zL 40 0 42 = 0 ∧ zrun zL 21 0 4 = 0 ∧ zrun zL 25 0 1 = 0 ∧ zrun zL 25 0 3 = 0 := by decide +kernel
theorem zv_pe : ∀ p, p < 20 → zrun zL 33 p 0 = 0 ∧ zrun zL 33 p 1 = -1 ∧ zrun zL 33 p 2 = 0 ∧ zrun zL 13 0 p = -1 := by decide +kernel
theorem zv_box : ∀ s, s < 5 → zrun zL 28 s 1 = 0 ∧ zrun zL 28 s 4 = 0 ∧ zrun zL 28 s 5 = -1 := by decide +kernel
set_option maxHeartbeats 4000000 in
set_option maxRecDepth 100000 in
theorem pure_init : PZ_X10_init zF (fun F1 => F1 40 0 = zdef 40 ∧ PZ_X11_init F1 (fun F2 => F2 79 0 = zdef 79 ∧ zok F2 ∧ F2 38 0 0 = 0 ∧ Inv 0 F2)) := by
  refine init_cls ⟨zr_row (by decide +kernel), init_mod (clears_run (fun F1 h1 F2 h2 => ?_))⟩
  rw [zB] at h1
  obtain ⟨p1, p2⟩ := h1
  obtain ⟨s1, s2⟩ := h2
  have g : ∀ f, f ≠ 51 → f ≠ 52 → f ≠ 53 → f ≠ 54 → f ≠ 59 → f ≠ 62 → f ≠ 63 → F2 f = zrun zL f := fun f a b c d e x y => (s1 f a c e x y).trans (p1 f b d)
  have g52 : ∀ p, p < 20 → F2 52 0 p = -1 ∧ F2 54 0 p = 0 := fun p hp => by
    rw [s1 52 (by decide) (by decide) (by decide) (by decide) (by decide), s1 54 (by decide) (by decide) (by decide) (by decide) (by decide)]
    exact p2 p hp
  have Z : ∀ f, f ≠ 51 → f ≠ 52 → f ≠ 53 → f ≠ 54 → f ≠ 59 → f ≠ 62 → f ≠ 63 → f ≠ 33 → zL.all (fun q => !(q.1 == f)) = true → ∀ i k, F2 f i k = 0 := fun f a b c d e x y z h i k => by
    rw [g f a b c d e x y]
    exact zz h z i k
  obtain ⟨v1, v2, v3, v4, v5, v6, v7, v8, v9, v10, v11, v12, v13, v14, v15, v16, v17, v18, v19, v20, v21, v22, v23⟩ := zv_ints
  have G40 := g 40 (by decide) (by decide) (by decide) (by decide) (by decide) (by decide) (by decide)
  have G0 := g 0 (by decide) (by decide) (by decide) (by decide) (by decide) (by decide) (by decide)
  have G6 := g 6 (by decide) (by decide) (by decide) (by decide) (by decide) (by decide) (by decide)
  have G10 := g 10 (by decide) (by decide) (by decide) (by decide) (by decide) (by decide) (by decide)
  have G13 := g 13 (by decide) (by decide) (by decide) (by decide) (by decide) (by decide) (by decide)
  have G16 := g 16 (by decide) (by decide) (by decide) (by decide) (by decide) (by decide) (by decide)
  have G21 := g 21 (by decide) (by decide) (by decide) (by decide) (by decide) (by decide) (by decide)
  have G25 := g 25 (by decide) (by decide) (by decide) (by decide) (by decide) (by decide) (by decide)
  have G28 := g 28 (by decide) (by decide) (by decide) (by decide) (by decide) (by decide) (by decide)
  have G33 := g 33 (by decide) (by decide) (by decide) (by decide) (by decide) (by decide) (by decide)
  rw [← G40] at v1 v3 v5 v7 v8 v10 v12 v14 v16 v18 v20
  rw [← G0] at v2 v6
  rw [← G6] at v4
  rw [← G10] at v9 v11 v13 v15 v17
  rw [← G16] at v19
  rw [← G21] at v21
  rw [← G25] at v22 v23
  have vp : ∀ p, p < 20 → F2 33 p 0 = 0 ∧ F2 33 p 1 = -1 ∧ F2 33 p 2 = 0 ∧ F2 13 0 p = -1 := fun p hp => by rw [G33, G13]; exact zv_pe p hp
  have vb : ∀ s, s < 5 → F2 28 s 1 = 0 ∧ F2 28 s 4 = 0 ∧ F2 28 s 5 = -1 := fun s hs => by rw [G28]; exact zv_box s hs
  have z2 := Z 2 (by decide) (by decide) (by decide) (by decide) (by decide) (by decide) (by decide) (by decide) (by decide +kernel)
  have z7 := Z 7 (by decide) (by decide) (by decide) (by decide) (by decide) (by decide) (by decide) (by decide) (by decide +kernel)
  have z8 := Z 8 (by decide) (by decide) (by decide) (by decide) (by decide) (by decide) (by decide) (by decide) (by decide +kernel)
  have z9 := Z 9 (by decide) (by decide) (by decide) (by decide) (by decide) (by decide) (by decide) (by decide) (by decide +kernel)
  have z11 := Z 11 (by decide) (by decide) (by decide) (by decide) (by decide) (by decide) (by decide) (by decide) (by decide +kernel)
  have z14 := Z 14 (by decide) (by decide) (by decide) (by decide) (by decide) (by decide) (by decide) (by decide) (by decide +kernel)
  have z15 := Z 15 (by decide) (by decide) (by decide) (by decide) (by decide) (by decide) (by decide) (by decide) (by decide +kernel)
  have z17 := Z 17 (by decide) (by decide) (by decide) (by decide) (by decide) (by decide) (by decide) (by decide) (by decide +kernel)
  have z18 := Z 18 (by decide) (by decide) (by decide) (by decide) (by decide) (by decide) (by decide) (by decide) (by decide +kernel)
  have z19 := Z 19 (by decide) (by decide) (by decide) (by decide) (by decide) (by decide) (by decide) (by decide) (by decide +kernel)
  have z22 := Z 22 (by decide) (by decide) (by decide) (by decide) (by decide) (by decide) (by decide) (by decide) (by decide +kernel)
  have z23 := Z 23 (by decide) (by decide) (by decide) (by decide) (by decide) (by decide) (by decide) (by decide) (by decide +kernel)
  have z24 := Z 24 (by decide) (by decide) (by decide) (by decide) (by decide) (by decide) (by decide) (by decide) (by decide +kernel)
  have z29 := Z 29 (by decide) (by decide) (by decide) (by decide) (by decide) (by decide) (by decide) (by decide) (by decide +kernel)
  have z30 := Z 30 (by decide) (by decide) (by decide) (by decide) (by decide) (by decide) (by decide) (by decide) (by decide +kernel)
  have z32 := Z 32 (by decide) (by decide) (by decide) (by decide) (by decide) (by decide) (by decide) (by decide) (by decide +kernel)
  have z38 := Z 38 (by decide) (by decide) (by decide) (by decide) (by decide) (by decide) (by decide) (by decide) (by decide +kernel)
  have z41 := Z 41 (by decide) (by decide) (by decide) (by decide) (by decide) (by decide) (by decide) (by decide) (by decide +kernel)
  have z44 := Z 44 (by decide) (by decide) (by decide) (by decide) (by decide) (by decide) (by decide) (by decide) (by decide +kernel)
  have z45 := Z 45 (by decide) (by decide) (by decide) (by decide) (by decide) (by decide) (by decide) (by decide) (by decide +kernel)
  have z46 := Z 46 (by decide) (by decide) (by decide) (by decide) (by decide) (by decide) (by decide) (by decide) (by decide +kernel)
  have z47 := Z 47 (by decide) (by decide) (by decide) (by decide) (by decide) (by decide) (by decide) (by decide) (by decide +kernel)
  have z48 := Z 48 (by decide) (by decide) (by decide) (by decide) (by decide) (by decide) (by decide) (by decide) (by decide +kernel)
  have z49 := Z 49 (by decide) (by decide) (by decide) (by decide) (by decide) (by decide) (by decide) (by decide) (by decide +kernel)
  have z50 := Z 50 (by decide) (by decide) (by decide) (by decide) (by decide) (by decide) (by decide) (by decide) (by decide +kernel)
  have z55 := Z 55 (by decide) (by decide) (by decide) (by decide) (by decide) (by decide) (by decide) (by decide) (by decide +kernel)
  have z56 := Z 56 (by decide) (by decide) (by decide) (by decide) (by decide) (by decide) (by decide) (by decide) (by decide +kernel)
  have z57 := Z 57 (by decide) (by decide) (by decide) (by decide) (by decide) (by decide) (by decide) (by decide) (by decide +kernel)
  have z58 := Z 58 (by decide) (by decide) (by decide) (by decide) (by decide) (by decide) (by decide) (by decide) (by decide +kernel)
  have z60 := Z 60 (by decide) (by decide) (by decide) (by decide) (by decide) (by decide) (by decide) (by decide) (by decide +kernel)
  have z61 := Z 61 (by decide) (by decide) (by decide) (by decide) (by decide) (by decide) (by decide) (by decide) (by decide +kernel)
  have z64 := Z 64 (by decide) (by decide) (by decide) (by decide) (by decide) (by decide) (by decide) (by decide) (by decide +kernel)
  have z68 := Z 68 (by decide) (by decide) (by decide) (by decide) (by decide) (by decide) (by decide) (by decide) (by decide +kernel)
  have z69 := Z 69 (by decide) (by decide) (by decide) (by decide) (by decide) (by decide) (by decide) (by decide) (by decide +kernel)
  have z70 := Z 70 (by decide) (by decide) (by decide) (by decide) (by decide) (by decide) (by decide) (by decide) (by decide +kernel)
  refine ⟨?_, ?_, z38 0 0, ⟨⟨?_, ?_, ?_, ?_, ?_, ?_, ?_, ?_, ?_, ?_, ?_, ?_⟩, ⟨?_, ?_, ?_, ?_, ?_, ?_, ?_, ?_, ?_, ?_, ?_, ?_, ?_, ?_, ?_⟩, ?_, ?_⟩⟩
  · rw [g 79 (by decide) (by decide) (by decide) (by decide) (by decide) (by decide) (by decide)]
    exact zr_row (by decide +kernel)
  · intro q hq
    obtain ⟨a1, a2, a3, a4, a5, a6, a7⟩ := zrefs_fam q hq
    rw [g q.1 a1 a2 a3 a4 a5 a6 a7]
    exact zok_run q hq
  · exact v1.trans v2.symm
  · exact fun q hq => ⟨(z41 0 q).trans (z2 0 _).symm, (z41 0 _).trans (z2 0 _).symm⟩
  · exact ⟨v3.trans v4.symm, fun s hs => ⟨(z44 0 s).trans (z7 0 s).symm, (z45 0 s).trans (z8 0 s).symm⟩⟩
  · exact fun c hc => (z64 0 c).trans (z9 0 c).symm
  · exact ⟨v5.trans v6.symm, fun p hp => ⟨(z46 0 p).trans (vp p hp).1.symm, (z47 0 p).trans (vp p hp).2.2.1.symm⟩⟩
  · exact ⟨v8.trans v9.symm, v10.trans v11.symm, v12.trans v13.symm, v14.trans v15.symm, v16.trans v17.symm⟩
  · exact fun p hp => (s2 p hp).1.trans (z11 0 p).symm
  · exact ⟨fun p hp => ⟨(g52 p hp).1.trans (vp p hp).2.2.2.symm, (g52 p hp).2.trans (z15 0 p).symm⟩, fun s hs => (s2 s hs).2.1.trans (z14 0 s).symm⟩
  · exact ⟨v18.trans v19.symm, fun e he => ⟨(z55 0 e).trans (z17 0 e).symm, (z56 0 e).trans (z18 0 e).symm, (z57 0 e).trans (z19 0 e).symm⟩⟩
  · exact fun s hs => ⟨(s2 s hs).2.2.1.trans (vb s hs).1.symm, (s2 s hs).2.2.2.1.trans (vb s hs).2.1.symm, fun j hj => (z58 0 _).trans (z29 s j).symm, fun c hc => (z61 0 _).trans (z30 s c).symm⟩
  · exact fun r hr k hk => (z60 0 _).trans (z32 r k).symm
  · exact ⟨v20.trans v21.symm, fun j hj => ⟨(z68 0 j).trans (z22 0 j).symm, (z69 0 j).trans (z23 0 j).symm, (z70 0 j).trans (z24 0 j).symm⟩⟩
  · exact fun j hj => Or.inl (z2 0 j)
  · exact ⟨0, by omega, v4, fun s hs => absurd hs (Nat.not_lt_zero s)⟩
  · exact ⟨0, by omega, v6⟩
  · exact ⟨0, 0, 0, 0, 0, by omega, v2, by omega, v9, by omega, v11, by omega, v13, by omega, v17, ⟨0, by omega, by omega, v4⟩, fun z => absurd z (by decide), fun z => absurd z (by decide), fun z => absurd z (by decide)⟩
  · exact ⟨⟨0, by omega, v19⟩, fun e he => ⟨⟨0, by omega, z17 0 e⟩, ⟨0, by omega, z18 0 e⟩⟩⟩
  · intro e he hs
    have := hs.1
    rw [v19] at this
    exact absurd this (nI_pos (by omega))
  · exact fun p hp => Or.inl (vp p hp).2.2.2
  · exact fun s hs => ⟨⟨0, by omega, (vb s hs).2.1⟩, Or.inl ⟨(vb s hs).2.2, (s2 s hs).2.2.2.2⟩, fun j hj => ⟨0, by omega, z29 s j⟩⟩
  · exact fun s hs => ⟨0, Nat.zero_le _, (vb s hs).1⟩
  · exact fun r hr k hk => ⟨0, by omega, z32 r k⟩
  · intro z
    rw [v9] at z
    exact absurd z (by decide)
  · exact fun j hj => ⟨⟨0, by omega, z22 0 j⟩, ⟨0, by omega, z23 0 j⟩, ⟨0, by omega, z24 0 j⟩⟩
  · exact fun p hp => ⟨0, by omega, z11 0 p⟩
  · exact ⟨v22, 0, by omega, v23⟩
  · exact fun _ p hp => z15 0 p
  · exact ⟨0, 0, v21, v19, by omega, by show 0 + 0 ≤ 0 + 0; omega⟩
  · intro t h1 h2
    refine ⟨0, by omega, z38 0 0, v7, fun j hj => absurd hj (Nat.not_lt_zero j), fun p hp => (vp p hp).2.1, fun p hp hlt => ?_⟩
    rw [v6] at hlt
    exact absurd hlt (nI_pos (by omega))
