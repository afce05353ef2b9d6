def zrefz : List (Nat × Nat × Nat) := [(0, 0, 0), (0, 0, 1), (0, 0, 3), (0, 0, 4), (0, 0, 6), (0, 0, 7), (1, 0, 0), (1, 0, 1), (1, 0, 2), (5, 0, 0), (5, 0, 1), (5, 0, 2), (5, 0, 3), (5, 0, 4), (5, 0, 5), (5, 0, 6), (5, 0, 7), (5, 0, 8), (5, 0, 9), (5, 0, 10), (5, 0, 11), (5, 0, 12), (5, 0, 13), (5, 0, 14), (5, 0, 15), (5, 0, 16), (5, 0, 17), (5, 0, 18), (5, 0, 19), (6, 0, 0), (6, 0, 1), (10, 0, 5), (10, 0, 6), (10, 0, 7), (10, 0, 8), (10, 0, 9), (12, 0, 0), (12, 0, 1), (12, 0, 2), (16, 0, 0), (16, 0, 1), (16, 0, 2), (20, 0, 0), (20, 0, 1), (20, 0, 2), (20, 0, 3), (20, 0, 4), (21, 0, 0), (21, 0, 1), (21, 0, 2), (21, 0, 3), (25, 0, 0), (28, 0, 0), (28, 0, 2), (28, 0, 3), (31, 0, 0), (31, 0, 1), (31, 0, 2), (31, 0, 3), (31, 0, 4), (31, 0, 5), (31, 0, 6), (31, 0, 7), (28, 1, 0), (28, 1, 2), (28, 1, 3), (31, 1, 0), (31, 1, 1), (31, 1, 2), (31, 1, 3), (31, 1, 4), (31, 1, 5), (31, 1, 6), (31, 1, 7), (28, 2, 0), (28, 2, 2), (28, 2, 3), (31, 2, 0), (31, 2, 1), (31, 2, 2), (31, 2, 3), (31, 2, 4), (31, 2, 5), (31, 2, 6), (31, 2, 7), (28, 3, 0), (28, 3, 2), (28, 3, 3), (31, 3, 0), (31, 3, 1), (31, 3, 2), (31, 3, 3), (31, 3, 4), (31, 3, 5), (31, 3, 6), (31, 3, 7), (28, 4, 0), (28, 4, 2), (28, 4, 3), (31, 4, 0), (31, 4, 1), (31, 4, 2), (31, 4, 3), (31, 4, 4), (31, 4, 5), (31, 4, 6), (31, 4, 7), (27, 0, 0), (27, 0, 1), (27, 0, 2), (27, 0, 3)]
/-- every reference is set -/
def zokz (F : GF) : Prop := ∀ q ∈ zrefz, F q.1 q.2.1 q.2.2 = 1
theorem zv1 {x : Int32} {a : Nat} (h : x = 1) : zv x a = .ref a := by
  rw [h]
  rfl
theorem zo_nodup : zo.Nodup := by decide +kernel
theorem zo_keys : ∀ k ∈ gkeys 0, k ∈ zo := by decide +kernel
theorem arrV_ext {cI : ClassId} {N : Nat} {f g : Nat → Value} (h : ∀ j, j < N → f j = g j) : arrV cI N f = arrV cI N g := by
  have e : (arrV cI N f).slots = (arrV cI N g).slots := by
    apply Array.ext_getElem?
    intro j
    by_cases hj : j < N
    · rw [arrV_read cI f hj, arrV_read cI g hj, h j hj]
    · rw [Array.getElem?_eq_none (by rw [arrV_size]; omega), Array.getElem?_eq_none (by rw [arrV_size]; omega)]
  show ({ cls := cI, slots := (arrV cI N f).slots, vm := .none } : Cell) = { cls := cI, slots := (arrV cI N g).slots, vm := .none }
  rw [e]
theorem zo_fam : ∀ x ∈ zo, x.1 ∈ [0, 1, 2, 3, 4, 5, 6, 7, 8, 9, 10, 11, 12, 13, 14, 15, 16, 17, 18, 19, 20, 21, 22, 23, 24, 25, 26, 27, 28, 29, 30, 31, 32, 33, 34, 35, 36, 37] := by decide +kernel
theorem zi_0 : ∀ i, (0, i) ∈ zo → i < 1 := by
  have h : ∀ k ∈ zo, k.1 = 0 → k.2 < 1 := by decide +kernel
  exact fun i hi => h _ hi rfl
theorem zr_0_0 : ∀ i, i < 1 → (0, i, 0) ∈ zrefz := by decide +kernel
theorem zr_0_1 : ∀ i, i < 1 → (0, i, 1) ∈ zrefz := by decide +kernel
theorem zr_0_3 : ∀ i, i < 1 → (0, i, 3) ∈ zrefz := by decide +kernel
theorem zr_0_4 : ∀ i, i < 1 → (0, i, 4) ∈ zrefz := by decide +kernel
theorem zr_0_6 : ∀ i, i < 1 → (0, i, 6) ∈ zrefz := by decide +kernel
theorem zr_0_7 : ∀ i, i < 1 → (0, i, 7) ∈ zrefz := by decide +kernel
theorem zi_1 : ∀ i, (1, i) ∈ zo → i < 1 := by
  have h : ∀ k ∈ zo, k.1 = 1 → k.2 < 1 := by decide +kernel
  exact fun i hi => h _ hi rfl
theorem zr_1_0 : ∀ i, i < 1 → (1, i, 0) ∈ zrefz := by decide +kernel
theorem zr_1_1 : ∀ i, i < 1 → (1, i, 1) ∈ zrefz := by decide +kernel
theorem zr_1_2 : ∀ i, i < 1 → (1, i, 2) ∈ zrefz := by decide +kernel
theorem zi_5 : ∀ i, (5, i) ∈ zo → i < 1 := by
  have h : ∀ k ∈ zo, k.1 = 5 → k.2 < 1 := by decide +kernel
  exact fun i hi => h _ hi rfl
theorem zr_5 : ∀ i j, i < 1 → j < 20 → (5, i, j) ∈ zrefz := by
  have h : ∀ i, i < 1 → ∀ j, j < 20 → (5, i, j) ∈ zrefz := by decide +kernel
  exact fun i j hi hj => h i hi j hj
theorem zi_6 : ∀ i, (6, i) ∈ zo → i < 1 := by
  have h : ∀ k ∈ zo, k.1 = 6 → k.2 < 1 := by decide +kernel
  exact fun i hi => h _ hi rfl
theorem zr_6_0 : ∀ i, i < 1 → (6, i, 0) ∈ zrefz := by decide +kernel
theorem zr_6_1 : ∀ i, i < 1 → (6, i, 1) ∈ zrefz := by decide +kernel
theorem zi_10 : ∀ i, (10, i) ∈ zo → i < 1 := by
  have h : ∀ k ∈ zo, k.1 = 10 → k.2 < 1 := by decide +kernel
  exact fun i hi => h _ hi rfl
theorem zr_10_5 : ∀ i, i < 1 → (10, i, 5) ∈ zrefz := by decide +kernel
theorem zr_10_6 : ∀ i, i < 1 → (10, i, 6) ∈ zrefz := by decide +kernel
theorem zr_10_7 : ∀ i, i < 1 → (10, i, 7) ∈ zrefz := by decide +kernel
theorem zr_10_8 : ∀ i, i < 1 → (10, i, 8) ∈ zrefz := by decide +kernel
theorem zr_10_9 : ∀ i, i < 1 → (10, i, 9) ∈ zrefz := by decide +kernel
theorem zi_12 : ∀ i, (12, i) ∈ zo → i < 1 := by
  have h : ∀ k ∈ zo, k.1 = 12 → k.2 < 1 := by decide +kernel
  exact fun i hi => h _ hi rfl
theorem zr_12_0 : ∀ i, i < 1 → (12, i, 0) ∈ zrefz := by decide +kernel
theorem zr_12_1 : ∀ i, i < 1 → (12, i, 1) ∈ zrefz := by decide +kernel
theorem zr_12_2 : ∀ i, i < 1 → (12, i, 2) ∈ zrefz := by decide +kernel
theorem zi_16 : ∀ i, (16, i) ∈ zo → i < 1 := by
  have h : ∀ k ∈ zo, k.1 = 16 → k.2 < 1 := by decide +kernel
  exact fun i hi => h _ hi rfl
theorem zr_16_0 : ∀ i, i < 1 → (16, i, 0) ∈ zrefz := by decide +kernel
theorem zr_16_1 : ∀ i, i < 1 → (16, i, 1) ∈ zrefz := by decide +kernel
theorem zr_16_2 : ∀ i, i < 1 → (16, i, 2) ∈ zrefz := by decide +kernel
theorem zi_20 : ∀ i, (20, i) ∈ zo → i < 1 := by
  have h : ∀ k ∈ zo, k.1 = 20 → k.2 < 1 := by decide +kernel
  exact fun i hi => h _ hi rfl
theorem zr_20 : ∀ i j, i < 1 → j < 5 → (20, i, j) ∈ zrefz := by
  have h : ∀ i, i < 1 → ∀ j, j < 5 → (20, i, j) ∈ zrefz := by decide +kernel
  exact fun i j hi hj => h i hi j hj
theorem zi_21 : ∀ i, (21, i) ∈ zo → i < 1 := by
  have h : ∀ k ∈ zo, k.1 = 21 → k.2 < 1 := by decide +kernel
  exact fun i hi => h _ hi rfl
theorem zr_21_0 : ∀ i, i < 1 → (21, i, 0) ∈ zrefz := by decide +kernel
theorem zr_21_1 : ∀ i, i < 1 → (21, i, 1) ∈ zrefz := by decide +kernel
theorem zr_21_2 : ∀ i, i < 1 → (21, i, 2) ∈ zrefz := by decide +kernel
theorem zr_21_3 : ∀ i, i < 1 → (21, i, 3) ∈ zrefz := by decide +kernel
theorem zi_25 : ∀ i, (25, i) ∈ zo → i < 1 := by
  have h : ∀ k ∈ zo, k.1 = 25 → k.2 < 1 := by decide +kernel
  exact fun i hi => h _ hi rfl
theorem zr_25_0 : ∀ i, i < 1 → (25, i, 0) ∈ zrefz := by decide +kernel
theorem zi_27 : ∀ i, (27, i) ∈ zo → i < 1 := by
  have h : ∀ k ∈ zo, k.1 = 27 → k.2 < 1 := by decide +kernel
  exact fun i hi => h _ hi rfl
theorem zr_27_0 : ∀ i, i < 1 → (27, i, 0) ∈ zrefz := by decide +kernel
theorem zr_27_1 : ∀ i, i < 1 → (27, i, 1) ∈ zrefz := by decide +kernel
theorem zr_27_2 : ∀ i, i < 1 → (27, i, 2) ∈ zrefz := by decide +kernel
theorem zr_27_3 : ∀ i, i < 1 → (27, i, 3) ∈ zrefz := by decide +kernel
theorem zi_28 : ∀ i, (28, i) ∈ zo → i < 5 := by
  have h : ∀ k ∈ zo, k.1 = 28 → k.2 < 5 := by decide +kernel
  exact fun i hi => h _ hi rfl
theorem zr_28_0 : ∀ i, i < 5 → (28, i, 0) ∈ zrefz := by decide +kernel
theorem zr_28_2 : ∀ i, i < 5 → (28, i, 2) ∈ zrefz := by decide +kernel
theorem zr_28_3 : ∀ i, i < 5 → (28, i, 3) ∈ zrefz := by decide +kernel
theorem zi_31 : ∀ i, (31, i) ∈ zo → i < 5 := by
  have h : ∀ k ∈ zo, k.1 = 31 → k.2 < 5 := by decide +kernel
  exact fun i hi => h _ hi rfl
theorem zr_31 : ∀ i j, i < 5 → j < 8 → (31, i, j) ∈ zrefz := by
  have h : ∀ i, i < 5 → ∀ j, j < 8 → (31, i, j) ∈ zrefz := by decide +kernel
  exact fun i j hi hj => h i hi j hj
theorem z_at {D : va_G} {cy : Nat → ClassId} {B : Nat} {F : GF} {H : Heap} (hz : zokz F) : ∀ f i, (f, i) ∈ zo → va_at D vwCl (zad B f i, zcell cy (zad B) f i (F f i)) H → va_at D vwCl (zad B f i, gcell cy (zad B) f i (F f i)) H := by
  intro f i hm h
  have hr : ∀ k, (f, i, k) ∈ zrefz → F f i k = 1 := fun k hk => hz (f, i, k) hk
  by_cases e0 : f = 0
  · subst e0
    have hi : i < 1 := zi_0 i hm
    have r0 : F 0 i 0 = 1 := hr 0 (zr_0_0 i hi)
    have r1 : F 0 i 1 = 1 := hr 1 (zr_0_1 i hi)
    have r3 : F 0 i 3 = 1 := hr 3 (zr_0_3 i hi)
    have r4 : F 0 i 4 = 1 := hr 4 (zr_0_4 i hi)
    have r6 : F 0 i 6 = 1 := hr 6 (zr_0_6 i hi)
    have r7 : F 0 i 7 = 1 := hr 7 (zr_0_7 i hi)
    have e : zcell cy (zad B) 0 i (F 0 i) = gcell cy (zad B) 0 i (F 0 i) := by
      show Sum.inr (14, [zv (F 0 i 0) (zad B 1 0), zv (F 0 i 1) (zad B 5 0), Value.int (F 0 i 2), zv (F 0 i 3) (zad B 6 0), zv (F 0 i 4) (zad B 9 0), Value.int (F 0 i 5), zv (F 0 i 6) (zad B 10 0), zv (F 0 i 7) (zad B 27 0)]) = Sum.inr (14, [Value.ref (zad B 1 0), Value.ref (zad B 5 0), Value.int (F 0 i 2), Value.ref (zad B 6 0), Value.ref (zad B 9 0), Value.int (F 0 i 5), Value.ref (zad B 10 0), Value.ref (zad B 27 0)])
      rw [zv1 r0, zv1 r1, zv1 r3, zv1 r4, zv1 r6, zv1 r7]
    rw [← e]
    exact h
  by_cases e1 : f = 1
  · subst e1
    have hi : i < 1 := zi_1 i hm
    have r0 : F 1 i 0 = 1 := hr 0 (zr_1_0 i hi)
    have r1 : F 1 i 1 = 1 := hr 1 (zr_1_1 i hi)
    have r2 : F 1 i 2 = 1 := hr 2 (zr_1_2 i hi)
    have e : zcell cy (zad B) 1 i (F 1 i) = gcell cy (zad B) 1 i (F 1 i) := by
      show Sum.inr (13, [zv (F 1 i 0) (zad B 2 0), zv (F 1 i 1) (zad B 3 0), zv (F 1 i 2) (zad B 4 0)]) = Sum.inr (13, [Value.ref (zad B 2 0), Value.ref (zad B 3 0), Value.ref (zad B 4 0)])
      rw [zv1 r0, zv1 r1, zv1 r2]
    rw [← e]
    exact h
  by_cases e5 : f = 5
  · subst e5
    have hi : i < 1 := zi_5 i hm
    have h2 : H[zad B 5 i]? = some (vp_cell (cy 5) (20, .inr (.inr (.inr (.inr (fun j => if F 5 i j = 0 then none else some (zad B 33 j))))))) := h
    show H[zad B 5 i]? = some (vp_cell (cy 5) (20, .inr (.inr (.inr (.inr (fun j => some (zad B 33 j)))))))
    rw [h2, vp_cell_q, vp_cell_q]
    refine congrArg some (arrV_ext (fun j hj => ?_))
    rw [if_neg (by rw [hr j (zr_5 i j hi hj)]; decide)]
  by_cases e6 : f = 6
  · subst e6
    have hi : i < 1 := zi_6 i hm
    have r0 : F 6 i 0 = 1 := hr 0 (zr_6_0 i hi)
    have r1 : F 6 i 1 = 1 := hr 1 (zr_6_1 i hi)
    have e : zcell cy (zad B) 6 i (F 6 i) = gcell cy (zad B) 6 i (F 6 i) := by
      show Sum.inr (11, [zv (F 6 i 0) (zad B 7 0), zv (F 6 i 1) (zad B 8 0), Value.int (F 6 i 2)]) = Sum.inr (11, [Value.ref (zad B 7 0), Value.ref (zad B 8 0), Value.int (F 6 i 2)])
      rw [zv1 r0, zv1 r1]
    rw [← e]
    exact h
  by_cases e10 : f = 10
  · subst e10
    have hi : i < 1 := zi_10 i hm
    have r5 : F 10 i 5 = 1 := hr 5 (zr_10_5 i hi)
    have r6 : F 10 i 6 = 1 := hr 6 (zr_10_6 i hi)
    have r7 : F 10 i 7 = 1 := hr 7 (zr_10_7 i hi)
    have r8 : F 10 i 8 = 1 := hr 8 (zr_10_8 i hi)
    have r9 : F 10 i 9 = 1 := hr 9 (zr_10_9 i hi)
    have e : zcell cy (zad B) 10 i (F 10 i) = gcell cy (zad B) 10 i (F 10 i) := by
      show Sum.inr (6, [Value.int (F 10 i 0), Value.int (F 10 i 1), Value.int (F 10 i 2), Value.int (F 10 i 3), Value.int (F 10 i 4), zv (F 10 i 5) (zad B 11 0), zv (F 10 i 6) (zad B 12 0), zv (F 10 i 7) (zad B 16 0), zv (F 10 i 8) (zad B 20 0), zv (F 10 i 9) (zad B 21 0)]) = Sum.inr (6, [Value.int (F 10 i 0), Value.int (F 10 i 1), Value.int (F 10 i 2), Value.int (F 10 i 3), Value.int (F 10 i 4), Value.ref (zad B 11 0), Value.ref (zad B 12 0), Value.ref (zad B 16 0), Value.ref (zad B 20 0), Value.ref (zad B 21 0)])
      rw [zv1 r5, zv1 r6, zv1 r7, zv1 r8, zv1 r9]
    rw [← e]
    exact h
  by_cases e12 : f = 12
  · subst e12
    have hi : i < 1 := zi_12 i hm
    have r0 : F 12 i 0 = 1 := hr 0 (zr_12_0 i hi)
    have r1 : F 12 i 1 = 1 := hr 1 (zr_12_1 i hi)
    have r2 : F 12 i 2 = 1 := hr 2 (zr_12_2 i hi)
    have e : zcell cy (zad B) 12 i (F 12 i) = gcell cy (zad B) 12 i (F 12 i) := by
      show Sum.inr (9, [zv (F 12 i 0) (zad B 13 0), zv (F 12 i 1) (zad B 14 0), zv (F 12 i 2) (zad B 15 0)]) = Sum.inr (9, [Value.ref (zad B 13 0), Value.ref (zad B 14 0), Value.ref (zad B 15 0)])
      rw [zv1 r0, zv1 r1, zv1 r2]
    rw [← e]
    exact h
  by_cases e16 : f = 16
  · subst e16
    have hi : i < 1 := zi_16 i hm
    have r0 : F 16 i 0 = 1 := hr 0 (zr_16_0 i hi)
    have r1 : F 16 i 1 = 1 := hr 1 (zr_16_1 i hi)
    have r2 : F 16 i 2 = 1 := hr 2 (zr_16_2 i hi)
    have e : zcell cy (zad B) 16 i (F 16 i) = gcell cy (zad B) 16 i (F 16 i) := by
      show Sum.inr (7, [zv (F 16 i 0) (zad B 17 0), zv (F 16 i 1) (zad B 18 0), zv (F 16 i 2) (zad B 19 0), Value.int (F 16 i 3)]) = Sum.inr (7, [Value.ref (zad B 17 0), Value.ref (zad B 18 0), Value.ref (zad B 19 0), Value.int (F 16 i 3)])
      rw [zv1 r0, zv1 r1, zv1 r2]
    rw [← e]
    exact h
  by_cases e20 : f = 20
  · subst e20
    have hi : i < 1 := zi_20 i hm
    have h2 : H[zad B 20 i]? = some (vp_cell (cy 4) (5, .inr (.inr (.inr (.inr (fun j => if F 20 i j = 0 then none else some (zad B 28 j))))))) := h
    show H[zad B 20 i]? = some (vp_cell (cy 4) (5, .inr (.inr (.inr (.inr (fun j => some (zad B 28 j)))))))
    rw [h2, vp_cell_q, vp_cell_q]
    refine congrArg some (arrV_ext (fun j hj => ?_))
    rw [if_neg (by rw [hr j (zr_20 i j hi hj)]; decide)]
  by_cases e21 : f = 21
  · subst e21
    have hi : i < 1 := zi_21 i hm
    have r0 : F 21 i 0 = 1 := hr 0 (zr_21_0 i hi)
    have r1 : F 21 i 1 = 1 := hr 1 (zr_21_1 i hi)
    have r2 : F 21 i 2 = 1 := hr 2 (zr_21_2 i hi)
    have r3 : F 21 i 3 = 1 := hr 3 (zr_21_3 i hi)
    have e : zcell cy (zad B) 21 i (F 21 i) = gcell cy (zad B) 21 i (F 21 i) := by
      show Sum.inr (4, [zv (F 21 i 0) (zad B 22 0), zv (F 21 i 1) (zad B 23 0), zv (F 21 i 2) (zad B 24 0), zv (F 21 i 3) (zad B 25 0), Value.int (F 21 i 4)]) = Sum.inr (4, [Value.ref (zad B 22 0), Value.ref (zad B 23 0), Value.ref (zad B 24 0), Value.ref (zad B 25 0), Value.int (F 21 i 4)])
      rw [zv1 r0, zv1 r1, zv1 r2, zv1 r3]
    rw [← e]
    exact h
  by_cases e25 : f = 25
  · subst e25
    have hi : i < 1 := zi_25 i hm
    have r0 : F 25 i 0 = 1 := hr 0 (zr_25_0 i hi)
    have e : zcell cy (zad B) 25 i (F 25 i) = gcell cy (zad B) 25 i (F 25 i) := by
      show Sum.inr (1, [zv (F 25 i 0) (zad B 26 0), Value.int (F 25 i 1), Value.int (F 25 i 2), Value.int (F 25 i 3)]) = Sum.inr (1, [Value.ref (zad B 26 0), Value.int (F 25 i 1), Value.int (F 25 i 2), Value.int (F 25 i 3)])
      rw [zv1 r0]
    rw [← e]
    exact h
  by_cases e27 : f = 27
  · subst e27
    have hi : i < 1 := zi_27 i hm
    have r0 : F 27 i 0 = 1 := hr 0 (zr_27_0 i hi)
    have r1 : F 27 i 1 = 1 := hr 1 (zr_27_1 i hi)
    have r2 : F 27 i 2 = 1 := hr 2 (zr_27_2 i hi)
    have r3 : F 27 i 3 = 1 := hr 3 (zr_27_3 i hi)
    have e : zcell cy (zad B) 27 i (F 27 i) = gcell cy (zad B) 27 i (F 27 i) := by
      show Sum.inr (10, [zv (F 27 i 0) (zad B 34 0), zv (F 27 i 1) (zad B 35 0), zv (F 27 i 2) (zad B 36 0), zv (F 27 i 3) (zad B 37 0), Value.int (F 27 i 4), Value.int (F 27 i 5), Value.int (F 27 i 6)]) = Sum.inr (10, [Value.ref (zad B 34 0), Value.ref (zad B 35 0), Value.ref (zad B 36 0), Value.ref (zad B 37 0), Value.int (F 27 i 4), Value.int (F 27 i 5), Value.int (F 27 i 6)])
      rw [zv1 r0, zv1 r1, zv1 r2, zv1 r3]
    rw [← e]
    exact h
  by_cases e28 : f = 28
  · subst e28
    have hi : i < 5 := zi_28 i hm
    have r0 : F 28 i 0 = 1 := hr 0 (zr_28_0 i hi)
    have r2 : F 28 i 2 = 1 := hr 2 (zr_28_2 i hi)
    have r3 : F 28 i 3 = 1 := hr 3 (zr_28_3 i hi)
    have e : zcell cy (zad B) 28 i (F 28 i) = gcell cy (zad B) 28 i (F 28 i) := by
      show Sum.inr (5, [zv (F 28 i 0) (zad B 29 i), Value.int (F 28 i 1), zv (F 28 i 2) (zad B 30 i), zv (F 28 i 3) (zad B 31 i), Value.int (F 28 i 4), Value.int (F 28 i 5)]) = Sum.inr (5, [Value.ref (zad B 29 i), Value.int (F 28 i 1), Value.ref (zad B 30 i), Value.ref (zad B 31 i), Value.int (F 28 i 4), Value.int (F 28 i 5)])
      rw [zv1 r0, zv1 r2, zv1 r3]
    rw [← e]
    exact h
  by_cases e31 : f = 31
  · subst e31
    have hi : i < 5 := zi_31 i hm
    have h2 : H[zad B 31 i]? = some (vp_cell (cy 6) (8, .inr (.inr (.inr (.inr (fun j => if F 31 i j = 0 then none else some (zad B 32 (8 * i + j)))))))) := h
    show H[zad B 31 i]? = some (vp_cell (cy 6) (8, .inr (.inr (.inr (.inr (fun j => some (zad B 32 (8 * i + j))))))))
    rw [h2, vp_cell_q, vp_cell_q]
    refine congrArg some (arrV_ext (fun j hj => ?_))
    rw [if_neg (by rw [hr j (zr_31 i j hi hj)]; decide)]
  have hf : f ∈ [0, 1, 2, 3, 4, 5, 6, 7, 8, 9, 10, 11, 12, 13, 14, 15, 16, 17, 18, 19, 20, 21, 22, 23, 24, 25, 26, 27, 28, 29, 30, 31, 32, 33, 34, 35, 36, 37] := zo_fam (f, i) hm
  simp only [List.mem_cons, List.not_mem_nil, or_false] at hf
  rcases hf with rfl | rfl | rfl | rfl | rfl | rfl | rfl | rfl | rfl | rfl | rfl | rfl | rfl | rfl | rfl | rfl | rfl | rfl | rfl | rfl | rfl | rfl | rfl | rfl | rfl | rfl | rfl | rfl | rfl | rfl | rfl | rfl | rfl | rfl | rfl | rfl | rfl | rfl
  all_goals first | exact absurd rfl ‹_› | exact h
/-- the objects are made: the world of the methods -/
theorem z_done {G : GPz} {F : GF} {H : Heap} (h : zH G 112 F H) (hz : zokz F) (h0 : F 38 0 0 = 0) : gH (zg G) (zad G.2.2.2) F H := by
  have hn : gcn F = 0 := by
    unfold gcn
    rw [h0]
    rfl
  refine gW_mk (fun a ha => ?_) (fun a ha => ?_) (fun a ha b hb e => ?_)
  · rw [hn] at ha
    have hm := zo_keys a ha
    obtain ⟨j, hj⟩ := List.getElem?_of_mem hm
    have hl := (List.getElem?_eq_some_iff.mp hj).1
    rw [zo_len] at hl
    exact z_at hz a.1 a.2 hm (h.2 j a.1 a.2 hl hj)
  · show G.2.2.2 ≤ G.2.2.2 + zp a.1 a.2
    omega
  · rw [hn] at ha hb
    obtain ⟨j, hj⟩ := List.getElem?_of_mem (zo_keys a ha)
    obtain ⟨k, hk⟩ := List.getElem?_of_mem (zo_keys b hb)
    have e2 : G.2.2.2 + zp a.1 a.2 = G.2.2.2 + zp b.1 b.2 := e
    rw [zo_zp (show zo[j]? = some (a.1, a.2) from hj), zo_zp (show zo[k]? = some (b.1, b.2) from hk)] at e2
    obtain rfl : j = k := by omega
    exact Option.some.inj (hj.symm.trans hk)
