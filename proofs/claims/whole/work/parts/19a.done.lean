theorem zv1 {x : Int32} {a : Nat} (h : x = 1) : zv x a = .ref a := by
  rw [h]
  rfl
theorem zo_nodup : zo.Nodup := by decide +kernel
theorem zo_keys : ∀ k ∈ gkeys 0, k ∈ zo := by decide +kernel
theorem arrV_ext {cI : ClassId} {N : Nat} {f g : Nat → Value} (h : ∀ j, j < N → f j = g j) : arrV cI N f = arrV cI N g := by
  have e : (arrV cI N f).slots = (arrV cI N g).slots := by
    apply Array.ext_getElem?
    intro j
    by_cases hj : j < N
    · rw [arrV_read cI f hj, arrV_read cI g hj, h j hj]
    · rw [Array.getElem?_eq_none (by rw [arrV_size]; omega), Array.getElem?_eq_none (by rw [arrV_size]; omega)]
  show ({ cls := cI, slots := (arrV cI N f).slots, vm := .none } : Cell) = { cls := cI, slots := (arrV cI N g).slots, vm := .none }
  rw [e]
theorem zo_fam : ∀ x ∈ zo, x.1 ∈ [0, 1, 2, 3, 4, 5, 6, 7, 8, 9, 10, 11, 12, 13, 14, 15, 16, 17, 18, 19, 20, 21, 22, 23, 24, 25, 26, 27, 28, 29, 30, 31, 32, 33, 34, 35, 36, 37, 40, 41, 42, 43, 44, 45, 46, 47, 48, 49, 50, 51, 52, 53, 54, 55, 56, 57, 58, 59, 60, 61, 62, 63, 64, 65, 66, 67, 68, 69, 70, 79] := by decide +kernel
theorem zi_0 : ∀ i, (0, i) ∈ zo → i < 1 := by
  have h : ∀ k ∈ zo, k.1 = 0 → k.2 < 1 := by decide +kernel
  exact fun i hi => h _ hi rfl
theorem zr_0_0 : ∀ i, i < 1 → (0, i, 0) ∈ zrefs := by decide +kernel
theorem zr_0_1 : ∀ i, i < 1 → (0, i, 1) ∈ zrefs := by decide +kernel
theorem zr_0_3 : ∀ i, i < 1 → (0, i, 3) ∈ zrefs := by decide +kernel
theorem zr_0_4 : ∀ i, i < 1 → (0, i, 4) ∈ zrefs := by decide +kernel
theorem zr_0_6 : ∀ i, i < 1 → (0, i, 6) ∈ zrefs := by decide +kernel
theorem zr_0_7 : ∀ i, i < 1 → (0, i, 7) ∈ zrefs := by decide +kernel
theorem zi_1 : ∀ i, (1, i) ∈ zo → i < 1 := by
  have h : ∀ k ∈ zo, k.1 = 1 → k.2 < 1 := by decide +kernel
  exact fun i hi => h _ hi rfl
theorem zr_1_0 : ∀ i, i < 1 → (1, i, 0) ∈ zrefs := by decide +kernel
theorem zr_1_1 : ∀ i, i < 1 → (1, i, 1) ∈ zrefs := by decide +kernel
theorem zr_1_2 : ∀ i, i < 1 → (1, i, 2) ∈ zrefs := by decide +kernel
theorem zi_5 : ∀ i, (5, i) ∈ zo → i < 1 := by
  have h : ∀ k ∈ zo, k.1 = 5 → k.2 < 1 := by decide +kernel
  exact fun i hi => h _ hi rfl
theorem zr_5 : ∀ i j, i < 1 → j < 20 → (5, i, j) ∈ zrefs := by
  have h : ∀ i, i < 1 → ∀ j, j < 20 → (5, i, j) ∈ zrefs := by decide +kernel
  exact fun i j hi hj => h i hi j hj
theorem zi_6 : ∀ i, (6, i) ∈ zo → i < 1 := by
  have h : ∀ k ∈ zo, k.1 = 6 → k.2 < 1 := by decide +kernel
  exact fun i hi => h _ hi rfl
theorem zr_6_0 : ∀ i, i < 1 → (6, i, 0) ∈ zrefs := by decide +kernel
theorem zr_6_1 : ∀ i, i < 1 → (6, i, 1) ∈ zrefs := by decide +kernel
theorem zi_10 : ∀ i, (10, i) ∈ zo → i < 1 := by
  have h : ∀ k ∈ zo, k.1 = 10 → k.2 < 1 := by decide +kernel
  exact fun i hi => h _ hi rfl
theorem zr_10_5 : ∀ i, i < 1 → (10, i, 5) ∈ zrefs := by decide +kernel
theorem zr_10_6 : ∀ i, i < 1 → (10, i, 6) ∈ zrefs := by decide +kernel
theorem zr_10_7 : ∀ i, i < 1 → (10, i, 7) ∈ zrefs := by decide +kernel
theorem zr_10_8 : ∀ i, i < 1 → (10, i, 8) ∈ zrefs := by decide +kernel
theorem zr_10_9 : ∀ i, i < 1 → (10, i, 9) ∈ zrefs := by decide +kernel
theorem zi_12 : ∀ i, (12, i) ∈ zo → i < 1 := by
  have h : ∀ k ∈ zo, k.1 = 12 → k.2 < 1 := by decide +kernel
  exact fun i hi => h _ hi rfl
theorem zr_12_0 : ∀ i, i < 1 → (12, i, 0) ∈ zrefs := by decide +kernel
theorem zr_12_1 : ∀ i, i < 1 → (12, i, 1) ∈ zrefs := by decide +kernel
theorem zr_12_2 : ∀ i, i < 1 → (12, i, 2) ∈ zrefs := by decide +kernel
theorem zi_16 : ∀ i, (16, i) ∈ zo → i < 1 := by
  have h : ∀ k ∈ zo, k.1 = 16 → k.2 < 1 := by decide +kernel
  exact fun i hi => h _ hi rfl
theorem zr_16_0 : ∀ i, i < 1 → (16, i, 0) ∈ zrefs := by decide +kernel
theorem zr_16_1 : ∀ i, i < 1 → (16, i, 1) ∈ zrefs := by decide +kernel
theorem zr_16_2 : ∀ i, i < 1 → (16, i, 2) ∈ zrefs := by decide +kernel
theorem zi_20 : ∀ i, (20, i) ∈ zo → i < 1 := by
  have h : ∀ k ∈ zo, k.1 = 20 → k.2 < 1 := by decide +kernel
  exact fun i hi => h _ hi rfl
theorem zr_20 : ∀ i j, i < 1 → j < 5 → (20, i, j) ∈ zrefs := by
  have h : ∀ i, i < 1 → ∀ j, j < 5 → (20, i, j) ∈ zrefs := by decide +kernel
  exact fun i j hi hj => h i hi j hj
theorem zi_21 : ∀ i, (21, i) ∈ zo → i < 1 := by
  have h : ∀ k ∈ zo, k.1 = 21 → k.2 < 1 := by decide +kernel
  exact fun i hi => h _ hi rfl
theorem zr_21_0 : ∀ i, i < 1 → (21, i, 0) ∈ zrefs := by decide +kernel
theorem zr_21_1 : ∀ i, i < 1 → (21, i, 1) ∈ zrefs := by decide +kernel
theorem zr_21_2 : ∀ i, i < 1 → (21, i, 2) ∈ zrefs := by decide +kernel
theorem zr_21_3 : ∀ i, i < 1 → (21, i, 3) ∈ zrefs := by decide +kernel
theorem zi_25 : ∀ i, (25, i) ∈ zo → i < 1 := by
  have h : ∀ k ∈ zo, k.1 = 25 → k.2 < 1 := by decide +kernel
  exact fun i hi => h _ hi rfl
theorem zr_25_0 : ∀ i, i < 1 → (25, i, 0) ∈ zrefs := by decide +kernel
theorem zi_27 : ∀ i, (27, i) ∈ zo → i < 1 := by
  have h : ∀ k ∈ zo, k.1 = 27 → k.2 < 1 := by decide +kernel
  exact fun i hi => h _ hi rfl
theorem zr_27_0 : ∀ i, i < 1 → (27, i, 0) ∈ zrefs := by decide +kernel
theorem zr_27_1 : ∀ i, i < 1 → (27, i, 1) ∈ zrefs := by decide +kernel
theorem zr_27_2 : ∀ i, i < 1 → (27, i, 2) ∈ zrefs := by decide +kernel
theorem zr_27_3 : ∀ i, i < 1 → (27, i, 3) ∈ zrefs := by decide +kernel
theorem zi_28 : ∀ i, (28, i) ∈ zo → i < 5 := by
  have h : ∀ k ∈ zo, k.1 = 28 → k.2 < 5 := by decide +kernel
  exact fun i hi => h _ hi rfl
theorem zr_28_0 : ∀ i, i < 5 → (28, i, 0) ∈ zrefs := by decide +kernel
theorem zr_28_2 : ∀ i, i < 5 → (28, i, 2) ∈ zrefs := by decide +kernel
theorem zr_28_3 : ∀ i, i < 5 → (28, i, 3) ∈ zrefs := by decide +kernel
theorem zi_31 : ∀ i, (31, i) ∈ zo → i < 5 := by
  have h : ∀ k ∈ zo, k.1 = 31 → k.2 < 5 := by decide +kernel
  exact fun i hi => h _ hi rfl
theorem zr_31 : ∀ i j, i < 5 → j < 8 → (31, i, j) ∈ zrefs := by
  have h : ∀ i, i < 5 → ∀ j, j < 8 → (31, i, j) ∈ zrefs := by decide +kernel
  exact fun i j hi hj => h i hi j hj
theorem zi_40 : ∀ i, (40, i) ∈ zo → i < 1 := by
  have h : ∀ k ∈ zo, k.1 = 40 → k.2 < 1 := by decide +kernel
  exact fun i hi => h _ hi rfl
theorem zr_40_1 : ∀ i, i < 1 → (40, i, 1) ∈ zrefs := by decide +kernel
theorem zr_40_2 : ∀ i, i < 1 → (40, i, 2) ∈ zrefs := by decide +kernel
theorem zr_40_3 : ∀ i, i < 1 → (40, i, 3) ∈ zrefs := by decide +kernel
theorem zr_40_4 : ∀ i, i < 1 → (40, i, 4) ∈ zrefs := by decide +kernel
theorem zr_40_5 : ∀ i, i < 1 → (40, i, 5) ∈ zrefs := by decide +kernel
theorem zr_40_7 : ∀ i, i < 1 → (40, i, 7) ∈ zrefs := by decide +kernel
theorem zr_40_8 : ∀ i, i < 1 → (40, i, 8) ∈ zrefs := by decide +kernel
theorem zr_40_10 : ∀ i, i < 1 → (40, i, 10) ∈ zrefs := by decide +kernel
theorem zr_40_11 : ∀ i, i < 1 → (40, i, 11) ∈ zrefs := by decide +kernel
theorem zr_40_12 : ∀ i, i < 1 → (40, i, 12) ∈ zrefs := by decide +kernel
theorem zr_40_18 : ∀ i, i < 1 → (40, i, 18) ∈ zrefs := by decide +kernel
theorem zr_40_20 : ∀ i, i < 1 → (40, i, 20) ∈ zrefs := by decide +kernel
theorem zr_40_21 : ∀ i, i < 1 → (40, i, 21) ∈ zrefs := by decide +kernel
theorem zr_40_22 : ∀ i, i < 1 → (40, i, 22) ∈ zrefs := by decide +kernel
theorem zr_40_23 : ∀ i, i < 1 → (40, i, 23) ∈ zrefs := by decide +kernel
theorem zr_40_24 : ∀ i, i < 1 → (40, i, 24) ∈ zrefs := by decide +kernel
theorem zr_40_25 : ∀ i, i < 1 → (40, i, 25) ∈ zrefs := by decide +kernel
theorem zr_40_27 : ∀ i, i < 1 → (40, i, 27) ∈ zrefs := by decide +kernel
theorem zr_40_28 : ∀ i, i < 1 → (40, i, 28) ∈ zrefs := by decide +kernel
theorem zr_40_29 : ∀ i, i < 1 → (40, i, 29) ∈ zrefs := by decide +kernel
theorem zr_40_30 : ∀ i, i < 1 → (40, i, 30) ∈ zrefs := by decide +kernel
theorem zr_40_31 : ∀ i, i < 1 → (40, i, 31) ∈ zrefs := by decide +kernel
theorem zr_40_32 : ∀ i, i < 1 → (40, i, 32) ∈ zrefs := by decide +kernel
theorem zr_40_33 : ∀ i, i < 1 → (40, i, 33) ∈ zrefs := by decide +kernel
theorem zr_40_34 : ∀ i, i < 1 → (40, i, 34) ∈ zrefs := by decide +kernel
theorem zr_40_35 : ∀ i, i < 1 → (40, i, 35) ∈ zrefs := by decide +kernel
theorem zr_40_36 : ∀ i, i < 1 → (40, i, 36) ∈ zrefs := by decide +kernel
theorem zr_40_39 : ∀ i, i < 1 → (40, i, 39) ∈ zrefs := by decide +kernel
theorem zr_40_40 : ∀ i, i < 1 → (40, i, 40) ∈ zrefs := by decide +kernel
theorem zr_40_41 : ∀ i, i < 1 → (40, i, 41) ∈ zrefs := by decide +kernel
theorem z_at {D : va_G} {cy : Nat → ClassId} {B : Nat} {F : GF} {H : Heap} (hz : zok F) : ∀ f i, (f, i) ∈ zo → va_at D vwCl (zad B f i, zcell cy (zad B) f i (F f i)) H → va_at D vwCl (zad B f i, gcell cy (zad B) f i (F f i)) H := by
  intro f i hm h
  have hr : ∀ k, (f, i, k) ∈ zrefs → F f i k = 1 := fun k hk => hz (f, i, k) hk
  by_cases e0 : f = 0
  · subst e0
    have hi : i < 1 := zi_0 i hm
    have r0 : F 0 i 0 = 1 := hr 0 (zr_0_0 i hi)
    have r1 : F 0 i 1 = 1 := hr 1 (zr_0_1 i hi)
    have r3 : F 0 i 3 = 1 := hr 3 (zr_0_3 i hi)
    have r4 : F 0 i 4 = 1 := hr 4 (zr_0_4 i hi)
    have r6 : F 0 i 6 = 1 := hr 6 (zr_0_6 i hi)
    have r7 : F 0 i 7 = 1 := hr 7 (zr_0_7 i hi)
    have e : zcell cy (zad B) 0 i (F 0 i) = gcell cy (zad B) 0 i (F 0 i) := by
      show Sum.inr (14, [zv (F 0 i 0) (zad B 1 0), zv (F 0 i 1) (zad B 5 0), Value.int (F 0 i 2), zv (F 0 i 3) (zad B 6 0), zv (F 0 i 4) (zad B 9 0), Value.int (F 0 i 5), zv (F 0 i 6) (zad B 10 0), zv (F 0 i 7) (zad B 27 0)]) = Sum.inr (14, [Value.ref (zad B 1 0), Value.ref (zad B 5 0), Value.int (F 0 i 2), Value.ref (zad B 6 0), Value.ref (zad B 9 0), Value.int (F 0 i 5), Value.ref (zad B 10 0), Value.ref (zad B 27 0)])
      rw [zv1 r0, zv1 r1, zv1 r3, zv1 r4, zv1 r6, zv1 r7]
    rw [← e]
    exact h
  by_cases e1 : f = 1
  · subst e1
    have hi : i < 1 := zi_1 i hm
    have r0 : F 1 i 0 = 1 := hr 0 (zr_1_0 i hi)
    have r1 : F 1 i 1 = 1 := hr 1 (zr_1_1 i hi)
    have r2 : F 1 i 2 = 1 := hr 2 (zr_1_2 i hi)
    have e : zcell cy (zad B) 1 i (F 1 i) = gcell cy (zad B) 1 i (F 1 i) := by
      show Sum.inr (13, [zv (F 1 i 0) (zad B 2 0), zv (F 1 i 1) (zad B 3 0), zv (F 1 i 2) (zad B 4 0)]) = Sum.inr (13, [Value.ref (zad B 2 0), Value.ref (zad B 3 0), Value.ref (zad B 4 0)])
      rw [zv1 r0, zv1 r1, zv1 r2]
    rw [← e]
    exact h
  by_cases e5 : f = 5
  · subst e5
    have hi : i < 1 := zi_5 i hm
    have h2 : H[zad B 5 i]? = some (vp_cell (cy 5) (20, .inr (.inr (.inr (.inr (fun j => if F 5 i j = 0 then none else some (zad B 33 j))))))) := h
    show H[zad B 5 i]? = some (vp_cell (cy 5) (20, .inr (.inr (.inr (.inr (fun j => some (zad B 33 j)))))))
    rw [h2, vp_cell_q, vp_cell_q]
    refine congrArg some (arrV_ext (fun j hj => ?_))
    rw [if_neg (by rw [hr j (zr_5 i j hi hj)]; decide)]
  by_cases e6 : f = 6
  · subst e6
    have hi : i < 1 := zi_6 i hm
    have r0 : F 6 i 0 = 1 := hr 0 (zr_6_0 i hi)
    have r1 : F 6 i 1 = 1 := hr 1 (zr_6_1 i hi)
    have e : zcell cy (zad B) 6 i (F 6 i) = gcell cy (zad B) 6 i (F 6 i) := by
      show Sum.inr (11, [zv (F 6 i 0) (zad B 7 0), zv (F 6 i 1) (zad B 8 0), Value.int (F 6 i 2)]) = Sum.inr (11, [Value.ref (zad B 7 0), Value.ref (zad B 8 0), Value.int (F 6 i 2)])
      rw [zv1 r0, zv1 r1]
    rw [← e]
    exact h
  by_cases e10 : f = 10
  · subst e10
    have hi : i < 1 := zi_10 i hm
    have r5 : F 10 i 5 = 1 := hr 5 (zr_10_5 i hi)
    have r6 : F 10 i 6 = 1 := hr 6 (zr_10_6 i hi)
    have r7 : F 10 i 7 = 1 := hr 7 (zr_10_7 i hi)
    have r8 : F 10 i 8 = 1 := hr 8 (zr_10_8 i hi)
    have r9 : F 10 i 9 = 1 := hr 9 (zr_10_9 i hi)
    have e : zcell cy (zad B) 10 i (F 10 i) = gcell cy (zad B) 10 i (F 10 i) := by
      show Sum.inr (6, [Value.int (F 10 i 0), Value.int (F 10 i 1), Value.int (F 10 i 2), Value.int (F 10 i 3), Value.int (F 10 i 4), zv (F 10 i 5) (zad B 11 0), zv (F 10 i 6) (zad B 12 0), zv (F 10 i 7) (zad B 16 0), zv (F 10 i 8) (zad B 20 0), zv (F 10 i 9) (zad B 21 0)]) = Sum.inr (6, [Value.int (F 10 i 0), Value.int (F 10 i 1), Value.int (F 10 i 2), Value.int (F 10 i 3), Value.int (F 10 i 4), Value.ref (zad B 11 0), Value.ref (zad B 12 0), Value.ref (zad B 16 0), Value.ref (zad B 20 0), Value.ref (zad B 21 0)])
      rw [zv1 r5, zv1 r6, zv1 r7, zv1 r8, zv1 r9]
    rw [← e]
    exact h
  by_cases e12 : f = 12
  · subst e12
    have hi : i < 1 := zi_12 i hm
    have r0 : F 12 i 0 = 1 := hr 0 (zr_12_0 i hi)
    have r1 : F 12 i 1 = 1 := hr 1 (zr_12_1 i hi)
    have r2 : F 12 i 2 = 1 := hr 2 (zr_12_2 i hi)
    have e : zcell cy (zad B) 12 i (F 12 i) = gcell cy (zad B) 12 i (F 12 i) := by
      show Sum.inr (9, [zv (F 12 i 0) (zad B 13 0), zv (F 12 i 1) (zad B 14 0), zv (F 12 i 2) (zad B 15 0)]) = Sum.inr (9, [Value.ref (zad B 13 0), Value.ref (zad B 14 0), Value.ref (zad B 15 0)])
      rw [zv1 r0, zv1 r1, zv1 r2]
    rw [← e]
    exact h
  by_cases e16 : f = 16
  · subst e16
    have hi : i < 1 := zi_16 i hm
    have r0 : F 16 i 0 = 1 := hr 0 (zr_16_0 i hi)
    have r1 : F 16 i 1 = 1 := hr 1 (zr_16_1 i hi)
    have r2 : F 16 i 2 = 1 := hr 2 (zr_16_2 i hi)
    have e : zcell cy (zad B) 16 i (F 16 i) = gcell cy (zad B) 16 i (F 16 i) := by
      show Sum.inr (7, [zv (F 16 i 0) (zad B 17 0), zv (F 16 i 1) (zad B 18 0), zv (F 16 i 2) (zad B 19 0), Value.int (F 16 i 3)]) = Sum.inr (7, [Value.ref (zad B 17 0), Value.ref (zad B 18 0), Value.ref (zad B 19 0), Value.int (F 16 i 3)])
      rw [zv1 r0, zv1 r1, zv1 r2]
    rw [← e]
    exact h
  by_cases e20 : f = 20
  · subst e20
    have hi : i < 1 := zi_20 i hm
    have h2 : H[zad B 20 i]? = some (vp_cell (cy 4) (5, .inr (.inr (.inr (.inr (fun j => if F 20 i j = 0 then none else some (zad B 28 j))))))) := h
    show H[zad B 20 i]? = some (vp_cell (cy 4) (5, .inr (.inr (.inr (.inr (fun j => some (zad B 28 j)))))))
    rw [h2, vp_cell_q, vp_cell_q]
    refine congrArg some (arrV_ext (fun j hj => ?_))
    rw [if_neg (by rw [hr j (zr_20 i j hi hj)]; decide)]
  by_cases e21 : f = 21
  · subst e21
    have hi : i < 1 := zi_21 i hm
    have r0 : F 21 i 0 = 1 := hr 0 (zr_21_0 i hi)
    have r1 : F 21 i 1 = 1 := hr 1 (zr_21_1 i hi)
    have r2 : F 21 i 2 = 1 := hr 2 (zr_21_2 i hi)
    have r3 : F 21 i 3 = 1 := hr 3 (zr_21_3 i hi)
    have e : zcell cy (zad B) 21 i (F 21 i) = gcell cy (zad B) 21 i (F 21 i) := by
      show Sum.inr (4, [zv (F 21 i 0) (zad B 22 0), zv (F 21 i 1) (zad B 23 0), zv (F 21 i 2) (zad B 24 0), zv (F 21 i 3) (zad B 25 0), Value.int (F 21 i 4)]) = Sum.inr (4, [Value.ref (zad B 22 0), Value.ref (zad B 23 0), Value.ref (zad B 24 0), Value.ref (zad B 25 0), Value.int (F 21 i 4)])
      rw [zv1 r0, zv1 r1, zv1 r2, zv1 r3]
    rw [← e]
    exact h
  by_cases e25 : f = 25
  · subst e25
    have hi : i < 1 := zi_25 i hm
    have r0 : F 25 i 0 = 1 := hr 0 (zr_25_0 i hi)
    have e : zcell cy (zad B) 25 i (F 25 i) = gcell cy (zad B) 25 i (F 25 i) := by
      show Sum.inr (1, [zv (F 25 i 0) (zad B 26 0), Value.int (F 25 i 1), Value.int (F 25 i 2), Value.int (F 25 i 3)]) = Sum.inr (1, [Value.ref (zad B 26 0), Value.int (F 25 i 1), Value.int (F 25 i 2), Value.int (F 25 i 3)])
      rw [zv1 r0]
    rw [← e]
    exact h
  by_cases e27 : f = 27
  · subst e27
    have hi : i < 1 := zi_27 i hm
    have r0 : F 27 i 0 = 1 := hr 0 (zr_27_0 i hi)
    have r1 : F 27 i 1 = 1 := hr 1 (zr_27_1 i hi)
    have r2 : F 27 i 2 = 1 := hr 2 (zr_27_2 i hi)
    have r3 : F 27 i 3 = 1 := hr 3 (zr_27_3 i hi)
    have e : zcell cy (zad B) 27 i (F 27 i) = gcell cy (zad B) 27 i (F 27 i) := by
      show Sum.inr (10, [zv (F 27 i 0) (zad B 34 0), zv (F 27 i 1) (zad B 35 0), zv (F 27 i 2) (zad B 36 0), zv (F 27 i 3) (zad B 37 0), Value.int (F 27 i 4), Value.int (F 27 i 5), Value.int (F 27 i 6)]) = Sum.inr (10, [Value.ref (zad B 34 0), Value.ref (zad B 35 0), Value.ref (zad B 36 0), Value.ref (zad B 37 0), Value.int (F 27 i 4), Value.int (F 27 i 5), Value.int (F 27 i 6)])
      rw [zv1 r0, zv1 r1, zv1 r2, zv1 r3]
    rw [← e]
    exact h
  by_cases e28 : f = 28
  · subst e28
    have hi : i < 5 := zi_28 i hm
    have r0 : F 28 i 0 = 1 := hr 0 (zr_28_0 i hi)
    have r2 : F 28 i 2 = 1 := hr 2 (zr_28_2 i hi)
    have r3 : F 28 i 3 = 1 := hr 3 (zr_28_3 i hi)
    have e : zcell cy (zad B) 28 i (F 28 i) = gcell cy (zad B) 28 i (F 28 i) := by
      show Sum.inr (5, [zv (F 28 i 0) (zad B 29 i), Value.int (F 28 i 1), zv (F 28 i 2) (zad B 30 i), zv (F 28 i 3) (zad B 31 i), Value.int (F 28 i 4), Value.int (F 28 i 5)]) = Sum.inr (5, [Value.ref (zad B 29 i), Value.int (F 28 i 1), Value.ref (zad B 30 i), Value.ref (zad B 31 i), Value.int (F 28 i 4), Value.int (F 28 i 5)])
      rw [zv1 r0, zv1 r2, zv1 r3]
    rw [← e]
    exact h
  by_cases e31 : f = 31
  · subst e31
    have hi : i < 5 := zi_31 i hm
    have h2 : H[zad B 31 i]? = some (vp_cell (cy 6) (8, .inr (.inr (.inr (.inr (fun j => if F 31 i j = 0 then none else some (zad B 32 (8 * i + j)))))))) := h
    show H[zad B 31 i]? = some (vp_cell (cy 6) (8, .inr (.inr (.inr (.inr (fun j => some (zad B 32 (8 * i + j))))))))
    rw [h2, vp_cell_q, vp_cell_q]
    refine congrArg some (arrV_ext (fun j hj => ?_))
    rw [if_neg (by rw [hr j (zr_31 i j hi hj)]; decide)]
  by_cases e40 : f = 40
  · subst e40
    have hi : i < 1 := zi_40 i hm
    have r1 : F 40 i 1 = 1 := hr 1 (zr_40_1 i hi)
    have r2 : F 40 i 2 = 1 := hr 2 (zr_40_2 i hi)
    have r3 : F 40 i 3 = 1 := hr 3 (zr_40_3 i hi)
    have r4 : F 40 i 4 = 1 := hr 4 (zr_40_4 i hi)
    have r5 : F 40 i 5 = 1 := hr 5 (zr_40_5 i hi)
    have r7 : F 40 i 7 = 1 := hr 7 (zr_40_7 i hi)
    have r8 : F 40 i 8 = 1 := hr 8 (zr_40_8 i hi)
    have r10 : F 40 i 10 = 1 := hr 10 (zr_40_10 i hi)
    have r11 : F 40 i 11 = 1 := hr 11 (zr_40_11 i hi)
    have r12 : F 40 i 12 = 1 := hr 12 (zr_40_12 i hi)
    have r18 : F 40 i 18 = 1 := hr 18 (zr_40_18 i hi)
    have r20 : F 40 i 20 = 1 := hr 20 (zr_40_20 i hi)
    have r21 : F 40 i 21 = 1 := hr 21 (zr_40_21 i hi)
    have r22 : F 40 i 22 = 1 := hr 22 (zr_40_22 i hi)
    have r23 : F 40 i 23 = 1 := hr 23 (zr_40_23 i hi)
    have r24 : F 40 i 24 = 1 := hr 24 (zr_40_24 i hi)
    have r25 : F 40 i 25 = 1 := hr 25 (zr_40_25 i hi)
    have r27 : F 40 i 27 = 1 := hr 27 (zr_40_27 i hi)
    have r28 : F 40 i 28 = 1 := hr 28 (zr_40_28 i hi)
    have r29 : F 40 i 29 = 1 := hr 29 (zr_40_29 i hi)
    have r30 : F 40 i 30 = 1 := hr 30 (zr_40_30 i hi)
    have r31 : F 40 i 31 = 1 := hr 31 (zr_40_31 i hi)
    have r32 : F 40 i 32 = 1 := hr 32 (zr_40_32 i hi)
    have r33 : F 40 i 33 = 1 := hr 33 (zr_40_33 i hi)
    have r34 : F 40 i 34 = 1 := hr 34 (zr_40_34 i hi)
    have r35 : F 40 i 35 = 1 := hr 35 (zr_40_35 i hi)
    have r36 : F 40 i 36 = 1 := hr 36 (zr_40_36 i hi)
    have r39 : F 40 i 39 = 1 := hr 39 (zr_40_39 i hi)
    have r40 : F 40 i 40 = 1 := hr 40 (zr_40_40 i hi)
    have r41 : F 40 i 41 = 1 := hr 41 (zr_40_41 i hi)
    have e : zcell cy (zad B) 40 i (F 40 i) = gcell cy (zad B) 40 i (F 40 i) := by
      show Sum.inr (15, [Value.int (F 40 i 0), zv (F 40 i 1) (zad B 41 0), zv (F 40 i 2) (zad B 42 0), zv (F 40 i 3) (zad B 43 0), zv (F 40 i 4) (zad B 44 0), zv (F 40 i 5) (zad B 45 0), Value.int (F 40 i 6), zv (F 40 i 7) (zad B 46 0), zv (F 40 i 8) (zad B 47 0), Value.int (F 40 i 9), zv (F 40 i 10) (zad B 48 0), zv (F 40 i 11) (zad B 49 0), zv (F 40 i 12) (zad B 50 0), Value.int (F 40 i 13), Value.int (F 40 i 14), Value.int (F 40 i 15), Value.int (F 40 i 16), Value.int (F 40 i 17), zv (F 40 i 18) (zad B 51 0), Value.int (F 40 i 19), zv (F 40 i 20) (zad B 52 0), zv (F 40 i 21) (zad B 53 0), zv (F 40 i 22) (zad B 54 0), zv (F 40 i 23) (zad B 55 0), zv (F 40 i 24) (zad B 56 0), zv (F 40 i 25) (zad B 57 0), Value.int (F 40 i 26), zv (F 40 i 27) (zad B 58 0), zv (F 40 i 28) (zad B 59 0), zv (F 40 i 29) (zad B 60 0), zv (F 40 i 30) (zad B 61 0), zv (F 40 i 31) (zad B 62 0), zv (F 40 i 32) (zad B 63 0), zv (F 40 i 33) (zad B 64 0), zv (F 40 i 34) (zad B 65 0), zv (F 40 i 35) (zad B 66 0), zv (F 40 i 36) (zad B 67 0), Value.int (F 40 i 37), Value.int (F 40 i 38), zv (F 40 i 39) (zad B 68 0), zv (F 40 i 40) (zad B 69 0), zv (F 40 i 41) (zad B 70 0), Value.int (F 40 i 42), Value.int (F 40 i 43)]) = Sum.inr (15, [Value.int (F 40 i 0), Value.ref (zad B 41 0), Value.ref (zad B 42 0), Value.ref (zad B 43 0), Value.ref (zad B 44 0), Value.ref (zad B 45 0), Value.int (F 40 i 6), Value.ref (zad B 46 0), Value.ref (zad B 47 0), Value.int (F 40 i 9), Value.ref (zad B 48 0), Value.ref (zad B 49 0), Value.ref (zad B 50 0), Value.int (F 40 i 13), Value.int (F 40 i 14), Value.int (F 40 i 15), Value.int (F 40 i 16), Value.int (F 40 i 17), Value.ref (zad B 51 0), Value.int (F 40 i 19), Value.ref (zad B 52 0), Value.ref (zad B 53 0), Value.ref (zad B 54 0), Value.ref (zad B 55 0), Value.ref (zad B 56 0), Value.ref (zad B 57 0), Value.int (F 40 i 26), Value.ref (zad B 58 0), Value.ref (zad B 59 0), Value.ref (zad B 60 0), Value.ref (zad B 61 0), Value.ref (zad B 62 0), Value.ref (zad B 63 0), Value.ref (zad B 64 0), Value.ref (zad B 65 0), Value.ref (zad B 66 0), Value.ref (zad B 67 0), Value.int (F 40 i 37), Value.int (F 40 i 38), Value.ref (zad B 68 0), Value.ref (zad B 69 0), Value.ref (zad B 70 0), Value.int (F 40 i 42), Value.int (F 40 i 43)])
      rw [zv1 r1, zv1 r2, zv1 r3, zv1 r4, zv1 r5, zv1 r7, zv1 r8, zv1 r10, zv1 r11, zv1 r12, zv1 r18, zv1 r20, zv1 r21, zv1 r22, zv1 r23, zv1 r24, zv1 r25, zv1 r27, zv1 r28, zv1 r29, zv1 r30, zv1 r31, zv1 r32, zv1 r33, zv1 r34, zv1 r35, zv1 r36, zv1 r39, zv1 r40, zv1 r41]
    rw [← e]
    exact h
  have hf : f ∈ [0, 1, 2, 3, 4, 5, 6, 7, 8, 9, 10, 11, 12, 13, 14, 15, 16, 17, 18, 19, 20, 21, 22, 23, 24, 25, 26, 27, 28, 29, 30, 31, 32, 33, 34, 35, 36, 37, 40, 41, 42, 43, 44, 45, 46, 47, 48, 49, 50, 51, 52, 53, 54, 55, 56, 57, 58, 59, 60, 61, 62, 63, 64, 65, 66, 67, 68, 69, 70, 79] := zo_fam (f, i) hm
  simp only [List.mem_cons, List.not_mem_nil, or_false] at hf
  rcases hf with rfl | rfl | rfl | rfl | rfl | rfl | rfl | rfl | rfl | rfl | rfl | rfl | rfl | rfl | rfl | rfl | rfl | rfl | rfl | rfl | rfl | rfl | rfl | rfl | rfl | rfl | rfl | rfl | rfl | rfl | rfl | rfl | rfl | rfl | rfl | rfl | rfl | rfl | rfl | rfl | rfl | rfl | rfl | rfl | rfl | rfl | rfl | rfl | rfl | rfl | rfl | rfl | rfl | rfl | rfl | rfl | rfl | rfl | rfl | rfl | rfl | rfl | rfl | rfl | rfl | rfl | rfl | rfl | rfl | rfl
  all_goals first | exact absurd rfl ‹_› | exact h
/-- the objects are made: the world of the methods -/
theorem z_done {G : GP} {F : GF} {H : Heap} (h : zH G 144 F H) (hz : zok F) (h0 : F 38 0 0 = 0) : gH G (zad G.2.2.2) F H := by
  have hn : gcn F = 0 := by
    unfold gcn
    rw [h0]
    rfl
  refine gW_mk (fun a ha => ?_) (fun a ha => ?_) (fun a ha b hb e => ?_)
  · rw [hn] at ha
    have hm := zo_keys a ha
    obtain ⟨j, hj⟩ := List.getElem?_of_mem hm
    have hl := (List.getElem?_eq_some_iff.mp hj).1
    rw [zo_len] at hl
    exact z_at hz a.1 a.2 hm (h.2 j a.1 a.2 hl hj)
  · show G.2.2.2 ≤ G.2.2.2 + zp a.1 a.2
    omega
  · rw [hn] at ha hb
    obtain ⟨j, hj⟩ := List.getElem?_of_mem (zo_keys a ha)
    obtain ⟨k, hk⟩ := List.getElem?_of_mem (zo_keys b hb)
    have e2 : G.2.2.2 + zp a.1 a.2 = G.2.2.2 + zp b.1 b.2 := e
    rw [zo_zp (show zo[j]? = some (a.1, a.2) from hj), zo_zp (show zo[k]? = some (b.1, b.2) from hk)] at e2
    obtain rfl : j = k := by omega
    exact Option.some.inj (hj.symm.trans hk)
