/-- the heap while an object is made: its free addresses are those from a base on -/
abbrev GPz : Type := (Nat → ClassId) × (Nat → Nat → Nat) × (Nat → ClassId) × Nat
abbrev zg (G : GPz) : GP := (G.1, G.2.1, G.2.2.1, fun q => G.2.2.2 ≤ q)
def zo : List (Nat × Nat) := [(0, 0), (1, 0), (2, 0), (3, 0), (4, 0), (5, 0), (6, 0), (7, 0), (8, 0), (9, 0), (10, 0), (11, 0), (12, 0), (13, 0), (14, 0), (15, 0), (16, 0), (17, 0), (18, 0), (19, 0), (20, 0), (21, 0), (22, 0), (23, 0), (24, 0), (25, 0), (26, 0), (28, 0), (29, 0), (30, 0), (31, 0), (32, 0), (32, 1), (32, 2), (32, 3), (32, 4), (32, 5), (32, 6), (32, 7), (28, 1), (29, 1), (30, 1), (31, 1), (32, 8), (32, 9), (32, 10), (32, 11), (32, 12), (32, 13), (32, 14), (32, 15), (28, 2), (29, 2), (30, 2), (31, 2), (32, 16), (32, 17), (32, 18), (32, 19), (32, 20), (32, 21), (32, 22), (32, 23), (28, 3), (29, 3), (30, 3), (31, 3), (32, 24), (32, 25), (32, 26), (32, 27), (32, 28), (32, 29), (32, 30), (32, 31), (28, 4), (29, 4), (30, 4), (31, 4), (32, 32), (32, 33), (32, 34), (32, 35), (32, 36), (32, 37), (32, 38), (32, 39), (27, 0), (34, 0), (35, 0), (36, 0), (37, 0), (33, 0), (33, 1), (33, 2), (33, 3), (33, 4), (33, 5), (33, 6), (33, 7), (33, 8), (33, 9), (33, 10), (33, 11), (33, 12), (33, 13), (33, 14), (33, 15), (33, 16), (33, 17), (33, 18), (33, 19)]
/-- the place of a cell in the order of making -/
def zp (f i : Nat) : Nat := match f with
  | 0 => 0
  | 1 => 1
  | 2 => 2
  | 3 => 3
  | 4 => 4
  | 5 => 5
  | 6 => 6
  | 7 => 7
  | 8 => 8
  | 9 => 9
  | 10 => 10
  | 11 => 11
  | 12 => 12
  | 13 => 13
  | 14 => 14
  | 15 => 15
  | 16 => 16
  | 17 => 17
  | 18 => 18
  | 19 => 19
  | 20 => 20
  | 21 => 21
  | 22 => 22
  | 23 => 23
  | 24 => 24
  | 25 => 25
  | 26 => 26
  | 27 => 87
  | 28 => 27 + 12 * i
  | 29 => 28 + 12 * i
  | 30 => 29 + 12 * i
  | 31 => 30 + 12 * i
  | 32 => 31 + 12 * (i / 8) + i % 8
  | 33 => 92 + 1 * i
  | 34 => 88
  | 35 => 89
  | 36 => 90
  | 37 => 91
  | _ => 1000
def zad (B : Nat) : Nat → Nat → Nat := fun f i => B + zp f i
def zv (x : Int32) (a : Nat) : Value := if x = 0 then .null else .ref a
def zcell (cy : Nat → ClassId) (ad : Nat → Nat → Nat) (f i : Nat) (x : Nat → Int32) : va_E := match f with
  | 0 => .inr (14, [zv (x 0) (ad 1 0), zv (x 1) (ad 5 0), .int (x 2), zv (x 3) (ad 6 0), zv (x 4) (ad 9 0), .int (x 5), zv (x 6) (ad 10 0), zv (x 7) (ad 27 0)])
  | 1 => .inr (13, [zv (x 0) (ad 2 0), zv (x 1) (ad 3 0), zv (x 2) (ad 4 0)])
  | 2 => .inl (cy 3, 72, .inl x)
  | 3 => .inl (cy 2, 36, .inl x)
  | 4 => .inl (cy 2, 36, .inl x)
  | 5 => .inl (cy 5, 20, .inr (.inr (.inr (.inr (fun j => if x j = 0 then none else some (ad 33 (j)))))))
  | 6 => .inr (11, [zv (x 0) (ad 7 0), zv (x 1) (ad 8 0), .int (x 2)])
  | 7 => .inl (cy 2, 5, .inl x)
  | 8 => .inl (cy 2, 5, .inl x)
  | 9 => .inl (cy 2, 4, .inl x)
  | 10 => .inr (6, [.int (x 0), .int (x 1), .int (x 2), .int (x 3), .int (x 4), zv (x 5) (ad 11 0), zv (x 6) (ad 12 0), zv (x 7) (ad 16 0), zv (x 8) (ad 20 0), zv (x 9) (ad 21 0)])
  | 11 => .inl (cy 2, 5, .inl x)
  | 12 => .inr (9, [zv (x 0) (ad 13 0), zv (x 1) (ad 14 0), zv (x 2) (ad 15 0)])
  | 13 => .inl (cy 2, 20, .inl x)
  | 14 => .inl (cy 2, 5, .inl x)
  | 15 => .inl (cy 3, 20, .inl x)
  | 16 => .inr (7, [zv (x 0) (ad 17 0), zv (x 1) (ad 18 0), zv (x 2) (ad 19 0), .int (x 3)])
  | 17 => .inl (cy 2, 60, .inl x)
  | 18 => .inl (cy 2, 60, .inl x)
  | 19 => .inl (cy 2, 60, .inl x)
  | 20 => .inl (cy 4, 5, .inr (.inr (.inr (.inr (fun j => if x j = 0 then none else some (ad 28 (j)))))))
  | 21 => .inr (4, [zv (x 0) (ad 22 0), zv (x 1) (ad 23 0), zv (x 2) (ad 24 0), zv (x 3) (ad 25 0), .int (x 4)])
  | 22 => .inl (cy 2, 572, .inl x)
  | 23 => .inl (cy 1, 572, .inl x)
  | 24 => .inl (cy 2, 572, .inl x)
  | 25 => .inr (1, [zv (x 0) (ad 26 0), .int (x 1), .int (x 2), .int (x 3)])
  | 26 => .inl (cy 0, 16, .inl x)
  | 27 => .inr (10, [zv (x 0) (ad 34 0), zv (x 1) (ad 35 0), zv (x 2) (ad 36 0), zv (x 3) (ad 37 0), .int (x 4), .int (x 5), .int (x 6)])
  | 28 => .inr (5, [zv (x 0) (ad 29 i), .int (x 1), zv (x 2) (ad 30 i), zv (x 3) (ad 31 i), .int (x 4), .int (x 5)])
  | 29 => .inl (cy 2, 20, .inl x)
  | 30 => .inl (cy 2, 8, .inl x)
  | 31 => .inl (cy 6, 8, .inr (.inr (.inr (.inr (fun j => if x j = 0 then none else some (ad 32 (8 * i + j)))))))
  | 32 => .inl (cy 2, 6, .inl x)
  | 33 => .inr (8, [.int (x 0), gst ad (x 1), .int (x 2)])
  | 34 => .inl (cy 2, 5, .inl x)
  | 35 => .inl (cy 2, 5, .inl x)
  | 36 => .inl (cy 2, 30, .inl x)
  | 37 => .inl (cy 2, 5, .inl x)
  | 39 => .inr (12, [.int (x 0), .int (x 1), gst ad (x 2)])
  | _ => .inr (0, [])
def zW (cy : Nat → ClassId) (B n : Nat) (F : GF) : va_W := (zo.take n).map (fun k => (zad B k.1 k.2, zcell cy (zad B) k.1 k.2 (F k.1 k.2)))
def zH (G : GPz) (n : Nat) (F : GF) (H : Heap) : Prop := n ≤ 112 ∧ ∀ j f i, j < n → zo[j]? = some (f, i) → va_at (gDD (zg G)) vwCl (zad G.2.2.2 f i, zcell G.2.2.1 (zad G.2.2.2) f i (F f i)) H
theorem zo_len : zo.length = 112 := by decide +kernel
theorem zo_pos : ∀ j, j < 112 → zp (zo.getD j (0, 0)).1 (zo.getD j (0, 0)).2 = j := by decide +kernel
theorem zo_zp {j f i : Nat} (h : zo[j]? = some (f, i)) : zp f i = j := by
  have hl := (List.getElem?_eq_some_iff.mp h).1
  have h2 := zo_pos j (by rw [← zo_len]; exact hl)
  rw [List.getD_eq_getElem?_getD, h] at h2
  exact h2
theorem zW_at {cy : Nat → ClassId} {B n k : Nat} {F : GF} {p : Nat × va_E} (h : (zW cy B n F)[k]? = some p) : ∃ f i, k < n ∧ zo[k]? = some (f, i) ∧ p = (zad B f i, zcell cy (zad B) f i (F f i)) := by
  unfold zW at h
  rw [List.getElem?_map] at h
  cases hk : (zo.take n)[k]? with
  | none => rw [hk] at h; cases h
  | some a =>
    rw [hk] at h
    rw [List.getElem?_take] at hk
    split at hk
    · rename_i hl
      exact ⟨a.1, a.2, hl, hk, (Option.some.inj h).symm⟩
    · cases hk
theorem zH_P {G : GPz} {n : Nat} {F : GF} {H : Heap} (h : zH G n F H) : va_P (gDD (zg G)) vwCl (zW G.2.2.1 G.2.2.2 n F) H := by
  intro k p hp
  obtain ⟨f, i, hk, hz, rfl⟩ := zW_at hp
  exact h.2 k f i hk hz
theorem zW_D {G : GPz} {n : Nat} {F : GF} : va_D (gA (zg G)) (zW G.2.2.1 G.2.2.2 n F) := by
  refine ⟨fun a b p q hp hq e => ?_, fun k p hp => ?_⟩
  · obtain ⟨f, i, -, hz, rfl⟩ := zW_at hp
    obtain ⟨f2, i2, -, hz2, rfl⟩ := zW_at hq
    have e2 : G.2.2.2 + zp f i = G.2.2.2 + zp f2 i2 := e
    rw [zo_zp hz, zo_zp hz2] at e2
    omega
  · obtain ⟨f, i, -, hz, rfl⟩ := zW_at hp
    show G.2.2.2 ≤ G.2.2.2 + zp f i
    omega
theorem zH_mk {G : GPz} {n : Nat} {F : GF} {H : Heap} (hn : n ≤ 112) (h : va_P (gDD (zg G)) vwCl (zW G.2.2.1 G.2.2.2 n F) H) : zH G n F H := by
  refine ⟨hn, fun j f i hj hz => h j _ ?_⟩
  unfold zW
  rw [List.getElem?_map, List.getElem?_take, if_pos hj, hz]
  rfl
theorem zlow {G : GPz} {n : Nat} {F : GF} {H : Heap} (h : zH G n F H) (hn : 0 < n) : G.2.2.2 + n ≤ H.size := by
  have hz : zo[n - 1]? = some (zo.getD (n - 1) (0, 0)) := by
    rw [List.getD_eq_getElem?_getD]
    have hl : n - 1 < zo.length := by rw [zo_len]; have := h.1; omega
    rw [List.getElem?_eq_getElem hl]
    rfl
  obtain ⟨a, b⟩ : ∃ z, z = zo.getD (n - 1) (0, 0) := ⟨_, rfl⟩
  rw [← b] at hz
  have h1 := (h.2 (n - 1) a.1 a.2 (by omega) hz).lt
  have h2 : G.2.2.2 + zp a.1 a.2 < H.size := h1
  rw [zo_zp hz] at h2
  omega
theorem W.sz {p : Program} {l : Launch} {e : Env} {R : Room} {s : State} {m : MethodId} {args : Array Value} {below : List Frame} {meth : Method} {c : Code} {H : Heap} {locs : List Loc} {cells slots : Nat} {Q : State → Prop} {g : JFrame} (k : H.size ≤ s.heap.size + cells → W p l e R s m args below meth c H locs cells slots Q g) : W p l e R s m args below meth c H locs cells slots Q g := fun T hT X => k (by rw [← hT]; exact X.heapSize) T hT X
def va_AOA (t : FieldType) (U : State) : Prop := (Cond.arrayOver (.array t)).before #[] U = true
theorem va_AOA.use {t : FieldType} {A : Array Value} {U : State} (h : va_AOA t U) : (Cond.arrayOver (.array t)).before A U = true := h
theorem va_AOA.moved {t : FieldType} {u U : State} (hvm : u.vm.Alike U.vm) (h : va_AOA t u) : va_AOA t U := over_moved (a := #[]) (a' := #[]) hvm h
def zS (U : State) : Prop := va_AO "BallotFoundry$Box" U ∧ va_AO "BallotFoundry$Person" U ∧ va_AOA .int U
theorem zS.moved {u U : State} (hvm : u.vm.Alike U.vm) (h : zS u) : zS U := ⟨va_AO.moved hvm h.1, va_AO.moved hvm h.2.1, va_AOA.moved hvm h.2.2⟩
def zD (G : GPz) (n : Nat) (F : GF) (U : State) : Prop := (gK (zg G) U ∧ gS (zg G) U ∧ zS U) ∧ zH G n F U.heap ∧ U.heap.size = G.2.2.2 + n
theorem gS.same {G : GP} {a : Array Value} {U : State} {g : JFrame} {mk : MethodId} (h : gS G U) : gS G (U.calling g mk a) := by
  obtain ⟨h1, h2, h3, hX, h4, h5, hJ⟩ := h
  refine ⟨fun q hq => va_Nw.same rfl (u := U) (U := U.calling g mk a) rfl (h1 q hq), fun q hq => va_Nw.same rfl (u := U) (U := U.calling g mk a) rfl (h2 q hq), fun q hq => ?_, fun q hq w hw => ?_, ?_, ?_, gJ.moved (u := U) (U := U.calling g mk a) (Vm.Alike.refl U.vm) (fun _ _ _ => rfl) hJ⟩
  · obtain ⟨a1, ha⟩ := h3 q hq
    exact ⟨a1, vk_R.same (u := U) (U := U.calling g mk a) rfl ha⟩
  · have h8 := gXs_cast q hq w hw
    have h9 := hX q hq w hw
    cases w <;> first | (exact va_Nw.same rfl (u := U) (U := U.calling g mk a) rfl h9) | (simp [gCast] at h8)
  · exact vx_Zq.moved (u := U) (U := U.calling g mk a) (Vm.Alike.refl U.vm) h4
  · exact vx_Zq.moved (u := U) (U := U.calling g mk a) (Vm.Alike.refl U.vm) h5
theorem zD_blind {G : GPz} {n : Nat} {F : GF} {a : Array Value} {U : State} {g : JFrame} {mk : MethodId} (h : zD G n F U) : zD G n F (U.calling g mk a) := by
  obtain ⟨⟨h0, h1, h7⟩, h6⟩ := h
  exact ⟨⟨va_K.moved (u := U) (U := U.calling g mk a) (Vm.Alike.refl U.vm) h0, h1.same, zS.moved (u := U) (U := U.calling g mk a) (Vm.Alike.refl U.vm) h7⟩, h6⟩
theorem zD_at {G : GPz} {n : Nat} {F : GF} {s U : State} {H : Heap} {locs : List Loc} (hK : gK (zg G) s) (hG : gS (zg G) s) (hZ : zS s) (hH : zH G n F H) (hz : H.size = G.2.2.2 + n) (hS : va_S (gA (zg G)) s.heap H locs) (hU : U.heap = H) (hW : s.WarmedH U.vm) : zD G n F U := ⟨⟨va_K.moved hW.alike hK, hG.warm hS hU hW, zS.moved hW.alike hZ⟩, by rw [hU]; exact hH, by rw [hU]; exact hz⟩
theorem zH_at {G : GPz} {n : Nat} {F : GF} {H : Heap} {t : State} (ht : t.heap = H) (h : zH G n F H) : zH G n F t.heap := by rw [ht]; exact h
theorem zH_to {G : GPz} {n : Nat} {F : GF} {H : Heap} {t : State} (ht : t.heap = H) (h : zH G n F t.heap) : zH G n F H := by rw [ht] at h; exact h
theorem zsize {G : GPz} {n n0 cells sz : Nat} {F : GF} {H : Heap} (h : zH G n F H) (hn : 0 < n) (hs : sz = G.2.2.2 + n0) (hc : n0 + cells = n) (hle : H.size ≤ sz + cells) : H.size = G.2.2.2 + n := by
  have := zlow h hn
  omega
theorem zW_get {cy : Nat → ClassId} {B n f i k : Nat} {F : GF} (hk : (zo.take n)[k]? = some (f, i)) : (zW cy B n F)[k]? = some (zad B f i, zcell cy (zad B) f i (F f i)) := by unfold zW; rw [List.getElem?_map, hk]; rfl
theorem zW_set {G : GPz} {n : Nat} {F F1 : GF} {f i k : Nat} {e : va_E} (hk : (zo.take n)[k]? = some (f, i)) (ho : ∀ f1 i1, ¬ (f1 = f ∧ i1 = i) → F1 f1 i1 = F f1 i1) (he : zcell G.2.2.1 (zad G.2.2.2) f i (F1 f i) = e) : (zW G.2.2.1 G.2.2.2 n F).set k (zad G.2.2.2 f i, e) = zW G.2.2.1 G.2.2.2 n F1 := by
  have hD : va_D (gA (zg G)) (zW G.2.2.1 G.2.2.2 n F) := zW_D
  unfold zW at hD ⊢
  exact gmap_set (g1 := fun k => (zad G.2.2.2 k.1 k.2, zcell G.2.2.1 (zad G.2.2.2) k.1 k.2 (F k.1 k.2))) hD hk (by show (zad G.2.2.2 f i, zcell G.2.2.1 (zad G.2.2.2) f i (F1 f i)) = _; rw [he]) (fun q hq => by show (zad G.2.2.2 q.1 q.2, zcell G.2.2.1 (zad G.2.2.2) q.1 q.2 (F1 q.1 q.2)) = (zad G.2.2.2 q.1 q.2, zcell G.2.2.1 (zad G.2.2.2) q.1 q.2 (F q.1 q.2)); rw [ho q.1 q.2 hq])
/-- a new cell at the end -/
theorem z_push {G : GPz} {n f i q : Nat} {F : GF} {H1 : Heap} {e : va_E} (hn : n < 112) (hk : zo[n]? = some (f, i)) (he : zcell G.2.2.1 (zad G.2.2.2) f i (F f i) = e) (hP : va_P (gDD (zg G)) vwCl (zW G.2.2.1 G.2.2.2 n F ++ [(q, e)]) H1) (hD : va_D (gA (zg G)) (zW G.2.2.1 G.2.2.2 n F ++ [(q, e)])) (hle : H1.size ≤ G.2.2.2 + n + 1) : q = zad G.2.2.2 f i ∧ zH G (n + 1) F H1 := by
  have hL : (zW G.2.2.1 G.2.2.2 n F).length = n := by
    unfold zW
    rw [List.length_map, List.length_take, zo_len]
    omega
  have hnew : (zW G.2.2.1 G.2.2.2 n F ++ [(q, e)])[n]? = some (q, e) := by
    rw [List.getElem?_append_right (by omega), hL, Nat.sub_self]
    rfl
  have hq1 : q < H1.size := (hP n _ hnew).lt
  have hq2 : G.2.2.2 ≤ q := hD.2 n _ hnew
  have hne : ∀ j, j < n → q ≠ G.2.2.2 + j := by
    intro j hj hqj
    obtain ⟨a, ha⟩ : ∃ a, zo[j]? = some a := ⟨_, List.getElem?_eq_getElem (by rw [zo_len]; omega)⟩
    have h1 : (zW G.2.2.1 G.2.2.2 n F ++ [(q, e)])[j]? = some (zad G.2.2.2 a.1 a.2, zcell G.2.2.1 (zad G.2.2.2) a.1 a.2 (F a.1 a.2)) := by
      rw [List.getElem?_append_left (by omega)]
      exact zW_get (by rw [List.getElem?_take, if_pos hj]; exact ha)
    have h2 := hD.1 j n _ _ h1 hnew (by
      show G.2.2.2 + zp a.1 a.2 = q
      rw [zo_zp (show zo[j]? = some (a.1, a.2) from ha)]
      exact hqj.symm)
    omega
  have hq : q = G.2.2.2 + n := by
    rcases Nat.lt_or_ge q (G.2.2.2 + n) with h | h
    · exact absurd (show q = G.2.2.2 + (q - G.2.2.2) by omega) (hne (q - G.2.2.2) (by omega))
    · omega
  have hq' : q = zad G.2.2.2 f i := by
    show q = G.2.2.2 + zp f i
    rw [zo_zp hk]
    exact hq
  refine ⟨hq', by omega, fun j f1 i1 hj hz => ?_⟩
  rcases Nat.lt_or_ge j n with h | h
  · refine hP j _ ?_
    rw [List.getElem?_append_left (by omega)]
    exact zW_get (by rw [List.getElem?_take, if_pos h]; exact hz)
  · obtain rfl : j = n := by omega
    rw [hk] at hz
    cases hz
    rw [he, ← hq']
    exact hP _ _ hnew
theorem zcA {G : GPz} {s : State} {ty : FieldType} {cA : ClassId} {t0 : Nat} (hK : gK (zg G) s) (hp : ∀ C, ty ≠ .object C) (ht : (gT G.2.2.1)[t0]? = some (G.2.2.1 t0, ty)) (h : va_RA s cA ty) : cA = G.2.2.1 t0 := by
  have h2 := (hK.2 t0 _ ht).2
  cases ty with
  | object C => exact absurd rfl (hp C)
  | _ => exact Option.some.inj (h.symm.trans h2)
theorem zcB {G : GPz} {s : State} {C : String} {cA : ClassId} {t0 : Nat} (hK : gK (zg G) s) (ht : (gT G.2.2.1)[t0]? = some (G.2.2.1 t0, .object C)) (h : va_RA s cA (.object C)) : cA = G.2.2.1 t0 := by
  obtain ⟨_, _, _, _, _, h2⟩ := (hK.2 t0 _ ht).2
  obtain ⟨_, _, _, _, _, h1⟩ := h
  exact Option.some.inj (h1.symm.trans h2)
section ZR
variable {p : Program} {l : Launch} {e : Env} {R : Room} {s : State} {m : MethodId} {args : Array Value} {below : List Frame} {meth : Method} {c : Code} {H : Heap} {locs : List Loc} {cells slots : Nat} {Q : State → Prop}
variable {cc : ByteArray} {pc : Nat} {ls : Array Slot} {rest : List Value} {G : GPz} {n : Nat} {F : GF} {H0 : Heap}
theorem z_get (hexec : p.tables.exec = Jvm.exec) (hb : c.code = cc) {own ref C : String} {T : u_T} {N ci index : Nat} {Ts : List Cond} (hts : ∀ w ∈ Ts, w.before args s = true) (hin : ∀ w ∈ u_ws C T N, w ∈ Ts) (hown : s.vm.findClass own = some m.cls) (hK : gK (zg G) s) (hH : zH G n F H) (f i q0 : Nat) (hq0 : (zo.take n)[q0]? = some (f, i)) {fs0 : List Value} (he : zcell G.2.2.1 (zad G.2.2.2) f i (F f i) = .inr (ci, fs0)) (hc : vwCl[ci]? = some (C, T, N)) (k : Nat) (hk : k < N) (hlink : (Cond.fieldLink own index ref (T k).2.1 (T k).2.2.1).before args s = true) (hsame : ∀ x, s.fieldFound? (T k).1 (T k).2.1 (T k).2.2.1 = some x → s.fieldFound? ref (T k).2.1 (T k).2.2.1 = some x) {v : Value} (hv : fs0[k]? = some v) (hdg : decode cc pc = .ok (.getfield index, 3))
    (kk : W p l e R s m args below meth c H locs cells slots Q (F0 m (pc + 3) ls (v :: rest))) : W p l e R s m args below meth c H locs cells slots Q (F0 m pc ls (.ref (zad G.2.2.2 f i) :: rest)) :=
  va_get hexec hb hts hin hown hK (zH_P hH) q0 ((zW_get hq0).trans (by rw [he])) hc k hk hlink hsame hv hdg kk
theorem z_put (hexec : p.tables.exec = Jvm.exec) (hb : c.code = cc) {own ref C : String} {T : u_T} {N ci index : Nat} {Ts : List Cond} (hts : ∀ w ∈ Ts, w.before args s = true) (hin : ∀ w ∈ u_ws C T N, w ∈ Ts) (ty0 : Nat → FieldType) (hty : ∀ k, k < N → parseFieldDescriptor (T k).2.2.1 = some (ty0 k)) (hnm : ∀ a, a < N → ∀ b, b < N → a ≠ b → (T a).2.1 ≠ (T b).2.1) (hown : s.vm.findClass own = some m.cls) (hK : gK (zg G) s) (hH : zH G n F H) (hS : va_S (gA (zg G)) s.heap H locs) (f i q0 : Nat) (hq0 : (zo.take n)[q0]? = some (f, i)) {fs0 : List Value} (he : zcell G.2.2.1 (zad G.2.2.2) f i (F f i) = .inr (ci, fs0)) (hc : vwCl[ci]? = some (C, T, N)) (k : Nat) (hk : k < N) (hlink : (Cond.fieldLink own index ref (T k).2.1 (T k).2.2.1).before args s = true) (hsame : ∀ x, s.fieldFound? (T k).1 (T k).2.1 (T k).2.2.1 = some x → s.fieldFound? ref (T k).2.1 (T k).2.2.1 = some x) (hfin : (T k).2.2.2 = false) {ty : FieldType} {v : Value} (hd : parseFieldDescriptor (T k).2.2.1 = some ty) (hn : narrow ty v = v) (hfit : fits ty v = true) (hl : k < fs0.length) (x : Int32) (he2 : zcell G.2.2.1 (zad G.2.2.2) f i (upd (F f i) k x) = .inr (ci, fs0.set k v)) (hdg : decode cc pc = .ok (.putfield index, 3))
    (kk : ∀ (H1 : Heap) (locs1 : List Loc), zH G n (fs F f i k x) H1 → va_S (gA (zg G)) s.heap H1 locs1 → W p l e R s m args below meth c H1 locs1 cells slots Q (F0 m (pc + 3) ls rest)) : W p l e R s m args below meth c H locs cells slots Q (F0 m pc ls (v :: .ref (zad G.2.2.2 f i) :: rest)) := by
  have hset := zW_set (G := G) (F1 := fs F f i k x) (e := .inr (ci, fs0.set k v)) hq0 (fun f1 i1 h => fs_row h) (by rw [fs_self]; exact he2)
  refine va_put hexec hb hts hin ty0 hty hnm hown hK (zH_P hH) zW_D hS q0 ((zW_get hq0).trans (by rw [he])) hc k hk hlink hsame hfin hd hn hfit hl hdg (fun H1 locs1 hP hD hS1 => ?_)
  rw [hset] at hP
  exact kk H1 locs1 (zH_mk hH.1 hP) hS1
theorem z_putF (hexec : p.tables.exec = Jvm.exec) (hb : c.code = cc) {own ref C : String} {T : u_T} {N ci index : Nat} {Ts : List Cond} (hts : ∀ w ∈ Ts, w.before args s = true) (hin : ∀ w ∈ u_ws C T N, w ∈ Ts) (ty0 : Nat → FieldType) (hty : ∀ k, k < N → parseFieldDescriptor (T k).2.2.1 = some (ty0 k)) (hnm : ∀ a, a < N → ∀ b, b < N → a ≠ b → (T a).2.1 ≠ (T b).2.1) (hown : s.vm.findClass own = some m.cls) (hK : gK (zg G) s) (hH : zH G n F H) (hS : va_S (gA (zg G)) s.heap H locs) (f i q0 : Nat) (hq0 : (zo.take n)[q0]? = some (f, i)) {fs0 : List Value} (he : zcell G.2.2.1 (zad G.2.2.2) f i (F f i) = .inr (ci, fs0)) (hc : vwCl[ci]? = some (C, T, N)) (k : Nat) (hk : k < N) (hlink : (Cond.fieldLink own index ref (T k).2.1 (T k).2.2.1).before args s = true) (hsame : ∀ x, s.fieldFound? (T k).1 (T k).2.1 (T k).2.2.1 = some x → s.fieldFound? ref (T k).2.1 (T k).2.2.1 = some x) (hfin : (T k).2.2.2 = true) (hname : meth.name = "<init>") (hown2 : (T k).1 = own) {ty : FieldType} {v : Value} (hd : parseFieldDescriptor (T k).2.2.1 = some ty) (hn : narrow ty v = v) (hfit : fits ty v = true) (hl : k < fs0.length) (x : Int32) (he2 : zcell G.2.2.1 (zad G.2.2.2) f i (upd (F f i) k x) = .inr (ci, fs0.set k v)) (hdg : decode cc pc = .ok (.putfield index, 3))
    (kk : ∀ (H1 : Heap) (locs1 : List Loc), zH G n (fs F f i k x) H1 → va_S (gA (zg G)) s.heap H1 locs1 → W p l e R s m args below meth c H1 locs1 cells slots Q (F0 m (pc + 3) ls rest)) : W p l e R s m args below meth c H locs cells slots Q (F0 m pc ls (v :: .ref (zad G.2.2.2 f i) :: rest)) := by
  have hset := zW_set (G := G) (F1 := fs F f i k x) (e := .inr (ci, fs0.set k v)) hq0 (fun f1 i1 h => fs_row h) (by rw [fs_self]; exact he2)
  refine va_putF hexec hb hts hin ty0 hty hnm hown hK (zH_P hH) zW_D hS q0 ((zW_get hq0).trans (by rw [he])) hc k hk hlink hsame hfin hname hown2 hd hn hfit hl hdg (fun H1 locs1 hP hD hS1 => ?_)
  rw [hset] at hP
  exact kk H1 locs1 (zH_mk hH.1 hP) hS1
theorem z_iast (hexec : p.tables.exec = Jvm.exec) (hb : c.code = cc) (hK : gK (zg G) s) (hH : zH G n F H) (hS : va_S (gA (zg G)) s.heap H locs) (f i q0 : Nat) (hq0 : (zo.take n)[q0]? = some (f, i)) (len : Nat) (he : ∀ z : Nat → Int32, zcell G.2.2.1 (zad G.2.2.2) f i z = .inl (G.2.2.1 2, len, .inl z)) {j x : Int32} (hin : vp_in j len) (hdg : decode cc pc = .ok (.iastore, 1))
    (kk : ∀ (H1 : Heap) (locs1 : List Loc), zH G n (fs F f i j.toNatClampNeg x) H1 → va_S (gA (zg G)) s.heap H1 locs1 → W p l e R s m args below meth c H1 locs1 cells slots Q (F0 m (pc + 1) ls rest)) : W p l e R s m args below meth c H locs cells slots Q (F0 m pc ls (.int x :: .int j :: .ref (zad G.2.2.2 f i) :: rest)) := by
  have hset := zW_set (G := G) (F1 := fs F f i j.toNatClampNeg x) (e := .inl (G.2.2.1 2, len, .inl (upd (F f i) j.toNatClampNeg x))) hq0 (fun f1 i1 h => fs_row h) (by rw [fs_self]; exact he _)
  refine va_iast hexec hb hK (zH_P hH) zW_D hS q0 2 ((zW_get hq0).trans (by rw [he])) rfl hin hdg (fun H1 locs1 hP hD hS1 => ?_)
  rw [hset] at hP
  exact kk H1 locs1 (zH_mk hH.1 hP) hS1
theorem z_zast (hexec : p.tables.exec = Jvm.exec) (hb : c.code = cc) (hK : gK (zg G) s) (hH : zH G n F H) (hS : va_S (gA (zg G)) s.heap H locs) (f i q0 : Nat) (hq0 : (zo.take n)[q0]? = some (f, i)) (len : Nat) (he : ∀ z : Nat → Int32, zcell G.2.2.1 (zad G.2.2.2) f i z = .inl (G.2.2.1 3, len, .inl z)) {j x : Int32} (hin : vp_in j len) (hdg : decode cc pc = .ok (.bastore, 1))
    (kk : ∀ (H1 : Heap) (locs1 : List Loc), zH G n (fs F f i j.toNatClampNeg (vp_nar .boolean x)) H1 → va_S (gA (zg G)) s.heap H1 locs1 → W p l e R s m args below meth c H1 locs1 cells slots Q (F0 m (pc + 1) ls rest)) : W p l e R s m args below meth c H locs cells slots Q (F0 m pc ls (.int x :: .int j :: .ref (zad G.2.2.2 f i) :: rest)) := by
  have hset := zW_set (G := G) (F1 := fs F f i j.toNatClampNeg (vp_nar .boolean x)) (e := .inl (G.2.2.1 3, len, .inl (upd (F f i) j.toNatClampNeg (vp_nar .boolean x)))) hq0 (fun f1 i1 h => fs_row h) (by rw [fs_self]; exact he _)
  refine va_zast hexec hb hK (zH_P hH) zW_D hS q0 3 ((zW_get hq0).trans (by rw [he])) rfl hin hdg (fun H1 locs1 hP hD hS1 => ?_)
  rw [hset] at hP
  exact kk H1 locs1 (zH_mk hH.1 hP) hS1
theorem z_alen (hexec : p.tables.exec = Jvm.exec) (hb : c.code = cc) (hK : gK (zg G) s) (hH : zH G n F H) (f i q0 : Nat) (hq0 : (zo.take n)[q0]? = some (f, i)) (t0 : Nat) {ty : FieldType} {len : Nat} {z : (Nat → Int32) ⊕ (Nat → Int64) ⊕ (Nat → UInt32) ⊕ (Nat → UInt64) ⊕ (Nat → Option Nat)} (he : zcell G.2.2.1 (zad G.2.2.2) f i (F f i) = .inl (G.2.2.1 t0, len, z)) (ht : (gT G.2.2.1)[t0]? = some (G.2.2.1 t0, ty)) {v : Int32} (hv : Int32.ofNat len = v) (hdg : decode cc pc = .ok (.arraylength, 1))
    (kk : W p l e R s m args below meth c H locs cells slots Q (F0 m (pc + 1) ls (.int v :: rest))) : W p l e R s m args below meth c H locs cells slots Q (F0 m pc ls (.ref (zad G.2.2.2 f i) :: rest)) :=
  va_alen hexec hb hK (zH_P hH) q0 t0 ((zW_get hq0).trans (by rw [he])) ht hv hdg kk
theorem z_aast (hexec : p.tables.exec = Jvm.exec) (hb : c.code = cc) (hK : gK (zg G) s) (hH : zH G n F H) (hS : va_S (gA (zg G)) s.heap H locs) (f i q0 : Nat) (hq0 : (zo.take n)[q0]? = some (f, i)) (t0 f2 i2 q2 len ci : Nat) (hq2 : (zo.take n)[q2]? = some (f2, i2)) {g : Nat → Option Nat} {r : vw_C} {vs : List Value} (he : zcell G.2.2.1 (zad G.2.2.2) f i (F f i) = .inl (G.2.2.1 t0, len, .inr (.inr (.inr (.inr g))))) (ht : (gT G.2.2.1)[t0]? = some (G.2.2.1 t0, .object r.1)) (he2 : zcell G.2.2.1 (zad G.2.2.2) f2 i2 (F f2 i2) = .inr (ci, vs)) (hc : vwCl[ci]? = some r) {j : Int32} (hin : vp_in j len) (he3 : zcell G.2.2.1 (zad G.2.2.2) f i (upd (F f i) j.toNatClampNeg 1) = .inl (G.2.2.1 t0, len, .inr (.inr (.inr (.inr (va_up g j.toNatClampNeg (some (zad G.2.2.2 f2 i2)))))))) (hdg : decode cc pc = .ok (.aastore, 1))
    (kk : ∀ (H1 : Heap) (locs1 : List Loc), zH G n (fs F f i j.toNatClampNeg 1) H1 → va_S (gA (zg G)) s.heap H1 locs1 → W p l e R s m args below meth c H1 locs1 cells slots Q (F0 m (pc + 1) ls rest)) : W p l e R s m args below meth c H locs cells slots Q (F0 m pc ls (.ref (zad G.2.2.2 f2 i2) :: .int j :: .ref (zad G.2.2.2 f i) :: rest)) := by
  have hset := zW_set (G := G) (F1 := fs F f i j.toNatClampNeg 1) (e := .inl (G.2.2.1 t0, len, .inr (.inr (.inr (.inr (va_up g j.toNatClampNeg (some (zad G.2.2.2 f2 i2)))))))) hq0 (fun f1 i1 h => fs_row h) (by rw [fs_self]; exact he3)
  refine va_astq hexec hb hK (zH_P hH) zW_D hS q0 t0 q2 ci ((zW_get hq0).trans (by rw [he])) ht ((zW_get hq2).trans (by rw [he2])) hc hin hdg (fun H1 locs1 hP hD hS1 => ?_)
  rw [hset] at hP
  exact kk H1 locs1 (zH_mk hH.1 hP) hS1
theorem z_new (hexec : p.tables.exec = Jvm.exec) (hb : c.code = cc) {own C : String} {T : u_T} {N ci index : Nat} {Ts : List Cond} (hts : ∀ w ∈ Ts, w.before args s = true) (hin : ∀ w ∈ u_ws C T N, w ∈ Ts) (ty0 : Nat → FieldType) (hty : ∀ k, k < N → parseFieldDescriptor (T k).2.2.1 = some (ty0 k)) (hown : s.vm.findClass own = some m.cls) (hcl : (Cond.classLink own index C).before args s = true) (hinst : (Cond.instantiable C N).before args s = true) (hini : (Cond.initialized C).before args s = true) (hK : gK (zg G) s) (hH : zH G n F H) (hS : va_S (gA (zg G)) s.heap H locs) {n0 : Nat} (hz : s.heap.size = G.2.2.2 + n0) (hn0 : n0 + cells = n) (hn : n < 112) (f i : Nat) (hk : zo[n]? = some (f, i)) {fs0 : List Value} (he : zcell G.2.2.1 (zad G.2.2.2) f i (F f i) = .inr (ci, fs0)) (hc : vwCl[ci]? = some (C, T, N)) (hfs : ∀ j, j < N → defaultValue (ty0 j) = vp_V fs0 j) (hcells : cells + 1 ≤ R.cells) (hslots : slots + N ≤ R.slots) (hdg : decode cc pc = .ok (.new index, 3))
    (kk : ∀ (H1 : Heap), zH G (n + 1) F H1 → va_S (gA (zg G)) s.heap H1 locs → W p l e R s m args below meth c H1 locs (cells + 1) (slots + N) Q (F0 m (pc + 3) ls (.ref (zad G.2.2.2 f i) :: rest))) : W p l e R s m args below meth c H locs cells slots Q (F0 m pc ls rest) := by
  refine va_new (ci := ci) (fs := fs0) hexec hb hts hin ty0 hty hown hcl hinst hini hK (zH_P hH) zW_D hS (fun q hq => by show G.2.2.2 ≤ q; omega) hc hfs hcells hslots hdg (fun q H1 hP hD hS1 => ?_)
  refine W.sz (fun hle => ?_)
  obtain ⟨rfl, h1⟩ := z_push hn hk he hP hD (by omega)
  exact kk H1 h1 hS1
theorem z_newa (hexec : p.tables.exec = Jvm.exec) (hb : c.code = cc) {atype : ArrayType} (harr : (Cond.arrayClass (newarray.typeOf atype)).before args s = true) {ty : FieldType} (hty : newarray.typeOf atype = ty) (hK : gK (zg G) s) (hH : zH G n F H) (hS : va_S (gA (zg G)) s.heap H locs) {n0 : Nat} (hz : s.heap.size = G.2.2.2 + n0) (hn0 : n0 + cells = n) (hn : n < 112) (f i t0 : Nat) (hk : zo[n]? = some (f, i)) {k : Int32} {N' : Nat} {a0 : vp_A} (he : zcell G.2.2.1 (zad G.2.2.2) f i (F f i) = .inl (G.2.2.1 t0, a0)) (ht : (gT G.2.2.1)[t0]? = some (G.2.2.1 t0, ty)) (hp : ∀ C, ty ≠ .object C) (ha : ∀ cA : ClassId, vp_cell cA a0 = arrV cA N' (fun _ => defaultValue ty)) (hnn : ¬ k < 0) (hN : k.toNatClampNeg = N') (hbytes : N' * componentBytes ty ≤ 536870912) (hcells : cells + 1 ≤ R.cells) (hslots : slots + N' ≤ R.slots) (hdg : decode cc pc = .ok (.newarray atype, 2))
    (kk : ∀ (H1 : Heap), zH G (n + 1) F H1 → va_S (gA (zg G)) s.heap H1 locs → W p l e R s m args below meth c H1 locs (cells + 1) (slots + N') Q (F0 m (pc + 2) ls (.ref (zad G.2.2.2 f i) :: rest))) : W p l e R s m args below meth c H locs cells slots Q (F0 m pc ls (.int k :: rest)) := by
  refine va_newa hexec hb harr hty hK (zH_P hH) zW_D hS (fun q hq => by show G.2.2.2 ≤ q; omega) ha hnn hN hbytes hcells hslots hdg (fun q cA H1 hK1 hP hD hS1 => ?_)
  refine W.sz (fun hle => ?_)
  have hcA : cA = G.2.2.1 t0 := zcA hK hp ht ((hK1.2 7 (cA, ty) rfl).2)
  subst hcA
  obtain ⟨rfl, h1⟩ := z_push hn hk he hP hD (by omega)
  exact kk H1 h1 hS1
theorem z_anew (hexec : p.tables.exec = Jvm.exec) (hb : c.code = cc) {own C : String} {index : Nat} (hown : s.vm.findClass own = some m.cls) (hclink : (Cond.classLink own index C).before args s = true) (hover : va_AO C s) (hK : gK (zg G) s) (hH : zH G n F H) (hS : va_S (gA (zg G)) s.heap H locs) {n0 : Nat} (hz : s.heap.size = G.2.2.2 + n0) (hn0 : n0 + cells = n) (hn : n < 112) (f i t0 : Nat) (hk : zo[n]? = some (f, i)) {k : Int32} {N' : Nat} (he : zcell G.2.2.1 (zad G.2.2.2) f i (F f i) = .inl (G.2.2.1 t0, N', .inr (.inr (.inr (.inr (fun _ => none)))))) (ht : (gT G.2.2.1)[t0]? = some (G.2.2.1 t0, .object C)) (hnn : ¬ k < 0) (hN : k.toNatClampNeg = N') (hbytes : N' * 4 ≤ 536870912) (hcells : cells + 1 ≤ R.cells) (hslots : slots + N' ≤ R.slots) (hdg : decode cc pc = .ok (.anewarray index, 3))
    (kk : ∀ (H1 : Heap), zH G (n + 1) F H1 → va_S (gA (zg G)) s.heap H1 locs → W p l e R s m args below meth c H1 locs (cells + 1) (slots + N') Q (F0 m (pc + 3) ls (.ref (zad G.2.2.2 f i) :: rest))) : W p l e R s m args below meth c H locs cells slots Q (F0 m pc ls (.int k :: rest)) := by
  refine va_newq hexec hb hown hclink hover hK (zH_P hH) zW_D hS (fun q hq => by show G.2.2.2 ≤ q; omega) hnn hN hbytes hcells hslots hdg (fun q cA H1 hK1 hP hD hS1 => ?_)
  refine W.sz (fun hle => ?_)
  have hcA : cA = G.2.2.1 t0 := zcB hK ht ((hK1.2 7 (cA, .object C) rfl).2)
  subst hcA
  obtain ⟨rfl, h1⟩ := z_push hn hk he hP hD (by omega)
  exact kk H1 h1 hS1
theorem z_recv {C : String} {T : u_T} {N ci : Nat} (hK : gK (zg G) s) (hH : zH G n F H) (f i q0 : Nat) (hq0 : (zo.take n)[q0]? = some (f, i)) {fs0 : List Value} (he : zcell G.2.2.1 (zad G.2.2.2) f i (F f i) = .inr (ci, fs0)) (hc : vwCl[ci]? = some (C, T, N)) : ∃ cell : Cell, H[zad G.2.2.2 f i]? = some cell ∧ cell.vm.isStatics = false ∧ s.vm.findClass C = some cell.cls :=
  va_recv hK (zH_P hH) (q0 := q0) hc ((zW_get hq0).trans (by rw [he]))
end ZR
abbrev zQv (G : GPz) (n : Nat) (K : GF → Prop) := va_Qv (S := GF) (fun u => K u) (fun u t => zH G n u t.heap) (gA (zg G))
