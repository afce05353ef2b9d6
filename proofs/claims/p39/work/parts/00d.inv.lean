/-! what holds between calls: class and reference side by side -/
def t_now (F : GF) : Prop := F 40 0 0 = F 0 0 5
def t_bar (F : GF) : Prop := ∀ q, q < 36 → F 41 0 q = F 2 0 (2 * q) ∧ F 41 0 (36 + q) = F 2 0 (2 * q + 1)
def t_st (F : GF) : Prop := F 40 0 6 = F 6 0 2 ∧ ∀ s, s < 5 → F 44 0 s = F 7 0 s ∧ F 45 0 s = F 8 0 s
def t_slip (F : GF) : Prop := ∀ c, c < 4 → F 64 0 c = F 9 0 c
def t_pe (F : GF) : Prop := F 40 0 9 = F 0 0 2 ∧ ∀ p, p < 20 → F 46 0 p = F 33 p 0 ∧ F 47 0 p = F 33 p 2
def t_el (F : GF) : Prop := F 40 0 14 = F 10 0 0 ∧ F 40 0 15 = F 10 0 1 ∧ F 40 0 16 = F 10 0 2 ∧ F 40 0 17 = F 10 0 3 ∧ F 40 0 19 = F 10 0 4
def t_seed (F : GF) : Prop := ∀ p, p < 5 → F 51 0 p = F 11 0 p
def t_roll (F : GF) : Prop := (∀ p, p < 20 → F 52 0 p = F 13 0 p ∧ F 54 0 p = F 15 0 p) ∧ ∀ s, s < 5 → F 53 0 s = F 14 0 s
def t_env (F : GF) : Prop := F 40 0 26 = F 16 0 3 ∧ ∀ e, e < 60 → F 55 0 e = F 17 0 e ∧ F 56 0 e = F 18 0 e ∧ F 57 0 e = F 19 0 e
def t_box (F : GF) : Prop := ∀ s, s < 5 → F 59 0 s = F 28 s 1 ∧ F 62 0 s = F 28 s 4 ∧ (∀ j, j < 20 → F 58 0 (20 * s + j) = F 29 s j) ∧ ∀ c, c < 8 → F 61 0 (8 * s + c) = F 30 s c
def t_num (F : GF) : Prop := ∀ r, r < 40 → ∀ k, k < 6 → F 60 0 (6 * r + k) = F 32 r k
def t_book (F : GF) : Prop := F 40 0 42 = F 21 0 4 ∧ ∀ j, j < 572 → F 68 0 j = F 22 0 j ∧ F 69 0 j = F 23 0 j ∧ F 70 0 j = F 24 0 j
def Tw (F : GF) : Prop := t_now F ∧ t_bar F ∧ t_st F ∧ t_slip F ∧ t_pe F ∧ t_el F ∧ t_seed F ∧ t_roll F ∧ t_env F ∧ t_box F ∧ t_num F ∧ t_book F
def b_bar (F : GF) : Prop := ∀ j, j < 72 → F 2 0 j = 0 ∨ F 2 0 j = 1
def b_st (F : GF) : Prop := ∃ m, m ≤ 5 ∧ F 6 0 2 = nI m ∧ ∀ s, s < m → ∃ c, c < 36 ∧ F 7 0 s = nI c
def b_pe (F : GF) : Prop := ∃ n, n ≤ 20 ∧ F 0 0 2 = nI n
/-- the day, and the election's stage and day -/
def b_el (F : GF) : Prop := ∃ t g d s e, t ≤ 2100 ∧ F 0 0 5 = nI t ∧ g ≤ 5 ∧ F 10 0 0 = nI g ∧ d ≤ 2000 ∧ F 10 0 1 = nI d ∧ s ≤ 30 ∧ F 10 0 2 = nI s ∧ e ≤ 5 ∧ F 10 0 4 = nI e ∧ (∃ m, e ≤ m ∧ m ≤ 5 ∧ F 6 0 2 = nI m) ∧ (g = 1 → t + 7 ≤ d) ∧ (g = 2 → t < d) ∧ (g = 3 → t = d)
def b_env (F : GF) : Prop := (∃ n, n ≤ 60 ∧ F 16 0 3 = nI n) ∧ ∀ e, e < 60 → (∃ p, p < 20 ∧ F 17 0 e = nI p) ∧ ∃ b, b ≤ 5 ∧ F 18 0 e = nI b
/-- an envelope that is there and sealed -/
def sealed (F : GF) (e : Nat) : Prop := nI e < F 16 0 3 ∧ F 19 0 e = 0
def b_seal (F : GF) : Prop := ∀ e, e < 60 → sealed F e → (∃ s, s < 5 ∧ F 13 0 (F 17 0 e).toNatClampNeg = nI s) ∧ F 15 0 (F 17 0 e).toNatClampNeg = 0 ∧ ∀ e', e' < 60 → sealed F e' → F 17 0 e' = F 17 0 e → e' = e
def b_roll (F : GF) : Prop := ∀ p, p < 20 → F 13 0 p = -1 ∨ ∃ s, s < 5 ∧ F 13 0 p = nI s
/-- how many of the first n have voted -/
def voters (F : GF) : Nat → Nat
  | 0 => 0
  | n + 1 => voters F n + if F 15 0 n = 0 then 0 else 1
def b_box (F : GF) : Prop := ∀ s, s < 5 → (∃ c, c ≤ 8 ∧ F 28 s 4 = nI c) ∧ ((F 28 s 5 = -1 ∧ F 63 0 s = -1) ∨ ∃ w, w < 8 ∧ F 28 s 5 = nI w ∧ F 63 0 s = nI (8 * s + w)) ∧ ∀ j, j < 20 → ∃ b, b ≤ 5 ∧ F 29 s j = nI b
def b_vot (F : GF) : Prop := ∀ s, s < 5 → ∃ n, n ≤ voters F 20 ∧ F 28 s 1 = nI n
def b_num (F : GF) : Prop := ∀ r, r < 40 → ∀ k, k < 6 → ∃ v, v ≤ 20 ∧ F 32 r k = nI v
def b_done (F : GF) : Prop := F 10 0 0 = 5 → ∀ s, s < 5 → nI s < F 10 0 4 → ¬ F 28 s 5 = -1
def b_book (F : GF) : Prop := ∀ j, j < 572 → (∃ v, v ≤ 2100 ∧ F 22 0 j = nI v) ∧ (∃ c, c < 128 ∧ F 23 0 j = nI c) ∧ ∃ p, p < 20 ∧ F 24 0 j = nI p
def b_seed (F : GF) : Prop := ∀ p, p < 5 → ∃ v, v ≤ 9999 ∧ F 11 0 p = nI v
def b_sb (F : GF) : Prop := F 25 0 1 = 0 ∧ ∃ n, n ≤ 16 ∧ F 25 0 3 = nI n
/-- none has voted ahead of the day -/
def b_unv (F : GF) : Prop := F 10 0 0 = 1 ∨ F 10 0 0 = 2 → ∀ p, p < 20 → F 15 0 p = 0
def Bd (F : GF) : Prop := b_bar F ∧ b_st F ∧ b_pe F ∧ b_el F ∧ b_env F ∧ b_seal F ∧ b_roll F ∧ b_box F ∧ b_vot F ∧ b_num F ∧ b_done F ∧ b_book F ∧ b_seed F ∧ b_sb F ∧ b_unv F
/-- how many of the first n envelopes are sealed -/
def seals (F : GF) : Nat → Nat
  | 0 => 0
  | n + 1 => seals F n + if F 19 0 n = 0 then 1 else 0
/-- the book has room -/
def c_book (k : Nat) (F : GF) : Prop := ∃ n e, F 21 0 4 = nI n ∧ F 16 0 3 = nI e ∧ e ≤ 60 ∧ n + seals F e ≤ k + e
/-- the latest of the first n moves that is x's -/
def lastB (w : Nat → Int32) (x : Int32) : Nat → Int32
  | 0 => -1
  | n + 1 => if w n = x then nI n else lastB w x n
/-- moves and stays; none is behind day t -/
def c_log (k t : Nat) (F : GF) : Prop := ∃ n, n ≤ k ∧ F 38 0 0 = nI n ∧ F 40 0 13 = nI n ∧ (∀ j, j < n → (∃ p, p < 20 ∧ F 48 0 j = nI p ∧ nI p < F 0 0 2) ∧ (∃ c, c < 36 ∧ F 50 0 j = nI c ∧ F 39 j 1 = nI c) ∧ (∃ d, d ≤ t ∧ F 49 0 j = nI d ∧ F 39 j 0 = nI d) ∧ F 39 j 2 = lastB (F 48 0) (F 48 0 j) j) ∧ (∀ p, p < 20 → F 33 p 1 = lastB (F 48 0) (nI p) n) ∧ ∀ p, p < 20 → nI p < F 0 0 2 → ∃ j, j < n ∧ F 48 0 j = nI p
def Lg (k : Nat) (F : GF) : Prop := ∀ t, F 0 0 5 = nI t → t ≤ 2100 → c_log k t F
def Inv (k : Nat) (F : GF) : Prop := Tw F ∧ Bd F ∧ c_book k F ∧ Lg k F
theorem c_book_mono {k : Nat} {F : GF} (h : c_book k F) : c_book (k + 1) F := by
  obtain ⟨n, e, h1, h2, h3, h4⟩ := h
  exact ⟨n, e, h1, h2, h3, by omega⟩
theorem c_log_mono {k t : Nat} {F : GF} (h : c_log k t F) : c_log (k + 1) t F := by
  obtain ⟨n, h1, h2⟩ := h
  exact ⟨n, by omega, h2⟩
theorem Lg_mono {k : Nat} {F : GF} (h : Lg k F) : Lg (k + 1) F := fun t h1 h2 => c_log_mono (h t h1 h2)
theorem Inv.mono {k : Nat} {F : GF} (h : Inv k F) : Inv (k + 1) F := ⟨h.1, h.2.1, c_book_mono h.2.2.1, Lg_mono h.2.2.2⟩
/-- families that only a call's own run uses -/
def trF (f : Nat) : Bool := f == 3 || f == 4 || f == 25 || f == 26 || f == 27 || f == 34 || f == 35 || f == 36 || f == 37 || f == 40 || f == 42 || f == 43 || f == 65 || f == 66 || f == 67 || f == 79
def Sm (F F1 : GF) : Prop := (∀ f, trF f = false → F1 f = F f) ∧ (∀ j, j ≠ 37 → j ≠ 38 → j ≠ 43 → F1 40 0 j = F 40 0 j) ∧ (b_sb F → b_sb F1)
theorem Sm.refl (F : GF) : Sm F F := ⟨fun _ _ => rfl, fun _ _ _ _ => rfl, fun h => h⟩
theorem Sm.trans {F F1 F2 : GF} (h : Sm F F1) (h2 : Sm F1 F2) : Sm F F2 := ⟨fun f hf => (h2.1 f hf).trans (h.1 f hf), fun j a b c => (h2.2.1 j a b c).trans (h.2.1 j a b c), fun q => h2.2.2 (h.2.2 q)⟩
theorem Sm.fsT {F F1 : GF} (h : Sm F F1) (f i k : Nat) (v : Int32) (hf : trF f = true) (h25 : f ≠ 25) (h40 : f ≠ 40) : Sm F (fs F1 f i k v) := by
  refine ⟨fun f2 hf2 => ?_, fun j a b c => ?_, fun q => ?_⟩
  · rw [fs_fam (fun e => by rw [e, hf] at hf2; cases hf2)]
    exact h.1 f2 hf2
  · rw [fs_ne (Or.inl (fun e => h40 e.symm))]
    exact h.2.1 j a b c
  · obtain ⟨q1, n, q2, q3⟩ := h.2.2 q
    exact ⟨by rw [fs_ne (Or.inl (fun e => h25 e.symm))]; exact q1, n, q2, by rw [fs_ne (Or.inl (fun e => h25 e.symm))]; exact q3⟩
theorem Sm.fs40 {F F1 : GF} (h : Sm F F1) (k : Nat) (v : Int32) (hk : k = 37 ∨ k = 38 ∨ k = 43) : Sm F (fs F1 40 0 k v) := by
  refine ⟨fun f2 hf2 => ?_, fun j a b c => ?_, fun q => ?_⟩
  · rw [fs_fam (fun e => by rw [e] at hf2; cases hf2)]
    exact h.1 f2 hf2
  · rw [fs_ne (Or.inr (Or.inr (fun e => by omega)))]
    exact h.2.1 j a b c
  · obtain ⟨q1, n, q2, q3⟩ := h.2.2 q
    exact ⟨by rw [fs_ne (Or.inl (by decide))]; exact q1, n, q2, by rw [fs_ne (Or.inl (by decide))]; exact q3⟩
theorem voters_eq {F F1 : GF} (h : F1 15 = F 15) : ∀ n, voters F1 n = voters F n := by
  intro n
  induction n with
  | zero => rfl
  | succ n ih => unfold voters; rw [ih, h]
theorem seals_eq {F F1 : GF} (h : F1 19 = F 19) : ∀ n, seals F1 n = seals F n := by
  intro n
  induction n with
  | zero => rfl
  | succ n ih => unfold seals; rw [ih, h]
theorem Tw.sm {F F1 : GF} (h : Sm F F1) (q : Tw F) : Tw F1 := by
  obtain ⟨q0, q1, q2, q3, q4, q5, q6, q7, q8, q9, q10, q11⟩ := q
  have e : ∀ f, trF f = false → F1 f = F f := h.1
  have m : ∀ j, j ≠ 37 → j ≠ 38 → j ≠ 43 → F1 40 0 j = F 40 0 j := h.2.1
  unfold Tw t_now t_bar t_st t_slip t_pe t_el t_seed t_roll t_env t_box t_num t_book
  rw [m 0 (by decide) (by decide) (by decide), m 6 (by decide) (by decide) (by decide), m 9 (by decide) (by decide) (by decide), m 14 (by decide) (by decide) (by decide), m 15 (by decide) (by decide) (by decide), m 16 (by decide) (by decide) (by decide), m 17 (by decide) (by decide) (by decide), m 19 (by decide) (by decide) (by decide), m 26 (by decide) (by decide) (by decide), m 42 (by decide) (by decide) (by decide)]
  rw [e 0 rfl, e 2 rfl, e 6 rfl, e 7 rfl, e 8 rfl, e 9 rfl, e 10 rfl, e 11 rfl, e 13 rfl, e 14 rfl, e 15 rfl, e 16 rfl, e 17 rfl, e 18 rfl, e 19 rfl, e 21 rfl, e 22 rfl, e 23 rfl, e 24 rfl, e 28 rfl, e 29 rfl, e 30 rfl, e 32 rfl, e 33 rfl, e 41 rfl, e 44 rfl, e 45 rfl, e 46 rfl, e 47 rfl, e 51 rfl, e 52 rfl, e 53 rfl, e 54 rfl, e 55 rfl, e 56 rfl, e 57 rfl, e 58 rfl, e 59 rfl, e 60 rfl, e 61 rfl, e 62 rfl, e 64 rfl, e 68 rfl, e 69 rfl, e 70 rfl]
  exact ⟨q0, q1, q2, q3, q4, q5, q6, q7, q8, q9, q10, q11⟩
theorem Bd.sm {F F1 : GF} (h : Sm F F1) (q : Bd F) : Bd F1 := by
  obtain ⟨q0, q1, q2, q3, q4, q5, q6, q7, q8, q9, q10, q11, q12, q13, q14⟩ := q
  have e : ∀ f, trF f = false → F1 f = F f := h.1
  have q13 := h.2.2 q13
  unfold Bd b_bar b_st b_pe b_el b_env b_seal sealed b_roll b_box b_vot b_num b_done b_book b_seed b_unv
  rw [voters_eq (e 15 rfl)]
  rw [e 0 rfl, e 2 rfl, e 6 rfl, e 7 rfl, e 10 rfl, e 11 rfl, e 13 rfl, e 15 rfl, e 16 rfl, e 17 rfl, e 18 rfl, e 19 rfl, e 22 rfl, e 23 rfl, e 24 rfl, e 28 rfl, e 29 rfl, e 32 rfl, e 63 rfl]
  exact ⟨q0, q1, q2, q3, q4, q5, q6, q7, q8, q9, q10, q11, q12, q13, q14⟩
theorem c_book.sm {k : Nat} {F F1 : GF} (h : Sm F F1) (q : c_book k F) : c_book k F1 := by
  have e : ∀ f, trF f = false → F1 f = F f := h.1
  obtain ⟨n, c, h1, h2, h3, h4⟩ := q
  exact ⟨n, c, by rw [e 21 rfl]; exact h1, by rw [e 16 rfl]; exact h2, h3, by rw [seals_eq (e 19 rfl)]; exact h4⟩
theorem c_log.sm {k t : Nat} {F F1 : GF} (h : Sm F F1) (q : c_log k t F) : c_log k t F1 := by
  have e : ∀ f, trF f = false → F1 f = F f := h.1
  unfold c_log
  rw [h.2.1 13 (by decide) (by decide) (by decide), e 38 rfl, e 39 rfl, e 48 rfl, e 49 rfl, e 50 rfl, e 33 rfl, e 0 rfl]
  exact q
theorem Inv.sm {k : Nat} {F F1 : GF} (h : Sm F F1) (q : Inv k F) : Inv k F1 := ⟨q.1.sm h, q.2.1.sm h, q.2.2.1.sm h, fun t h1 h2 => (q.2.2.2 t (by rw [← h.1 0 rfl]; exact h1) h2).sm h⟩
theorem Inv.end {k : Nat} {F F1 : GF} (q : Inv k F) (h : Sm F F1) : Inv (k + 1) F1 := (q.sm h).mono
theorem b_vot.fam {F F1 : GF} (h15 : F1 15 = F 15) (h28 : F1 28 = F 28) (h : b_vot F) : b_vot F1 := by
  intro s hs
  rw [voters_eq h15, h28]
  exact h s hs
theorem c_book.fam {k : Nat} {F F1 : GF} (h16 : F1 16 = F 16) (h19 : F1 19 = F 19) (h21 : F1 21 = F 21) (h : c_book k F) : c_book k F1 := by
  obtain ⟨n, c, h1, h2, h3, h4⟩ := h
  exact ⟨n, c, by rw [h21]; exact h1, by rw [h16]; exact h2, h3, by rw [seals_eq h19]; exact h4⟩
