/-! whole numbers and ints: what a comparison, a sum, an index comes to -/
theorem nI_lt_iff {a b : Nat} (ha : a < 2147483648) (hb : b < 2147483648) : nI a < nI b ↔ a < b := by
  rw [Int32.lt_iff_toInt_lt, nI_toInt (by omega), nI_toInt (by omega)]
  omega
theorem nI_le_iff {a b : Nat} (ha : a < 2147483648) (hb : b < 2147483648) : nI a ≤ nI b ↔ a ≤ b := by
  rw [Int32.le_iff_toInt_le, nI_toInt (by omega), nI_toInt (by omega)]
  omega
theorem nI_eq_iff {a b : Nat} (ha : a < 2147483648) (hb : b < 2147483648) : nI a = nI b ↔ a = b := by
  rw [← Int32.toInt_inj, nI_toInt (by omega), nI_toInt (by omega)]
  omega
theorem nI_lt_t {a b : Nat} (h : a < b) (hb : b < 2147483648) : (nI a < nI b) = True := eq_true ((nI_lt_iff (by omega) hb).mpr h)
theorem nI_lt_f {a b : Nat} (h : b ≤ a) (ha : a < 2147483648) : (nI a < nI b) = False := eq_false (fun q => by have := (nI_lt_iff ha (by omega)).mp q; omega)
theorem nI_le_t {a b : Nat} (h : a ≤ b) (hb : b < 2147483648) : (nI a ≤ nI b) = True := eq_true ((nI_le_iff (by omega) hb).mpr h)
theorem nI_le_f {a b : Nat} (h : b < a) (ha : a < 2147483648) : (nI a ≤ nI b) = False := eq_false (fun q => by have := (nI_le_iff ha (by omega)).mp q; omega)
theorem nI_eq_t {a b : Nat} (h : a = b) : (nI a = nI b) = True := by
  subst h
  exact eq_true rfl
theorem nI_eq_f {a b : Nat} (h : a ≠ b) (ha : a < 2147483648) (hb : b < 2147483648) : (nI a = nI b) = False := eq_false (fun q => h ((nI_eq_iff ha hb).mp q))
theorem nI_toInt' {a : Nat} (ha : a < 2147483648) : (nI a).toInt = (a : Int) := nI_toInt (by omega)
theorem neg1_toInt : (-1 : Int32).toInt = -1 := by decide
theorem nI_eq_neg {a : Nat} (ha : a < 2147483648) : (nI a = -1) = False := eq_false (fun q => by
  have h := congrArg Int32.toInt q
  rw [nI_toInt' ha, neg1_toInt] at h
  omega)
theorem neg_eq_nI {a : Nat} (ha : a < 2147483648) : (-1 = nI a) = False := eq_false (fun q => by
  have h := congrArg Int32.toInt q
  rw [nI_toInt' ha, neg1_toInt] at h
  omega)
theorem neg_eq_neg : ((-1 : Int32) = -1) = True := eq_true rfl
theorem neg_lt {a : Nat} (ha : a < 2147483648) : ((-1 : Int32) < nI a) = True := eq_true (by
  rw [Int32.lt_iff_toInt_lt, nI_toInt' ha, neg1_toInt]
  omega)
theorem neg_le {a : Nat} (ha : a < 2147483648) : ((-1 : Int32) ≤ nI a) = True := eq_true (by
  rw [Int32.le_iff_toInt_le, nI_toInt' ha, neg1_toInt]
  omega)
theorem nI_lt_neg {a : Nat} (ha : a < 2147483648) : (nI a < (-1 : Int32)) = False := eq_false (fun q => by
  rw [Int32.lt_iff_toInt_lt, nI_toInt' ha, neg1_toInt] at q
  omega)
theorem nI_le_neg {a : Nat} (ha : a < 2147483648) : (nI a ≤ (-1 : Int32)) = False := eq_false (fun q => by
  rw [Int32.le_iff_toInt_le, nI_toInt' ha, neg1_toInt] at q
  omega)
theorem nI_clamp' {a : Nat} (ha : a < 2147483648) : (nI a).toNatClampNeg = a := nI_clamp (by omega)
theorem nI_mul (a b : Nat) : nI a * nI b = nI (a * b) := (Int32.ofNat_mul a b).symm
theorem nI_sub {a b : Nat} (h : b ≤ a) : nI a - nI b = nI (a - b) := by
  have h2 : nI (a - b) + nI b = nI a := by rw [nI_add, Nat.sub_add_cancel h]
  rw [← h2]
  exact Int32.add_sub_cancel _ _
theorem nI_div {a b : Nat} (ha : a < 2147483648) (hb : b < 2147483648) : nI a / nI b = nI (a / b) := by
  apply Int32.toInt_inj.mp
  have h3 : a / b ≤ a := Nat.div_le_self a b
  rw [Int32.toInt_div, nI_toInt' ha, nI_toInt' hb, nI_toInt' (by omega)]
  rw [← Int.ofNat_tdiv]
  generalize a / b = q at h3 ⊢
  exact Int.bmod_eq_of_le (by omega) (by omega)
theorem nI_mod {a b : Nat} (ha : a < 2147483648) (hb : b < 2147483648) : nI a - nI a / nI b * nI b = nI (a % b) := by
  have h3 : a / b * b ≤ a := Nat.div_mul_le_self a b
  rw [nI_div ha hb, nI_mul, nI_sub h3]
  congr 1
  have := Nat.div_add_mod a b
  rw [Nat.mul_comm] at this
  omega
theorem li0 : (0 : Int32) = nI 0 := rfl
theorem li1 : (1 : Int32) = nI 1 := rfl
theorem li2 : (2 : Int32) = nI 2 := rfl
theorem li3 : (3 : Int32) = nI 3 := rfl
theorem li4 : (4 : Int32) = nI 4 := rfl
theorem li5 : (5 : Int32) = nI 5 := rfl
theorem li6 : (6 : Int32) = nI 6 := rfl
theorem li7 : (7 : Int32) = nI 7 := rfl
theorem li8 : (8 : Int32) = nI 8 := rfl
theorem li10 : (10 : Int32) = nI 10 := rfl
theorem li20 : (20 : Int32) = nI 20 := rfl
theorem li30 : (30 : Int32) = nI 30 := rfl
theorem li35 : (35 : Int32) = nI 35 := rfl
theorem li36 : (36 : Int32) = nI 36 := rfl
theorem li48 : (48 : Int32) = nI 48 := rfl
theorem li60 : (60 : Int32) = nI 60 := rfl
theorem li72 : (72 : Int32) = nI 72 := rfl
theorem li100 : (100 : Int32) = nI 100 := rfl
theorem li572 : (572 : Int32) = nI 572 := rfl
theorem li2000 : (2000 : Int32) = nI 2000 := rfl
theorem li2100 : (2100 : Int32) = nI 2100 := rfl
theorem li9999 : (9999 : Int32) = nI 9999 := rfl
theorem vp_t {i n : Nat} (h : i < n) (hn : n < 2147483648) : vp_in (nI i) n = True := eq_true (nI_in h (by omega))
/-- an int below 0, or a whole number -/
theorem int_cases (x : Int32) : x < 0 ∨ ∃ n : Nat, n < 2147483648 ∧ x = nI n := by
  by_cases h : x < 0
  · exact Or.inl h
  · right
    have h0 : (0 : Int32).toInt = 0 := by decide
    have h1 : 0 ≤ x.toInt := by
      rw [Int32.lt_iff_toInt_lt, h0] at h
      omega
    have h2 := Int32.toInt_lt x
    refine ⟨x.toInt.toNat, by omega, ?_⟩
    apply Int32.toInt_inj.mp
    rw [nI_toInt' (by omega)]
    omega
theorem lt0_t {x : Int32} (h : x < 0) : (x < nI 0) = True := eq_true h
theorem lt0_le {x : Int32} (h : x < 0) {a : Nat} (ha : a < 2147483648) : (nI a ≤ x) = False := eq_false (fun q => by
  rw [Int32.le_iff_toInt_le, nI_toInt' ha] at q
  rw [Int32.lt_iff_toInt_lt] at h
  have h0 : (0 : Int32).toInt = 0 := by decide
  omega)
theorem lt0_lt {x : Int32} (h : x < 0) {a : Nat} (ha : a < 2147483648) : (x < nI a) = True := eq_true (by
  rw [Int32.lt_iff_toInt_lt, nI_toInt' ha]
  rw [Int32.lt_iff_toInt_lt] at h
  have h0 : (0 : Int32).toInt = 0 := by decide
  omega)
theorem lt0_eq {x : Int32} (h : x < 0) {a : Nat} (ha : a < 2147483648) : (x = nI a) = False := eq_false (fun q => by
  subst q
  exact nI_pos (n := a) (by omega) h)
theorem fs_app (F : GF) (f i k : Nat) (v : Int32) (f1 i1 k1 : Nat) : fs F f i k v f1 i1 k1 = if f1 = f ∧ i1 = i ∧ k1 = k then v else F f1 i1 k1 := rfl
theorem fs_ne {F : GF} {f i k f1 i1 k1 : Nat} {v : Int32} (h : f1 ≠ f ∨ i1 ≠ i ∨ k1 ≠ k) : fs F f i k v f1 i1 k1 = F f1 i1 k1 := by
  rw [fs_app, if_neg]
  rintro ⟨rfl, rfl, rfl⟩
  rcases h with h | h | h <;> exact h rfl
theorem fs_eq (F : GF) (f i k : Nat) (v : Int32) : fs F f i k v f i k = v := by
  rw [fs_app, if_pos ⟨rfl, rfl, rfl⟩]
theorem fs_fam {F : GF} {f i k f1 : Nat} {v : Int32} (h : f1 ≠ f) : fs F f i k v f1 = F f1 := by
  funext i1 k1
  exact fs_ne (Or.inl h)
theorem ffill_app (F : GF) (f i n : Nat) (v : Int32) (f1 i1 k1 : Nat) : ffill F f i n v f1 i1 k1 = if f1 = f ∧ i1 = i ∧ k1 < n then v else F f1 i1 k1 := rfl
theorem ffill_fam {F : GF} {f i n f1 : Nat} {v : Int32} (h : f1 ≠ f) : ffill F f i n v f1 = F f1 := by
  funext i1 k1
  rw [ffill_app, if_neg (fun q => h q.1)]
theorem nar99 : vp_nar .char 99 = 99 := by decide +kernel
theorem nar101 : vp_nar .char 101 = 101 := by decide +kernel
theorem nar111 : vp_nar .char 111 = 111 := by decide +kernel
theorem nar115 : vp_nar .char 115 = 115 := by decide +kernel
theorem nar118 : vp_nar .char 118 = 118 := by decide +kernel
theorem nar120 : vp_nar .char 120 = 120 := by decide +kernel
theorem nI_eq_neg2 {a : Nat} (ha : a < 2147483648) : (nI a = -nI 1) = False := nI_eq_neg ha
theorem neg_eq_nI2 {a : Nat} (ha : a < 2147483648) : (-nI 1 = nI a) = False := neg_eq_nI ha
theorem neg_lt2 {a : Nat} (ha : a < 2147483648) : (-nI 1 < nI a) = True := neg_lt ha
theorem neg_le2 {a : Nat} (ha : a < 2147483648) : (-nI 1 ≤ nI a) = True := neg_le ha
theorem nI_lt_neg2 {a : Nat} (ha : a < 2147483648) : (nI a < -nI 1) = False := nI_lt_neg ha
theorem nI_le_neg2 {a : Nat} (ha : a < 2147483648) : (nI a ≤ -nI 1) = False := nI_le_neg ha
theorem pred_t {n p : Nat} (h : n ≤ p) (hp : p < 2147483648) : (nI n - nI 1 < nI p) = True := by
  by_cases h0 : n = 0
  · subst h0
    have e : nI 0 - nI 1 = -1 := by decide
    rw [e]
    exact neg_lt hp
  · rw [nI_sub (by omega)]
    exact nI_lt_t (by omega) hp
theorem pred_f {n p : Nat} (h : p < n) (hp : n < 2147483648) : (nI n - nI 1 < nI p) = False := by
  rw [nI_sub (by omega)]
  exact nI_lt_f (by omega) (by omega)
theorem fs_eq' {F : GF} {f i k f1 i1 k1 : Nat} {v : Int32} (h1 : f1 = f) (h2 : i1 = i) (h3 : k1 = k) : fs F f i k v f1 i1 k1 = v := by
  subst h1 h2 h3
  exact fs_eq _ _ _ _ _
theorem st12 : ("java/lang/IndexOutOfBoundsException" = "java/lang/IllegalArgumentException") = False := eq_false (by decide)
theorem st13 : ("java/lang/IndexOutOfBoundsException" = "java/lang/IllegalStateException") = False := eq_false (by decide)
theorem st21 : ("java/lang/IllegalArgumentException" = "java/lang/IndexOutOfBoundsException") = False := eq_false (by decide)
theorem st23 : ("java/lang/IllegalArgumentException" = "java/lang/IllegalStateException") = False := eq_false (by decide)
theorem st31 : ("java/lang/IllegalStateException" = "java/lang/IndexOutOfBoundsException") = False := eq_false (by decide)
theorem st32 : ("java/lang/IllegalStateException" = "java/lang/IllegalArgumentException") = False := eq_false (by decide)
theorem nI_le_refl (a : Nat) : (nI a ≤ nI a) = True := eq_true (Int32.le_refl _)
