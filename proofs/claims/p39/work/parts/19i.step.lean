set_option maxHeartbeats 1000000 in
theorem pure_step {k : Nat} {F : GF} (hk : k < 512) (h : Inv k F) (op a1 a2 a3 : Int32) : PLs op a1 a2 a3 (Inv (k + 1)) F := by
  unfold PLs
  by_cases c : (op &&& 63).toInt < 0 ∨ 35 < (op &&& 63).toInt
  · rw [if_pos c]
    exact h.mono
  · rw [if_neg c]
    generalize (op &&& 63).toNatClampNeg = n
    match n with
    | 0 => exact m0 h a1 a2 a3
    | 1 => exact m1 h a1 a2 a3
    | 2 => exact m2 h a1 a2 a3
    | 3 => exact m3 h a1 a2 a3
    | 4 => exact m4 hk h a1 a2 a3
    | 5 => exact m5 hk h a1 a2 a3
    | 6 => exact m6 hk h a1 a2 a3
    | 7 => exact m7 hk h a1 a2 a3
    | 8 => exact m8 hk h a1 a2 a3
    | 9 => exact m9 h a1 a2 a3
    | 10 => exact m10 hk h a1 a2 a3
    | 11 => exact m11 h a1 a2 a3
    | 12 => exact m12 h a1 a2 a3
    | 13 => exact m13 h a1 a2 a3
    | 14 => exact m14 h a1 a2 a3
    | 15 => exact m15 h a1 a2 a3
    | 16 => exact m16 hk h a1 a2 a3
    | 17 => exact m17 hk h a1 a2 a3
    | 18 => exact m18 hk h a1 a2 a3
    | 19 => exact m19 h a1 a2 a3
    | 20 => exact m20 h a1 a2 a3
    | 21 => exact m21 h a1 a2 a3
    | 22 => exact m22 h a1 a2 a3
    | 23 => exact m23 h a1 a2 a3
    | 24 => exact m24 hk h a1 a2 a3
    | 25 => exact m25 h a1 a2 a3
    | 26 => exact m26 h a1 a2 a3
    | 27 => exact m27 h a1 a2 a3
    | 28 => exact m28 h a1 a2 a3
    | 29 => exact m29 h a1 a2 a3
    | 30 => exact m30 h a1 a2 a3
    | 31 => exact m31 h a1 a2 a3
    | 32 => exact m32 h a1 a2 a3
    | 33 => exact m33 h a1 a2 a3
    | 34 => exact m34 h a1 a2 a3
    | 35 => exact m35 hk h a1 a2 a3
    | n + 36 => exact h.mono
