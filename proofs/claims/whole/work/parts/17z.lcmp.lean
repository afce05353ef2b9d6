theorem lcmp_eq {x y : Int32} : lg_cmp x.toInt64 y.toInt64 = 0 ↔ x = y := by
  constructor
  · intro h
    by_cases e : x.toInt64 = y.toInt64
    · have h2 := congrArg Int64.toInt e
      rw [Int32.toInt_toInt64, Int32.toInt_toInt64] at h2
      exact Int32.toInt_inj.mp h2
    · exfalso
      unfold lg_cmp at h
      split at h
      · revert h
        decide
      · first
          | exact absurd h (by decide)
          | (rw [if_neg e] at h; exact absurd h (by decide))
  · rintro rfl
    unfold lg_cmp
    simp
