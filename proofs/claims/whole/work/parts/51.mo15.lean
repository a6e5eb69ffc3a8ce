/-! results -/
theorem more_lo (f x y : Int32) (h : f = 0 ∨ f = 1 ∨ f = 2 ∨ f = 3) : sp_Mo_more f x y = sp_Rv_product f x y := by
  rcases h with rfl | rfl | rfl | rfl
  · show (x.toInt64 * y.toInt64).toInt32 = x * y
    rw [Int64.toInt32_mul, Int32.toInt32_toInt64, Int32.toInt32_toInt64]
  · rfl
  · rfl
  · rfl
theorem more_hi (f x y : Int32) (h : f = 4 ∨ f = 5 ∨ f = 6 ∨ f = 7) : sp_Mo_more f x y = sp_Rv_quotient f x y := by
  by_cases c : y = 0
  · rcases h with rfl | rfl | rfl | rfl
    · exact (if_pos c).trans (if_pos c).symm
    · exact (if_pos c).trans (if_pos c).symm
    · exact (if_pos c).trans (if_pos c).symm
    · exact (if_pos c).trans (if_pos c).symm
  · rcases h with rfl | rfl | rfl | rfl
    · exact (if_neg c).trans (if_neg c).symm
    · exact (if_neg c).trans (if_neg c).symm
    · exact (if_neg c).trans (if_neg c).symm
    · exact (if_neg c).trans (if_neg c).symm
