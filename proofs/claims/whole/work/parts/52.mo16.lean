/-! plain results -/
theorem plain_eq (f x y : Int32) (h : f = 0 ∨ f = 1 ∨ f = 2 ∨ f = 3 ∨ f = 4 ∨ f = 5 ∨ f = 6 ∨ f = 7) : sp_Mo_plain f 0 x y = sp_Rv_plainResult f x y := by
  rcases h with rfl | rfl | rfl | rfl | rfl | rfl | rfl | rfl
  · rfl
  · rfl
  · rfl
  · show (if 0 ≤ (lg_cmp (sp_Rv_unsigned x) (sp_Rv_unsigned y)) then (0 : Int32) else 1) = (if (if 0 ≤ (lg_cmp (sp_Rv_unsigned x) (sp_Rv_unsigned y)) then (0 : Int32) else 1) = 0 then (0 : Int32) else 1)
    by_cases c : 0 ≤ (lg_cmp (sp_Rv_unsigned x) (sp_Rv_unsigned y))
    · rw [if_pos c]
      rfl
    · rw [if_neg c]
      rfl
  · rfl
  · rfl
  · rfl
  · rfl
