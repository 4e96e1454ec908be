theorem fit01 {z : Int} (h : 0 ≤ z ∧ z ≤ 1) : fits .boolean (.int (iI z)) = true := by
  rcases (show z = 0 ∨ z = 1 by omega) with rfl | rfl <;> decide
