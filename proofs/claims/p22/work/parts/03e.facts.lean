/-! ===== fields of a new object; truth values ===== -/
theorem narrow_bool {z : Int} (h : z = 0 ∨ z = 1) : narrow .boolean (.int (iI z)) = .int (iI z) := by
  rcases h with rfl | rfl <;> rfl
theorem iI0v : Value.int 0 = Value.int (iI 0) := congrArg Value.int iI_0
theorem dflt0 : ∀ j, j < 3 → defaultValue (tyX0 j) = vp_V [.null, .null, .null] j := by
  intro j hj; rcases (show j = 0 ∨ j = 1 ∨ j = 2 by omega) with rfl | rfl | rfl <;> rfl
theorem dflt1 : ∀ j, j < 3 → defaultValue (tyX1 j) = vp_V [.null, .null, .null] j := by
  intro j hj; rcases (show j = 0 ∨ j = 1 ∨ j = 2 by omega) with rfl | rfl | rfl <;> rfl
theorem dflt2 : ∀ j, j < 2 → defaultValue (tyX2 j) = vp_V [.null, .int (iI 0)] j := by
  intro j hj; rcases (show j = 0 ∨ j = 1 by omega) with rfl | rfl <;> first | rfl | exact iI0v
theorem dflt3 : ∀ j, j < 6 → defaultValue (tyX3 j) = vp_V [.null, .null, .null, .int (iI 0), .int (iI 0), .int (iI 0)] j := by
  intro j hj; rcases (show j = 0 ∨ j = 1 ∨ j = 2 ∨ j = 3 ∨ j = 4 ∨ j = 5 by omega) with rfl | rfl | rfl | rfl | rfl | rfl <;> first | rfl | exact iI0v
theorem dflt4 : ∀ j, j < 5 → defaultValue (tyX4 j) = vp_V [.int (iI 0), .int (iI 0), .int (iI 0), .int (iI 0), .int (iI 0)] j := by
  intro j hj; rcases (show j = 0 ∨ j = 1 ∨ j = 2 ∨ j = 3 ∨ j = 4 by omega) with rfl | rfl | rfl | rfl | rfl <;> first | rfl | exact iI0v
theorem dflt5 : ∀ j, j < 4 → defaultValue (tyX5 j) = vp_V [.null, .null, .null, .null] j := by
  intro j hj; rcases (show j = 0 ∨ j = 1 ∨ j = 2 ∨ j = 3 by omega) with rfl | rfl | rfl | rfl <;> rfl
theorem dflt6 : ∀ j, j < 6 → defaultValue (tyX6 j) = vp_V [.null, .null, .null, .int (iI 0), .int (iI 0), .int (iI 0)] j := by
  intro j hj; rcases (show j = 0 ∨ j = 1 ∨ j = 2 ∨ j = 3 ∨ j = 4 ∨ j = 5 by omega) with rfl | rfl | rfl | rfl | rfl | rfl <;> first | rfl | exact iI0v
theorem dflt7 : ∀ j, j < 10 → defaultValue (tyX7 j) = vp_V [.int (iI 0), .int (iI 0), .null, .null, .null, .null, .null, .null, .null, .null] j := by
  intro j hj; rcases (show j = 0 ∨ j = 1 ∨ j = 2 ∨ j = 3 ∨ j = 4 ∨ j = 5 ∨ j = 6 ∨ j = 7 ∨ j = 8 ∨ j = 9 by omega) with rfl | rfl | rfl | rfl | rfl | rfl | rfl | rfl | rfl | rfl <;> first | rfl | exact iI0v
