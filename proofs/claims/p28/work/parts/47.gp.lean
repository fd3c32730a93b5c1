section GP
/-! what the class answers of a court as it is made -/
theorem g_un {α : Type} {f : Nat → α} {k j : Nat} {v : α} (h : j ≠ k) : va_up f k v j = f j := if_neg h
theorem g_isF : fX2_isFormula xFp0 = some 0 := by rw [fX2_isFormula_e, if_pos (by decide), if_neg (by decide)]
theorem g_principle : fX5_principle xFp0 xF0 xG0 xF0 xG0 = some (1, 0, xFp0, xF0, xF0, xG0) := by rw [fX5_principle_e, x_b1I g_isF, if_pos rfl, fX5_principle_j33_e]
theorem g_sigma : fX5_sigma xFp0 xG0 = some (-1) := by rw [fX5_sigma_e, x_b1I g_isF, if_pos rfl]
theorem g_free : fX5_free xFp0 xG0 = some (-1) := by rw [fX5_free_e, x_b1I g_isF, if_pos rfl]
theorem g_fault : fX5_fault xFp0 = some 0 := by rw [fX5_fault_e, x_b1I (a0 := 0) (by rw [fX2_faultPlace_e, if_pos (by decide)]; rfl)]
theorem g_open : fX5_open xF0 xG0 = some 0 := by rw [fX5_open_e, x_b1I (a0 := 0) (by rw [fX4_openPairs_e, fX4_openPairs_l4_e xF0 xG0 4095 0 0, if_pos (by decide)])]
theorem g_below (x : Int32) : fX5_isBelow x 0 = some 0 := by
  rw [fX5_isBelow_e]
  by_cases h : x < 0
  · rw [if_pos h]
  · rw [if_neg h, if_pos (by rcases Int32.lt_or_le x 0 with g | g; exact absurd g h; exact g)]
theorem g_znz : x_zn 0 = 0 := by decide
theorem g_hasP (x : Int32) : fX4_hasPrinciple xF0 x = some 0 := by rw [fX4_hasPrinciple_e, x_b1I (g_below x), g_znz]
theorem g_hasN (x : Int32) : fX3_hasNumber xF0 x = some 0 := by rw [fX3_hasNumber_e, x_b1I (g_below x), g_znz]
theorem g_ofPrinciple (x w : Int32) : fX5_ofPrinciple xF0 xG0 x w = some (1, 0) := by rw [fX5_ofPrinciple_e, x_b1I (g_hasP x), if_pos rfl]
theorem g_ofProblem (x w : Int32) : fX5_ofProblem xF0 xG0 x w = some (1, 0) := by rw [fX5_ofProblem_e, x_b1I (g_hasN x), if_pos rfl]
theorem g_reduces (x w : Int32) : fX5_reduces xF0 xG0 x w = some (1, 0, xG0) := by rw [fX5_reduces_e, x_b1I (a0 := 0) (by rw [fX3_hasBoth_e, x_b1I (g_hasN x), if_pos rfl]), if_pos rfl]
theorem g_proves (x : Int32) (hx : ¬ x_ush x 0 = 0) : fX5_proves xF0 xG0 x = some (1, 0) := by rw [fX5_proves_e, x_b1I (a0 := 0) (by rw [fX4_isSet_e]; exact if_neg hx), if_pos rfl]
theorem g_wiped : va_up (va_up (va_up (va_up xFp0 2 0) 3 (-1)) 4 0) 5 (-1) = xFp0 := by
  funext j
  by_cases h5 : j = 5
  · subst h5; rfl
  rw [g_un h5]
  by_cases h4 : j = 4
  · subst h4; rfl
  rw [g_un h4]
  by_cases h3 : j = 3
  · subst h3; rfl
  rw [g_un h3]
  by_cases h2 : j = 2
  · subst h2; rfl
  rw [g_un h2]
theorem g_cleared : va_up (va_up xF0 9 0) 10 0 = xF0 := by
  funext j
  by_cases h5 : j = 10
  · subst h5; rfl
  rw [g_un h5]
  by_cases h4 : j = 9
  · subst h4; rfl
  rw [g_un h4]
theorem g_blank : fX5_blank xFp0 xF0 = some (0, xFp0, xF0) := by
  have h : fX2_wipe xFp0 xF0 = some (0, xFp0, xF0) := by
    rw [fX2_wipe_e, fX0_clear_e]
    show some (xFp0 2, va_up (va_up (va_up (va_up xFp0 2 0) 3 (-1)) 4 0) 5 (-1), va_up (va_up xF0 9 0) 10 0) = _
    rw [g_wiped, g_cleared]
    rfl
  rw [fX5_blank_e, h]
  rfl
end GP
