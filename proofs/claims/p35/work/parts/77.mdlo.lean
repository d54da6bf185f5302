theorem zAnd_b1 (P : Prop) : zAnd (bI P) 1 = bI P := by
  by_cases p : P
  · rw [bI_t p]; decide
  · rw [bI_f p]; decide
theorem zAnd_b0 (P : Prop) : zAnd (bI P) 0 = 0 := by
  by_cases p : P
  · rw [bI_t p]; decide
  · rw [bI_f p]; decide
