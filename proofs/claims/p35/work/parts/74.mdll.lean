/-- things and a scratch row alone are changed -/
def EP (g : Int) (S T : XS) : Prop := (∀ l : XL, l ≠ (74, 0, 0) → l ≠ (82, g, 0) → T.1 l = S.1 l) ∧ T.2 = S.2
theorem EP.rf (g : Int) (S : XS) : EP g S S := ⟨fun _ _ _ => rfl, rfl⟩
