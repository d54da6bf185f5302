theorem wG_3 (g : Int → Int) (x y z : Int) : wG (xUpd (xUpd (xUpd g 0 x) 1 y) 2 z) = 64 * x + 8 * y + z := rfl
theorem hfact_g (C : XS) {g : Int → Int} {r v u : Int} (hg : ∀ k, 0 ≤ g k ∧ g k ≤ 7) (hv : C.1 (37, r, 0) 2 = 3 * (2 - v) ∧ 0 ≤ v ∧ v ≤ 2) (hu : C.1 (37, r, 0) 3 = 3 * (2 - u) ∧ 0 ≤ u ∧ u ≤ 2) : 64 * C.1 (37, r, 0) 0 + 8 * g v + g u = hfact C.1 r (wG g) := by
  unfold hfact
  rw [pair_g C.1 hg hv hu]
  omega
