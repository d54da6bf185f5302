theorem hB_at {f : XL → Int → Int} {b : Int} {n : Nat} {t r : Int} {j : Nat} (hj : j < 64) : hB f b n t (64 * r + j) ↔ bitJ (hl f b n t r) j := by
  unfold hB
  rw [show (64 * r + (j : Int)) / 64 = r by omega, show (64 * r + (j : Int)) % 64 = j by omega]
