theorem sB_clr (se : Int → Int64) {x y : Int} (x0 : 0 ≤ x) (x1 : x < 384) (y0 : 0 ≤ y) (y1 : y < 384) : sB (xUpd se (x / 64) (se (x / 64) &&& (jShl 1 (x % 64) ^^^ (-1)))) y ↔ sB se y ∧ y ≠ x := by
  unfold sB xUpd
  obtain ⟨a, ha⟩ := Int.eq_ofNat_of_zero_le (show 0 ≤ y % 64 by omega)
  obtain ⟨b, hb⟩ := Int.eq_ofNat_of_zero_le (show 0 ≤ x % 64 by omega)
  by_cases e : y / 64 = x / 64
  · rw [if_pos e, ha, hb, bitJ_and _ _ _ (by omega), bitJ_not _ _ (by omega), bitJ_one _ _ (by omega) (by omega), e]
    constructor
    · rintro ⟨h1, h2⟩; exact ⟨h1, by omega⟩
    · rintro ⟨h1, h2⟩; exact ⟨h1, by omega⟩
  · rw [if_neg e]
    exact ⟨fun h => ⟨h, fun z => e (by rw [z])⟩, fun h => h.1⟩
/-- whether a fact is told, one telling more -/
theorem told_step (f : XL → Int → Int) (b t : Int) (n : Nat) {x : Int} (x0 : 0 ≤ x) (x1 : x < 384) (h0 : 0 ≤ f (13, b, n) 2) (h1 : f (13, b, n) 2 < 384) : sB (toldN f b t (n + 1)) x ↔ if f (13, b, n) 0 = 0 ∧ f (13, b, n) 6 = 0 ∧ f (13, b, n) 3 ≤ t ∧ t ≤ f (13, b, n) 4 ∧ f (13, b, n) 2 = x then f (13, b, n) 1 ≠ 0 else sB (toldN f b t n) x := by
  simp only [toldN]
  by_cases hc : f (13, b, n) 0 = 0 ∧ f (13, b, n) 6 = 0 ∧ f (13, b, n) 3 ≤ t ∧ t ≤ f (13, b, n) 4
  · rw [if_pos hc]
    by_cases hs : f (13, b, n) 1 = 0
    · rw [if_pos hs, sB_clr _ h0 h1 x0 x1]
      by_cases e : f (13, b, n) 2 = x
      · rw [if_pos ⟨hc.1, hc.2.1, hc.2.2.1, hc.2.2.2, e⟩]
        exact ⟨fun z => absurd e.symm z.2, fun z => absurd hs z⟩
      · rw [if_neg (fun z => e z.2.2.2.2)]
        exact ⟨fun z => z.1, fun z => ⟨z, fun y => e y.symm⟩⟩
    · rw [if_neg hs, sB_upd _ h0 h1 x0 x1]
      by_cases e : f (13, b, n) 2 = x
      · rw [if_pos ⟨hc.1, hc.2.1, hc.2.2.1, hc.2.2.2, e⟩]
        exact ⟨fun _ => hs, fun _ => Or.inr e.symm⟩
      · rw [if_neg (fun z => e z.2.2.2.2)]
        exact ⟨fun z => z.elim id (fun y => absurd y.symm e), Or.inl⟩
  · rw [if_neg hc, if_neg (fun z => hc ⟨z.1, z.2.1, z.2.2.1, z.2.2.2.1⟩)]
