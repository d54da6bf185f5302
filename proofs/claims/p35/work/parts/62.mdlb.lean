theorem on_step {C : XS} (hC : CB C) (b : Int) (b0 : 0 ≤ b) (b1 : b < 4) (n : Nat) (hn : (n : Int) < C.1 (9, b, 0) 3) (r : Nat) (hr : r < 10) : bitI (onN C.1 b (n + 1)) r ↔ if C.1 (13, b, n) 0 ≠ 0 ∧ C.1 (13, b, n) 2 = r then C.1 (13, b, n) 1 ≠ 0 else bitI (onN C.1 b n) r := by
  have c9 := wf9_3 hC.1 b0 b1
  have c4 := wf4_2 hC.1
  obtain ⟨c, e, hc, -⟩ := onN_nat hC.1 hC.2.2.2.2.2.2 b b0 b1 n (by omega)
  have a0 := wf13_2 hC.1 b0 b1 (show (0 : Int) ≤ (n : Int) by omega) (show (n : Int) < 60 by omega)
  simp only [onN]
  by_cases h0 : C.1 (13, b, n) 0 = 0
  · rw [if_pos h0, if_neg (fun z => z.1 h0)]
  · have a1 := (hC.2.2.2.2.2.2 b b0 b1 n hn h0).1
    obtain ⟨m, hm⟩ := Int.eq_ofNat_of_zero_le a0.1
    rw [if_neg h0, hm, e]
    by_cases h1 : C.1 (13, b, n) 1 = 0
    · rw [if_pos h1]
      obtain ⟨d, d1, d2, d3⟩ := bitI_andNot c m (by omega) (by omega)
      rw [d1, d3 r (by omega)]
      by_cases q : (m : Int) = r
      · rw [if_pos ⟨h0, q⟩]
        exact ⟨fun z => absurd (by omega) z.2, fun z => absurd h1 z⟩
      · rw [if_neg (fun z => q z.2)]
        exact ⟨fun z => z.1, fun z => ⟨z, by omega⟩⟩
    · rw [if_neg h1, bitI_or c m r (by omega) (by omega) (by omega)]
      by_cases q : (m : Int) = r
      · rw [if_pos ⟨h0, q⟩]
        exact ⟨fun _ => h1, fun _ => Or.inr (by omega)⟩
      · rw [if_neg (fun z => q z.2)]
        exact ⟨fun z => z.elim id (fun y => absurd (by omega) q), Or.inl⟩
theorem zOr_bI (P Q : Prop) : zOr (bI P) (bI Q) = bI (P ∨ Q) := by
  by_cases p : P <;> by_cases q : Q
  · rw [bI_t p, bI_t q, bI_t (Or.inl p)]; decide
  · rw [bI_t p, bI_f q, bI_t (Or.inl p)]; decide
  · rw [bI_f p, bI_t q, bI_t (Or.inr q)]; decide
  · rw [bI_f p, bI_f q, bI_f (fun z => z.elim p q)]; decide
theorem zOr_b1 (P : Prop) : zOr (bI P) 1 = 1 := by
  by_cases p : P
  · rw [bI_t p]; decide
  · rw [bI_f p]; decide
theorem zOr_b0 (P : Prop) : zOr (bI P) 0 = bI P := by
  by_cases p : P
  · rw [bI_t p]; decide
  · rw [bI_f p]; decide
