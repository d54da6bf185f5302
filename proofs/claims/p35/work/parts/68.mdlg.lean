/-! the reference: checks -/
theorem putI_self (S : XS) (l : XL) (k v : Int) : (putI S l k v).1 l k = v := by simp [putI, xUpd]
theorem FinR.hb {C : XS} (hC : CB C) {b : Int} (b0 : 0 ≤ b) (b1 : b < C.1 (0, 0, 0) 6) {n : Nat} (hn : (n : Int) ≤ C.1 (9, b, 0) 3) {t : Int} {rk : Int → Int} (h : FinR C b n t rk) {q : Int} (q0 : 0 ≤ q) (q1 : q < 384) : (rk q < 999 ↔ hB C.1 b n t q) ∧ 0 ≤ rk q ∧ (rk q < 999 → rk q ≤ 385) := by
  have e := h (q / 64).toNat (q % 64).toNat (by omega) (by omega)
  rw [show 64 * (((q / 64).toNat : Nat) : Int) + (((q % 64).toNat : Nat) : Int) = q by omega, show (((q / 64).toNat : Nat) : Int) = q / 64 by omega] at e
  have s := hl_stab hC b0 b1 n hn t (q / 64) (by omega) (by omega) (q % 64).toNat (by omega)
  unfold hB
  rw [show (((q % 64).toNat : Nat) : Int) = q % 64 by omega] at s
  rcases e with ⟨m, m1, m2, m3, m4⟩ | ⟨m1, m2⟩
  · exact ⟨⟨fun _ => s.mpr ⟨m, by rw [show (q % 64) = (((q % 64).toNat : Nat) : Int) by omega] at *; exact m3⟩, fun _ => by omega⟩, by omega, fun _ => by omega⟩
  · refine ⟨⟨fun _ => by omega, fun z => ?_⟩, by omega, fun _ => by omega⟩
    obtain ⟨k, hk⟩ := s.mp z
    exact absurd (by rw [show (q % 64) = (((q % 64).toNat : Nat) : Int) by omega] at *; exact hk) (m2 k)
