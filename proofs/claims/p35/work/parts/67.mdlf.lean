/-- at first ranks are 0 or 999 -/
theorem FI.start {C : XS} {on : Int} {H K : Int → Int64} {g : Int → Int} (hg : GOk g) {rk : Int → Int} (hr : ∀ k, 0 ≤ rk k ∧ rk k ≤ 999) (h : ∀ j : Int, 0 ≤ j → j < 384 → rk j = if bI (sB H j) = 0 then 999 else 0) : FI C on H K g 0 rk := by
  have key : ∀ x p : Nat, x < 6 → p < 64 → (sB H (64 * x + p) ↔ bitJ (H x) p) := fun x p hx hp => by
    unfold sB
    rw [show (64 * (x : Int) + p) / 64 = x by omega, show (64 * (x : Int) + p) % 64 = p by omega]
  refine ⟨hr, fun x p hx hp hlt => ?_, fun x p hx hp ht => ?_, fun x p hx hp hgx => ?_⟩
  · rw [h _ (by omega) (by omega)] at hlt ⊢
    by_cases q : sB H (64 * x + p)
    · rw [bI_t q, if_neg (by decide)]
      exact (key x p hx hp).mp q
    · rw [bI_f q, if_pos rfl] at hlt; omega
  · rw [h _ (by omega) (by omega), bI_t ((key x p hx hp).mpr ht), if_neg (by decide)]
  · have := (hg x (by omega) (by omega)).1; omega
