/-- how many of a rule's first conditions are straight -/
def strN (f : XL → Int → Int) (r : Int) : Nat → Int
  | 0 => 0
  | n + 1 => if f (36, r, n) 1 = 0 then strN f r n + 1 else strN f r n
/-- the fact of the straight condition of a number, or -1 -/
def premN (f : XL → Int → Int) (r w k : Int) : Nat → Int
  | 0 => -1
  | n + 1 => if f (36, r, n) 1 = 0 ∧ strN f r n = k then 64 * f (36, r, n) 0 + pairF f (36, r, n) w else premN f r w k n
theorem strN_le (f : XL → Int → Int) (r : Int) (n : Nat) : 0 ≤ strN f r n ∧ strN f r n ≤ n := by
  induction n with
  | zero => simp [strN]
  | succ n ih => simp only [strN]; split <;> omega
theorem strN_mono (f : XL → Int → Int) (r : Int) (n m : Nat) (h : n ≤ m) : strN f r n ≤ strN f r m := by
  induction m with
  | zero => rw [show n = 0 by omega]; exact Int.le_refl _
  | succ m ih =>
    rcases Nat.lt_or_eq_of_le h with z | z
    · have := ih (by omega)
      simp only [strN]; split <;> omega
    · rw [z]; exact Int.le_refl _
theorem premN_none (f : XL → Int → Int) (r w k : Int) (n : Nat) (h : ∀ j : Nat, j < n → ¬ (f (36, r, j) 1 = 0 ∧ strN f r j = k)) : premN f r w k n = -1 := by
  induction n with
  | zero => rfl
  | succ n ih =>
    simp only [premN]
    rw [if_neg (h n (by omega))]
    exact ih (fun j hj => h j (by omega))
theorem premN_at (f : XL → Int → Int) (r w k : Int) (i n : Nat) (hi : i < n) (h : f (36, r, i) 1 = 0 ∧ strN f r i = k) : premN f r w k n = 64 * f (36, r, i) 0 + pairF f (36, r, i) w := by
  induction n with
  | zero => omega
  | succ n ih =>
    simp only [premN]
    rcases Nat.lt_or_eq_of_le (show i ≤ n by omega) with z | z
    · rw [if_neg ?_]
      · exact ih z
      · rintro ⟨a, b⟩
        have c := strN_mono f r (i + 1) n z
        simp only [strN] at c
        rw [if_pos h.1] at c
        omega
    · subst z
      rw [if_pos h]
