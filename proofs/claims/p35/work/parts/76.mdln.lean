/-! the reference: rules that may be turned on -/
theorem bd_tab : ∀ m ∈ ([0, 7, 56, 63, 448, 455, 504, 511] : List Int), ∀ a ∈ ([0, 3, 6] : List Int), ∀ b ∈ ([0, 3, 6] : List Int), zOr m (zOr (zShl 7 a) (zShl 7 b)) ∈ ([0, 7, 56, 63, 448, 455, 504, 511] : List Int) ∧ zOr m 0 = m ∧ ∀ s ∈ ([0, 3, 6] : List Int), (zAnd (zOr m (zOr (zShl 7 a) (zShl 7 b))) (zShl 7 s) = 0 ↔ zAnd m (zShl 7 s) = 0 ∧ s ≠ a ∧ s ≠ b) := by decide +kernel
theorem bd_511 : ∀ m ∈ ([0, 7, 56, 63, 448, 455, 504, 511] : List Int), (m = 511 ↔ zAnd m (zShl 7 0) ≠ 0 ∧ zAnd m (zShl 7 3) ≠ 0 ∧ zAnd m (zShl 7 6) ≠ 0) := by decide +kernel
theorem in036 {s : Int} (h : s = 0 ∨ s = 3 ∨ s = 6) : s ∈ ([0, 3, 6] : List Int) := by rcases h with rfl | rfl | rfl <;> decide
/-- the digits of a shift are in a straight condition -/
def BdS (f : XL → Int → Int) (r s : Int) (n : Nat) : Prop := ∃ c : Nat, c < n ∧ f (36, r, c) 1 = 0 ∧ (f (36, r, c) 2 = s ∨ f (36, r, c) 3 = s)
theorem BdS.s {f : XL → Int → Int} {r s : Int} {n : Nat} : BdS f r s (n + 1) ↔ BdS f r s n ∨ (f (36, r, n) 1 = 0 ∧ (f (36, r, n) 2 = s ∨ f (36, r, n) 3 = s)) := by
  constructor
  · rintro ⟨c, c1, c2⟩
    rcases Nat.lt_or_eq_of_le (show c ≤ n by omega) with h | h
    · exact Or.inl ⟨c, h, c2⟩
    · subst h; exact Or.inr c2
  · rintro (⟨c, c1, c2⟩ | h)
    · exact ⟨c, by omega, c2⟩
    · exact ⟨n, by omega, h⟩
theorem bound_is (C : XS) {r : Int} (hi : IdOk (C.1 (34, r, 0) 4)) (n : Nat) (hs : ∀ c : Nat, c < n → ShOk C.1 (36, r, c)) : boundN C r n ∈ ([0, 7, 56, 63, 448, 455, 504, 511] : List Int) ∧ ∀ s ∈ ([0, 3, 6] : List Int), (zAnd (boundN C r n) (zShl 7 s) = 0 ↔ zAnd (C.1 (34, r, 0) 4) (zShl 7 s) = 0 ∧ ¬ BdS C.1 r s n) := by
  induction n with
  | zero => exact ⟨IdOk_mem.mp hi, fun s _ => ⟨fun z => ⟨z, fun ⟨c, c1, _⟩ => by omega⟩, fun z => z.1⟩⟩
  | succ n ih =>
    obtain ⟨h1, h2⟩ := ih (fun c hc => hs c (by omega))
    have sh := hs n (by omega)
    have t := bd_tab _ h1 _ (in036 sh.1) _ (in036 sh.2)
    simp only [boundN]
    by_cases q : C.1 (36, r, n) 1 = 0
    · rw [if_pos q]
      refine ⟨t.1, fun s hs2 => ?_⟩
      have k := t.2.2 s hs2
      show zAnd (zOr (boundN C r n) (zOr (zShl 7 (C.1 (36, r, n) 2)) (zShl 7 (C.1 (36, r, n) 3)))) (zShl 7 s) = 0 ↔ _
      rw [k, h2 s hs2, BdS.s]
      constructor
      · rintro ⟨⟨a, b⟩, c, d⟩
        exact ⟨a, fun z => z.elim b (fun z => z.2.elim (fun z => c z.symm) (fun z => d z.symm))⟩
      · rintro ⟨a, b⟩
        exact ⟨⟨a, fun z => b (Or.inl z)⟩, fun z => b (Or.inr ⟨q, Or.inl z.symm⟩), fun z => b (Or.inr ⟨q, Or.inr z.symm⟩)⟩
    · rw [if_neg q, t.2.1]
      refine ⟨h1, fun s hs2 => ?_⟩
      rw [h2 s hs2, BdS.s]
      exact ⟨fun z => ⟨z.1, fun y => y.elim z.2 (fun y => q y.1)⟩, fun z => ⟨z.1, fun y => z.2 (Or.inl y)⟩⟩
def BdA (f : XL → Int → Int) (r : Int) (n : Nat) (m : Nat) : Prop := (BdS f r (f (37, r, 0) 2) n ∧ BdS f r (f (37, r, 0) 3) n) ∧ ∀ c : Nat, c < m → f (36, r, c) 1 ≠ 0 → BdS f r (f (36, r, c) 2) n ∧ BdS f r (f (36, r, c) 3) n
theorem BdA.s {f : XL → Int → Int} {r : Int} {n m : Nat} : BdA f r n (m + 1) ↔ BdA f r n m ∧ (f (36, r, m) 1 ≠ 0 → BdS f r (f (36, r, m) 2) n ∧ BdS f r (f (36, r, m) 3) n) := by
  constructor
  · rintro ⟨a, b⟩
    exact ⟨⟨a, fun c hc => b c (by omega)⟩, b m (by omega)⟩
  · rintro ⟨⟨a, b⟩, d⟩
    refine ⟨a, fun c hc => ?_⟩
    rcases Nat.lt_or_eq_of_le (show c ≤ m by omega) with h | h
    · exact b c h
    · subst h; exact d
