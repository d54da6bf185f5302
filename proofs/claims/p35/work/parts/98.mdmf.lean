/-- alike but for what is taken of the branch b -/
def P6 (b : Int) (S S' : XS) : Prop := (∀ l : XL, l ≠ (9, b, 0) → S'.1 l = S.1 l) ∧ ∀ j : Int, j ≠ 6 → S'.1 (9, b, 0) j = S.1 (9, b, 0) j
theorem P6.symm {b : Int} {S S' : XS} (h : P6 b S S') : P6 b S' S := ⟨fun l a => (h.1 l a).symm, fun j a => (h.2 j a).symm⟩
theorem P6.put (b : Int) (S : XS) (v : Int) : P6 b S (putI S (9, b, 0) 6 v) := ⟨fun l a => putI_o a, fun j a => by rw [putI_at, if_neg a]⟩
theorem P6.k {b : Int} {S S' : XS} (h : P6 b S S') {k : Nat} (hk : k ≠ 9) (x y : Int) : S'.1 (k, x, y) = S.1 (k, x, y) := h.1 _ (nK hk _ _ _ _)
theorem P6.rule {b : Int} {S S' : XS} (h : P6 b S S') : RuleEq S.1 S'.1 := ⟨fun r => (h.k (by decide) r 0).symm, fun r i => (h.k (by decide) r i).symm, fun r => (h.k (by decide) r 0).symm, (h.k (by decide) 0 0).symm⟩
theorem P6.can {b : Int} {S S' : XS} (q : P6 b S S') {r on : Int} (h : CanOn S r on) : CanOn S' r on := by
  have bb : ∀ n : Nat, boundN S' r n = boundN S r n := fun n => by
    induction n with
    | zero => simp only [boundN, q.k (k := 34) (by decide)]
    | succ n ih => simp only [boundN, ih, fDig, q.k (k := 36) (by decide)]
  obtain ⟨h1, g, g1, g2⟩ := h
  exact ⟨by rw [q.k (by decide), bb]; exact h1, g, g1, Lay_eq q.rule g2⟩
/-- merging changes tellings alone -/
def MgE (U T : XS) : Prop := ClE U T ∧ WI T ∧ T.2.2.2.1 = U.2.2.2.1 ∧ (∀ (k : Nat) (x y : Int), (67 ≤ k ∧ k ≤ 70) ∨ k = 81 → T.1 (k, x, y) = U.1 (k, x, y)) ∧ T.1 (50, 0, 0) 25 = 0
theorem MgE.put {U T : XS} (h : MgE U T) {r : Nat} {j v : Int} (hr : r = 61 ∨ (r = 50 ∧ (j ≠ 25 ∧ j ≠ 12))) (w : WI (putI T (r, 0, 0) j v)) : MgE U (putI T (r, 0, 0) j v) := by
  refine ⟨h.1.put (by show 50 ≤ r ∧ r < 90 ∧ r ≠ 64 ∧ r ≠ 66 ∧ (r ≠ 50 ∨ j ≠ 12); omega), w, h.2.2.1, fun k x y hk => (putI_o (nK (by omega) _ _ _ _)).trans (h.2.2.2.1 k x y hk), ?_⟩
  rcases hr with rfl | ⟨rfl, hj⟩
  · rw [putI_o (nK (by decide) _ _ _ _)]; exact h.2.2.2.2
  · rw [putI_at, if_neg (fun z => hj.1 z.symm)]; exact h.2.2.2.2
