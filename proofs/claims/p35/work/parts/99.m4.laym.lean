/-! p35: the law: layers by sixty passes -/
/-- the layers so far, in the pass p, the rules below r done, and of the rule r the conditions below c -/
def PI (C : XS) (on : Int) (g : Int → Int) (p : Int) (r c : Nat) : Prop := (∀ x : Int, 0 ≤ x → x ≤ 5 → 0 ≤ g x ∧ g x ≤ 30 * p + 3 * r + c) ∧ Below C.1 on g ∧ (Lay C.1 on g ∨ p + 1 ≤ gsum g ∨ (p ≤ gsum g ∧ (∀ j : Nat, j < r → bitI on j → leastG C.1 g j (C.1 (34, j, 0) 2).toNat ≤ g (C.1 (37, j, 0) 0)) ∧ ∀ c' : Nat, c' < c → cval C.1 g r c' ≤ g (C.1 (37, r, 0) 0)))
theorem PI.step {C : XS} (hC : WI C) {on : Int} {g : Int → Int} {p : Int} {r c : Nat} (hr : (r : Int) < C.1 (4, 0, 0) 2) (ho : bitI on r) (hc : (c : Int) < C.1 (34, r, 0) 2) (h : PI C on g p r c) : PI C on (xUpd g (C.1 (37, r, 0) 0) (if g (C.1 (37, r, 0) 0) < cval C.1 g r c then cval C.1 g r c else g (C.1 (37, r, 0) 0))) p r (c + 1) := by
  have c4 := wf4_2 hC
  have a := wf37_0 hC (b := (r : Int)) (by omega) (by omega)
  have b := dl_rel hC hr hc
  have s34 := wf34_2 hC (b := (r : Int)) (by omega) (by omega)
  obtain ⟨h1, h3, h4⟩ := h
  by_cases hv : g (C.1 (37, r, 0) 0) < cval C.1 g r c
  · rw [if_pos hv]
    have nl : ¬ Lay C.1 on g := fun hl => by
      have k := ((leastG_le _ _ _ _ _).mp (hl r hr ho)).2 c (by omega)
      omega
    have hb : cval C.1 g r c ≤ 30 * p + 3 * r + c + 1 ∧ 0 ≤ cval C.1 g r c := by
      have q := h1 _ b.1 b.2
      unfold cval; split <;> omega
    have up := gsum_up a.1 a.2 hv
    refine ⟨fun x x0 x1 => ?_, fun g' g0 hl x x0 x1 => ?_, ?_⟩
    · have q := h1 x x0 x1
      simp only [xUpd]
      split <;> omega
    · simp only [xUpd]
      split
      · rename_i e
        have k2 := ((leastG_le _ _ _ _ _).mp (hl r hr ho)).2 c (by omega)
        rw [e]
        exact Int.le_trans (cval_mono (h3 g' g0 hl _ b.1 b.2)) k2
      · exact h3 g' g0 hl x x0 x1
    · rcases h4 with h4 | h4 | ⟨h4, -⟩
      · exact absurd h4 nl
      · exact Or.inr (Or.inl (by omega))
      · exact Or.inr (Or.inl (by omega))
  · rw [if_neg hv, xUpd_self]
    refine ⟨fun x x0 x1 => ?_, h3, ?_⟩
    · have q := h1 x x0 x1
      omega
    · rcases h4 with h4 | h4 | ⟨h4, h5, h6⟩
      · exact Or.inl h4
      · exact Or.inr (Or.inl h4)
      · refine Or.inr (Or.inr ⟨h4, h5, fun c' hc' => ?_⟩)
        rcases Nat.lt_or_eq_of_le (show c' ≤ c by omega) with q | q
        · exact h6 c' q
        · rw [q]; omega
theorem PI.rule {C : XS} (hC : WI C) {on : Int} {g : Int → Int} {p : Int} {r c : Nat} (hr : (r : Int) < C.1 (4, 0, 0) 2) (c3 : c ≤ 3) (hc : bitI on r → (C.1 (34, r, 0) 2).toNat ≤ c) (h : PI C on g p r c) : PI C on g p (r + 1) 0 := by
  have c4 := wf4_2 hC
  have a := wf37_0 hC (b := (r : Int)) (by omega) (by omega)
  obtain ⟨h1, h3, h4⟩ := h
  refine ⟨fun x x0 x1 => ?_, h3, ?_⟩
  · have q := h1 x x0 x1
    omega
  · rcases h4 with h4 | h4 | ⟨h4, h5, h6⟩
    · exact Or.inl h4
    · exact Or.inr (Or.inl h4)
    · refine Or.inr (Or.inr ⟨h4, fun j hj ho => ?_, fun c' hc' => by omega⟩)
      rcases Nat.lt_or_eq_of_le (show j ≤ r by omega) with q | q
      · exact h5 j q ho
      · subst q
        exact (leastG_le _ _ _ _ _).mpr ⟨(h1 _ a.1 a.2).1, fun c' hc' => h6 c' (Nat.lt_of_lt_of_le hc' (hc ho))⟩
theorem PI.pass {C : XS} {on : Int} {g : Int → Int} {p : Int} {r : Nat} (hr : C.1 (4, 0, 0) 2 ≤ r) (r10 : r ≤ 10) (h : PI C on g p r 0) : PI C on g (p + 1) 0 0 := by
  obtain ⟨h1, h3, h4⟩ := h
  refine ⟨fun x x0 x1 => ?_, h3, ?_⟩
  · have q := h1 x x0 x1
    omega
  · rcases h4 with h4 | h4 | ⟨h4, h5, h6⟩
    · exact Or.inl h4
    · exact Or.inr (Or.inr ⟨h4, fun j hj => by omega, fun c hc => by omega⟩)
    · exact Or.inl (fun j hj ho => h5 j (by omega) ho)
theorem Lay.ly {C : XS} (hC : WI C) {on : Int} {g : Int → Int} (h1 : ∀ x : Int, 0 ≤ x → x ≤ 5 → 0 ≤ g x) (hl : Lay C.1 on g) (h2 : Below C.1 on g) : LyG C.1 on g := by
  obtain ⟨m, m0, m6, e0, e1, e2, e3, e4, e5⟩ := pick6 (g 0) (g 1) (g 2) (g 3) (g 4) (g 5)
  have hm : ∀ x : Int, 0 ≤ x → x ≤ 5 → g x ≠ m := fun x x0 x1 => by
    have : x = 0 ∨ x = 1 ∨ x = 2 ∨ x = 3 ∨ x = 4 ∨ x = 5 := by omega
    rcases this with rfl | rfl | rfl | rfl | rfl | rfl <;> assumption
  have k := h2 _ (fun x x0 x1 => by have := h1 x x0 x1; split <;> omega) (gap_lay hC hl h1 m0 hm)
  refine ⟨fun x x0 x1 => ⟨h1 x x0 x1, ?_⟩, hl, h2⟩
  have k1 := k x x0 x1
  have k2 := hm x x0 x1
  split at k1 <;> omega
/-- what the sixty passes give: the layers, all at most 5; or one above 6, and there are none -/
theorem PI.fin {C : XS} (hC : WI C) {on : Int} {g : Int → Int} (h : PI C on g 60 0 0) : LyG C.1 on g ∨ ((∃ x : Int, 0 ≤ x ∧ x ≤ 5 ∧ 6 < g x) ∧ ∀ g', GOk g' → ¬ Lay C.1 on g') := by
  obtain ⟨h1, h3, h4⟩ := h
  have hs : Lay C.1 on g ∨ 60 ≤ gsum g := by
    rcases h4 with h4 | h4 | ⟨h4, -⟩
    · exact Or.inl h4
    · exact Or.inr (by omega)
    · exact Or.inr h4
  rcases hs with hs | hs
  · exact Or.inl (Lay.ly hC (fun x x0 x1 => (h1 x x0 x1).1) hs h3)
  · right
    have hx : ∃ x : Int, 0 ≤ x ∧ x ≤ 5 ∧ 6 < g x := by
      apply Classical.byContradiction
      intro z
      have k : ∀ x : Int, 0 ≤ x → x ≤ 5 → g x ≤ 6 := fun x x0 x1 => by
        apply Classical.byContradiction
        intro y
        exact z ⟨x, x0, x1, by omega⟩
      have k0 := k 0 (by omega) (by omega)
      have k1 := k 1 (by omega) (by omega)
      have k2 := k 2 (by omega) (by omega)
      have k3 := k 3 (by omega) (by omega)
      have k4 := k 4 (by omega) (by omega)
      have k5 := k 5 (by omega) (by omega)
      unfold gsum at hs
      omega
    obtain ⟨x, x0, x1, x2⟩ := hx
    exact ⟨⟨x, x0, x1, x2⟩, RI.no h3 x0 x1 x2⟩
