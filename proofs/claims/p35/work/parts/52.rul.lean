/-! other rules than those that were on may change -/
def RuleS (f f' : XL → Int → Int) (on : Int) : Prop := ∀ j : Nat, bitI on j → ((j : Int) < f (4, 0, 0) 2 ↔ (j : Int) < f' (4, 0, 0) 2) ∧ ((j : Int) < f (4, 0, 0) 2 → (∀ k : Int, k ≠ 5 → f (34, j, 0) k = f' (34, j, 0) k) ∧ (∀ i : Int, f (36, j, i) = f' (36, j, i)) ∧ f (37, j, 0) = f' (37, j, 0))
theorem RuleS.symm {f f' : XL → Int → Int} {on : Int} (h : RuleS f f' on) : RuleS f' f on := fun j hj => ⟨(h j hj).1.symm, fun z => by obtain ⟨a, b, c⟩ := (h j hj).2 ((h j hj).1.mpr z); exact ⟨fun k hk => (a k hk).symm, fun i => (b i).symm, c.symm⟩⟩
theorem FitsS {f f' : XL → Int → Int} {r : Int} (h : (∀ k : Int, k ≠ 5 → f (34, r, 0) k = f' (34, r, 0) k) ∧ (∀ i : Int, f (36, r, i) = f' (36, r, i)) ∧ f (37, r, 0) = f' (37, r, 0)) (A B : Int → Int64) (w : Int) : Fits f A B r w ↔ Fits f' A B r w := by
  unfold Fits condOk pairF
  simp only [h.1 4 (by decide), h.1 2 (by decide), h.2.1]
theorem headsS {f f' : XL → Int → Int} {r : Int} (h : (∀ k : Int, k ≠ 5 → f (34, r, 0) k = f' (34, r, 0) k) ∧ (∀ i : Int, f (36, r, i) = f' (36, r, i)) ∧ f (37, r, 0) = f' (37, r, 0)) (A B : Int → Int64) : headsF f A B r = headsF f' A B r := by
  have e : upto f A B r 512 = upto f' A B r 512 := by
    funext p
    unfold upto pairF
    simp only [FitsS h, h.2.2]
  unfold headsF
  rw [e]
theorem stepS {f f' : XL → Int → Int} {on : Int} (h : RuleS f f' on) (C F : Int → Int64) : stepF f on C F = stepF f' on C F := by
  funext x
  apply bitJ_ext
  intro p hp
  rw [stepF_bit _ _ _ _ _ _ hp, stepF_bit _ _ _ _ _ _ hp]
  constructor
  · rintro (z | ⟨j, a, b, c, d⟩)
    · exact Or.inl z
    · obtain ⟨q1, q2⟩ := h j b
      have q3 := q2 a
      exact Or.inr ⟨j, q1.mp a, b, by rw [← q3.2.2]; exact c, by rw [← headsS q3]; exact d⟩
  · rintro (z | ⟨j, a, b, c, d⟩)
    · exact Or.inl z
    · obtain ⟨q1, q2⟩ := h j b
      have q3 := q2 (q1.mpr a)
      exact Or.inr ⟨j, q1.mpr a, b, by rw [q3.2.2]; exact c, by rw [headsS q3]; exact d⟩
theorem levS {f f' : XL → Int → Int} {on : Int} (h : RuleS f f' on) (C T : Int → Int64) (n : Nat) : levF f on C T n = levF f' on C T n := by
  induction n with
  | zero => rfl
  | succ n ih => simp only [levF, ih, stepS h]
theorem StabS {f f' : XL → Int → Int} {on : Int} (h : RuleS f f' on) {T C : Int → Int64} (k : Stab f on T C) : Stab f' on T C := by
  intro x x0 x1 p hp
  rw [k x x0 x1 p hp]
  simp only [levS h]
theorem leastS {f f' : XL → Int → Int} {r : Int} (h : ∀ i : Int, f (36, r, i) = f' (36, r, i)) (g : Int → Int) (n : Nat) : leastG f g r n = leastG f' g r n := by
  induction n with
  | zero => rfl
  | succ n ih => simp only [leastG, ih, h]
theorem LayS {f f' : XL → Int → Int} {on : Int} (h : RuleS f f' on) {g : Int → Int} (k : Lay f on g) : Lay f' on g := by
  intro j hj ho
  obtain ⟨q1, q2⟩ := h j ho
  have q3 := q2 (q1.mpr hj)
  rw [← leastS q3.2.1, ← q3.2.2, ← q3.1 2 (by decide)]
  exact k j (q1.mpr hj) ho
theorem HitS {f f' : XL → Int → Int} {on : Int} (h : RuleS f f' on) {A B : Int → Int64} {r w : Int} {x p : Nat} (k : Hit f on A B r w x p) : Hit f' on A B r w x p := by
  obtain ⟨a, b, c, d, e, g, i, j⟩ := k
  obtain ⟨m, rfl⟩ := Int.eq_ofNat_of_zero_le a
  obtain ⟨q1, q2⟩ := h m c
  have q3 := q2 b
  refine ⟨a, q1.mp b, c, by rw [← q3.2.2]; exact d, e, g, (FitsS q3 _ _ _).mp i, ?_⟩
  rw [← j]
  unfold pairF
  rw [q3.2.2]
theorem RFinS {f f' : XL → Int → Int} {on : Int} (h : RuleS f f' on) {T C : Int → Int64} {rk ru wy : Int → Int} (k : RFin f on T C rk ru wy) : RFin f' on T C rk ru wy := by
  intro x p hx hp
  have e := fun n => levS h C T n
  rcases k x p hx hp with ⟨k, m, m1, m2, m3, m4, m5⟩ | ⟨q1, q2⟩
  · refine Or.inl ⟨k, m, m1, m2, by rw [← e]; exact m3, fun m' hm z => m4 m' hm (by rw [e]; exact z), fun hm => ?_⟩
    obtain ⟨a, b⟩ := m5 hm
    rw [← e]
    exact ⟨HitS h a, fun r' w' c z => b r' w' c (HitS h.symm z)⟩
  · exact Or.inr ⟨q1, fun m z => q2 m (by rw [e]; exact z)⟩
/-- the class's state after rules changed that were never on -/
theorem CB.rul {S S' : XS} (hb : CB S) (w : WI S') (ro : RulesOk S') (e1 : ∀ (k : Nat) (x y : Int), k ≠ 4 → k ≠ 34 → k ≠ 36 → k ≠ 37 → S'.1 (k, x, y) = S.1 (k, x, y)) (e2 : ∀ (k : Nat) (x y : Int), S'.2.1 (k, x, y) = S.2.1 (k, x, y)) (h4 : S.1 (4, 0, 0) 2 ≤ S'.1 (4, 0, 0) 2)
    (h5 : ∀ r : Int, 0 ≤ r → r < S.1 (4, 0, 0) 2 → S.1 (34, r, 0) 5 = 1 → S'.1 (34, r, 0) 5 = 1)
    (hs : ∀ j : Nat, (j : Int) < S.1 (4, 0, 0) 2 → S.1 (34, j, 0) 5 = 1 → (∀ k : Int, k ≠ 5 → S.1 (34, j, 0) k = S'.1 (34, j, 0) k) ∧ (∀ i : Int, S.1 (36, j, i) = S'.1 (36, j, i)) ∧ S.1 (37, j, 0) = S'.1 (37, j, 0)): CB S' := by
  obtain ⟨b1, b2, b3, b4, b5, b6, b7⟩ := hb
  have k6 := wf0_6 b1
  have rs : ∀ on, OnL S on → RuleS S.1 S'.1 on := fun on h j hj => by
    have z1 := wf4_2 b1
    have z2 := wf4_2 w
    by_cases hj2 : j < 31
    · obtain ⟨q1, q2⟩ := h j hj2 hj
      exact ⟨⟨fun _ => by omega, fun _ => q1⟩, fun _ => hs j q1 q2⟩
    · exact ⟨⟨fun _ => by omega, fun _ => by omega⟩, fun _ => by omega⟩
  have ol : ∀ on, OnL S on → OnL S' on := fun on h j hj hb => by
    obtain ⟨q1, q2⟩ := h j hj hb
    exact ⟨by omega, h5 j (by omega) q1 q2⟩
  have c1 : ∀ {k : Nat}, (k ≠ 4 ∧ k ≠ 34 ∧ k ≠ 36 ∧ k ≠ 37) → ∀ x y : Int, S'.1 (k, x, y) = S.1 (k, x, y) := fun h x y => e1 _ x y h.1 h.2.1 h.2.2.1 h.2.2.2
  refine ⟨w, ro, fun b' t' a0 a1 a2 a3 => ?_, fun b' a0 a1 n hn => ?_, ?_, ⟨fun b' t' a0 a1 a2 a3 => ?_, ?_⟩, fun b' a0 a1 k hk => ?_⟩
  · rw [c1 (k := 8) (by decide), e2, e2]
    exact StabS (rs _ (b6.1 b' t' a0 a1 a2 a3)) (b3 b' t' a0 a1 a2 a3)
  · rw [c1 (k := 0) (by decide)] at a1
    rw [c1 (k := 9) (by decide)] at hn
    obtain ⟨g, g1, g2⟩ := b4 b' a0 a1 n hn
    rw [onN_congr (f := S'.1) (f' := S.1) (fun k => c1 (k := 13) (by decide) b' k)]
    exact ⟨g, g1, LayS (rs _ (b7.on b1 b' a0 (by omega) n hn)) g2⟩
  · unfold RGood
    rw [c1 (k := 7) (by decide), c1 (k := 40) (by decide), c1 (k := 41) (by decide), c1 (k := 42) (by decide), e2, e2]
    exact ⟨StabS (rs _ b6.2) b5.1, RFinS (rs _ b6.2) b5.2⟩
  · rw [c1 (k := 8) (by decide)]
    exact ol _ (b6.1 b' t' a0 a1 a2 a3)
  · rw [c1 (k := 7) (by decide)]
    exact ol _ b6.2
  · rw [c1 (k := 9) (by decide)] at hk
    rw [c1 (k := 13) (by decide)]
    intro z
    obtain ⟨q1, q2⟩ := b7 b' a0 a1 k hk z
    have q0 := wf13_2 b1 a0 a1 (show (0 : Int) ≤ (k : Int) by omega) (show (k : Int) < 60 by have := wf9_3 b1 a0 a1; omega)
    exact ⟨by omega, fun y => h5 _ q0.1 q1 (q2 y)⟩
