/-! reasons: step after step -/
theorem lev_fix {S : XS} (hw : WI S) (HR : RulesOk S) {on : Int} {T C : Int → Int64} {k : Nat} (h : ∀ x : Int, 0 ≤ x → x ≤ 5 → ∀ p : Nat, p < 64 → bitJ (levF S.1 on C T (k + 1) x) p → bitJ (levF S.1 on C T k x) p) (m : Nat) : ∀ x : Int, 0 ≤ x → x ≤ 5 → ∀ p : Nat, p < 64 → bitJ (levF S.1 on C T m x) p → bitJ (levF S.1 on C T k x) p := by
  induction m with
  | zero => intro x x0 x1 p hp q; exact levF_le _ _ _ _ 0 k (Nat.zero_le _) x p hp q
  | succ m ih =>
    intro x x0 x1 p hp q
    rw [levF, stepF_bit _ _ _ _ _ _ hp] at q
    rcases q with q | ⟨j, hj, ho, e, q⟩
    · exact ih x x0 x1 p hp q
    · refine h x x0 x1 p hp ?_
      rw [levF, stepF_bit _ _ _ _ _ _ hp]
      exact Or.inr ⟨j, hj, ho, e, heads_mono (HR j hj).1 (fun i hi _ p hp z => by have r := dl_rel hw hj hi; exact ih _ r.1 r.2 p hp z) (fun _ _ _ _ _ z => z) hp q⟩
theorem cntF_full {F : Int → Int64} (h : 384 ≤ cntF F) (x p : Nat) (hx : x < 6) (hp : p < 64) : bitJ (F x) p := by
  apply Classical.byContradiction
  intro z
  have e1 : (64 * x + p) / 64 = x := by omega
  have e2 : (64 * x + p) % 64 = p := by omega
  have a := cntN_lt (P := fun q => bitJ (F ((q / 64 : Nat) : Int)) ((q % 64 : Nat) : Int)) (Q := fun _ => True) 384 (fun _ _ _ => trivial) (m := 64 * x + p) (by omega) (by simp only [e1, e2]; exact z) trivial
  have b := cntN_le (fun _ => True) 384
  unfold cntF at h
  omega
theorem Stab_unique {S : XS} (hw : WI S) (HR : RulesOk S) {on : Int} {T C C' : Int → Int64} {g : Int → Int} (hg : GOk g) (hl : Lay S.1 on g) (h : Stab S.1 on T C) (h' : Stab S.1 on T C') : ∀ x : Int, 0 ≤ x → x ≤ 5 → C x = C' x := by
  have key : ∀ (C C' : Int → Int64), Stab S.1 on T C → Stab S.1 on T C' → ∀ k : Int, (∀ x : Int, 0 ≤ x → x ≤ 5 → g x < k → C x = C' x) → ∀ n : Nat, ∀ x : Int, 0 ≤ x → x ≤ 5 → g x ≤ k → ∀ p : Nat, p < 64 → bitJ (levF S.1 on C T n x) p → bitJ (levF S.1 on C' T n x) p := by
    intro C C' _ _ k hk n
    induction n with
    | zero => intro x _ _ _ p _ q; exact q
    | succ n ih =>
      intro x x0 x1 hx p hp q
      rw [levF, stepF_bit _ _ _ _ _ _ hp] at q ⊢
      rcases q with q | ⟨j, hj, ho, e, q⟩
      · exact Or.inl (ih x x0 x1 hx p hp q)
      · have y := hl j hj ho
        rw [e] at y
        refine Or.inr ⟨j, hj, ho, e, heads_mono (HR j hj).1 (fun i hi c p hp z => ?_) (fun i hi c p hp z => ?_) hp q⟩
        · have r := dl_rel hw hj hi
          have w := (leastG_ge S.1 g j (S.1 (34, j, 0) 2).toNat i (by omega)).1 c
          exact ih _ r.1 r.2 (by omega) p hp z
        · have r := dl_rel hw hj hi
          have w := (leastG_ge S.1 g j (S.1 (34, j, 0) 2).toNat i (by omega)).2 c
          rw [hk _ r.1 r.2 (by omega)]; exact z
  have all : ∀ k : Nat, ∀ x : Int, 0 ≤ x → x ≤ 5 → g x < k → C x = C' x := by
    intro k
    induction k with
    | zero => intro x x0 x1 hx; have := hg x x0 x1; omega
    | succ k ih =>
      intro x x0 x1 hx
      apply bitJ_ext
      intro p hp
      rw [h x x0 x1 p hp, h' x x0 x1 p hp]
      constructor
      · rintro ⟨n, hn⟩
        exact ⟨n, key C C' h h' k ih n x x0 x1 (by omega) p hp hn⟩
      · rintro ⟨n, hn⟩
        exact ⟨n, key C' C h' h k (fun x x0 x1 hx => (ih x x0 x1 hx).symm) n x x0 x1 (by omega) p hp hn⟩
  intro x x0 x1
  exact all 6 x x0 x1 (by have := hg x x0 x1; omega)
theorem hit_lev {S : XS} {on : Int} {T C : Int → Int64} {k : Nat} {r w : Int} {x p : Nat} (hp : p < 64) (h : Hit S.1 on (levF S.1 on C T k) C r w x p) : bitJ (levF S.1 on C T (k + 1) x) p := by
  obtain ⟨a1, a2, a3, a4, a5, a6, a7, a8⟩ := h
  obtain ⟨j, rfl⟩ := Int.eq_ofNat_of_zero_le a1
  rw [levF, stepF_bit _ _ _ _ _ _ hp]
  refine Or.inr ⟨j, a2, a3, a4, ?_⟩
  rw [heads_bit _ _ _ _ p hp]
  exact ⟨w, a5, a6, a7, a8⟩
theorem lev_hit {S : XS} {on : Int} {T C : Int → Int64} {k : Nat} {x p : Nat} (hp : p < 64) (h : bitJ (levF S.1 on C T (k + 1) x) p) (hn : ¬ bitJ (levF S.1 on C T k x) p) : ∃ r w, Hit S.1 on (levF S.1 on C T k) C r w x p := by
  rw [levF, stepF_bit _ _ _ _ _ _ hp] at h
  rcases h with h | ⟨j, hj, ho, e, h⟩
  · exact absurd h hn
  · rw [heads_bit _ _ _ _ p hp] at h
    obtain ⟨w, a5, a6, a7, a8⟩ := h
    exact ⟨j, w, by omega, hj, ho, e, a5, a6, a7, a8⟩
theorem lev_next {S : XS} {on : Int} {T C : Int → Int64} {k : Nat} {rk ru wy : Int → Int} {G : Int → Int64} {i : Int} (hi : S.1 (4, 0, 0) 2 ≤ i) (h : RInv S.1 on T C (k + 1) i 0 rk ru wy G) (x p : Nat) (hx : x < 6) (hp : p < 64) : bitJ (levF S.1 on C T (k + 1) x) p ↔ bitJ (levF S.1 on C T k x) p ∨ bitJ (G x) p := by
  constructor
  · intro q
    rcases h x p hx hp with ⟨q1, -⟩ | ⟨q1, ⟨q2, q3, q4⟩ | ⟨q2, q3, -⟩⟩
    · exact Or.inl q1
    · obtain ⟨r, w, hh⟩ := lev_hit hp q q1
      exact absurd hh (q4 r w (Or.inl (by have := hh.2.1; omega)))
    · exact Or.inr q3
  · rintro (q | q)
    · exact levF_le _ _ _ _ k (k + 1) (Nat.le_succ k) x p hp q
    · rcases h x p hx hp with ⟨-, q2, -⟩ | ⟨q1, ⟨q2, q3, q4⟩ | ⟨q2, q3, q4, -⟩⟩
      · exact absurd q q2
      · exact absurd q q3
      · exact hit_lev hp q4
theorem RInv.next {S : XS} {on : Int} {T C : Int → Int64} {k : Nat} {rk ru wy : Int → Int} {G G' : Int → Int64} {i : Int} (hi : S.1 (4, 0, 0) 2 ≤ i) (h : RInv S.1 on T C (k + 1) i 0 rk ru wy G) (hG : ∀ x p : Nat, x < 6 → p < 64 → ¬ bitJ (G' x) p) : RInv S.1 on T C (k + 2) 0 0 rk ru wy G' := by
  intro x p hx hp
  have e := lev_next hi h x p hx hp
  have g0 := hG x p hx hp
  rcases h x p hx hp with ⟨q1, q2, m, m1, m2, m3, m4⟩ | ⟨q1, ⟨q2, q3, q4⟩ | ⟨q2, q3, q4, q5⟩⟩
  · exact Or.inl ⟨e.mpr (Or.inl q1), g0, m, m1, Nat.le_succ_of_le m2, m3, m4⟩
  · refine Or.inr ⟨fun z => (e.mp z).elim q1 q3, Or.inl ⟨q2, g0, fun r' w' b z => ?_⟩⟩
    have z1 := z.1
    have z2 := z.2.2.2.2.1
    unfold Bef at b
    omega
  · exact Or.inl ⟨e.mpr (Or.inr q3), g0, k + 1, q2, Nat.le_refl _, e.mpr (Or.inr q3), fun m' hm z => q1 (levF_le _ _ _ _ m' k (by omega) x p hp z), fun _ => ⟨q4, q5⟩⟩
/-- every fact has its rank and reason, or none -/
def RFin (f : XL → Int → Int) (on : Int) (T C : Int → Int64) (rk ru wy : Int → Int) : Prop := ∀ x p : Nat, x < 6 → p < 64 → (∃ k, RSet f on T C k x p (rk (64 * x + p)) (ru (64 * x + p)) (wy (64 * x + p))) ∨ (rk (64 * x + p) = -1 ∧ ∀ m, ¬ bitJ (levF f on C T m x) p)
theorem RInv.fin {S : XS} {on : Int} {T C : Int → Int64} {k : Nat} {rk ru wy : Int → Int} {G : Int → Int64} (h : RInv S.1 on T C (k + 1) 0 0 rk ru wy G) (hG : ∀ x p : Nat, x < 6 → p < 64 → ¬ bitJ (G x) p) (hf : ∀ m x p : Nat, x < 6 → p < 64 → bitJ (levF S.1 on C T m x) p → bitJ (levF S.1 on C T k x) p) : RFin S.1 on T C rk ru wy := by
  intro x p hx hp
  rcases h x p hx hp with ⟨q1, q2, q3⟩ | ⟨q1, ⟨q2, q3, q4⟩ | ⟨q2, q3, q4, q5⟩⟩
  · exact Or.inl ⟨_, q3⟩
  · exact Or.inr ⟨q2, fun m z => q1 (hf m x p hx hp z)⟩
  · exact absurd q3 (hG x p hx hp)
theorem endG_bit (G : Int → Int64) (n : Nat) (hn : n ≤ 6) : 0 ≤ endG G n ∧ endG G n ≤ 63 ∧ ∀ x : Nat, x < 6 → (bitI (endG G n) x ↔ x < n ∧ G x ≠ 0) := by
  induction n with
  | zero => exact ⟨Int.le_refl 0, (by decide : (0 : Int) ≤ 63), fun x hx => ⟨fun z => absurd z (bitI_0 x (by omega)), fun z => by omega⟩⟩
  | succ n ih =>
    obtain ⟨a, b, c⟩ := ih (by omega)
    simp only [endG]
    by_cases e : G n = 0
    · rw [if_pos e, zOr_N0 a b]
      refine ⟨a, b, fun x hx => ?_⟩
      rw [c x hx]
      constructor
      · rintro ⟨z1, z2⟩; exact ⟨by omega, z2⟩
      · rintro ⟨z1, z2⟩
        refine ⟨?_, z2⟩
        rcases Nat.lt_or_eq_of_le (show x ≤ n by omega) with y | y
        · exact y
        · subst y; exact absurd e z2
    · rw [if_neg e]
      obtain ⟨o0, o1, -, o2⟩ := or63 (N := endG G n) (h := (n : Int)) a b (by omega) (by omega)
      refine ⟨o0, o1, fun x hx => ?_⟩
      rw [o2 x hx, c x hx]
      constructor
      · rintro (⟨z1, z2⟩ | z)
        · exact ⟨by omega, z2⟩
        · obtain rfl : x = n := by omega
          exact ⟨by omega, e⟩
      · rintro ⟨z1, z2⟩
        rcases Nat.lt_or_eq_of_le (show x ≤ n by omega) with y | y
        · exact Or.inl ⟨y, z2⟩
        · exact Or.inr (by omega)
theorem endG_0 {G : Int → Int64} (h : endG G 6 = 0) (x : Nat) (hx : x < 6) : G x = 0 := by
  apply Classical.byContradiction
  intro z
  have q := ((endG_bit G 6 (Nat.le_refl _)).2.2 x hx).mpr ⟨hx, z⟩
  rw [h] at q
  exact bitI_0 x (by omega) q
