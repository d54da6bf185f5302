/-! the reference: layers -/
def cval (f : XL → Int → Int) (g : Int → Int) (r c : Int) : Int := if f (36, r, c) 1 = 0 then g (f (36, r, c) 0) else g (f (36, r, c) 0) + 1
theorem leastG_le (f : XL → Int → Int) (g : Int → Int) (r : Int) (n : Nat) (G : Int) : leastG f g r n ≤ G ↔ 0 ≤ G ∧ ∀ c : Nat, c < n → cval f g r c ≤ G := by
  induction n with
  | zero => exact ⟨fun z => ⟨z, fun c hc => by omega⟩, fun z => z.1⟩
  | succ n ih =>
    have e : leastG f g r (n + 1) = if leastG f g r n < cval f g r n then cval f g r n else leastG f g r n := rfl
    rw [e]
    constructor
    · intro z
      have z2 : leastG f g r n ≤ G := by
        by_cases q : leastG f g r n < cval f g r n
        · rw [if_pos q] at z; omega
        · rw [if_neg q] at z; exact z
      have z3 : cval f g r n ≤ G := by
        by_cases q : leastG f g r n < cval f g r n
        · rw [if_pos q] at z; exact z
        · rw [if_neg q] at z; omega
      obtain ⟨a, b⟩ := ih.mp z2
      refine ⟨a, fun c hc => ?_⟩
      rcases Nat.lt_or_eq_of_le (show c ≤ n by omega) with h | h
      · exact b c h
      · rw [h]; exact z3
    · rintro ⟨a, b⟩
      have z2 := ih.mpr ⟨a, fun c hc => b c (by omega)⟩
      have z3 := b n (by omega)
      split <;> omega
theorem cval_mono {f : XL → Int → Int} {g g' : Int → Int} {r c : Int} (h : g (f (36, r, c) 0) ≤ g' (f (36, r, c) 0)) : cval f g r c ≤ cval f g' r c := by unfold cval; split <;> omega
/-- the layers so far, when the rules below r are done in a pass -/
def RI (C : XS) (on : Int) (g : Int → Int) (ch s : Int) (r : Nat) : Prop := (∀ x : Int, 0 ≤ x → x ≤ 5 → 0 ≤ g x ∧ g x ≤ 6) ∧ Below C.1 on g ∧ (ch = 0 ∨ ch = 1) ∧ s + ch ≤ gsum g ∧ (ch = 0 → ∀ j : Nat, j < r → bitI on j → leastG C.1 g j (C.1 (34, j, 0) 2).toNat ≤ g (C.1 (37, j, 0) 0))
/-- a missing number is passed over by none -/
theorem gap_lay {C : XS} (hC : WI C) {on : Int} {g : Int → Int} (h : Lay C.1 on g) (hn : ∀ x : Int, 0 ≤ x → x ≤ 5 → 0 ≤ g x) {m : Int} (m0 : 0 ≤ m) (hm : ∀ x : Int, 0 ≤ x → x ≤ 5 → g x ≠ m) : Lay C.1 on (fun x => if m < g x then g x - 1 else g x) := by
  intro j hj ho
  have c4 := wf4_2 hC
  have a := wf37_0 hC (b := (j : Int)) (by omega) (by omega)
  have s := wf34_2 hC (b := (j : Int)) (by omega) (by omega)
  obtain ⟨k1, k2⟩ := (leastG_le _ _ _ _ _).mp (h j hj ho)
  refine (leastG_le _ _ _ _ _).mpr ⟨?_, fun c hc => ?_⟩
  · dsimp only; split <;> omega
  · have b := dl_rel hC hj (i := c) (by omega)
    have q := k2 c hc
    have n1 := hm _ a.1 a.2
    have n2 := hm _ b.1 b.2
    unfold cval at q ⊢
    dsimp only
    split
    · rename_i e; rw [if_pos e] at q; (repeat' split) <;> omega
    · rename_i e; rw [if_neg e] at q; (repeat' split) <;> omega
theorem pick6 (a b c d e f : Int) : ∃ m : Int, 0 ≤ m ∧ m ≤ 6 ∧ a ≠ m ∧ b ≠ m ∧ c ≠ m ∧ d ≠ m ∧ e ≠ m ∧ f ≠ m := by
  apply Classical.byContradiction
  intro h
  have k : ∀ m : Int, 0 ≤ m → m ≤ 6 → a = m ∨ b = m ∨ c = m ∨ d = m ∨ e = m ∨ f = m := fun m m0 m6 => by
    apply Classical.byContradiction
    intro z
    exact h ⟨m, m0, m6, fun y => z (Or.inl y), fun y => z (Or.inr (Or.inl y)), fun y => z (Or.inr (Or.inr (Or.inl y))), fun y => z (Or.inr (Or.inr (Or.inr (Or.inl y)))), fun y => z (Or.inr (Or.inr (Or.inr (Or.inr (Or.inl y))))), fun y => z (Or.inr (Or.inr (Or.inr (Or.inr (Or.inr y)))))⟩
  have k0 := k 0 (by omega) (by omega)
  have k1 := k 1 (by omega) (by omega)
  have k2 := k 2 (by omega) (by omega)
  have k3 := k 3 (by omega) (by omega)
  have k4 := k 4 (by omega) (by omega)
  have k5 := k 5 (by omega) (by omega)
  have k6 := k 6 (by omega) (by omega)
  clear k h
  rcases k0 with rfl | rfl | rfl | rfl | rfl | rfl <;> rcases k1 with h1 | h1 | h1 | h1 | h1 | h1 <;> first | (exfalso; clear k2 k3 k4 k5 k6; omega) | (subst h1; rcases k2 with h2 | h2 | h2 | h2 | h2 | h2 <;> first | (exfalso; clear k3 k4 k5 k6; omega) | (subst h2; rcases k3 with h3 | h3 | h3 | h3 | h3 | h3 <;> first | (exfalso; clear k4 k5 k6; omega) | (subst h3; rcases k4 with h4 | h4 | h4 | h4 | h4 | h4 <;> first | (exfalso; clear k5 k6; omega) | (subst h4; omega))))
theorem RI.no {C : XS} {on : Int} {g : Int → Int} {x : Int} (hb : Below C.1 on g) (x0 : 0 ≤ x) (x1 : x ≤ 5) (h : 6 < g x) : ∀ g', GOk g' → ¬ Lay C.1 on g' := fun g' hg hl => by
  have a := hb g' (fun x x0 x1 => (hg x x0 x1).1) hl x x0 x1
  have b := (hg x x0 x1).2
  omega
theorem xUpd_self (g : Int → Int) (i : Int) : xUpd g i (g i) = g := by
  funext j
  simp only [xUpd]
  split
  · rename_i h; rw [h]
  · rfl
theorem zOr01 {c : Int} (h : c = 0 ∨ c = 1) : zOr c 1 = 1 ∧ zOr c 0 = c := by rcases h with rfl | rfl <;> decide
theorem putI_row (S : XS) (l : XL) (k v : Int) : (putI S l k v).1 l = xUpd (S.1 l) k v := by simp [putI]
