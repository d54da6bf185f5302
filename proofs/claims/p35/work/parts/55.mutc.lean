/-! forget, fork, listen, next -/
theorem CB.gen {S S' : XS} (hb : CB S) (w : WI S') (e1 : ∀ (k : Nat) (x y : Int), k ≠ 0 → k ≠ 3 → k ≠ 14 → k ≠ 11 → k ≠ 9 → S'.1 (k, x, y) = S.1 (k, x, y)) (e0 : S'.1 (0, 0, 0) 6 = S.1 (0, 0, 0) 6) (e9 : ∀ b : Int, S'.1 (9, b, 0) 3 = S.1 (9, b, 0) 3) (e2 : ∀ (k : Nat) (x y : Int), k ≠ 14 → k ≠ 30 → k ≠ 31 → S'.2.1 (k, x, y) = S.2.1 (k, x, y)) : CB S' := by
  obtain ⟨b1, b2, b3, b4, b5, b6, b7⟩ := hb
  have i : ∀ {k : Nat}, (k ≠ 0 ∧ k ≠ 3 ∧ k ≠ 14 ∧ k ≠ 11 ∧ k ≠ 9) → ∀ x y : Int, S'.1 (k, x, y) = S.1 (k, x, y) := fun h x y => e1 _ x y h.1 h.2.1 h.2.2.1 h.2.2.2.1 h.2.2.2.2
  have j : ∀ {k : Nat}, (k ≠ 14 ∧ k ≠ 30 ∧ k ≠ 31) → ∀ x y : Int, S'.2.1 (k, x, y) = S.2.1 (k, x, y) := fun h x y => e2 _ x y h.1 h.2.1 h.2.2
  have hr : RuleEq S.1 S'.1 := ⟨fun r => (i (k := 34) (by decide) r 0).symm, fun r x => (i (k := 36) (by decide) r x).symm, fun r => (i (k := 37) (by decide) r 0).symm, (i (k := 4) (by decide) 0 0).symm⟩
  have ol : ∀ on, OnL S on → OnL S' on := fun on h r hr hb => by
    rw [i (k := 4) (by decide), i (k := 34) (by decide)]
    exact h r hr hb
  refine ⟨w, RulesOk_eq hr b2, fun b' t' a0 a1 a2 a3 => ?_, fun b' a0 a1 n hn => ?_, ?_, ⟨fun b' t' a0 a1 a2 a3 => ?_, ?_⟩, fun b' a0 a1 k hk => ?_⟩
  · rw [i (k := 8) (by decide), j (k := 18) (by decide), j (k := 28) (by decide)]
    exact Stab_eq hr (b3 b' t' a0 a1 a2 a3)
  · rw [e0] at a1
    rw [e9] at hn
    obtain ⟨g, g1, g2⟩ := b4 b' a0 a1 n hn
    rw [onN_congr (f := S'.1) (f' := S.1) (fun k => i (k := 13) (by decide) b' k)]
    exact ⟨g, g1, Lay_eq hr g2⟩
  · unfold RGood
    rw [i (k := 7) (by decide), i (k := 40) (by decide), i (k := 41) (by decide), i (k := 42) (by decide), j (k := 17) (by decide), j (k := 27) (by decide)]
    exact ⟨Stab_eq hr b5.1, RFin_eq hr b5.2⟩
  · rw [i (k := 8) (by decide)]
    exact ol _ (b6.1 b' t' a0 a1 a2 a3)
  · rw [i (k := 7) (by decide)]
    exact ol _ b6.2
  · rw [e9] at hk
    rw [i (k := 13) (by decide), i (k := 4) (by decide), i (k := 34) (by decide)]
    exact b7 b' a0 a1 k hk
theorem onN_012 {f f' : XL → Int → Int} {b : Int} (n : Nat) (h : ∀ k : Nat, k < n → f (13, b, k) 0 = f' (13, b, k) 0 ∧ f (13, b, k) 1 = f' (13, b, k) 1 ∧ f (13, b, k) 2 = f' (13, b, k) 2) : onN f b n = onN f' b n := by
  induction n with
  | zero => rfl
  | succ n ih => simp only [onN, (h n (by omega)).1, (h n (by omega)).2.1, (h n (by omega)).2.2, ih (fun k hk => h k (by omega))]
theorem CB.put6 {S : XS} (hb : CB S) {b k : Int} (b0 : 0 ≤ b) (b1 : b < 4) (k0 : 0 ≤ k) (k1 : k < 60) : CB (putI S (13, b, k) 6 1) := by
  obtain ⟨c1, c2, c3, c4, c5, c6, c7⟩ := hb
  have i : ∀ {q : Nat}, q ≠ 13 → ∀ x y : Int, (putI S (13, b, k) 6 1).1 (q, x, y) = S.1 (q, x, y) := fun h x y => by simp [putI, nK h]
  have t : ∀ (b' k' j : Int), j ≠ 6 → (putI S (13, b, k) 6 1).1 (13, b', k') j = S.1 (13, b', k') j := fun b' k' j hj => by
    by_cases e : ((13, b', k') : XL) = (13, b, k)
    · rw [e]; simp [putI, xUpd, hj]
    · simp only [putI, if_neg e]
  have hr : RuleEq S.1 (putI S (13, b, k) 6 1).1 := ⟨fun r => (i (q := 34) (by decide) r 0).symm, fun r x => (i (q := 36) (by decide) r x).symm, fun r => (i (q := 37) (by decide) r 0).symm, (i (q := 4) (by decide) 0 0).symm⟩
  have ol : ∀ on, OnL S on → OnL (putI S (13, b, k) 6 1) on := fun on h r hr hb => by
    rw [i (q := 4) (by decide), i (q := 34) (by decide)]
    exact h r hr hb
  refine ⟨wp13_6 c1 b0 b1 k0 k1 (Or.inr rfl), RulesOk_eq hr c2, fun b' t' a0 a1 a2 a3 => ?_, fun b' a0 a1 n hn => ?_, ?_, ⟨fun b' t' a0 a1 a2 a3 => ?_, ?_⟩, fun b' a0 a1 k' hk => ?_⟩
  · rw [i (q := 8) (by decide)]
    exact Stab_eq hr (c3 b' t' a0 a1 a2 a3)
  · rw [i (q := 0) (by decide)] at a1
    rw [i (q := 9) (by decide)] at hn
    obtain ⟨g, g1, g2⟩ := c4 b' a0 a1 n hn
    rw [onN_012 (f' := S.1) n (fun m _ => ⟨t _ _ _ (by decide), t _ _ _ (by decide), t _ _ _ (by decide)⟩)]
    exact ⟨g, g1, Lay_eq hr g2⟩
  · unfold RGood
    rw [i (q := 7) (by decide), i (q := 40) (by decide), i (q := 41) (by decide), i (q := 42) (by decide)]
    exact ⟨Stab_eq hr c5.1, RFin_eq hr c5.2⟩
  · rw [i (q := 8) (by decide)]
    exact ol _ (c6.1 b' t' a0 a1 a2 a3)
  · rw [i (q := 7) (by decide)]
    exact ol _ c6.2
  · rw [i (q := 9) (by decide)] at hk
    rw [t _ _ _ (by decide), t _ _ _ (by decide), t _ _ _ (by decide), i (q := 4) (by decide), i (q := 34) (by decide)]
    exact c7 b' a0 a1 k' hk
theorem CB.forg {S : XS} (hb : CB S) {b x : Int} (b0 : 0 ≤ b) (b1 : b < 4) : ∀ n : Nat, n ≤ 60 → CB (sForgN S b x n)
  | 0, _ => hb
  | n + 1, h => by
    have ih := CB.forg (x := x) hb b0 b1 n (by omega)
    by_cases z : (sForgN S b x n).1 (13, b, n) 6 = 0 ∧ fConcerns (sForgN S b x n) (13, b, n) x
    · rw [(sForgN_t S b x n z).1]; exact ih.put6 b0 b1 (by omega) (by omega)
    · rw [(sForgN_f S b x n z).1]; exact ih
theorem QEq.pI {S S' : XS} (q : QEq S S') {l : XL} (h : kI l.1 = false) (k v : Int) : QEq (putI S l k v) (putI S' l k v) := by
  refine ⟨fun l' hl => ?_, fun l' hl => q.2.1 l' hl, q.2.2⟩
  simp only [putI, q.1 l h, q.1 l' hl]
theorem QEq.pJ {S S' : XS} (q : QEq S S') {l : XL} (h : kJ l.1 = false) (k : Int) (v : Int64) : QEq (putJ S l k v) (putJ S' l k v) := by
  refine ⟨fun l' hl => q.1 l' hl, fun l' hl => ?_, q.2.2⟩
  simp only [putJ, q.2.1 l h, q.2.1 l' hl]
theorem QEq.forg {S S' : XS} (q : QEq S S') (b x : Int) : ∀ n : Nat, QEq (sForgN S b x n) (sForgN S' b x n) ∧ forgN S' b x n = forgN S b x n
  | 0 => ⟨q, rfl⟩
  | n + 1 => by
    obtain ⟨h1, h2⟩ := QEq.forg q b x n
    have e : (sForgN S' b x n).1 (13, b, n) = (sForgN S b x n).1 (13, b, n) := h1.1 (13, b, n) rfl
    by_cases z : (sForgN S b x n).1 (13, b, n) 6 = 0 ∧ fConcerns (sForgN S b x n) (13, b, n) x
    · have z' : (sForgN S' b x n).1 (13, b, n) 6 = 0 ∧ fConcerns (sForgN S' b x n) (13, b, n) x := by unfold fConcerns at *; rw [e]; exact z
      rw [(sForgN_t S b x n z).1, (sForgN_t S b x n z).2, (sForgN_t S' b x n z').1, (sForgN_t S' b x n z').2, h2]
      exact ⟨h1.pI rfl 6 1, rfl⟩
    · have z' : ¬ ((sForgN S' b x n).1 (13, b, n) 6 = 0 ∧ fConcerns (sForgN S' b x n) (13, b, n) x) := by unfold fConcerns at *; rw [e]; exact z
      rw [(sForgN_f S b x n z).1, (sForgN_f S b x n z).2, (sForgN_f S' b x n z').1, (sForgN_f S' b x n z').2, h2]
      exact ⟨h1, rfl⟩
/-- the first n branches forget a thing, and their listeners hear -/
noncomputable def sFgB (S : XS) (x : Int) : Nat → XS
  | 0 => S
  | n + 1 => sInf (sForgN (sFgB S x n) n x (S.1 (9, n, 0) 3).toNat) n (S.1 (0, 0, 0) 7).toNat
noncomputable def fgS (S : XS) (x : Int) : Nat → Int
  | 0 => 0
  | n + 1 => fgS S x n + forgN (sFgB S x n) n x (S.1 (9, n, 0) 3).toNat
theorem fgB_o (S : XS) (x : Int) (n : Nat) {k : Nat} (h : k ≠ 13 ∧ k ≠ 14) (a c : Int) : (sFgB S x n).1 (k, a, c) = S.1 (k, a, c) := by
  induction n with
  | zero => rfl
  | succ n ih => rw [sFgB, (sInf_L _ _ _).i h.2, sForgN_o _ _ _ _ (show ((k, a, c) : XL).1 ≠ 13 from h.1), ih]
def FgCap (S : XS) (x : Int) : Prop := ∀ n : Nat, (n : Int) < S.1 (0, 0, 0) 6 → CapOk (sForgN (sFgB S x n) n x (S.1 (9, n, 0) 3).toNat) n
/-! fork -/
theorem putI_o {S : XS} {l l' : XL} {k v : Int} (h : l' ≠ l) : (putI S l k v).1 l' = S.1 l' := by simp [putI, h]
theorem putI_at (S : XS) (l : XL) (k v j : Int) : (putI S l k v).1 l j = if j = k then v else S.1 l j := by simp [putI, xUpd]
theorem sTC_at (S : XS) {l m : XL} (h : m ≠ l) : (sTC S l m).1 l 0 = S.1 m 0 ∧ (sTC S l m).1 l 1 = S.1 m 1 ∧ (sTC S l m).1 l 2 = S.1 m 2 ∧ (sTC S l m).1 l 3 = S.1 m 3 ∧ (sTC S l m).1 l 4 = S.1 m 4 ∧ (sTC S l m).1 l 5 = S.1 m 5 ∧ (sTC S l m).1 l 6 = S.1 m 6 ∧ (sTC S l m).1 l 7 = -1 := by
  refine ⟨?_, ?_, ?_, ?_, ?_, ?_, ?_, ?_⟩ <;> simp [sTC, putI, xUpd, h]
theorem sTC_o (S : XS) {l m l' : XL} (h : l' ≠ l) : (sTC S l m).1 l' = S.1 l' := by simp [sTC, putI, h]
theorem forkN_o (S : XS) (b c : Int) (n : Nat) {l : XL} (h : ∀ k : Nat, k < n → l ≠ ((13, b, (k : Int)) : XL)) (h2 : l ≠ (11, b, 0)) : (sForkN S b c n).1 l = S.1 l := by
  induction n with
  | zero => rfl
  | succ n ih =>
    have e : (sForkN S b c (n + 1)).1 l = (sTC (sForkN S b c n) (13, b, n) (13, c, n)).1 l := putI_o h2
    rw [e, sTC_o _ (h n (by omega)), ih (fun k hk => h k (by omega))]
theorem forkN_13 (S : XS) {b c : Int} (hbc : c ≠ b) (n : Nat) : ∀ k : Nat, k < n → (sForkN S b c n).1 (13, b, k) 0 = S.1 (13, c, k) 0 ∧ (sForkN S b c n).1 (13, b, k) 1 = S.1 (13, c, k) 1 ∧ (sForkN S b c n).1 (13, b, k) 2 = S.1 (13, c, k) 2 ∧ (sForkN S b c n).1 (13, b, k) 3 = S.1 (13, c, k) 3 ∧ (sForkN S b c n).1 (13, b, k) 4 = S.1 (13, c, k) 4 ∧ (sForkN S b c n).1 (13, b, k) 5 = S.1 (13, c, k) 5 ∧ (sForkN S b c n).1 (13, b, k) 6 = S.1 (13, c, k) 6 ∧ (sForkN S b c n).1 (13, b, k) 7 = -1 := by
  induction n with
  | zero => intro k hk; omega
  | succ n ih =>
    intro k hk
    have e : (sForkN S b c (n + 1)).1 (13, b, k) = (sTC (sForkN S b c n) (13, b, n) (13, c, n)).1 (13, b, k) := putI_o (nK (by decide) _ _ _ _)
    rw [e]
    by_cases z : k = n
    · subst z
      have q := sTC_at (sForkN S b c k) (l := (13, b, k)) (m := (13, c, k)) (nX hbc _)
      have o := forkN_o S b c k (l := (13, c, k)) (fun k' _ => n13 (fun y => hbc y.1)) (nK (by decide) _ _ _ _)
      rw [o] at q
      exact q
    · rw [sTC_o _ (n13 (fun y => z (by omega)))]
      exact ih k (by omega)
theorem forkN_11 (S : XS) {b c : Int} (hbc : c ≠ b) (n : Nat) (j : Int) : (sForkN S b c n).1 (11, b, 0) j = if 1 ≤ j ∧ j ≤ n then S.1 (11, c, 0) j else S.1 (11, b, 0) j := by
  induction n with
  | zero => rw [if_neg (by omega)]; rfl
  | succ n ih =>
    have e : (sForkN S b c (n + 1)).1 (11, b, 0) j = if j = (n : Int) + 1 then S.1 (11, c, 0) ((n : Int) + 1) else (sForkN S b c n).1 (11, b, 0) j := by
      have e0 : (sForkN S b c (n + 1)).1 (11, b, 0) j = if j = (n : Int) + 1 then (sTC (sForkN S b c n) (13, b, n) (13, c, n)).1 (11, c, 0) ((n : Int) + 1) else (sTC (sForkN S b c n) (13, b, n) (13, c, n)).1 (11, b, 0) j := putI_at _ _ _ _ _
      rw [e0]
      split
      · rw [sTC_o _ (nK (by decide) _ _ _ _), forkN_o S b c n (fun k _ => nK (by decide) _ _ _ _) (fun z => hbc (by injection z with _ z; injection z))]
      · rw [sTC_o _ (nK (by decide) _ _ _ _)]
    rw [e, ih]
    by_cases h : j = (n : Int) + 1
    · rw [if_pos h, if_pos (by omega), h]
    · rw [if_neg h]
      by_cases h2 : 1 ≤ j ∧ j ≤ n
      · rw [if_pos h2, if_pos (by omega)]
      · rw [if_neg h2, if_neg (by omega)]
/-- the state after fork -/
def sFrk (S : XS) (b : Int) (n : Nat) : XS := putI (sFork S (S.1 (0, 0, 0) 6) b n) (0, 0, 0) 6 (S.1 (0, 0, 0) 6 + 1)
theorem fork_o (S : XS) (b c : Int) (n : Nat) {l : XL} (h : l ≠ (9, b, 0)) : (sFork S b c n).1 l = (sForkN S b c n).1 l := by simp [sFork, putI, h]
theorem fork_9 (S : XS) (b c : Int) (n : Nat) : (sFork S b c n).1 (9, b, 0) 3 = n ∧ (sFork S b c n).1 (9, b, 0) 4 = c ∧ (sFork S b c n).1 (9, b, 0) 5 = n ∧ (sFork S b c n).1 (9, b, 0) 6 = n := by
  refine ⟨?_, ?_, ?_, ?_⟩ <;> simp [sFork, putI, xUpd]
theorem sForkN_j (S : XS) (b c : Int) (n : Nat) : (sForkN S b c n).2 = S.2 := by
  induction n with
  | zero => rfl
  | succ n ih => exact ih
theorem frk_o (S : XS) (b : Int) (n : Nat) {k : Nat} (h : k ≠ 13 ∧ k ≠ 11 ∧ k ≠ 9 ∧ k ≠ 0) (x y : Int) : (sFrk S b n).1 (k, x, y) = S.1 (k, x, y) := by
  have e : (sFrk S b n).1 (k, x, y) = (sFork S (S.1 (0, 0, 0) 6) b n).1 (k, x, y) := putI_o (nK h.2.2.2 _ _ _ _)
  rw [e, fork_o _ _ _ _ (nK h.2.2.1 _ _ _ _), forkN_o _ _ _ _ (fun k' _ => nK h.1 _ _ _ _) (nK h.2.1 _ _ _ _)]
theorem frk_13 (S : XS) (b : Int) (n : Nat) (b' k : Int) (h : b' ≠ S.1 (0, 0, 0) 6) : (sFrk S b n).1 (13, b', k) = S.1 (13, b', k) := by
  have e : (sFrk S b n).1 (13, b', k) = (sFork S (S.1 (0, 0, 0) 6) b n).1 (13, b', k) := putI_o (nK (by decide) _ _ _ _)
  rw [e, fork_o _ _ _ _ (nK (by decide) _ _ _ _), forkN_o _ _ _ _ (fun k' _ => n13 (fun y => h y.1)) (nK (by decide) _ _ _ _)]
theorem frk_9 (S : XS) (b : Int) (n : Nat) (b' : Int) (h : b' ≠ S.1 (0, 0, 0) 6) : (sFrk S b n).1 (9, b', 0) = S.1 (9, b', 0) := by
  have e : (sFrk S b n).1 (9, b', 0) = (sFork S (S.1 (0, 0, 0) 6) b n).1 (9, b', 0) := putI_o (nK (by decide) _ _ _ _)
  rw [e, fork_o _ _ _ _ (nX h _), forkN_o _ _ _ _ (fun k' _ => nK (by decide) _ _ _ _) (nK (by decide) _ _ _ _)]
theorem frk_new (S : XS) {b : Int} (n : Nat) (hb : b ≠ S.1 (0, 0, 0) 6) : (sFrk S b n).1 (9, S.1 (0, 0, 0) 6, 0) 3 = n ∧ ∀ k : Nat, k < n → (sFrk S b n).1 (13, S.1 (0, 0, 0) 6, k) 0 = S.1 (13, b, k) 0 ∧ (sFrk S b n).1 (13, S.1 (0, 0, 0) 6, k) 1 = S.1 (13, b, k) 1 ∧ (sFrk S b n).1 (13, S.1 (0, 0, 0) 6, k) 2 = S.1 (13, b, k) 2 ∧ (sFrk S b n).1 (13, S.1 (0, 0, 0) 6, k) 3 = S.1 (13, b, k) 3 ∧ (sFrk S b n).1 (13, S.1 (0, 0, 0) 6, k) 4 = S.1 (13, b, k) 4 ∧ (sFrk S b n).1 (13, S.1 (0, 0, 0) 6, k) 5 = S.1 (13, b, k) 5 ∧ (sFrk S b n).1 (13, S.1 (0, 0, 0) 6, k) 6 = S.1 (13, b, k) 6 ∧ (sFrk S b n).1 (13, S.1 (0, 0, 0) 6, k) 7 = -1 := by
  have e : ∀ k : Nat, k ≠ 0 → ∀ x y : Int, (sFrk S b n).1 (k, x, y) = (sFork S (S.1 (0, 0, 0) 6) b n).1 (k, x, y) := fun k h x y => putI_o (nK h _ _ _ _)
  refine ⟨by rw [e 9 (by decide), (fork_9 _ _ _ _).1], fun k hk => ?_⟩
  rw [e 13 (by decide), fork_o _ _ _ _ (nK (by decide) _ _ _ _)]
  exact forkN_13 S hb n k hk
theorem frk_0 (S : XS) (b : Int) (n : Nat) (j : Int) : (sFrk S b n).1 (0, 0, 0) j = if j = 6 then S.1 (0, 0, 0) 6 + 1 else S.1 (0, 0, 0) j := by
  have e : (sFrk S b n).1 (0, 0, 0) j = if j = 6 then S.1 (0, 0, 0) 6 + 1 else (sFork S (S.1 (0, 0, 0) 6) b n).1 (0, 0, 0) j := putI_at _ _ _ _ _
  rw [e]
  split
  · rfl
  · rw [fork_o _ _ _ _ (nK (by decide) _ _ _ _), forkN_o _ _ _ _ (fun k' _ => nK (by decide) _ _ _ _) (nK (by decide) _ _ _ _)]
theorem CB.frk {S : XS} (hb : CB S) {b : Int} (b0 : 0 ≤ b) (b1 : b < S.1 (0, 0, 0) 6) (h6 : S.1 (0, 0, 0) 6 < 4) (n : Nat) (hn : (n : Int) ≤ S.1 (9, b, 0) 3) : CB (sFrk S b n) := by
  obtain ⟨c1, c2, c3, c4, c5, c6, c7⟩ := hb
  have k6 := wf0_6 c1
  have k9 := wf9_3 c1 b0 (show b < 4 by omega)
  have hne : b ≠ S.1 (0, 0, 0) 6 := by omega
  obtain ⟨n1, n2⟩ := frk_new S n hne
  have i : ∀ {k : Nat}, (k ≠ 13 ∧ k ≠ 11 ∧ k ≠ 9 ∧ k ≠ 0) → ∀ x y : Int, (sFrk S b n).1 (k, x, y) = S.1 (k, x, y) := fun h x y => frk_o S b n h x y
  have j : ∀ l, (sFrk S b n).2.1 l = S.2.1 l := fun l => by
    show (sForkN S (S.1 (0, 0, 0) 6) b n).2.1 l = _
    rw [sForkN_j]
  have hr : RuleEq S.1 (sFrk S b n).1 := ⟨fun r => (i (k := 34) (by decide) r 0).symm, fun r x => (i (k := 36) (by decide) r x).symm, fun r => (i (k := 37) (by decide) r 0).symm, (i (k := 4) (by decide) 0 0).symm⟩
  have ol : ∀ on, OnL S on → OnL (sFrk S b n) on := fun on h r hr hb => by
    rw [i (k := 4) (by decide), i (k := 34) (by decide)]
    exact h r hr hb
  have w : WI (sFrk S b n) := wp0_6 (wi_fork S c1 _ (by omega) h6 b b0 (by omega) n (by omega)) ⟨by omega, by omega⟩
  refine ⟨w, RulesOk_eq hr c2, fun b' t' a0 a1 a2 a3 => ?_, fun b' a0 a1 m hm => ?_, ?_, ⟨fun b' t' a0 a1 a2 a3 => ?_, ?_⟩, fun b' a0 a1 k' hk => ?_⟩
  · rw [i (k := 8) (by decide), j, j]
    exact Stab_eq hr (c3 b' t' a0 a1 a2 a3)
  · rw [frk_0, if_pos rfl] at a1
    by_cases e : b' = S.1 (0, 0, 0) 6
    · subst e
      rw [n1] at hm
      obtain ⟨g, g1, g2⟩ := c4 b b0 b1 m (by omega)
      have q : onN (sFrk S b n).1 (S.1 (0, 0, 0) 6) m = onN S.1 b m := by
        clear g2
        induction m with
        | zero => rfl
        | succ m ih =>
          obtain ⟨q0, q1, q2, -⟩ := n2 m (by omega)
          obtain ⟨g', y1, y2⟩ := c4 b b0 b1 m (by omega)
          simp only [onN, q0, q1, q2, ih (by omega)]
      rw [q]
      exact ⟨g, g1, Lay_eq hr g2⟩
    · rw [frk_9 S b n b' e] at hm
      obtain ⟨g, g1, g2⟩ := c4 b' a0 (by omega) m hm
      rw [onN_congr (f := (sFrk S b n).1) (f' := S.1) (fun k => frk_13 S b n b' k e)]
      exact ⟨g, g1, Lay_eq hr g2⟩
  · unfold RGood
    rw [i (k := 7) (by decide), i (k := 40) (by decide), i (k := 41) (by decide), i (k := 42) (by decide), j, j]
    exact ⟨Stab_eq hr c5.1, RFin_eq hr c5.2⟩
  · rw [i (k := 8) (by decide)]
    exact ol _ (c6.1 b' t' a0 a1 a2 a3)
  · rw [i (k := 7) (by decide)]
    exact ol _ c6.2
  · rw [i (k := 4) (by decide), i (k := 34) (by decide)]
    by_cases e : b' = S.1 (0, 0, 0) 6
    · subst e
      rw [n1] at hk
      obtain ⟨q0, q1, q2, -⟩ := n2 k' (by omega)
      rw [q0, q1, q2]
      exact c7 b b0 (by omega) k' (by omega)
    · rw [frk_9 S b n b' e] at hk
      rw [frk_13 S b n b' _ e]
      exact c7 b' a0 a1 k' hk
