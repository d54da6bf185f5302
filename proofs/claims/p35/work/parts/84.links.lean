/-! what both sides answer: counts, shares, means -/
theorem cntN_add (P : Nat → Prop) (a m : Nat) : cntN P (a + m) = cntN P a + cntN (fun p => P (a + p)) m := by
  induction m with
  | zero => rfl
  | succ m ih =>
    by_cases h : P (a + m)
    · rw [show a + (m + 1) = (a + m) + 1 by omega, cntN_t h, cntN_t (P := fun p => P (a + p)) h, ih]
      omega
    · rw [show a + (m + 1) = (a + m) + 1 by omega, cntN_f h, cntN_f (P := fun p => P (a + p)) h, ih]
theorem cntN_eq {P Q : Nat → Prop} (n : Nat) (h : ∀ k, k < n → (P k ↔ Q k)) : cntN P n = cntN Q n := by
  have a := cntN_mono n (fun k hk z => (h k hk).mp z)
  have b := cntN_mono n (fun k hk z => (h k hk).mpr z)
  omega
theorem lk_all (f : XL → Int → Int) (b : Int) (n : Nat) (t : Int) (x : Nat) : ((cntN (fun k : Nat => hB f b n t k) (64 * x) : Nat) : Int) = shA f b n t x := by
  induction x with
  | zero => rfl
  | succ x ih =>
    have e := cntN_eq (P := fun p : Nat => hB f b n t ((64 * x + p : Nat) : Int)) (Q := fun p => bitJ (hl f b n t x) p) 64 (fun p hp => by
      rw [show ((64 * x + p : Nat) : Int) = 64 * (x : Int) + p by omega]
      exact hB_at hp)
    simp only [shA]
    rw [show 64 * (x + 1) = 64 * x + 64 by omega, cntN_add, ← ih, fBits_cnt, e]
    omega
theorem lk_der {C : XS} (hC : CB C) {b : Int} (b0 : 0 ≤ b) (b1 : b < C.1 (0, 0, 0) 6) {n : Nat} (hn : (n : Int) ≤ C.1 (9, b, 0) 3) {t : Int} {rk : Int → Int} (h : FinR C b n t rk) (x : Nat) (hx : x ≤ 6) : ((cntN (fun k : Nat => 0 < rk k ∧ rk k < 999) (64 * x) : Nat) : Int) = shD C.1 b n t x := by
  induction x with
  | zero => rfl
  | succ x ih =>
    have e := cntN_eq (P := fun p : Nat => 0 < rk ((64 * x + p : Nat) : Int) ∧ rk ((64 * x + p : Nat) : Int) < 999) (Q := fun p => bitJ (hl C.1 b n t x &&& (toldN C.1 b t n x ^^^ (-1))) p) 64 (fun p hp => by
      have o := h.ok hC b0 b1 hn (x := (x : Int)) (by omega) (by omega) hp
      have o0 := o.1 0 (by omega)
      rw [show ((64 * x + p : Nat) : Int) = 64 * (x : Int) + p by omega, bitJ_and _ _ _ hp, bitJ_not _ _ hp]
      have e0 : bitJ (levF C.1 (onN C.1 b n) (hl C.1 b n t) (toldN C.1 b t n) 0 x) p ↔ bitJ (toldN C.1 b t n x) p := Iff.rfl
      rw [e0] at o0
      constructor
      · rintro ⟨a, c⟩
        exact ⟨Classical.byContradiction fun z => by have := o.2.1.mpr z; omega, fun z => by have := o0.mpr z; omega⟩
      · rintro ⟨a, c⟩
        have z1 : rk (64 * (x : Int) + p) ≠ 999 := fun z => o.2.1.mp z a
        have z2 : ¬ rk (64 * (x : Int) + p) ≤ 0 := fun z => c (o0.mp z)
        have := o.2.2
        exact ⟨by omega, by omega⟩)
    have i := ih (by omega)
    simp only [shD]
    rw [show 64 * (x + 1) = 64 * x + 64 by omega, cntN_add, ← i, fBits_cnt, e]
    omega
theorem lk_mean {C : XS} {b : Int} {n : Nat} {t : Int} {rk rk' ru wy : Int → Int} (hC : CB C) (b0 : 0 ≤ b) (b1 : b < C.1 (0, 0, 0) 6) (hn : (n : Int) ≤ C.1 (9, b, 0) 3) (h : FinR C b n t rk) (r : Rsn C.1 b n t rk' ru wy) (k : Nat) (hk : k ≤ 384) : mrS rk' k = msN rk k ∧ mrA rk' k = ((cntN (fun k : Nat => hB C.1 b n t k) k : Nat) : Int) := by
  induction k with
  | zero => exact ⟨rfl, rfl⟩
  | succ k ih =>
    obtain ⟨i1, i2⟩ := ih (by omega)
    have e := lk_rank h r (x := k / 64) (p := k % 64) (by omega) (by omega)
    rw [show 64 * ((k / 64 : Nat) : Int) + ((k % 64 : Nat) : Int) = k by omega] at e
    have f := (h.hb hC b0 b1 hn (q := (k : Int)) (by omega) (by omega)).1
    have g := (h.hb hC b0 b1 hn (q := (k : Int)) (by omega) (by omega)).2.1
    simp only [mrS, mrA]
    rcases e with ⟨e1, e2⟩ | ⟨e1, e2, -⟩
    · rw [if_pos e2, if_pos e2, msN_f (by omega), cntN_f (P := fun k : Nat => hB C.1 b n t k) (fun z => by have := f.mpr z; omega)]
      exact ⟨i1, i2⟩
    · rw [if_neg (by omega), if_neg (by omega), msN_t e1, cntN_t (P := fun k : Nat => hB C.1 b n t k) (f.mp e1)]
      exact ⟨by omega, by omega⟩
/-- the digests that are kept are true -/
def DigOk (C : XS) : Prop := ∀ b k : Int, 0 ≤ b → b < 4 → 0 ≤ k → k < C.1 (9, b, 0) 3 → C.1 (13, b, k) 5 = fDigest C (13, b, k)
