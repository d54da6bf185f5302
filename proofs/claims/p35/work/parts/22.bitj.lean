/-! longs as sets of pairs -/
def bitJ (x : Int64) (p : Int) : Prop := (lg_cmp (jShr x p &&& 1) 0).toInt ≠ 0
theorem jShr_tab : ∀ p : Fin 64, (((zI (p.val : Int)).toInt64.toUInt64 &&& Int64.toUInt64 63).toBitVec % 64).toNat = p.val := by decide +kernel
theorem jShl_tab : ∀ p : Fin 64, (((zI (p.val : Int)).toInt64 &&& 63).toBitVec.smod 64).toNat = p.val := by decide +kernel
theorem jShr_bv (x : Int64) (p : Nat) (hp : p < 64) : (jShr x p).toBitVec = x.toBitVec >>> p := by
  show x.toBitVec >>> (((zI (p : Int)).toInt64.toUInt64 &&& Int64.toUInt64 63).toBitVec % 64) = _
  rw [BitVec.ushiftRight_eq', jShr_tab ⟨p, hp⟩]
theorem jShl_bv (x : Int64) (p : Nat) (hp : p < 64) : (jShl x p).toBitVec = x.toBitVec <<< p := by
  show x.toBitVec <<< (((zI (p : Int)).toInt64 &&& 63).toBitVec.smod 64) = _
  rw [BitVec.shiftLeft_eq', jShl_tab ⟨p, hp⟩]
theorem bit0 (y : BitVec 64) : y &&& 1#64 ≠ 0 ↔ y.getLsbD 0 = true := by
  constructor
  · intro h
    cases e : y.getLsbD 0 with
    | true => rfl
    | false =>
      exfalso
      apply h
      apply BitVec.eq_of_getLsbD_eq
      intro i hi
      rw [BitVec.getLsbD_and, BitVec.getLsbD_one]
      by_cases z : i = 0
      · subst z; rw [e]; rfl
      · simp [z]
  · intro h z
    have q : (y &&& 1#64).getLsbD 0 = (0#64).getLsbD 0 := by rw [z]; rfl
    rw [BitVec.getLsbD_and, h, BitVec.getLsbD_one] at q
    simp at q
theorem bitJ_iff (x : Int64) (p : Nat) (hp : p < 64) : bitJ x p ↔ x.toBitVec.getLsbD p = true := by
  unfold bitJ
  rw [Ne, lg0, show (jShr x p &&& 1 = 0) ↔ ((jShr x p).toBitVec &&& 1#64 = 0) from ?_, ← Ne, bit0, jShr_bv x p hp, BitVec.getLsbD_ushiftRight]
  · simp
  · rw [← Int64.toBitVec_inj]; rfl
theorem bitJ_or (x y : Int64) (p : Nat) (hp : p < 64) : bitJ (x ||| y) p ↔ bitJ x p ∨ bitJ y p := by
  rw [bitJ_iff _ _ hp, bitJ_iff _ _ hp, bitJ_iff _ _ hp, Int64.toBitVec_or, BitVec.getLsbD_or, Bool.or_eq_true]
theorem bitJ_and (x y : Int64) (p : Nat) (hp : p < 64) : bitJ (x &&& y) p ↔ bitJ x p ∧ bitJ y p := by
  rw [bitJ_iff _ _ hp, bitJ_iff _ _ hp, bitJ_iff _ _ hp, Int64.toBitVec_and, BitVec.getLsbD_and, Bool.and_eq_true]
theorem bitJ_xor (x y : Int64) (p : Nat) (hp : p < 64) : bitJ (x ^^^ y) p ↔ ¬ (bitJ x p ↔ bitJ y p) := by
  rw [bitJ_iff _ _ hp, bitJ_iff _ _ hp, bitJ_iff _ _ hp, Int64.toBitVec_xor, BitVec.getLsbD_xor]
  cases x.toBitVec.getLsbD p <;> cases y.toBitVec.getLsbD p <;> simp
theorem bitJ_m1 (p : Nat) (hp : p < 64) : bitJ (-1) p := by
  rw [bitJ_iff _ _ hp, show (-1 : Int64).toBitVec = BitVec.allOnes 64 from by decide, BitVec.getLsbD_allOnes]
  simp [hp]
theorem bitJ_not (x : Int64) (p : Nat) (hp : p < 64) : bitJ (x ^^^ (-1)) p ↔ ¬ bitJ x p := by
  rw [bitJ_xor _ _ _ hp]
  simp [bitJ_m1 p hp]
theorem bitJ_0 (p : Nat) (hp : p < 64) : ¬ bitJ 0 p := by
  rw [bitJ_iff _ _ hp, show (0 : Int64).toBitVec = 0#64 from rfl, BitVec.getLsbD_zero]
  simp
theorem bitJ_one (q p : Nat) (hq : q < 64) (hp : p < 64) : bitJ (jShl 1 q) p ↔ p = q := by
  rw [bitJ_iff _ _ hp, jShl_bv _ _ hq, show (1 : Int64).toBitVec = 1#64 from rfl, BitVec.getLsbD_shiftLeft, BitVec.getLsbD_one]
  simp only [Bool.and_eq_true, decide_eq_true_eq, Bool.not_eq_true', decide_eq_false_iff_not]
  omega
theorem bitJ_ext {x y : Int64} (h : ∀ p : Nat, p < 64 → (bitJ x p ↔ bitJ y p)) : x = y := by
  apply Int64.toBitVec_inj.mp
  apply BitVec.eq_of_getLsbD_eq
  intro i hi
  have q := h i hi
  rw [bitJ_iff _ _ hi, bitJ_iff _ _ hi] at q
  exact Bool.eq_iff_iff.mpr q
/-- the long with just these bits -/
noncomputable def jOfN (P : Nat → Prop) : Nat → Int64
  | 0 => 0
  | n + 1 => haveI := Classical.propDecidable (P n); if P n then jOfN P n ||| jShl 1 n else jOfN P n
noncomputable def jOf (P : Nat → Prop) : Int64 := jOfN P 64
theorem jOfN_bit (P : Nat → Prop) (n : Nat) (hn : n ≤ 64) (p : Nat) (hp : p < 64) : bitJ (jOfN P n) p ↔ p < n ∧ P p := by
  induction n with
  | zero => simp only [jOfN]; constructor; intro h; exact absurd h (bitJ_0 p hp); omega
  | succ n ih =>
    have ih := ih (by omega)
    rw [jOfN]
    by_cases z : P n
    · rw [if_pos z, bitJ_or _ _ _ hp, ih, bitJ_one _ _ (by omega) hp]
      constructor
      · rintro (h | rfl)
        · exact ⟨by omega, h.2⟩
        · exact ⟨by omega, z⟩
      · rintro ⟨h1, h2⟩
        by_cases e : p = n
        · exact Or.inr e
        · exact Or.inl ⟨by omega, h2⟩
    · rw [if_neg z, ih]
      constructor
      · rintro ⟨h1, h2⟩; exact ⟨by omega, h2⟩
      · rintro ⟨h1, h2⟩
        refine ⟨?_, h2⟩
        by_cases e : p = n
        · exact absurd (e ▸ h2) z
        · omega
theorem jOf_bit (P : Nat → Prop) (p : Nat) (hp : p < 64) : bitJ (jOf P) p ↔ P p := by
  unfold jOf
  rw [jOfN_bit P 64 (Nat.le_refl _) p hp]
  exact ⟨fun h => h.2, fun h => ⟨hp, h⟩⟩
theorem jOf_eq {x : Int64} {P : Nat → Prop} (h : ∀ p : Nat, p < 64 → (bitJ x p ↔ P p)) : x = jOf P := bitJ_ext fun p hp => (h p hp).trans (jOf_bit P p hp).symm
/-! ints as sets of rules -/
def bitI (s n : Int) : Prop := zAnd (zShr s n) 1 ≠ 0
theorem bitI_nat (s n : Nat) (hs : s < 2147483648) (hn : n < 32) : bitI s n ↔ s.testBit n = true := by
  unfold bitI
  have a : s >>> n < 2147483648 := Nat.lt_of_le_of_lt (Nat.shiftRight_le s n) hs
  rw [zShr_nat s n hn hs, show (1 : Int) = ((1 : Nat) : Int) from rfl, zAnd_nat _ _ a (by decide), Nat.testBit, Nat.and_comm 1]
  simp only [Nat.and_one_is_mod]
  simp only [bne_iff_ne, ne_eq]
  omega
theorem zShl1_nat (n : Nat) (hn : n < 31) : zShl 1 n = ((2 ^ n : Nat) : Int) := by
  have e : (1 : Nat) <<< n = 2 ^ n := by rw [Nat.shiftLeft_eq, Nat.one_mul]
  have h : 2 ^ n < 2147483648 := by
    have := Nat.pow_lt_pow_right (a := 2) (by decide) hn
    exact Nat.lt_of_lt_of_le this (by decide)
  have := zShl_nat 1 n (by omega) (by rw [e]; exact h)
  rw [e] at this
  exact this
theorem bitI_or (s n m : Nat) (hs : s < 2147483648) (hn : n < 31) (hm : m < 31) : bitI (zOr s (zShl 1 n)) m ↔ bitI s m ∨ m = n := by
  have h : 2 ^ n < 2147483648 := by
    have := Nat.pow_lt_pow_right (a := 2) (by decide) hn
    exact Nat.lt_of_lt_of_le this (by decide)
  rw [zShl1_nat n hn, zOr_nat s _ hs h, bitI_nat _ _ (or_lt31 hs h) (by omega), bitI_nat _ _ hs (by omega), Nat.testBit_or, Nat.testBit_two_pow, Bool.or_eq_true, decide_eq_true_eq]
  exact ⟨fun q => q.imp_right Eq.symm, fun q => q.imp_right Eq.symm⟩
theorem bitI_andNot (s n : Nat) (hs : s < 2147483648) (hn : n < 31) : ∃ c : Nat, zAnd s (zXor (zShl 1 n) (-1)) = (c : Int) ∧ c ≤ s ∧ ∀ m : Nat, m < 31 → (bitI c m ↔ bitI s m ∧ m ≠ n) := by
  rw [zShl1_nat n hn]
  obtain ⟨c, h1, h2, h3⟩ := zAndNot_nat s (2 ^ n) hs
  refine ⟨c, h1, h2, fun m hm => ?_⟩
  rw [bitI_nat _ _ (by omega) (by omega), bitI_nat _ _ hs (by omega), h3 m (by omega), Nat.testBit_two_pow, Bool.and_eq_true, Bool.not_eq_true', decide_eq_false_iff_not]
  exact ⟨fun q => ⟨q.1, fun z => q.2 z.symm⟩, fun q => ⟨q.1, fun z => q.2 z.symm⟩⟩
theorem bitI_0 (m : Nat) (hm : m < 31) : ¬ bitI 0 m := by
  rw [show (0 : Int) = ((0 : Nat) : Int) from rfl, bitI_nat _ _ (by decide) (by omega)]
  simp
