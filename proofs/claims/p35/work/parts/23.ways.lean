/-! ways: a number with an octal digit for each variable -/
def pairF (f : XL → Int → Int) (l : XL) (w : Int) : Int := 8 * zAnd (zShr w (f l 2)) 7 + zAnd (zShr w (f l 3)) 7
def ShOk (f : XL → Int → Int) (l : XL) : Prop := (f l 2 = 0 ∨ f l 2 = 3 ∨ f l 2 = 6) ∧ (f l 3 = 0 ∨ f l 3 = 3 ∨ f l 3 = 6)
def IdOk (m : Int) : Prop := m = 0 ∨ m = 7 ∨ m = 56 ∨ m = 63 ∨ m = 448 ∨ m = 455 ∨ m = 504 ∨ m = 511
/-- a condition of a rule fits a way: A is what straight conditions are read in, B what contrary ones are -/
def condOk (f : XL → Int → Int) (A B : Int → Int64) (r i w : Int) : Prop := bitJ (if f (36, r, i) 1 = 0 then A (f (36, r, i) 0) else B (f (36, r, i) 0)) (pairF f (36, r, i) w) ↔ f (36, r, i) 1 = 0
def Fits (f : XL → Int → Int) (A B : Int → Int64) (r w : Int) : Prop := zAnd w (f (34, r, 0) 4) = 0 ∧ ∀ i : Nat, (i : Int) < f (34, r, 0) 2 → condOk f A B r i w
/-- the shape of a rule -/
def RuleOk (f : XL → Int → Int) (r : Int) : Prop := IdOk (f (34, r, 0) 4) ∧ ShOk f (37, r, 0) ∧ ∀ i : Nat, (i : Int) < f (34, r, 0) 2 → ShOk f (36, r, i)
theorem zOr_z (w : Nat) (hw : w ≤ 511) : zOr w 0 = (w : Int) := by
  rw [show (0 : Int) = ((0 : Nat) : Int) from rfl, zOr_nat w 0 (by omega) (by decide), Nat.or_zero]
theorem zOr_511 (w : Nat) (v : Int) (hw : w ≤ 511) (h0 : 0 ≤ v) (h1 : v ≤ 511) : (w : Int) ≤ zOr w v ∧ zOr w v ≤ 511 := by
  have := zOr_in 9 (by decide) w v (by omega) (by have : (2 : Int) ^ 9 = 512 := by decide
                                                  omega) h0 (by have : (2 : Int) ^ 9 = 512 := by decide
                                                                omega)
  have e : (2 : Int) ^ 9 = 512 := by decide
  omega
theorem low_same (w w' s : Nat) (hs : s = 0 ∨ s = 3 ∨ s = 6) (hw : w' ≤ 511) (h1 : w ≤ w') (h2 : (w' : Int) ≤ zOr w (((2 : Nat) ^ s - 1 : Nat) : Int)) : w' / 2 ^ s = w / 2 ^ s := by
  have h3 : 2 ^ s - 1 < 2147483648 := by rcases hs with rfl | rfl | rfl <;> decide
  rw [zOr_nat w _ (by omega) h3] at h2
  have h4 : w' ≤ w ||| (2 ^ s - 1) := by exact_mod_cast h2
  have h5 : (w ||| (2 ^ s - 1)) / 2 ^ s = w / 2 ^ s := by
    rw [← Nat.shiftRight_eq_div_pow, ← Nat.shiftRight_eq_div_pow, Nat.shiftRight_or_distrib, show (2 ^ s - 1) >>> s = 0 from by rcases hs with rfl | rfl | rfl <;> decide, Nat.or_zero]
  have a := Nat.div_le_div_right (c := 2 ^ s) h1
  have b := Nat.div_le_div_right (c := 2 ^ s) h4
  omega
theorem dig_same (w w' s t : Nat) (hs : s = 0 ∨ s = 3 ∨ s = 6) (ht : t = 0 ∨ t = 3 ∨ t = 6) (hst : s ≤ t) (hw : w' ≤ 511) (h1 : w ≤ w') (h2 : (w' : Int) ≤ zOr w (((2 : Nat) ^ s - 1 : Nat) : Int)) : zShr w' t = zShr w t := by
  have a := low_same w w' s hs hw h1 h2
  have ht2 : t < 32 := by omega
  rw [zShr_nat w' t ht2 (by omega), zShr_nat w t ht2 (by omega), Nat.shiftRight_eq_div_pow, Nat.shiftRight_eq_div_pow]
  have e : 2 ^ t = 2 ^ s * 2 ^ (t - s) := by rw [← Nat.pow_add]; congr 1; omega
  rw [e, ← Nat.div_div_eq_div_mul, ← Nat.div_div_eq_div_mul, a]
theorem pair_same (f : XL → Int → Int) (l : XL) (hs : ShOk f l) (w w' : Nat) (hw : w' ≤ 511) (h1 : w ≤ w') (h2 : (w' : Int) ≤ zOr w (zShl 1 (if f l 2 < f l 3 then f l 2 else f l 3) - 1)) : pairF f l w' = pairF f l w := by
  unfold pairF
  obtain ⟨ha, hb⟩ := hs
  have e0 : zShl 1 0 - 1 = (((2 : Nat) ^ 0 - 1 : Nat) : Int) := by decide
  have e3 : zShl 1 3 - 1 = (((2 : Nat) ^ 3 - 1 : Nat) : Int) := by decide
  have e6 : zShl 1 6 - 1 = (((2 : Nat) ^ 6 - 1 : Nat) : Int) := by decide
  rcases ha with a | a | a <;> rcases hb with b | b | b <;> rw [a, b] at h2 ⊢ <;> simp only [Int.lt_irrefl, if_false, if_true, e0, e3, e6, show (0 : Int) < 3 from by decide, show (0 : Int) < 6 from by decide, show (3 : Int) < 6 from by decide, show ¬ (3 : Int) < 0 from by decide, show ¬ (6 : Int) < 0 from by decide, show ¬ (6 : Int) < 3 from by decide] at h2
  all_goals first
    | rw [show zShr w' 0 = zShr w 0 from dig_same w w' _ 0 (by decide) (by decide) (by decide) hw h1 h2]
    | skip
  all_goals first
    | rw [show zShr w' 3 = zShr w 3 from dig_same w w' _ 3 (by decide) (by decide) (by decide) hw h1 h2]
    | skip
  all_goals first
    | rw [show zShr w' 6 = zShr w 6 from dig_same w w' _ 6 (by decide) (by decide) (by decide) hw h1 h2]
    | skip
theorem and7 (x : Int) (hx : 0 ≤ x) (hx2 : x < 2147483648) : 0 ≤ zAnd x 7 ∧ zAnd x 7 ≤ 7 := by
  have := zAnd_in x 7 hx hx2 (by decide) (by decide)
  omega
theorem shr_in (w : Nat) (t : Int) (hw : w ≤ 511) (ht : t = 0 ∨ t = 3 ∨ t = 6) : 0 ≤ zShr w t ∧ zShr w t < 2147483648 := by
  have : ∀ k : Nat, k < 32 → 0 ≤ zShr w k ∧ zShr w k < 2147483648 := fun k hk => by
    rw [zShr_nat w k hk (by omega)]
    have q : w >>> k < 2147483648 := Nat.lt_of_le_of_lt (Nat.shiftRight_le w k) (by omega)
    generalize w >>> k = z at q ⊢
    omega
  rcases ht with rfl | rfl | rfl
  · exact this 0 (by decide)
  · exact this 3 (by decide)
  · exact this 6 (by decide)
theorem pairF_in (f : XL → Int → Int) (l : XL) (hs : ShOk f l) (w : Int) (h0 : 0 ≤ w) (hw : w ≤ 511) : 0 ≤ pairF f l w ∧ pairF f l w < 64 := by
  obtain ⟨n, rfl⟩ := Int.eq_ofNat_of_zero_le h0
  have a := shr_in n _ (by omega) hs.1
  have b := shr_in n _ (by omega) hs.2
  have c := and7 _ a.1 a.2
  have d := and7 _ b.1 b.2
  unfold pairF
  omega
theorem idA2 : ∀ m ∈ [0, 7, 56, 63, 448, 455, 504, 511], ∀ w : Fin 512, 64 ≤ w.val &&& m → 64 ≤ w.val ∧ m &&& 448 = 448 := by decide +kernel
theorem idB2 : ∀ m ∈ [0, 7, 56, 63, 448, 455, 504, 511], ∀ w : Fin 512, m &&& 448 = 448 → 64 ≤ w.val → w.val &&& m ≠ 0 := by decide +kernel
theorem idA1 : ∀ m ∈ [0, 7, 56, 63, 448, 455, 504, 511], ∀ w : Fin 512, 8 ≤ w.val &&& m → w.val &&& m < 64 → 8 ≤ w.val % 64 ∧ m &&& 56 = 56 := by decide +kernel
theorem idB1 : ∀ m ∈ [0, 7, 56, 63, 448, 455, 504, 511], ∀ w : Fin 512, m &&& 56 = 56 → 8 ≤ w.val % 64 → w.val &&& m ≠ 0 := by decide +kernel
theorem idA0 : ∀ m ∈ [0, 7, 56, 63, 448, 455, 504, 511], ∀ w : Fin 512, w.val &&& m ≠ 0 → w.val &&& m < 8 → 1 ≤ w.val % 8 ∧ m &&& 7 = 7 := by decide +kernel
theorem idB0 : ∀ m ∈ [0, 7, 56, 63, 448, 455, 504, 511], ∀ w : Fin 512, m &&& 7 = 7 → 1 ≤ w.val % 8 → w.val &&& m ≠ 0 := by decide +kernel
theorem IdOk.nat {m : Int} (h : IdOk m) : ∃ n : Nat, m = (n : Int) ∧ n ∈ [0, 7, 56, 63, 448, 455, 504, 511] ∧ n ≤ 511 := by
  rcases h with rfl | rfl | rfl | rfl | rfl | rfl | rfl | rfl
  · exact ⟨0, rfl, by decide, by decide⟩
  · exact ⟨7, rfl, by decide, by decide⟩
  · exact ⟨56, rfl, by decide, by decide⟩
  · exact ⟨63, rfl, by decide, by decide⟩
  · exact ⟨448, rfl, by decide, by decide⟩
  · exact ⟨455, rfl, by decide, by decide⟩
  · exact ⟨504, rfl, by decide, by decide⟩
  · exact ⟨511, rfl, by decide, by decide⟩
theorem mis_idle (m w w' : Int) (hm : IdOk m) (h0 : 0 ≤ w) (hw : w ≤ 511) (hn : zAnd w m ≠ 0) (h1 : w ≤ w') (h2 : w' ≤ zOr w (if zAnd w m < 64 then (if zAnd w m < 8 then 7 else 63) else 511)) : zAnd w' m ≠ 0 := by
  obtain ⟨n, rfl⟩ := Int.eq_ofNat_of_zero_le h0
  obtain ⟨k, rfl⟩ := Int.eq_ofNat_of_zero_le (show 0 ≤ w' by omega)
  obtain ⟨d, rfl, hd, hd2⟩ := hm.nat
  have hk : k ≤ 511 := by
    have := (zOr_511 n (if zAnd n d < 64 then (if zAnd n d < 8 then 7 else 63) else 511) (by omega) (by (repeat' split) <;> decide) (by (repeat' split) <;> decide)).2
    omega
  rw [zAnd_nat k d (by omega) (by omega)]
  rw [zAnd_nat n d (by omega) (by omega)] at hn h2
  have hn2 : n &&& d ≠ 0 := by omega
  suffices k &&& d ≠ 0 by omega
  by_cases c : n &&& d < 64
  · rw [if_pos (by omega)] at h2
    by_cases c2 : n &&& d < 8
    · rw [if_pos (by omega)] at h2
      obtain ⟨a1, a2⟩ := idA0 d hd ⟨n, by omega⟩ hn2 c2
      refine idB0 d hd ⟨k, by omega⟩ a2 ?_
      have e := low_same n k 3 (by decide) hk (by omega) h2
      simp only at a1 ⊢
      omega
    · rw [if_neg (by omega)] at h2
      obtain ⟨a1, a2⟩ := idA1 d hd ⟨n, by omega⟩ (by show 8 ≤ n &&& d; omega) c
      refine idB1 d hd ⟨k, by omega⟩ a2 ?_
      have e := low_same n k 6 (by decide) hk (by omega) h2
      simp only at a1 ⊢
      omega
  · obtain ⟨a1, a2⟩ := idA2 d hd ⟨n, by omega⟩ (by show 64 ≤ n &&& d; omega)
    refine idB2 d hd ⟨k, by omega⟩ a2 ?_
    simp only at a1 ⊢
    omega
/-- what misfit answers -/
def pMis (f : XL → Int → Int) (A B : Int → Int64) (r w : Int) (h : XH) : XO → XH → Prop := fun o h' => h' = h ∧ ∃ v : Int, o = .inl (some (xI v)) ∧ ((v = -1 ∧ Fits f A B r w) ∨ (0 ≤ v ∧ v ≤ 511 ∧ ∀ w' : Int, w ≤ w' → w' ≤ zOr w v → ¬ Fits f A B r w'))
theorem mis_1 {f : XL → Int → Int} {A B : Int → Int64} {r w : Int} {h : XH} {v : Int} (hr : RuleOk f r) (h0 : 0 ≤ w) (hw : w ≤ 511) (hn : zAnd w (f (34, r, 0) 4) ≠ 0) (hv : v = if zAnd w (f (34, r, 0) 4) < 64 then (if zAnd w (f (34, r, 0) 4) < 8 then 7 else 63) else 511) : pMis f A B r w h (.inl (some (xI v))) h := by
  subst hv
  refine ⟨rfl, _, rfl, Or.inr ⟨?_, ?_, fun w' a b c => mis_idle _ w w' hr.1 h0 hw hn a b c.1⟩⟩ <;> (repeat' split) <;> decide
theorem mis_2 {S : XS} {A B : Int → Int64} {r w : Int} {h : XH} {i : Nat} (hr : RuleOk S.1 r) (h0 : 0 ≤ w) (hw : w ≤ 511) (hi : (i : Int) < S.1 (34, r, 0) 2) (hn : ¬ condOk S.1 A B r i w) : pMis S.1 A B r w h (.inl (some (xI (fFree S (36, r, i))))) h := by
  have hs := hr.2.2 i hi
  have hv : 0 ≤ fFree S (36, r, i) ∧ fFree S (36, r, i) ≤ 511 := by
    unfold fFree
    rcases hs with ⟨a | a | a, b | b | b⟩ <;> rw [a, b] <;> decide
  refine ⟨rfl, _, rfl, Or.inr ⟨hv.1, hv.2, fun w' a b c => hn ?_⟩⟩
  obtain ⟨n, rfl⟩ := Int.eq_ofNat_of_zero_le h0
  obtain ⟨k, rfl⟩ := Int.eq_ofNat_of_zero_le (show 0 ≤ w' by omega)
  have hk := (zOr_511 n _ (by omega) hv.1 hv.2).2
  have e := pair_same S.1 (36, r, i) hs n k (by omega) (by omega) b
  have q := c.2 i hi
  unfold condOk at q ⊢
  rw [e] at q
  exact q
theorem mis_3 {f : XL → Int → Int} {A B : Int → Int64} {r w : Int} {h : XH} (hf : Fits f A B r w) : pMis f A B r w h (.inl (some (xI (-1)))) h := ⟨rfl, _, rfl, Or.inl ⟨rfl, hf⟩⟩
/-- some way below n by which the rule comes to the pair p -/
def upto (f : XL → Int → Int) (A B : Int → Int64) (r : Int) (n : Int) (p : Nat) : Prop := ∃ w : Int, 0 ≤ w ∧ w < n ∧ Fits f A B r w ∧ pairF f (37, r, 0) w = p
theorem upto_fit {f : XL → Int → Int} {A B : Int → Int64} {r w : Int} {H : Int64} (hr : RuleOk f r) (h0 : 0 ≤ w) (hw : w ≤ 511) (hH : ∀ p : Nat, p < 64 → (bitJ H p ↔ upto f A B r w p)) (hf : Fits f A B r w) : ∀ p : Nat, p < 64 → (bitJ (H ||| jShl 1 (pairF f (37, r, 0) w)) p ↔ upto f A B r (zOr w 0 + 1) p) := by
  intro p hp
  have a := pairF_in f _ hr.2.1 w h0 hw
  obtain ⟨q, hq⟩ := Int.eq_ofNat_of_zero_le a.1
  obtain ⟨n, rfl⟩ := Int.eq_ofNat_of_zero_le h0
  rw [hq, bitJ_or _ _ _ hp, hH p hp, bitJ_one _ _ (by omega) hp, zOr_z n (by omega)]
  constructor
  · rintro (⟨x, x1, x2, x3⟩ | rfl)
    · exact ⟨x, x1, by omega, x3⟩
    · exact ⟨n, by omega, by omega, hf, hq⟩
  · rintro ⟨x, x1, x2, x3, x4⟩
    by_cases e : x = n
    · subst e; right; omega
    · left; exact ⟨x, x1, by omega, x3, x4⟩
theorem upto_skip {f : XL → Int → Int} {A B : Int → Int64} {r w v : Int} {H : Int64} (h0 : 0 ≤ w) (hw : w ≤ 511) (hv : 0 ≤ v) (hv2 : v ≤ 511) (hH : ∀ p : Nat, p < 64 → (bitJ H p ↔ upto f A B r w p)) (hf : ∀ w' : Int, w ≤ w' → w' ≤ zOr w v → ¬ Fits f A B r w') : ∀ p : Nat, p < 64 → (bitJ H p ↔ upto f A B r (zOr w v + 1) p) := by
  intro p hp
  obtain ⟨n, rfl⟩ := Int.eq_ofNat_of_zero_le h0
  have a := zOr_511 n v (by omega) hv hv2
  rw [hH p hp]
  constructor
  · rintro ⟨x, x1, x2, x3⟩
    exact ⟨x, x1, by omega, x3⟩
  · rintro ⟨x, x1, x2, x3, x4⟩
    by_cases e : x < n
    · exact ⟨x, x1, e, x3, x4⟩
    · exact absurd x3 (hf x (by omega) (by omega))
noncomputable def headsF (f : XL → Int → Int) (A B : Int → Int64) (r : Int) : Int64 := jOf (upto f A B r 512)
theorem zOr_way {w v : Int} (h0 : 0 ≤ w) (hw : w ≤ 511) (hv : 0 ≤ v) (hv2 : v ≤ 511) : w ≤ zOr w v ∧ zOr w v ≤ 511 := by
  obtain ⟨n, rfl⟩ := Int.eq_ofNat_of_zero_le h0
  exact zOr_511 n v (by omega) hv hv2
