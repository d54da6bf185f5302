abbrev R_layer (S : XS) (i r : Int) : Nat → Int → XS → Prop := fun k9 v9 D9 => (k9 = 0 ∧ (0 ≤ i ∧ i < S.1 (0, 0, 0) 6) ∧ (0 ≤ r ∧ r < 6) ∧ ∃ g, LyG S.1 (onN S.1 i (S.1 (9, i, 0) 3).toNat) g ∧ v9 = g r ∧ S = D9) ∨ (k9 = 1 ∧ ¬ (0 ≤ i ∧ i < S.1 (0, 0, 0) 6) ∧ S = D9) ∨ (k9 = 2 ∧ (0 ≤ i ∧ i < S.1 (0, 0, 0) 6) ∧ ¬ (0 ≤ r ∧ r < 6) ∧ S = D9)
set_option maxHeartbeats 4000000 in
set_option maxRecDepth 100000 in
theorem cu_layer (S : XS) (hI : LwI S) (i r : Int) (zi : zR i) (zr : zR r)  : X mX8_layer 0 (xEnt mX8_layer [xR (0, 0, 0), xI i, xI r]) [] (hp S) 6 36 (CO S ["java/lang/IndexOutOfBoundsException", "java/lang/IllegalArgumentException"] (R_layer S i r)) := by
  refine X.weak (c_layer S hI.1 i r zi zr ) (by decide) (by decide) (fun o h' qq => ?_)
  rcases qq with ⟨c1, qq⟩ | ⟨c1, qq⟩
  · rcases qq with ⟨c2, qq⟩ | ⟨c2, qq⟩
    · obtain ⟨g, hg, qq⟩ := qq
      exact CO.q hI qq (Or.inl ⟨rfl, c1, c2, g, hg, rfl, rfl⟩)
    · exact CO.x hI qq 1 rfl (Or.inr (Or.inr ⟨rfl, c1, (c2), rfl⟩))
  · exact CO.x hI qq 0 rfl (Or.inr (Or.inl ⟨rfl, (c1), rfl⟩))
abbrev R_rank (S : XS) (i n t q : Int) : Nat → Int → XS → Prop := fun k9 v9 D9 => (k9 = 0 ∧ ((0 ≤ i ∧ i < S.1 (0, 0, 0) 6) ∧ 0 ≤ n ∧ n < S.1 (9, i, 0) 3 + 1) ∧ ((0 ≤ t ∧ t < 24) ∧ 0 ≤ q ∧ q < 384) ∧ (bI (hB S.1 i n.toNat t q) = 1) ∧ ∃ rk ru wy, Rsn S.1 i n.toNat t rk ru wy ∧ v9 = rk q ∧ S = D9) ∨ (k9 = 1 ∧ ¬ ((0 ≤ i ∧ i < S.1 (0, 0, 0) 6) ∧ 0 ≤ n ∧ n < S.1 (9, i, 0) 3 + 1) ∧ S = D9) ∨ (k9 = 2 ∧ ((0 ≤ i ∧ i < S.1 (0, 0, 0) 6) ∧ 0 ≤ n ∧ n < S.1 (9, i, 0) 3 + 1) ∧ ¬ ((0 ≤ t ∧ t < 24) ∧ 0 ≤ q ∧ q < 384) ∧ S = D9) ∨ (k9 = 3 ∧ ((0 ≤ i ∧ i < S.1 (0, 0, 0) 6) ∧ 0 ≤ n ∧ n < S.1 (9, i, 0) 3 + 1) ∧ ((0 ≤ t ∧ t < 24) ∧ 0 ≤ q ∧ q < 384) ∧ ¬ (bI (hB S.1 i n.toNat t q) = 1) ∧ S = D9)
set_option maxHeartbeats 4000000 in
set_option maxRecDepth 100000 in
theorem cu_rank (S : XS) (hI : LwI S) (i n t q : Int) (zi : zR i) (zn : zR n) (zt : zR t) (zq : zR q)  : X mX8_rank 0 (xEnt mX8_rank [xR (0, 0, 0), xI i, xI n, xI t, xI q]) [] (hp S) 6 36 (CO S ["java/lang/IndexOutOfBoundsException", "java/lang/IllegalArgumentException", "java/util/NoSuchElementException"] (R_rank S i n t q)) := by
  refine X.weak (c_rank S hI.1 i n t q zi zn zt zq ) (by decide) (by decide) (fun o h' qq => ?_)
  rcases qq with ⟨c1, qq⟩ | ⟨c1, qq⟩
  · rcases qq with ⟨c2, qq⟩ | ⟨c2, qq⟩
    · rcases qq with ⟨c3, qq⟩ | ⟨c3, qq⟩
      · obtain ⟨rk, ru, wy, hr, qq⟩ := qq
        exact CO.q hI qq (Or.inl ⟨rfl, c1, c2, bI_1.mpr c3, rk, ru, wy, hr, rfl, rfl⟩)
      · exact CO.x hI qq 2 rfl (Or.inr (Or.inr (Or.inr ⟨rfl, c1, c2, (fun z => c3 (bI_1.mp z)), rfl⟩)))
    · exact CO.x hI qq 1 rfl (Or.inr (Or.inr (Or.inl ⟨rfl, c1, (c2), rfl⟩)))
  · exact CO.x hI qq 0 rfl (Or.inr (Or.inl ⟨rfl, (c1), rfl⟩))
