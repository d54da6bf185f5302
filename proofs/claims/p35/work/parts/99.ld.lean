theorem room_lt {S T : XS} (hw : WI S) (h : JInv S) {b : Int} (hs : S.1 (9, b, 0) 3 < 60) (c14 : ∀ l : Int, T.1 (14, l, 0) = S.1 (14, l, 0)) (c30 : ∀ l : Int, T.2.1 (30, l, 0) = S.2.1 (30, l, 0) ∧ T.2.1 (31, l, 0) = S.2.1 (31, l, 0)) (c7 : T.1 (0, 0, 0) 7 = S.1 (0, 0, 0) 7) : CapOk T b ∧ EndOk T b := by
  have h7 := wf0_7 hw
  have h6 := wf0_6 hw
  have key : ∀ l : Int, 0 ≤ l → l < S.1 (0, 0, 0) 7 → S.1 (14, l, 0) 2 = b → S.1 (14, l, 0) 8 ≤ 118 ∧ S.1 (14, l, 0) 9 ≤ 64 * 118 := fun l l0 l1 hb => by
    obtain ⟨k1, k2, k3, k4⟩ := h.2.2.1 l l0 l1
    have f2 := wf14_2 hw l0 (show l < 5 by omega)
    rw [hb] at k2 k3 k4 f2
    have s3 := wf9_3 hw (b := b) f2.1 (by omega)
    have fg := fgc_in S.1 b (S.1 (9, b, 0) 3).toNat
    unfold szf at k4
    obtain ⟨q1, q2, q3, q4, -⟩ := k1
    have ql := quF_len (S.1 (14, l, 0) 3) (S.2.1 (30, l, 0)) (S.2.1 (31, l, 0)) (S.1 (14, l, 0) 7) (S.1 (14, l, 0) 8 - S.1 (14, l, 0) 7).toNat
    have ql2 : ((quC S l).length : Int) ≤ 64 * (S.1 (14, l, 0) 8 - S.1 (14, l, 0) 7) := by
      unfold quC; omega
    exact ⟨by omega, by omega⟩
  refine ⟨fun l l0 l1 hb => ?_, fun l l0 l1 hb _ => ?_⟩
  · rw [c7] at l1
    rw [c14] at hb ⊢
    have f64 := fBits_64 (lv T b l ^^^ T.2.1 (14, l, 0) 6)
    have := (key l l0 l1 hb).2
    omega
  · rw [c7] at l1
    rw [c14] at hb ⊢
    have := (key l l0 l1 hb).1
    omega
theorem MdE.inf {S C : XS} (h : MdE S C) (b : Int) (n : Nat) : MdE S (sInf C b n) := ⟨fun k x y hk => by rw [(sInf_L C b n).i (by omega)]; exact h.1 k x y hk, by rw [(sInf_L C b n).2.2]; exact h.2⟩
theorem MdE.app (S : XS) (b r s a f t c : Int) : MdE S (sApp S b r s a f t c) := ⟨fun k x y hk => sApp_k S b r s a f t c ⟨by omega, by omega, by omega⟩ x y, rfl⟩
/-! the law's calls, one by one -/
abbrev R_knowing (S : XS) (i : Int) : Nat → Int → XS → Prop := fun k9 v9 D9 => (k9 = 0 ∧ (0 ≤ i ∧ i < S.1 (0, 0, 0) 6) ∧ v9 = S.1 (9, i, 0) 3 ∧ S = D9) ∨ (k9 = 1 ∧ ¬ (0 ≤ i ∧ i < S.1 (0, 0, 0) 6) ∧ S = D9)
set_option maxHeartbeats 4000000 in
set_option maxRecDepth 100000 in
theorem cu_knowing (S : XS) (hI : LwI S) (i : Int) (zi : zR i)  : X mX8_knowing 0 (xEnt mX8_knowing [xR (0, 0, 0), xI i]) [] (hp S) 6 36 (CO S ["java/lang/IndexOutOfBoundsException"] (R_knowing S i)) := by
  refine X.weak (c_knowing S hI.1.1 i zi ) (by decide) (by decide) (fun o h' qq => ?_)
  rcases qq with ⟨c1, qq⟩ | ⟨c1, qq⟩
  · exact CO.q hI (pQ.of hI qq) (Or.inl ⟨rfl, c1, rfl, rfl⟩)
  · exact CO.x hI (pX.of hI qq) 0 rfl (Or.inr ⟨rfl, (c1), rfl⟩)
abbrev R_isOn (S : XS) (i r n : Int) : Nat → Int → XS → Prop := fun k9 v9 D9 => (k9 = 0 ∧ ((0 ≤ i ∧ i < S.1 (0, 0, 0) 6) ∧ (0 ≤ r ∧ r < S.1 (4, 0, 0) 2) ∧ 0 ≤ n ∧ n < S.1 (9, i, 0) 3 + 1) ∧ v9 = bI (bitI (onN S.1 i n.toNat) r) ∧ S = D9) ∨ (k9 = 1 ∧ ¬ ((0 ≤ i ∧ i < S.1 (0, 0, 0) 6) ∧ (0 ≤ r ∧ r < S.1 (4, 0, 0) 2) ∧ 0 ≤ n ∧ n < S.1 (9, i, 0) 3 + 1) ∧ S = D9)
set_option maxHeartbeats 4000000 in
set_option maxRecDepth 100000 in
theorem cu_isOn (S : XS) (hI : LwI S) (i r n : Int) (zi : zR i) (zr : zR r) (zn : zR n)  : X mX8_isOn 0 (xEnt mX8_isOn [xR (0, 0, 0), xI i, xI r, xI n]) [] (hp S) 6 36 (CO S ["java/lang/IndexOutOfBoundsException"] (R_isOn S i r n)) := by
  refine X.weak (c_isOn S hI.1.1 i r n zi zr zn ) (by decide) (by decide) (fun o h' qq => ?_)
  rcases qq with ⟨c1, qq⟩ | ⟨c1, qq⟩
  · exact CO.q hI (pQ.of hI qq) (Or.inl ⟨rfl, c1, rfl, rfl⟩)
  · exact CO.x hI (pX.of hI qq) 0 rfl (Or.inr ⟨rfl, (c1), rfl⟩)
abbrev R_holds (S : XS) (i n t q : Int) : Nat → Int → XS → Prop := fun k9 v9 D9 => (k9 = 0 ∧ ((0 ≤ i ∧ i < S.1 (0, 0, 0) 6) ∧ 0 ≤ n ∧ n < S.1 (9, i, 0) 3 + 1) ∧ ((0 ≤ t ∧ t < 24) ∧ 0 ≤ q ∧ q < 384) ∧ v9 = bI (hB S.1 i n.toNat t q) ∧ S = D9) ∨ (k9 = 1 ∧ ¬ ((0 ≤ i ∧ i < S.1 (0, 0, 0) 6) ∧ 0 ≤ n ∧ n < S.1 (9, i, 0) 3 + 1) ∧ S = D9) ∨ (k9 = 2 ∧ ((0 ≤ i ∧ i < S.1 (0, 0, 0) 6) ∧ 0 ≤ n ∧ n < S.1 (9, i, 0) 3 + 1) ∧ ¬ ((0 ≤ t ∧ t < 24) ∧ 0 ≤ q ∧ q < 384) ∧ S = D9)
set_option maxHeartbeats 4000000 in
set_option maxRecDepth 100000 in
theorem cu_holds (S : XS) (hI : LwI S) (i n t q : Int) (zi : zR i) (zn : zR n) (zt : zR t) (zq : zR q)  : X mX8_holds 0 (xEnt mX8_holds [xR (0, 0, 0), xI i, xI n, xI t, xI q]) [] (hp S) 6 36 (CO S ["java/lang/IndexOutOfBoundsException", "java/lang/IllegalArgumentException"] (R_holds S i n t q)) := by
  refine X.weak (c_holds S hI.1 i n t q zi zn zt zq ) (by decide) (by decide) (fun o h' qq => ?_)
  rcases qq with ⟨c1, qq⟩ | ⟨c1, qq⟩
  · rcases qq with ⟨c2, qq⟩ | ⟨c2, qq⟩
    · exact CO.q hI qq (Or.inl ⟨rfl, c1, c2, rfl, rfl⟩)
    · exact CO.x hI qq 1 rfl (Or.inr (Or.inr ⟨rfl, c1, (c2), rfl⟩))
  · exact CO.x hI qq 0 rfl (Or.inr (Or.inl ⟨rfl, (c1), rfl⟩))
abbrev R_holdsAnew (S : XS) (i n t q : Int) : Nat → Int → XS → Prop := fun k9 v9 D9 => (k9 = 0 ∧ ((0 ≤ i ∧ i < S.1 (0, 0, 0) 6) ∧ 0 ≤ n ∧ n < S.1 (9, i, 0) 3 + 1) ∧ ((0 ≤ t ∧ t < 24) ∧ 0 ≤ q ∧ q < 384) ∧ v9 = bI (hB S.1 i n.toNat t q) ∧ S = D9) ∨ (k9 = 1 ∧ ¬ ((0 ≤ i ∧ i < S.1 (0, 0, 0) 6) ∧ 0 ≤ n ∧ n < S.1 (9, i, 0) 3 + 1) ∧ S = D9) ∨ (k9 = 2 ∧ ((0 ≤ i ∧ i < S.1 (0, 0, 0) 6) ∧ 0 ≤ n ∧ n < S.1 (9, i, 0) 3 + 1) ∧ ¬ ((0 ≤ t ∧ t < 24) ∧ 0 ≤ q ∧ q < 384) ∧ S = D9)
set_option maxHeartbeats 4000000 in
set_option maxRecDepth 100000 in
theorem cu_holdsAnew (S : XS) (hI : LwI S) (i n t q : Int) (zi : zR i) (zn : zR n) (zt : zR t) (zq : zR q)  : X mX8_holdsAnew 0 (xEnt mX8_holdsAnew [xR (0, 0, 0), xI i, xI n, xI t, xI q]) [] (hp S) 6 36 (CO S ["java/lang/IndexOutOfBoundsException", "java/lang/IllegalArgumentException"] (R_holdsAnew S i n t q)) := by
  refine X.weak (c_holdsAnew S hI.1 i n t q zi zn zt zq ) (by decide) (by decide) (fun o h' qq => ?_)
  rcases qq with ⟨c1, qq⟩ | ⟨c1, qq⟩
  · rcases qq with ⟨c2, qq⟩ | ⟨c2, qq⟩
    · exact CO.q hI qq (Or.inl ⟨rfl, c1, c2, rfl, rfl⟩)
    · exact CO.x hI qq 1 rfl (Or.inr (Or.inr ⟨rfl, c1, (c2), rfl⟩))
  · exact CO.x hI qq 0 rfl (Or.inr (Or.inl ⟨rfl, (c1), rfl⟩))
abbrev R_count (S : XS) (i n t r : Int) : Nat → Int → XS → Prop := fun k9 v9 D9 => (k9 = 0 ∧ ((0 ≤ i ∧ i < S.1 (0, 0, 0) 6) ∧ 0 ≤ n ∧ n < S.1 (9, i, 0) 3 + 1) ∧ ((0 ≤ t ∧ t < 24) ∧ 0 ≤ r ∧ r < 6) ∧ v9 = fBits (hl S.1 i n.toNat t r) ∧ S = D9) ∨ (k9 = 1 ∧ ¬ ((0 ≤ i ∧ i < S.1 (0, 0, 0) 6) ∧ 0 ≤ n ∧ n < S.1 (9, i, 0) 3 + 1) ∧ S = D9) ∨ (k9 = 2 ∧ ((0 ≤ i ∧ i < S.1 (0, 0, 0) 6) ∧ 0 ≤ n ∧ n < S.1 (9, i, 0) 3 + 1) ∧ ¬ ((0 ≤ t ∧ t < 24) ∧ 0 ≤ r ∧ r < 6) ∧ S = D9)
set_option maxHeartbeats 4000000 in
set_option maxRecDepth 100000 in
theorem cu_count (S : XS) (hI : LwI S) (i n t r : Int) (zi : zR i) (zn : zR n) (zt : zR t) (zr : zR r)  : X mX8_count 0 (xEnt mX8_count [xR (0, 0, 0), xI i, xI n, xI t, xI r]) [] (hp S) 6 36 (CO S ["java/lang/IndexOutOfBoundsException", "java/lang/IllegalArgumentException"] (R_count S i n t r)) := by
  refine X.weak (c_count S hI.1 i n t r zi zn zt zr ) (by decide) (by decide) (fun o h' qq => ?_)
  rcases qq with ⟨c1, qq⟩ | ⟨c1, qq⟩
  · rcases qq with ⟨c2, qq⟩ | ⟨c2, qq⟩
    · exact CO.q hI qq (Or.inl ⟨rfl, c1, c2, rfl, rfl⟩)
    · exact CO.x hI qq 1 rfl (Or.inr (Or.inr ⟨rfl, c1, (c2), rfl⟩))
  · exact CO.x hI qq 0 rfl (Or.inr (Or.inl ⟨rfl, (c1), rfl⟩))
abbrev R_tell (S : XS) (i q x y : Int) : Nat → Int → XS → Prop := fun k9 v9 D9 => (k9 = 0 ∧ (0 ≤ i ∧ i < S.1 (0, 0, 0) 6) ∧ ((0 ≤ q ∧ q < 384) ∧ (0 ≤ x ∧ x < 24) ∧ (0 ≤ y ∧ y < 24) ∧ x ≤ y) ∧ (bI (Riv S.1 i q x y) = 0) ∧ (S.1 (9, i, 0) 3 < 60) ∧ v9 = S.1 (9, i, 0) 3 + 1 ∧ sInf (sApp S i 0 1 q x y (-1)) i (S.1 (0, 0, 0) 7).toNat = D9) ∨ (k9 = 1 ∧ ¬ (0 ≤ i ∧ i < S.1 (0, 0, 0) 6) ∧ S = D9) ∨ (k9 = 2 ∧ (0 ≤ i ∧ i < S.1 (0, 0, 0) 6) ∧ ¬ ((0 ≤ q ∧ q < 384) ∧ (0 ≤ x ∧ x < 24) ∧ (0 ≤ y ∧ y < 24) ∧ x ≤ y) ∧ S = D9) ∨ (k9 = 3 ∧ (0 ≤ i ∧ i < S.1 (0, 0, 0) 6) ∧ ((0 ≤ q ∧ q < 384) ∧ (0 ≤ x ∧ x < 24) ∧ (0 ≤ y ∧ y < 24) ∧ x ≤ y) ∧ ¬ (bI (Riv S.1 i q x y) = 0) ∧ S = D9) ∨ (k9 = 4 ∧ (0 ≤ i ∧ i < S.1 (0, 0, 0) 6) ∧ ((0 ≤ q ∧ q < 384) ∧ (0 ≤ x ∧ x < 24) ∧ (0 ≤ y ∧ y < 24) ∧ x ≤ y) ∧ (bI (Riv S.1 i q x y) = 0) ∧ ¬ (S.1 (9, i, 0) 3 < 60) ∧ S = D9)
set_option maxHeartbeats 4000000 in
set_option maxRecDepth 100000 in
theorem cu_tell (S : XS) (hI : LwI S) (i q x y : Int) (zi : zR i) (zq : zR q) (zx : zR x) (zy : zR y)  : X mX8_tell 0 (xEnt mX8_tell [xR (0, 0, 0), xI i, xI q, xI x, xI y]) [] (hp S) 6 36 (CO S ["java/lang/IndexOutOfBoundsException", "java/lang/IllegalArgumentException", "java/lang/UnsupportedOperationException", "java/lang/IllegalStateException"] (R_tell S i q x y)) := by
  have h6 := wf0_6 hI.1.1
  have h7 := wf0_7 hI.1.1
  have hrl : S.1 (9, i, 0) 3 < 60 → CapOk (sApp S i 0 1 q x y (-1)) i ∧ EndOk (sApp S i 0 1 q x y (-1)) i := fun hs => room_lt hI.1.1 hI.2.2.2.1 hs (fun l => sApp_k _ _ _ _ _ _ _ _ (by decide) l 0) (fun _ => ⟨rfl, rfl⟩) (by rw [sApp_k _ _ _ _ _ _ _ _ (by decide)])
  refine X.weak (c_tell9 S hI.1 i q x y zi zq zx zy (fun hs => (hrl hs).1)) (by decide) (by decide) (fun o h' qq => ?_)
  rcases qq with ⟨c1, qq⟩ | ⟨c1, qq⟩
  · rcases qq with ⟨c2, qq⟩ | ⟨c2, qq⟩
    · rcases qq with ⟨c3, qq⟩ | ⟨c3, qq⟩
      · rcases qq with ⟨c4, qq⟩ | ⟨c4, qq⟩
        · have wA : CB (sApp S i 0 1 q x y (-1)) := hI.1.app (by omega) (by omega) (by omega) (Or.inl rfl) (Or.inr rfl) (by omega) (by omega) (by omega) (by omega) (fun z => absurd rfl z) (fun z => absurd rfl z)
          have ji : JInv (sInf (sApp S i 0 1 q x y (-1)) i (S.1 (0, 0, 0) 7).toNat) := (JInv.app hI.1 hI.2.2.2.1 (by omega) (by omega) (fun _ => by omega)).inf wA.1 _ (by rw [sApp_k S i 0 1 q x y (-1) (k := 0) (by decide)]; omega)
          have em : MdE S (sInf (sApp S i 0 1 q x y (-1)) i (S.1 (0, 0, 0) 7).toNat) := (MdE.app S i 0 1 q x y (-1)).inf i _
          exact CO.n qq em ji (Or.inl ⟨rfl, c1, c2, bI_0.mpr c3, c4, rfl, rfl⟩)
        · exact CO.x hI qq 3 rfl (Or.inr (Or.inr (Or.inr (Or.inr ⟨rfl, c1, c2, bI_0.mpr c3, (c4), rfl⟩))))
      · exact CO.x hI qq 2 rfl (Or.inr (Or.inr (Or.inr (Or.inl ⟨rfl, c1, c2, (fun z => c3 (bI_0.mp z)), rfl⟩))))
    · exact CO.x hI qq 1 rfl (Or.inr (Or.inr (Or.inl ⟨rfl, c1, (c2), rfl⟩)))
  · exact CO.x hI qq 0 rfl (Or.inr (Or.inl ⟨rfl, (c1), rfl⟩))
abbrev R_untell (S : XS) (i q x y : Int) : Nat → Int → XS → Prop := fun k9 v9 D9 => (k9 = 0 ∧ (0 ≤ i ∧ i < S.1 (0, 0, 0) 6) ∧ ((0 ≤ q ∧ q < 384) ∧ (0 ≤ x ∧ x < 24) ∧ (0 ≤ y ∧ y < 24) ∧ x ≤ y) ∧ (S.1 (9, i, 0) 3 < 60) ∧ v9 = S.1 (9, i, 0) 3 + 1 ∧ sInf (sApp S i 0 0 q x y (-1)) i (S.1 (0, 0, 0) 7).toNat = D9) ∨ (k9 = 1 ∧ ¬ (0 ≤ i ∧ i < S.1 (0, 0, 0) 6) ∧ S = D9) ∨ (k9 = 2 ∧ (0 ≤ i ∧ i < S.1 (0, 0, 0) 6) ∧ ¬ ((0 ≤ q ∧ q < 384) ∧ (0 ≤ x ∧ x < 24) ∧ (0 ≤ y ∧ y < 24) ∧ x ≤ y) ∧ S = D9) ∨ (k9 = 3 ∧ (0 ≤ i ∧ i < S.1 (0, 0, 0) 6) ∧ ((0 ≤ q ∧ q < 384) ∧ (0 ≤ x ∧ x < 24) ∧ (0 ≤ y ∧ y < 24) ∧ x ≤ y) ∧ ¬ (S.1 (9, i, 0) 3 < 60) ∧ S = D9)
set_option maxHeartbeats 4000000 in
set_option maxRecDepth 100000 in
theorem cu_untell (S : XS) (hI : LwI S) (i q x y : Int) (zi : zR i) (zq : zR q) (zx : zR x) (zy : zR y)  : X mX8_untell 0 (xEnt mX8_untell [xR (0, 0, 0), xI i, xI q, xI x, xI y]) [] (hp S) 6 36 (CO S ["java/lang/IndexOutOfBoundsException", "java/lang/IllegalArgumentException", "java/lang/IllegalStateException"] (R_untell S i q x y)) := by
  have h6 := wf0_6 hI.1.1
  have h7 := wf0_7 hI.1.1
  have hrl : S.1 (9, i, 0) 3 < 60 → CapOk (sApp S i 0 0 q x y (-1)) i ∧ EndOk (sApp S i 0 0 q x y (-1)) i := fun hs => room_lt hI.1.1 hI.2.2.2.1 hs (fun l => sApp_k _ _ _ _ _ _ _ _ (by decide) l 0) (fun _ => ⟨rfl, rfl⟩) (by rw [sApp_k _ _ _ _ _ _ _ _ (by decide)])
  refine X.weak (c_untell9 S hI.1 i q x y zi zq zx zy (fun hs => (hrl hs).1)) (by decide) (by decide) (fun o h' qq => ?_)
  rcases qq with ⟨c1, qq⟩ | ⟨c1, qq⟩
  · rcases qq with ⟨c2, qq⟩ | ⟨c2, qq⟩
    · rcases qq with ⟨c3, qq⟩ | ⟨c3, qq⟩
      · have wA : CB (sApp S i 0 0 q x y (-1)) := hI.1.app (by omega) (by omega) (by omega) (Or.inl rfl) (Or.inl rfl) (by omega) (by omega) (by omega) (by omega) (fun z => absurd rfl z) (fun z => absurd rfl z)
        have ji : JInv (sInf (sApp S i 0 0 q x y (-1)) i (S.1 (0, 0, 0) 7).toNat) := (JInv.app hI.1 hI.2.2.2.1 (by omega) (by omega) (fun _ => by omega)).inf wA.1 _ (by rw [sApp_k S i 0 0 q x y (-1) (k := 0) (by decide)]; omega)
        have em : MdE S (sInf (sApp S i 0 0 q x y (-1)) i (S.1 (0, 0, 0) 7).toNat) := (MdE.app S i 0 0 q x y (-1)).inf i _
        exact CO.n qq em ji (Or.inl ⟨rfl, c1, c2, c3, rfl, rfl⟩)
      · exact CO.x hI qq 2 rfl (Or.inr (Or.inr (Or.inr ⟨rfl, c1, c2, (c3), rfl⟩)))
    · exact CO.x hI qq 1 rfl (Or.inr (Or.inr (Or.inl ⟨rfl, c1, (c2), rfl⟩)))
  · exact CO.x hI qq 0 rfl (Or.inr (Or.inl ⟨rfl, (c1), rfl⟩))
