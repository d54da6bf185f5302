/-! the law's calls: rules, what is unique, seals, layers -/
theorem pN.of {D : XS} {v : XV} (cD : CB D) {o : XO} {h' : XH} (h : pRet v (hp D) o h') : pN D (some v) o h' := by
  obtain ⟨rfl, rfl⟩ := h
  exact ⟨rfl, D, rfl, QEq.rf D, cD⟩
abbrev R_setUnique (S : XS) (i z : Int) : Nat → Int → XS → Prop := fun k9 v9 D9 => (k9 = 0 ∧ (0 ≤ i ∧ i < 6) ∧ v9 = S.1 (3, 0, 0) i ∧ putI S (3, 0, 0) i z = D9) ∨ (k9 = 1 ∧ ¬ (0 ≤ i ∧ i < 6) ∧ S = D9)
set_option maxHeartbeats 4000000 in
set_option maxRecDepth 100000 in
theorem cu_setUnique (S : XS) (hI : LwI S) (i z : Int) (zi : zR i) (hz1 : z = 0 ∨ z = 1)  : X mX8_setUnique 0 (xEnt mX8_setUnique [xR (0, 0, 0), xI i, xI z]) [] (hp S) 6 36 (CO S ["java/lang/IllegalArgumentException"] (R_setUnique S i z)) := by
  have h6 := wf0_6 hI.1.1
  have h7 := wf0_7 hI.1.1
  have h4 := wf4_2 hI.1.1
  refine X.weak (c_setUnique S hI.1.1 i z zi hz1) (by decide) (by decide) (fun o h' qq => ?_)
  rcases qq with ⟨c1, qq⟩ | ⟨c1, qq⟩
  · have cD : CB (putI S (3, 0, 0) i z) := hI.1.gen (wpa3 hI.1.1 hz1) (fun k x y _ b _ _ _ => putI_o (nK b _ _ _ _)) (by rw [putI_o (nK (by decide) _ _ _ _)]) (fun b' => by rw [putI_o (nK (by decide) _ _ _ _)]) (fun _ _ _ _ _ _ => rfl)
    have ji : JInv (putI S (3, 0, 0) i z) := hI.2.2.2.1.to (fun k x y hk => putI_o (nK (by omega) _ _ _ _)) (fun _ _ _ _ => rfl)
    have em : MdE S (putI S (3, 0, 0) i z) := ⟨fun k x y hk => putI_o (nK (by omega) _ _ _ _), rfl⟩
    exact CO.n (pN.of cD qq) em ji (Or.inl ⟨rfl, c1, rfl, rfl⟩)
  · exact CO.x hI (pX.of hI qq) 0 rfl (Or.inr ⟨rfl, (c1), rfl⟩)
abbrev R_addRule (S : XS) (h a b c u v : Int) : Nat → Int → XS → Prop := fun k9 v9 D9 => (k9 = 0 ∧ (((0 ≤ h ∧ h < 6) ∧ (0 ≤ a ∧ a < 3) ∧ (0 ≤ b ∧ b < 3)) ∧ (0 ≤ c ∧ c < 6) ∧ (0 ≤ u ∧ u < 3) ∧ (0 ≤ v ∧ v < 3)) ∧ (S.1 (4, 0, 0) 2 < 10) ∧ v9 = S.1 (4, 0, 0) 2 ∧ sAddR S h a b c u v = D9) ∨ (k9 = 1 ∧ ¬ (((0 ≤ h ∧ h < 6) ∧ (0 ≤ a ∧ a < 3) ∧ (0 ≤ b ∧ b < 3)) ∧ (0 ≤ c ∧ c < 6) ∧ (0 ≤ u ∧ u < 3) ∧ (0 ≤ v ∧ v < 3)) ∧ S = D9) ∨ (k9 = 2 ∧ (((0 ≤ h ∧ h < 6) ∧ (0 ≤ a ∧ a < 3) ∧ (0 ≤ b ∧ b < 3)) ∧ (0 ≤ c ∧ c < 6) ∧ (0 ≤ u ∧ u < 3) ∧ (0 ≤ v ∧ v < 3)) ∧ ¬ (S.1 (4, 0, 0) 2 < 10) ∧ S = D9)
set_option maxHeartbeats 4000000 in
set_option maxRecDepth 100000 in
theorem cu_addRule (S : XS) (hI : LwI S) (h a b c u v : Int) (zh : zR h) (za : zR a) (zb : zR b) (zc : zR c) (zu : zR u) (zv : zR v)  : X mX8_addRule 0 (xEnt mX8_addRule [xR (0, 0, 0), xI h, xI a, xI b, xI c, xI u, xI v]) [] (hp S) 6 36 (CO S ["java/lang/IllegalArgumentException", "java/lang/IllegalStateException"] (R_addRule S h a b c u v)) := by
  have h6 := wf0_6 hI.1.1
  have h7 := wf0_7 hI.1.1
  have h4 := wf4_2 hI.1.1
  refine X.weak (c_addRule S hI.1 h a b c u v zh za zb zc zu zv hI.2.2.2.1.1) (by decide) (by decide) (fun o h' qq => ?_)
  rcases qq with ⟨c1, qq⟩ | ⟨c1, qq⟩
  · rcases qq with ⟨c2, qq⟩ | ⟨c2, qq⟩
    · have cD : CB (sAddR S h a b c u v) := hI.1.addR hI.2.2.2.1.1 (by omega) (by omega) (by omega) (by omega) (by omega) (by omega) (by omega)
      have ji : JInv (sAddR S h a b c u v) := hI.2.2.2.1.addR hI.1 cD.1
      have em : MdE S (sAddR S h a b c u v) := ⟨fun k x y hk => addR_o S h a b c u v (nK (by omega) _ _ _ _) (Or.inl (show k ≠ 36 by omega)) (nK (by omega) _ _ _ _) (nK (by omega) _ _ _ _), by rw [addR_j]⟩
      exact CO.n qq em ji (Or.inl ⟨rfl, c1, c2, rfl, rfl⟩)
    · exact CO.x hI qq 1 rfl (Or.inr (Or.inr ⟨rfl, c1, (c2), rfl⟩))
  · exact CO.x hI qq 0 rfl (Or.inr (Or.inl ⟨rfl, (c1), rfl⟩))
abbrev R_addCondition (S : XS) (r c u v z : Int) : Nat → Int → XS → Prop := fun k9 v9 D9 => (k9 = 0 ∧ (0 ≤ r ∧ r < S.1 (4, 0, 0) 2) ∧ ((0 ≤ c ∧ c < 6) ∧ (0 ≤ u ∧ u < 3) ∧ (0 ≤ v ∧ v < 3)) ∧ (S.1 (34, r, 0) 5 = 0 ∧ S.1 (34, r, 0) 2 < 3) ∧ v9 = S.1 (34, r, 0) 2 + 1 ∧ sCond S r c u v z = D9) ∨ (k9 = 1 ∧ ¬ (0 ≤ r ∧ r < S.1 (4, 0, 0) 2) ∧ S = D9) ∨ (k9 = 2 ∧ (0 ≤ r ∧ r < S.1 (4, 0, 0) 2) ∧ ¬ ((0 ≤ c ∧ c < 6) ∧ (0 ≤ u ∧ u < 3) ∧ (0 ≤ v ∧ v < 3)) ∧ S = D9) ∨ (k9 = 3 ∧ (0 ≤ r ∧ r < S.1 (4, 0, 0) 2) ∧ ((0 ≤ c ∧ c < 6) ∧ (0 ≤ u ∧ u < 3) ∧ (0 ≤ v ∧ v < 3)) ∧ ¬ (S.1 (34, r, 0) 5 = 0 ∧ S.1 (34, r, 0) 2 < 3) ∧ S = D9)
set_option maxHeartbeats 4000000 in
set_option maxRecDepth 100000 in
theorem cu_addCondition (S : XS) (hI : LwI S) (r c u v z : Int) (zr : zR r) (zc : zR c) (zu : zR u) (zv : zR v) (hz1 : z = 0 ∨ z = 1)  : X mX8_addCondition 0 (xEnt mX8_addCondition [xR (0, 0, 0), xI r, xI c, xI u, xI v, xI z]) [] (hp S) 6 36 (CO S ["java/lang/IndexOutOfBoundsException", "java/lang/IllegalArgumentException", "java/lang/IllegalStateException"] (R_addCondition S r c u v z)) := by
  have h6 := wf0_6 hI.1.1
  have h7 := wf0_7 hI.1.1
  have h4 := wf4_2 hI.1.1
  refine X.weak (c_addCondition S hI.1 r c u v z zr zc zu zv hz1) (by decide) (by decide) (fun o h' qq => ?_)
  rcases qq with ⟨c1, qq⟩ | ⟨c1, qq⟩
  · rcases qq with ⟨c2, qq⟩ | ⟨c2, qq⟩
    · rcases qq with ⟨c3, qq⟩ | ⟨c3, qq⟩
      · have cD : CB (sCond S r c u v z) := hI.1.addC (by omega) (by omega) (by omega) (by omega) (by omega) (by omega) (by omega) hz1
        have ji : JInv (sCond S r c u v z) := hI.2.2.2.1.addC hI.1 (by omega) (by omega) (by omega) cD.1
        have em : MdE S (sCond S r c u v z) := ⟨fun k x y hk => sCond_o S r c u v z (nK (by omega) _ _ _ _) (nK (by omega) _ _ _ _), by rw [sCond_j]⟩
        exact CO.n qq em ji (Or.inl ⟨rfl, c1, c2, c3, rfl, rfl⟩)
      · exact CO.x hI qq 2 rfl (Or.inr (Or.inr (Or.inr ⟨rfl, c1, c2, (c3), rfl⟩)))
    · exact CO.x hI qq 1 rfl (Or.inr (Or.inr (Or.inl ⟨rfl, c1, (c2), rfl⟩)))
  · exact CO.x hI qq 0 rfl (Or.inr (Or.inl ⟨rfl, (c1), rfl⟩))
