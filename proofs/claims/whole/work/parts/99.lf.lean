/-! the law's calls: rules, what is unique, seals, layers -/
theorem pN.of {D : XS} {v : XV} (cD : CB D) {o : XO} {h' : XH} (h : pRet v (hp D) o h') : pN D (some v) o h' := by
  obtain ⟨rfl, rfl⟩ := h
  exact ⟨rfl, D, rfl, QEq.rf D, cD⟩
abbrev R_spanTo (S : XS) (i n t q : Int) : Nat → Int → XS → Prop := fun k9 v9 D9 => (k9 = 0 ∧ ((0 ≤ i ∧ i < S.1 (0, 0, 0) 6) ∧ 0 ≤ n ∧ n < S.1 (9, i, 0) 3 + 1) ∧ ((0 ≤ t ∧ t < 24) ∧ 0 ≤ q ∧ q < 384) ∧ (bI (hB S.1 i n.toNat t q) = 1) ∧ v9 = ((spT (fun h : Nat => hB S.1 i n.toNat h q) (23 - t.toNat) : Nat) : Int) ∧ S = D9) ∨ (k9 = 1 ∧ ¬ ((0 ≤ i ∧ i < S.1 (0, 0, 0) 6) ∧ 0 ≤ n ∧ n < S.1 (9, i, 0) 3 + 1) ∧ S = D9) ∨ (k9 = 2 ∧ ((0 ≤ i ∧ i < S.1 (0, 0, 0) 6) ∧ 0 ≤ n ∧ n < S.1 (9, i, 0) 3 + 1) ∧ ¬ ((0 ≤ t ∧ t < 24) ∧ 0 ≤ q ∧ q < 384) ∧ S = D9) ∨ (k9 = 3 ∧ ((0 ≤ i ∧ i < S.1 (0, 0, 0) 6) ∧ 0 ≤ n ∧ n < S.1 (9, i, 0) 3 + 1) ∧ ((0 ≤ t ∧ t < 24) ∧ 0 ≤ q ∧ q < 384) ∧ ¬ (bI (hB S.1 i n.toNat t q) = 1) ∧ S = D9)
set_option maxHeartbeats 4000000 in
set_option maxRecDepth 100000 in
theorem cu_spanTo (S : XS) (hI : LwI S) (i n t q : Int) (zi : zR i) (zn : zR n) (zt : zR t) (zq : zR q)  : X mX8_spanTo 0 (xEnt mX8_spanTo [xR (0, 0, 0), xI i, xI n, xI t, xI q]) [] (hp S) 6 36 (CO S ["java/lang/IndexOutOfBoundsException", "java/lang/IllegalArgumentException", "java/util/NoSuchElementException"] (R_spanTo S i n t q)) := by
  refine X.weak (c_spanTo S hI.1 i n t q zi zn zt zq ) (by decide) (by decide) (fun o h' qq => ?_)
  rcases qq with ⟨c1, qq⟩ | ⟨c1, qq⟩
  · rcases qq with ⟨c2, qq⟩ | ⟨c2, qq⟩
    · rcases qq with ⟨c3, qq⟩ | ⟨c3, qq⟩
      · exact CO.q hI qq (Or.inl ⟨rfl, c1, c2, bI_1.mpr c3, rfl, rfl⟩)
      · exact CO.x hI qq 2 rfl (Or.inr (Or.inr (Or.inr ⟨rfl, c1, c2, (fun z => c3 (bI_1.mp z)), rfl⟩)))
    · exact CO.x hI qq 1 rfl (Or.inr (Or.inr (Or.inl ⟨rfl, c1, (c2), rfl⟩)))
  · exact CO.x hI qq 0 rfl (Or.inr (Or.inl ⟨rfl, (c1), rfl⟩))
set_option maxHeartbeats 4000000 in
set_option maxRecDepth 100000 in
theorem mo_spanTo (S : XS) (hI : LwI S) (i n t q : Int) (zi : zR i) (zn : zR n) (zt : zR t) (zq : zR q) : MOk S mX9_spanTo [xI i, xI n, xI t, xI q] (R_spanTo S i n t q) := by
  intro S1 S2 D9 k9 v9 q1 cb ho em ji hR
  rcases hR with ⟨rfl, m1, m2, m3, rfl, rfl⟩ | ⟨rfl, m1, rfl⟩ | ⟨rfl, m1, m2, rfl⟩ | ⟨rfl, m1, m2, m3, rfl⟩
  all_goals
    have e2 : MdE S S2 := (em.tr (MdE.q q1)).tr ho.md
    have ub : usum S2 5 ≤ 81920 := usum_le (fun l hl => mrl_gen (hI.2.2.1.e e2) l hl) 5 (Nat.le_refl _)
    refine ⟨0, by omega, X.weak (m_spanTo S S2 hI.1 (ho.wi cb.1) (hI.2.1.e e2) i n t q zi zn zt zq) (Nat.zero_le _) (Nat.zero_le _) (fun o h' z => MO.m hI cb q1 ho z (fun kk zz T hT hP => ⟨by omega, fun _ => by omega⟩))⟩
abbrev R_seal (S : XS) (i n : Int) : Nat → Int → XS → Prop := fun k9 v9 D9 => (k9 = 0 ∧ ((0 ≤ i ∧ i < S.1 (0, 0, 0) 6) ∧ 0 ≤ n ∧ n < S.1 (9, i, 0) 3 + 1) ∧ v9 = S.1 (11, i, 0) n ∧ S = D9) ∨ (k9 = 1 ∧ ¬ ((0 ≤ i ∧ i < S.1 (0, 0, 0) 6) ∧ 0 ≤ n ∧ n < S.1 (9, i, 0) 3 + 1) ∧ S = D9)
set_option maxHeartbeats 4000000 in
set_option maxRecDepth 100000 in
theorem cu_seal (S : XS) (hI : LwI S) (i n : Int) (zi : zR i) (zn : zR n)  : X mX8_seal 0 (xEnt mX8_seal [xR (0, 0, 0), xI i, xI n]) [] (hp S) 6 36 (CO S ["java/lang/IndexOutOfBoundsException"] (R_seal S i n)) := by
  refine X.weak (c_seal S hI.1.1 i n zi zn ) (by decide) (by decide) (fun o h' qq => ?_)
  rcases qq with ⟨c1, qq⟩ | ⟨c1, qq⟩
  · exact CO.q hI (pQ.of hI qq) (Or.inl ⟨rfl, c1, rfl, rfl⟩)
  · exact CO.x hI (pX.of hI qq) 0 rfl (Or.inr ⟨rfl, (c1), rfl⟩)
set_option maxHeartbeats 4000000 in
set_option maxRecDepth 100000 in
theorem mo_seal (S : XS) (hI : LwI S) (i n : Int) (zi : zR i) (zn : zR n) : MOk S mX9_seal [xI i, xI n] (R_seal S i n) := by
  intro S1 S2 D9 k9 v9 q1 cb ho em ji hR
  rcases hR with ⟨rfl, m1, rfl, rfl⟩ | ⟨rfl, m1, rfl⟩
  all_goals
    have e2 : MdE S S2 := (em.tr (MdE.q q1)).tr ho.md
    have ub : usum S2 5 ≤ 81920 := usum_le (fun l hl => mrl_gen (hI.2.2.1.e e2) l hl) 5 (Nat.le_refl _)
    have h6 := wf0_6 hI.1.1
    have hs : (0 ≤ i ∧ i < S.1 (0, 0, 0) 6) ∧ 0 ≤ n ∧ n < S.1 (9, i, 0) 3 + 1 → slN S i n.toNat = S.1 (11, i, 0) n := fun h => by
      have w := (hI.2.2.2.1.2.1 i (by omega) (by omega)).2.1 n.toNat (by omega)
      rw [show ((n.toNat : Nat) : Int) = n by omega] at w
      rw [lk_seal hI.2.2.2.1.dig (by omega) (by omega) _ (by omega), w]
    refine ⟨0, by omega, X.weak (m_seal S S2 hI.1 (ho.wi cb.1) (hI.2.1.e e2) i n zi zn) (Nat.zero_le _) (Nat.zero_le _) (fun o h' z => MO.m hI cb q1 ho z (fun kk zz T hT hP => ⟨by omega, fun hk => by first | (have w := hs (by omega); omega) | (exfalso; omega)⟩))⟩
abbrev R_waiting (S : XS) (i : Int) : Nat → Int → XS → Prop := fun k9 v9 D9 => (k9 = 0 ∧ (0 ≤ i ∧ i < S.1 (0, 0, 0) 7) ∧ v9 = S.1 (14, i, 0) 9 ∧ S = D9) ∨ (k9 = 1 ∧ ¬ (0 ≤ i ∧ i < S.1 (0, 0, 0) 7) ∧ S = D9)
set_option maxHeartbeats 4000000 in
set_option maxRecDepth 100000 in
theorem cu_waiting (S : XS) (hI : LwI S) (i : Int) (zi : zR i)  : X mX8_waiting 0 (xEnt mX8_waiting [xR (0, 0, 0), xI i]) [] (hp S) 6 36 (CO S ["java/lang/IndexOutOfBoundsException"] (R_waiting S i)) := by
  refine X.weak (c_waiting S hI.1.1 i zi ) (by decide) (by decide) (fun o h' qq => ?_)
  rcases qq with ⟨c1, qq⟩ | ⟨c1, qq⟩
  · exact CO.q hI (pQ.of hI qq) (Or.inl ⟨rfl, c1, rfl, rfl⟩)
  · exact CO.x hI (pX.of hI qq) 0 rfl (Or.inr ⟨rfl, (c1), rfl⟩)
set_option maxHeartbeats 4000000 in
set_option maxRecDepth 100000 in
theorem mo_waiting (S : XS) (hI : LwI S) (i : Int) (zi : zR i) : MOk S mX9_waiting [xI i] (R_waiting S i) := by
  intro S1 S2 D9 k9 v9 q1 cb ho em ji hR
  rcases hR with ⟨rfl, m1, rfl, rfl⟩ | ⟨rfl, m1, rfl⟩
  all_goals
    have e2 : MdE S S2 := (em.tr (MdE.q q1)).tr ho.md
    have ub : usum S2 5 ≤ 81920 := usum_le (fun l hl => mrl_gen (hI.2.2.1.e e2) l hl) 5 (Nat.le_refl _)
    have h7 := wf0_7 hI.1.1
    have hs : 0 ≤ i ∧ i < S.1 (0, 0, 0) 7 → S2.1 (68, 0, 0) i - S2.1 (69, 0, 0) i = S.1 (14, i, 0) 9 := fun h => by
      obtain ⟨-, -, hc, hR, -⟩ := ((hI.2.2.1.e e2) i (by omega) (by omega)).1 (by omega)
      obtain ⟨-, -, -, r4, -, -⟩ := hR
      obtain ⟨-, -, -, c4, -⟩ := hc
      omega
    refine ⟨0, by omega, X.weak (m_waiting S S2 hI.1 (ho.wi cb.1) (hI.2.1.e e2) i zi) (Nat.zero_le _) (Nat.zero_le _) (fun o h' z => MO.m hI cb q1 ho z (fun kk zz T hT hP => ⟨by omega, fun hk => by first | (have w := hs (by omega); omega) | (exfalso; omega)⟩))⟩
abbrev R_setUnique (S : XS) (i z : Int) : Nat → Int → XS → Prop := fun k9 v9 D9 => (k9 = 0 ∧ (0 ≤ i ∧ i < 6) ∧ v9 = S.1 (3, 0, 0) i ∧ putI S (3, 0, 0) i z = D9) ∨ (k9 = 1 ∧ ¬ (0 ≤ i ∧ i < 6) ∧ S = D9)
set_option maxHeartbeats 4000000 in
set_option maxRecDepth 100000 in
theorem cu_setUnique (S : XS) (hI : LwI S) (i z : Int) (zi : zR i) (hz1 : z = 0 ∨ z = 1)  : X mX8_setUnique 0 (xEnt mX8_setUnique [xR (0, 0, 0), xI i, xI z]) [] (hp S) 6 36 (CO S ["java/lang/IllegalArgumentException"] (R_setUnique S i z)) := by
  have h6 := wf0_6 hI.1.1
  have h7 := wf0_7 hI.1.1
  have h4 := wf4_2 hI.1.1
  refine X.weak (c_setUnique S hI.1.1 i z zi hz1) (by decide) (by decide) (fun o h' qq => ?_)
  rcases qq with ⟨c1, qq⟩ | ⟨c1, qq⟩
  · have cD : CB (putI S (3, 0, 0) i z) := hI.1.gen (wpa3 hI.1.1 hz1) (fun k x y _ b _ _ _ => putI_o (nK b _ _ _ _)) (by rw [putI_o (nK (by decide) _ _ _ _)]) (fun b' => by rw [putI_o (nK (by decide) _ _ _ _)]) (fun _ _ _ _ _ _ => rfl)
    have ji : JInv (putI S (3, 0, 0) i z) := hI.2.2.2.1.to (fun k x y hk => putI_o (nK (by omega) _ _ _ _)) (fun _ _ _ _ => rfl)
    have em : MdE S (putI S (3, 0, 0) i z) := ⟨fun k x y hk => putI_o (nK (by omega) _ _ _ _), rfl⟩
    exact CO.n (pN.of cD qq) em ji (Or.inl ⟨rfl, c1, rfl, rfl⟩)
  · exact CO.x hI (pX.of hI qq) 0 rfl (Or.inr ⟨rfl, (c1), rfl⟩)
set_option maxHeartbeats 4000000 in
set_option maxRecDepth 100000 in
theorem mo_setUnique (S : XS) (hI : LwI S) (i z : Int) (zi : zR i) (hz1 : z = 0 ∨ z = 1) : MOk S mX9_setUnique [xI i, xI z] (R_setUnique S i z) := by
  intro S1 S2 D9 k9 v9 q1 cb ho em ji hR
  have e2 : MdE S S2 := (em.tr (MdE.q q1)).tr ho.md
  have ub : usum S2 5 ≤ 81920 := usum_le (fun l hl => mrl_gen (hI.2.2.1.e e2) l hl) 5 (Nat.le_refl _)
  have h7 := wf0_7 hI.1.1
  have h6 := wf0_6 hI.1.1
  have h4 := wf4_2 hI.1.1
  have mn := hI.2.2.2.2.1.e e2
  rcases hR with ⟨rfl, m1, rfl, rfl⟩ | ⟨rfl, m1, rfl⟩
  · refine ⟨0, by omega, X.weak (m_setUnique S S2 hI.1 (ho.wi cb.1) (hI.2.1.e e2) i zi z hz1) (by decide) (Nat.zero_le _) (fun o h' zp => ?_)⟩
    rcases zp with zp | ⟨-, e1, U, hU, wU, u25, wV, eV⟩
    · exfalso
      obtain ⟨T, z1, -, -, -, -, hP⟩ := zp
      omega
    · have mU : MR S U := (hI.2.1.e e2).q hU
      have lU : MRl S U := (hI.2.2.1.e e2).q hU
      have nU : MN S U := mn.cl (hI.2.1.e e2).2.1 hU.cl
      have v2 : (putI U (57, 0, 0) i z).2 = U.2 := rfl
      have vo : ∀ l : XL, (l.1 < 50 ∨ 90 ≤ l.1) → (putI U (57, 0, 0) i z).1 l = U.1 l := fun l a => putI_o (fun y => by rw [y] at a; omega)
      have mV := mr_uniq mU i z
      have lV : MRl (putI S (3, 0, 0) i z) (putI U (57, 0, 0) i z) := lU.to (fun l => ⟨putI_o (nK (by decide) _ _ _ _), rfl, rfl, rfl⟩) (by rw [putI_o (nK (by decide) _ _ _ _)]) (fun k a b => putI_o (nK (by omega) _ _ _ _)) rfl (fun l u => putI_o (nK (by decide) _ _ _ _))
      have nV : MN (putI S (3, 0, 0) i z) (putI U (57, 0, 0) i z) := fun r hr => by
        rw [putI_o (nK (by decide) _ _ _ _)] at hr
        rw [putI_o (nK (by decide) _ _ _ _), putI_o (nK (by decide) _ _ _ _)]
        exact nU r hr
      have v25 : (putI U (57, 0, 0) i z).1 (50, 0, 0) 25 = 0 := by rw [putI_o (nK (by decide) _ _ _ _)]; exact u25
      exact MO.f cb q1 ho em ji hI hU (Or.inr ⟨vo, v2⟩) wV mV lV nV v25 (usum_eq 5 (fun l _ => by rw [show (putI U (57, 0, 0) i z).2 = U.2 from v2])) e1 eV
  · refine ⟨0, by omega, X.weak (m_setUnique S S2 hI.1 (ho.wi cb.1) (hI.2.1.e e2) i zi z hz1) (by decide) (Nat.zero_le _) (fun o h' zp => ?_)⟩
    rcases zp with zp | ⟨zp, -⟩
    · exact MO.m hI cb q1 ho zp (fun kk zz T hT hP => ⟨by omega, fun h => absurd h (by decide)⟩)
    · exfalso
      omega
abbrev R_addRule (S : XS) (h a b c u v : Int) : Nat → Int → XS → Prop := fun k9 v9 D9 => (k9 = 0 ∧ (((0 ≤ h ∧ h < 6) ∧ (0 ≤ a ∧ a < 3) ∧ (0 ≤ b ∧ b < 3)) ∧ (0 ≤ c ∧ c < 6) ∧ (0 ≤ u ∧ u < 3) ∧ (0 ≤ v ∧ v < 3)) ∧ (S.1 (4, 0, 0) 2 < 10) ∧ v9 = S.1 (4, 0, 0) 2 ∧ sAddR S h a b c u v = D9) ∨ (k9 = 1 ∧ ¬ (((0 ≤ h ∧ h < 6) ∧ (0 ≤ a ∧ a < 3) ∧ (0 ≤ b ∧ b < 3)) ∧ (0 ≤ c ∧ c < 6) ∧ (0 ≤ u ∧ u < 3) ∧ (0 ≤ v ∧ v < 3)) ∧ S = D9) ∨ (k9 = 2 ∧ (((0 ≤ h ∧ h < 6) ∧ (0 ≤ a ∧ a < 3) ∧ (0 ≤ b ∧ b < 3)) ∧ (0 ≤ c ∧ c < 6) ∧ (0 ≤ u ∧ u < 3) ∧ (0 ≤ v ∧ v < 3)) ∧ ¬ (S.1 (4, 0, 0) 2 < 10) ∧ S = D9)
set_option maxHeartbeats 4000000 in
set_option maxRecDepth 100000 in
theorem cu_addRule (S : XS) (hI : LwI S) (h a b c u v : Int) (zh : zR h) (za : zR a) (zb : zR b) (zc : zR c) (zu : zR u) (zv : zR v)  : X mX8_addRule 0 (xEnt mX8_addRule [xR (0, 0, 0), xI h, xI a, xI b, xI c, xI u, xI v]) [] (hp S) 6 36 (CO S ["java/lang/IllegalArgumentException", "java/lang/IllegalStateException"] (R_addRule S h a b c u v)) := by
  have h6 := wf0_6 hI.1.1
  have h7 := wf0_7 hI.1.1
  have h4 := wf4_2 hI.1.1
  refine X.weak (c_addRule S hI.1 h a b c u v zh za zb zc zu zv hI.2.2.2.1.1) (by decide) (by decide) (fun o h' qq => ?_)
  rcases qq with ⟨c1, qq⟩ | ⟨c1, qq⟩
  · rcases qq with ⟨c2, qq⟩ | ⟨c2, qq⟩
    · have cD : CB (sAddR S h a b c u v) := hI.1.addR hI.2.2.2.1.1 (by omega) (by omega) (by omega) (by omega) (by omega) (by omega) (by omega)
      have ji : JInv (sAddR S h a b c u v) := hI.2.2.2.1.addR hI.1 cD.1
      have em : MdE S (sAddR S h a b c u v) := ⟨fun k x y hk => addR_o S h a b c u v (nK (by omega) _ _ _ _) (Or.inl (show k ≠ 36 by omega)) (nK (by omega) _ _ _ _) (nK (by omega) _ _ _ _), by rw [addR_j]⟩
      exact CO.n qq em ji (Or.inl ⟨rfl, c1, c2, rfl, rfl⟩)
    · exact CO.x hI qq 1 rfl (Or.inr (Or.inr ⟨rfl, c1, (c2), rfl⟩))
  · exact CO.x hI qq 0 rfl (Or.inr (Or.inl ⟨rfl, (c1), rfl⟩))
set_option maxHeartbeats 4000000 in
set_option maxRecDepth 100000 in
theorem mo_addRule (S : XS) (hI : LwI S) (h a b c u v : Int) (zh : zR h) (za : zR a) (zb : zR b) (zc : zR c) (zu : zR u) (zv : zR v) : MOk S mX9_addRule [xI h, xI a, xI b, xI c, xI u, xI v] (R_addRule S h a b c u v) := by
  intro S1 S2 D9 k9 v9 q1 cb ho em ji hR
  have e2 : MdE S S2 := (em.tr (MdE.q q1)).tr ho.md
  have ub : usum S2 5 ≤ 81920 := usum_le (fun l hl => mrl_gen (hI.2.2.1.e e2) l hl) 5 (Nat.le_refl _)
  have h7 := wf0_7 hI.1.1
  have h6 := wf0_6 hI.1.1
  have h4 := wf4_2 hI.1.1
  have mn := hI.2.2.2.2.1.e e2
  rcases hR with ⟨rfl, m1, m2, rfl, rfl⟩ | ⟨rfl, m1, rfl⟩ | ⟨rfl, m1, m2, rfl⟩
  · refine ⟨0, by omega, X.weak (m_addRule S S2 hI.1 (ho.wi cb.1) (hI.2.1.e e2) h a b c u v zh za zb zc zu zv (mn _ (Int.le_refl _)).1) (by decide) (Nat.zero_le _) (fun o h' zp => ?_)⟩
    rcases zp with zp | ⟨-, e1, U, hU, wU, u25, wV, eV⟩
    · exfalso
      obtain ⟨T, z1, -, -, -, -, hP⟩ := zp
      omega
    · have mU : MR S U := (hI.2.1.e e2).q hU
      have lU : MRl S U := (hI.2.2.1.e e2).q hU
      have nU : MN S U := mn.cl (hI.2.1.e e2).2.1 hU.cl
      have v2 : (sNew U (S.1 (4, 0, 0) 2) h a b c u v).2 = U.2 := rfl
      have vo : ∀ l : XL, (l.1 < 50 ∨ 90 ≤ l.1) → (sNew U (S.1 (4, 0, 0) 2) h a b c u v).1 l = U.1 l := fun l w => sNew_o _ _ _ _ _ _ _ _ (by omega) (by omega) (by omega) (by omega) (fun y => by rw [y] at w; omega)
      have mV : MR (sAddR S h a b c u v) (sNew U (S.1 (4, 0, 0) 2) h a b c u v) := mr_addR mU hI.1 hI.2.2.2.1.1 rfl (by omega) (nU _ (Int.le_refl _)).2 (by omega) (by omega) (by omega) (by omega)
      have ko : ∀ k : Nat, k ≠ 36 → k ≠ 34 → k ≠ 37 → k ≠ 4 → ∀ x y : Int, (sAddR S h a b c u v).1 (k, x, y) = S.1 (k, x, y) := fun k w1 w2 w3 w4 x y => addR_o S h a b c u v (nK w2 _ _ _ _) (Or.inl w1) (nK w3 _ _ _ _) (nK w4 _ _ _ _)
      have vk : ∀ k : Nat, 66 ≤ k → ∀ x y : Int, (sNew U (S.1 (4, 0, 0) 2) h a b c u v).1 (k, x, y) = U.1 (k, x, y) := fun k w x y => sNew_o _ _ _ _ _ _ _ _ (show k ≠ 62 by omega) (show k ≠ 63 by omega) (show k ≠ 64 by omega) (show k ≠ 65 by omega) (nK (by omega) _ _ _ _)
      have lV : MRl (sAddR S h a b c u v) (sNew U (S.1 (4, 0, 0) 2) h a b c u v) := lU.to (fun l => ⟨ko 14 (by decide) (by decide) (by decide) (by decide) l 0, by rw [addR_j], by rw [addR_j], by rw [addR_j]⟩) (by rw [ko 0 (by decide) (by decide) (by decide) (by decide)]) (fun k w1 w2 => vk k (by omega) 0 0) rfl (fun l w => vk 81 (by decide) l w)
      have nV : MN (sAddR S h a b c u v) (sNew U (S.1 (4, 0, 0) 2) h a b c u v) := fun r hr => by
        rw [addR_n] at hr
        rw [(sNew_r _ _ _ _ _ _ _ _ r).2.2.1, if_neg (by omega), vk 66 (by decide)]
        exact nU r (by omega)
      have v25 : (sNew U (S.1 (4, 0, 0) 2) h a b c u v).1 (50, 0, 0) 25 = 0 := by rw [(sNew_r _ _ _ _ _ _ _ _ 25).2.2.2.2, if_neg (by decide)]; exact u25
      exact MO.f cb q1 ho em ji hI hU (Or.inr ⟨vo, v2⟩) wV mV lV nV v25 (usum_eq 5 (fun l _ => by rw [show (sNew U (S.1 (4, 0, 0) 2) h a b c u v).2 = U.2 from v2])) e1 eV
  · refine ⟨0, by omega, X.weak (m_addRule S S2 hI.1 (ho.wi cb.1) (hI.2.1.e e2) h a b c u v zh za zb zc zu zv (mn _ (Int.le_refl _)).1) (by decide) (Nat.zero_le _) (fun o h' zp => ?_)⟩
    rcases zp with zp | ⟨zp, -⟩
    · exact MO.m hI cb q1 ho zp (fun kk zz T hT hP => ⟨by omega, fun h => absurd h (by decide)⟩)
    · exfalso
      omega
  · refine ⟨0, by omega, X.weak (m_addRule S S2 hI.1 (ho.wi cb.1) (hI.2.1.e e2) h a b c u v zh za zb zc zu zv (mn _ (Int.le_refl _)).1) (by decide) (Nat.zero_le _) (fun o h' zp => ?_)⟩
    rcases zp with zp | ⟨zp, -⟩
    · exact MO.m hI cb q1 ho zp (fun kk zz T hT hP => ⟨by omega, fun h => absurd h (by decide)⟩)
    · exfalso
      omega
abbrev R_addCondition (S : XS) (r c u v z : Int) : Nat → Int → XS → Prop := fun k9 v9 D9 => (k9 = 0 ∧ (0 ≤ r ∧ r < S.1 (4, 0, 0) 2) ∧ ((0 ≤ c ∧ c < 6) ∧ (0 ≤ u ∧ u < 3) ∧ (0 ≤ v ∧ v < 3)) ∧ (S.1 (34, r, 0) 5 = 0 ∧ S.1 (34, r, 0) 2 < 3) ∧ v9 = S.1 (34, r, 0) 2 + 1 ∧ sCond S r c u v z = D9) ∨ (k9 = 1 ∧ ¬ (0 ≤ r ∧ r < S.1 (4, 0, 0) 2) ∧ S = D9) ∨ (k9 = 2 ∧ (0 ≤ r ∧ r < S.1 (4, 0, 0) 2) ∧ ¬ ((0 ≤ c ∧ c < 6) ∧ (0 ≤ u ∧ u < 3) ∧ (0 ≤ v ∧ v < 3)) ∧ S = D9) ∨ (k9 = 3 ∧ (0 ≤ r ∧ r < S.1 (4, 0, 0) 2) ∧ ((0 ≤ c ∧ c < 6) ∧ (0 ≤ u ∧ u < 3) ∧ (0 ≤ v ∧ v < 3)) ∧ ¬ (S.1 (34, r, 0) 5 = 0 ∧ S.1 (34, r, 0) 2 < 3) ∧ S = D9)
set_option maxHeartbeats 4000000 in
set_option maxRecDepth 100000 in
theorem cu_addCondition (S : XS) (hI : LwI S) (r c u v z : Int) (zr : zR r) (zc : zR c) (zu : zR u) (zv : zR v) (hz1 : z = 0 ∨ z = 1)  : X mX8_addCondition 0 (xEnt mX8_addCondition [xR (0, 0, 0), xI r, xI c, xI u, xI v, xI z]) [] (hp S) 6 36 (CO S ["java/lang/IndexOutOfBoundsException", "java/lang/IllegalArgumentException", "java/lang/IllegalStateException"] (R_addCondition S r c u v z)) := by
  have h6 := wf0_6 hI.1.1
  have h7 := wf0_7 hI.1.1
  have h4 := wf4_2 hI.1.1
  refine X.weak (c_addCondition S hI.1 r c u v z zr zc zu zv hz1) (by decide) (by decide) (fun o h' qq => ?_)
  rcases qq with ⟨c1, qq⟩ | ⟨c1, qq⟩
  · rcases qq with ⟨c2, qq⟩ | ⟨c2, qq⟩
    · rcases qq with ⟨c3, qq⟩ | ⟨c3, qq⟩
      · have cD : CB (sCond S r c u v z) := hI.1.addC (by omega) (by omega) (by omega) (by omega) (by omega) (by omega) (by omega) hz1
        have ji : JInv (sCond S r c u v z) := hI.2.2.2.1.addC hI.1 (by omega) (by omega) (by omega) cD.1
        have em : MdE S (sCond S r c u v z) := ⟨fun k x y hk => sCond_o S r c u v z (nK (by omega) _ _ _ _) (nK (by omega) _ _ _ _), by rw [sCond_j]⟩
        exact CO.n qq em ji (Or.inl ⟨rfl, c1, c2, c3, rfl, rfl⟩)
      · exact CO.x hI qq 2 rfl (Or.inr (Or.inr (Or.inr ⟨rfl, c1, c2, (c3), rfl⟩)))
    · exact CO.x hI qq 1 rfl (Or.inr (Or.inr (Or.inl ⟨rfl, c1, (c2), rfl⟩)))
  · exact CO.x hI qq 0 rfl (Or.inr (Or.inl ⟨rfl, (c1), rfl⟩))
set_option maxHeartbeats 4000000 in
set_option maxRecDepth 100000 in
theorem mo_addCondition (S : XS) (hI : LwI S) (r c u v z : Int) (zr : zR r) (zc : zR c) (zu : zR u) (zv : zR v) (hz1 : z = 0 ∨ z = 1) : MOk S mX9_addCondition [xI r, xI c, xI u, xI v, xI z] (R_addCondition S r c u v z) := by
  intro S1 S2 D9 k9 v9 q1 cb ho em ji hR
  have e2 : MdE S S2 := (em.tr (MdE.q q1)).tr ho.md
  have ub : usum S2 5 ≤ 81920 := usum_le (fun l hl => mrl_gen (hI.2.2.1.e e2) l hl) 5 (Nat.le_refl _)
  have h7 := wf0_7 hI.1.1
  have h6 := wf0_6 hI.1.1
  have h4 := wf4_2 hI.1.1
  have mn := hI.2.2.2.2.1.e e2
  rcases hR with ⟨rfl, m1, m2, m3, rfl, rfl⟩ | ⟨rfl, m1, rfl⟩ | ⟨rfl, m1, m2, rfl⟩ | ⟨rfl, m1, m2, m3, rfl⟩
  · refine ⟨0, by omega, X.weak (m_addCondition S S2 hI.1 (ho.wi cb.1) (hI.2.1.e e2) r c u v zr zc zu zv z hz1) (by decide) (Nat.zero_le _) (fun o h' zp => ?_)⟩
    rcases zp with zp | ⟨-, e1, U, hU, wU, u25, wV, eV⟩
    · exfalso
      obtain ⟨T, z1, -, -, -, -, hP⟩ := zp
      omega
    · have mU : MR S U := (hI.2.1.e e2).q hU
      have lU : MRl S U := (hI.2.2.1.e e2).q hU
      have nU : MN S U := mn.cl (hI.2.1.e e2).2.1 hU.cl
      have v2 : (sAdd U r (S.1 (34, r, 0) 2) c u v z).2 = U.2 := rfl
      have vo : ∀ l : XL, (l.1 < 50 ∨ 90 ≤ l.1) → (sAdd U r (S.1 (34, r, 0) 2) c u v z).1 l = U.1 l := fun l w => sAdd_o _ _ _ _ _ _ _ (by omega) (by omega) (by omega)
      have mV : MR (sCond S r c u v z) (sAdd U r (S.1 (34, r, 0) 2) c u v z) := mr_addC mU hI.1 (by omega) (by omega) rfl (by omega) (by omega) (by omega)
      have ko : ∀ k : Nat, k ≠ 36 → k ≠ 34 → ∀ x y : Int, (sCond S r c u v z).1 (k, x, y) = S.1 (k, x, y) := fun k w1 w2 x y => sCond_o S r c u v z (nK w2 _ _ _ _) (nK w1 _ _ _ _)
      have lV : MRl (sCond S r c u v z) (sAdd U r (S.1 (34, r, 0) 2) c u v z) := lU.to (fun l => ⟨ko 14 (by decide) (by decide) l 0, by rw [sCond_j], by rw [sCond_j], by rw [sCond_j]⟩) (by rw [ko 0 (by decide) (by decide)]) (fun k w1 w2 => sAdd_o _ _ _ _ _ _ _ (show k ≠ 63 by omega) (show k ≠ 64 by omega) (show k ≠ 65 by omega)) rfl (fun l w => sAdd_o _ _ _ _ _ _ _ (show (81 : Nat) ≠ 63 by decide) (show (81 : Nat) ≠ 64 by decide) (show (81 : Nat) ≠ 65 by decide))
      have nV : MN (sCond S r c u v z) (sAdd U r (S.1 (34, r, 0) 2) c u v z) := fun r2 hr => by
        rw [ko 4 (by decide) (by decide)] at hr
        rw [(sAdd_r _ _ _ _ _ _ _ r2).2.1, if_neg (by omega), sAdd_o _ _ _ _ _ _ _ (by decide) (by decide) (by decide)]
        exact nU r2 hr
      have v25 : (sAdd U r (S.1 (34, r, 0) 2) c u v z).1 (50, 0, 0) 25 = 0 := by rw [sAdd_o _ _ _ _ _ _ _ (by decide) (by decide) (by decide)]; exact u25
      exact MO.f cb q1 ho em ji hI hU (Or.inr ⟨vo, v2⟩) wV mV lV nV v25 (usum_eq 5 (fun l _ => by rw [show (sAdd U r (S.1 (34, r, 0) 2) c u v z).2 = U.2 from v2])) e1 eV
  · refine ⟨0, by omega, X.weak (m_addCondition S S2 hI.1 (ho.wi cb.1) (hI.2.1.e e2) r c u v zr zc zu zv z hz1) (by decide) (Nat.zero_le _) (fun o h' zp => ?_)⟩
    rcases zp with zp | ⟨zp, -⟩
    · exact MO.m hI cb q1 ho zp (fun kk zz T hT hP => ⟨by omega, fun h => absurd h (by decide)⟩)
    · exfalso
      omega
  · refine ⟨0, by omega, X.weak (m_addCondition S S2 hI.1 (ho.wi cb.1) (hI.2.1.e e2) r c u v zr zc zu zv z hz1) (by decide) (Nat.zero_le _) (fun o h' zp => ?_)⟩
    rcases zp with zp | ⟨zp, -⟩
    · exact MO.m hI cb q1 ho zp (fun kk zz T hT hP => ⟨by omega, fun h => absurd h (by decide)⟩)
    · exfalso
      omega
  · refine ⟨0, by omega, X.weak (m_addCondition S S2 hI.1 (ho.wi cb.1) (hI.2.1.e e2) r c u v zr zc zu zv z hz1) (by decide) (Nat.zero_le _) (fun o h' zp => ?_)⟩
    rcases zp with zp | ⟨zp, -⟩
    · exact MO.m hI cb q1 ho zp (fun kk zz T hT hP => ⟨by omega, fun h => absurd h (by decide)⟩)
    · exfalso
      omega
