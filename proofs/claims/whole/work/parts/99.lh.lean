/-! the law's calls: reasonFact, next -/
abbrev R_reasonFact (S : XS) (i n t q k : Int) : Nat → Int → XS → Prop := fun k9 v9 D9 => (k9 = 0 ∧ ((0 ≤ i ∧ i < S.1 (0, 0, 0) 6) ∧ 0 ≤ n ∧ n < S.1 (9, i, 0) 3 + 1) ∧ ((0 ≤ t ∧ t < 24) ∧ 0 ≤ q ∧ q < 384) ∧ (bI (hB S.1 i n.toNat t q) = 1) ∧ ∃ rk ru wy, Rsn S.1 i n.toNat t rk ru wy ∧ premV S.1 rk ru wy q k ≠ -1 ∧ v9 = premV S.1 rk ru wy q k ∧ S = D9) ∨ (k9 = 1 ∧ ¬ ((0 ≤ i ∧ i < S.1 (0, 0, 0) 6) ∧ 0 ≤ n ∧ n < S.1 (9, i, 0) 3 + 1) ∧ S = D9) ∨ (k9 = 2 ∧ ((0 ≤ i ∧ i < S.1 (0, 0, 0) 6) ∧ 0 ≤ n ∧ n < S.1 (9, i, 0) 3 + 1) ∧ ¬ ((0 ≤ t ∧ t < 24) ∧ 0 ≤ q ∧ q < 384) ∧ S = D9) ∨ (k9 = 3 ∧ ((0 ≤ i ∧ i < S.1 (0, 0, 0) 6) ∧ 0 ≤ n ∧ n < S.1 (9, i, 0) 3 + 1) ∧ ((0 ≤ t ∧ t < 24) ∧ 0 ≤ q ∧ q < 384) ∧ ¬ (bI (hB S.1 i n.toNat t q) = 1) ∧ S = D9) ∨ (k9 = 3 ∧ ((0 ≤ i ∧ i < S.1 (0, 0, 0) 6) ∧ 0 ≤ n ∧ n < S.1 (9, i, 0) 3 + 1) ∧ ((0 ≤ t ∧ t < 24) ∧ 0 ≤ q ∧ q < 384) ∧ (bI (hB S.1 i n.toNat t q) = 1) ∧ ∃ rk ru wy, Rsn S.1 i n.toNat t rk ru wy ∧ premV S.1 rk ru wy q k = -1 ∧ S = D9)
set_option maxHeartbeats 4000000 in
set_option maxRecDepth 100000 in
theorem cu_reasonFact (S : XS) (hI : LwI S) (i n t q k : Int) (zi : zR i) (zn : zR n) (zt : zR t) (zq : zR q) (zk : zR k) : X mX8_reasonFact 0 (xEnt mX8_reasonFact [xR (0, 0, 0), xI i, xI n, xI t, xI q, xI k]) [] (hp S) 6 36 (CO S ["java/lang/IndexOutOfBoundsException", "java/lang/IllegalArgumentException", "java/util/NoSuchElementException"] (R_reasonFact S i n t q k)) := by
  refine X.weak (c_reasonFact S hI.1 i n t q k zi zn zt zq zk) (by decide) (by decide) (fun o h' qq => ?_)
  rcases qq with ⟨c1, qq⟩ | ⟨c1, qq⟩
  · rcases qq with ⟨c2, qq⟩ | ⟨c2, qq⟩
    · rcases qq with ⟨c3, qq⟩ | ⟨c3, qq⟩
      · obtain ⟨rk, ru, wy, hr, qq⟩ := qq
        rcases qq with ⟨c4, qq⟩ | ⟨c4, qq⟩
        · exact CO.q hI qq (Or.inl ⟨rfl, c1, c2, bI_1.mpr c3, rk, ru, wy, hr, c4, rfl, rfl⟩)
        · exact CO.x hI qq 2 rfl (Or.inr (Or.inr (Or.inr (Or.inr ⟨rfl, c1, c2, bI_1.mpr c3, rk, ru, wy, hr, Classical.byContradiction c4, rfl⟩))))
      · exact CO.x hI qq 2 rfl (Or.inr (Or.inr (Or.inr (Or.inl ⟨rfl, c1, c2, fun z => c3 (bI_1.mp z), rfl⟩))))
    · exact CO.x hI qq 1 rfl (Or.inr (Or.inr (Or.inl ⟨rfl, c1, c2, rfl⟩)))
  · exact CO.x hI qq 0 rfl (Or.inr (Or.inl ⟨rfl, c1, rfl⟩))
set_option maxHeartbeats 4000000 in
set_option maxRecDepth 100000 in
theorem mo_reasonFact (S : XS) (hI : LwI S) (i n t q k : Int) (zi : zR i) (zn : zR n) (zt : zR t) (zq : zR q) (zk : zR k) : MOk S mX9_reasonFact [xI i, xI n, xI t, xI q, xI k] (R_reasonFact S i n t q k) := by
  intro S1 S2 D9 k9 v9 q1 cb ho em ji hR
  have h6 := wf0_6 hI.1.1
  have kp : ∀ {rk ru wy : Int → Int}, Rsn S.1 i n.toNat t rk ru wy → ((0 ≤ i ∧ i < S.1 (0, 0, 0) 6) ∧ 0 ≤ n ∧ n < S.1 (9, i, 0) 3 + 1) → ((0 ≤ t ∧ t < 24) ∧ 0 ≤ q ∧ q < 384) → (bI (hB S.1 i n.toNat t q) = 1) → ∀ rk2 r w, FinR S i n.toNat t rk2 → BeV S i n.toNat t rk2 q r w → premV S.1 rk ru wy q k = pvN S.1 r w k := fun hr a1 a2 a3 rk2 r w hf hv => lk_prem hf hr (by omega) (by omega) (fin_hb hI.1 (by omega) (by omega) (by omega) hf (by omega) (by omega) (bI_1.mp a3)) hv k
  rcases hR with ⟨rfl, m1, m2, m3, rk, ru, wy, hr, hne, rfl, rfl⟩ | ⟨rfl, m1, rfl⟩ | ⟨rfl, m1, m2, rfl⟩ | ⟨rfl, m1, m2, m3, rfl⟩ | ⟨rfl, m1, m2, m3, rk, ru, wy, hr, hne, rfl⟩
  all_goals
    have e2 : MdE S S2 := (em.tr (MdE.q q1)).tr ho.md
    have ub : usum S2 5 ≤ 81920 := usum_le (fun l hl => mrl_gen (hI.2.2.1.e e2) l hl) 5 (Nat.le_refl _)
    refine ⟨0, by omega, X.weak (m_reasonFact S S2 hI.1 (ho.wi cb.1) (hI.2.1.e e2) i n t q k zi zn zt zq zk) (by decide) (by omega) (fun o h' zp => MO.m hI cb q1 ho zp (fun kk zz T hT hP => ?_))⟩
  · rcases hP with hP | ⟨-, -, -, rk2, r, w, hf, hv, hz⟩
    · exfalso; omega
    · have e := kp hr m1 m2 m3 rk2 r w hf hv
      exact ⟨by omega, fun _ => by omega⟩
  · exact ⟨by rcases hP with hP | ⟨a1, a2, a3, -⟩ <;> omega, fun hk => absurd hk (by decide)⟩
  · exact ⟨by rcases hP with hP | ⟨a1, a2, a3, -⟩ <;> omega, fun hk => absurd hk (by decide)⟩
  · exact ⟨by rcases hP with hP | ⟨a1, a2, a3, -⟩ <;> omega, fun hk => absurd hk (by decide)⟩
  · refine ⟨?_, fun hk => absurd hk (by decide)⟩
    rcases hP with hP | ⟨-, -, -, rk2, r, w, hf, hv, hz⟩
    · exfalso; omega
    · have e := kp hr m1 m2 m3 rk2 r w hf hv
      omega
theorem MRl.take {S U : XS} (h : MRl S U) {i : Int} (i0 : 0 ≤ i) (i5 : i < 5) (i1 : i < S.1 (0, 0, 0) 7) (h9 : S.1 (14, i, 0) 9 ≠ 0) {p : Nat} (hp : Low (S.2.1 (30, i, 0) (S.1 (14, i, 0) 7) ||| S.2.1 (31, i, 0) (S.1 (14, i, 0) 7)) p) : U.1 (81, i, U.2.2.2.1 i) (U.1 (69, 0, 0) i) = takeV S i p ∧ MRl (sTake S i p) (putI U (69, 0, 0) i (U.1 (69, 0, 0) i + 1)) := by
  have hL := LEq.take S i p
  obtain ⟨a1, a2, a3, a4, a5⟩ := (h i i0 i5).1 i1
  obtain ⟨b1, b2, b3, b4, b5, b6⟩ := a4
  obtain ⟨t1, t2⟩ := a3.take h9 hp
  have ev : U.1 (81, i, U.2.2.2.1 i) (U.1 (69, 0, 0) i) = takeV S i p := by
    have := b6 0 (takeV S i p) (by rw [t1]; rfl)
    rw [show U.1 (69, 0, 0) i + ((0 : Nat) : Int) = U.1 (69, 0, 0) i by omega] at this
    exact this
  refine ⟨ev, fun l l0 l5 => ?_⟩
  have vo : ∀ k : Nat, k ≠ 69 → ∀ x y : Int, (putI U (69, 0, 0) i (U.1 (69, 0, 0) i + 1)).1 (k, x, y) = U.1 (k, x, y) := fun k hk x y => putI_o (nK hk _ _ _ _)
  rw [hL.i (k := 0) (by decide)]
  by_cases e : l = i
  · subst e
    refine ⟨fun _ => ?_, fun z => by omega⟩
    obtain ⟨s2, s3, s4, s7, s8, s9, sj, -⟩ := sTake_at S l p
    refine ⟨?_, ?_, t2, ?_, ?_⟩
    · rw [vo 67 (by decide), s2, s3, s4, sj]; exact a1
    · rw [vo 70 (by decide), sj]; exact a2
    · refine ⟨b1, b2, by rw [putI_at, if_pos rfl]; omega, ?_, by rw [vo 68 (by decide)]; exact b5, fun j v hv => ?_⟩
      · rw [vo 68 (by decide), putI_at, if_pos rfl, b4, t1, List.length_cons]; omega
      · have := b6 (j + 1) v (by rw [t1]; exact hv)
        rw [vo 81 (by decide), putI_at, if_pos rfl, show U.1 (69, 0, 0) l + 1 + (j : Int) = U.1 (69, 0, 0) l + ((j + 1 : Nat) : Int) by omega]
        exact this
    · rw [vo 68 (by decide), s8]; exact a5
  · obtain ⟨o1, o2, o3, o4⟩ := take_o S i p e
    have v69 : (putI U (69, 0, 0) i (U.1 (69, 0, 0) i + 1)).1 (69, 0, 0) l = U.1 (69, 0, 0) l := by rw [putI_at, if_neg e]
    refine ⟨fun z => ((h l l0 l5).1 z).congr o1 o2 o3 o4 (vo 67 (by decide) 0 0) (fun j _ _ => by rw [vo 70 (by decide)]) (by rw [vo 68 (by decide)]) v69 rfl (vo 81 (by decide) _ _), fun z => ?_⟩
    obtain ⟨f1, f2, f3, f4, f5, f6⟩ := (h l l0 l5).2 z
    exact ⟨f1, by rw [vo 68 (by decide)]; exact f2, by rw [v69]; exact f3, by rw [o1]; exact f4, by rw [o1]; exact f5, by rw [o1]; exact f6⟩
abbrev R_next (S : XS) (i : Int) : Nat → Int → XS → Prop := fun k9 v9 D9 => (k9 = 0 ∧ (0 ≤ i ∧ i < S.1 (0, 0, 0) 7) ∧ (S.1 (14, i, 0) 9 ≠ 0) ∧ ∃ p : Nat, Low (S.2.1 (30, i, 0) (S.1 (14, i, 0) 7) ||| S.2.1 (31, i, 0) (S.1 (14, i, 0) 7)) p ∧ v9 = takeV S i p ∧ sTake S i p = D9) ∨ (k9 = 1 ∧ ¬ (0 ≤ i ∧ i < S.1 (0, 0, 0) 7) ∧ S = D9) ∨ (k9 = 2 ∧ (0 ≤ i ∧ i < S.1 (0, 0, 0) 7) ∧ ¬ (S.1 (14, i, 0) 9 ≠ 0) ∧ S = D9)
set_option maxHeartbeats 4000000 in
set_option maxRecDepth 100000 in
theorem cu_next (S : XS) (hI : LwI S) (i : Int) (zi : zR i)  : X mX8_next 0 (xEnt mX8_next [xR (0, 0, 0), xI i]) [] (hp S) 6 36 (CO S ["java/lang/IndexOutOfBoundsException", "java/util/NoSuchElementException"] (R_next S i)) := by
  have h6 := wf0_6 hI.1.1
  have h7 := wf0_7 hI.1.1
  have h4 := wf4_2 hI.1.1
  refine X.weak (c_next S hI.1 i zi hI.2.2.2.1.hf hI.2.2.2.1.hq) (by decide) (by decide) (fun o h' qq => ?_)
  rcases qq with ⟨c1, qq⟩ | ⟨c1, qq⟩
  · rcases qq with ⟨c2, qq⟩ | ⟨c2, qq⟩
    · obtain ⟨p, hp2, qq⟩ := qq
      have ji : JInv (sTake S i p) := hI.2.2.2.1.take (by omega) (by omega) c2 hp2
      have em : MdE S (sTake S i p) := ⟨fun k x y hk => (LEq.take S i p).i (by omega) x y, by rw [(LEq.take S i p).2.2]⟩
      exact CO.n qq em ji (Or.inl ⟨rfl, c1, c2, p, hp2, rfl, rfl⟩)
    · exact CO.x hI qq 1 rfl (Or.inr (Or.inr ⟨rfl, c1, (c2), rfl⟩))
  · exact CO.x hI qq 0 rfl (Or.inr (Or.inl ⟨rfl, (c1), rfl⟩))
set_option maxHeartbeats 4000000 in
set_option maxRecDepth 100000 in
theorem mo_next (S : XS) (hI : LwI S) (i : Int) (zi : zR i) : MOk S mX9_next [xI i] (R_next S i) := by
  intro S1 S2 D9 k9 v9 q1 cb ho em ji hR
  have e2 : MdE S S2 := (em.tr (MdE.q q1)).tr ho.md
  have ub : usum S2 5 ≤ 81920 := usum_le (fun l hl => mrl_gen (hI.2.2.1.e e2) l hl) 5 (Nat.le_refl _)
  have h7 := wf0_7 hI.1.1
  have h6 := wf0_6 hI.1.1
  have h4 := wf4_2 hI.1.1
  have mn := hI.2.2.2.2.1.e e2
  have hs : 0 ≤ i ∧ i < S.1 (0, 0, 0) 7 → S2.1 (68, 0, 0) i - S2.1 (69, 0, 0) i = S.1 (14, i, 0) 9 := fun h => by
    obtain ⟨-, -, hc, hR2, -⟩ := ((hI.2.2.1.e e2) i (by omega) (by omega)).1 (by omega)
    obtain ⟨-, -, -, r4, -, -⟩ := hR2
    obtain ⟨-, -, -, c4, -⟩ := hc
    omega
  rcases hR with ⟨rfl, m1, m2, p, hp2, rfl, rfl⟩ | ⟨rfl, m1, rfl⟩ | ⟨rfl, m1, m2, rfl⟩
  · refine ⟨0, by omega, X.weak (m_next S S2 hI.1 (ho.wi cb.1) (hI.2.1.e e2) i zi (hI.2.2.1.e e2)) (by decide) (Nat.zero_le _) (fun o h' zp => ?_)⟩
    rcases zp with zp | ⟨-, e1, U, hU, wU, u25, wV, eV⟩
    · exfalso
      obtain ⟨T, z1, -, -, -, -, hP⟩ := zp
      have := hs m1
      omega
    · have mU : MR S U := (hI.2.1.e e2).q hU
      have lU : MRl S U := (hI.2.2.1.e e2).q hU
      have nU : MN S U := mn.cl (hI.2.1.e e2).2.1 hU.cl
      have e69 : S2.1 (69, 0, 0) = U.1 (69, 0, 0) := (hU.1 (69, 0, 0) rfl (by decide)).symm
      have eg : S2.2.2.2.1 = U.2.2.2.1 := hU.2.2.2.2.1.symm
      have e81 : ∀ x y : Int, S2.1 (81, x, y) = U.1 (81, x, y) := fun x y => (hU.1 (81, x, y) rfl (by show (81 : Nat) ≠ 50; decide)).symm
      have tk := lU.take (p := p) (i := i) (by omega) (by omega) (by omega) m2 hp2
      rw [e69, eg, e81, tk.1] at e1
      rw [e69] at wV eV
      have v2 : (putI U (69, 0, 0) i (U.1 (69, 0, 0) i + 1)).2 = U.2 := rfl
      have vo : ∀ l : XL, (l.1 < 50 ∨ 90 ≤ l.1) → (putI U (69, 0, 0) i (U.1 (69, 0, 0) i + 1)).1 l = U.1 l := fun l w => putI_o (fun y => by rw [y] at w; omega)
      have mV : MR (sTake S i p) (putI U (69, 0, 0) i (U.1 (69, 0, 0) i + 1)) := (mU.rows (fun k w1 w2 => putI_o (nK (by omega) _ _ _ _)) (fun j _ => by rw [putI_o (nK (by decide) _ _ _ _)])).cls (fun k x y hk => (LEq.take S i p).i (by omega) x y)
      have lV := tk.2
      have nV : MN (sTake S i p) (putI U (69, 0, 0) i (U.1 (69, 0, 0) i + 1)) := fun r hr => by
        rw [(LEq.take S i p).i (k := 4) (by decide)] at hr
        rw [putI_o (nK (by decide) _ _ _ _), putI_o (nK (by decide) _ _ _ _)]
        exact nU r hr
      have v25 : (putI U (69, 0, 0) i (U.1 (69, 0, 0) i + 1)).1 (50, 0, 0) 25 = 0 := by rw [putI_o (nK (by decide) _ _ _ _)]; exact u25
      exact MO.f cb q1 ho em ji hI hU (Or.inr ⟨vo, v2⟩) wV mV lV nV v25 (usum_eq 5 (fun l _ => by rw [show (putI U (69, 0, 0) i (U.1 (69, 0, 0) i + 1)).2 = U.2 from v2])) e1 eV
  · refine ⟨0, by omega, X.weak (m_next S S2 hI.1 (ho.wi cb.1) (hI.2.1.e e2) i zi (hI.2.2.1.e e2)) (by decide) (Nat.zero_le _) (fun o h' zp => ?_)⟩
    rcases zp with zp | ⟨zp, -⟩
    · exact MO.m hI cb q1 ho zp (fun kk zz T hT hP => ⟨by first | omega | (have := hs m1; omega), fun h => absurd h (by decide)⟩)
    · exfalso
      first | omega | (have := hs m1; omega)
  · refine ⟨0, by omega, X.weak (m_next S S2 hI.1 (ho.wi cb.1) (hI.2.1.e e2) i zi (hI.2.2.1.e e2)) (by decide) (Nat.zero_le _) (fun o h' zp => ?_)⟩
    rcases zp with zp | ⟨zp, -⟩
    · exact MO.m hI cb q1 ho zp (fun kk zz T hT hP => ⟨by first | omega | (have := hs m1; omega), fun h => absurd h (by decide)⟩)
    · exfalso
      first | omega | (have := hs m1; omega)
