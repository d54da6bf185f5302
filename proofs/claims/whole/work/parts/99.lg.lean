/-! the law's calls: layers, ranks, reasons, proofs -/
theorem fin_hb {C : XS} (hC : CB C) {b : Int} (b0 : 0 ≤ b) (b1 : b < C.1 (0, 0, 0) 6) {n : Nat} (hn : (n : Int) ≤ C.1 (9, b, 0) 3) {t : Int} {rk : Int → Int} (h : FinR C b n t rk) {q : Int} (q0 : 0 ≤ q) (q1 : q < 384) (hb : hB C.1 b n t q) : rk q < 9999 := by
  have hs := hl_stab hC b0 b1 n hn t
  obtain ⟨x, p, rfl, hx, hp⟩ : ∃ x p : Nat, q = 64 * (x : Int) + p ∧ x < 6 ∧ p < 64 := ⟨(q / 64).toNat, (q % 64).toNat, by omega, by omega, by omega⟩
  rcases h x p hx hp with ⟨m, h1, h2, -⟩ | ⟨h1, h2⟩
  · omega
  · exfalso
    unfold hB at hb
    rw [show (64 * (x : Int) + p) / 64 = x by omega, show (64 * (x : Int) + p) % 64 = p by omega] at hb
    obtain ⟨m, hm⟩ := (hs x (by omega) (by omega) p hp).mp hb
    exact h2 m hm
theorem fin_rk {C : XS} (hC : CB C) {b : Int} (b0 : 0 ≤ b) (b1 : b < C.1 (0, 0, 0) 6) {n : Nat} (hn : (n : Int) ≤ C.1 (9, b, 0) 3) {t : Int} {rk rk' ru wy : Int → Int} (h : FinR C b n t rk) (r : Rsn C.1 b n t rk' ru wy) {q : Int} (q0 : 0 ≤ q) (q1 : q < 384) (hb : hB C.1 b n t q) : rk q = rk' q := by
  have h9 := fin_hb hC b0 b1 hn h q0 q1 hb
  obtain ⟨x, p, rfl, hx, hp⟩ : ∃ x p : Nat, q = 64 * (x : Int) + p ∧ x < 6 ∧ p < 64 := ⟨(q / 64).toNat, (q % 64).toNat, by omega, by omega, by omega⟩
  rcases lk_rank h r hx hp with ⟨h1, -⟩ | ⟨-, h2, -⟩
  · omega
  · exact h2
abbrev R_layer (S : XS) (i r : Int) : Nat → Int → XS → Prop := fun k9 v9 D9 => (k9 = 0 ∧ (0 ≤ i ∧ i < S.1 (0, 0, 0) 6) ∧ (0 ≤ r ∧ r < 6) ∧ ∃ g, LyG S.1 (onN S.1 i (S.1 (9, i, 0) 3).toNat) g ∧ v9 = g r ∧ S = D9) ∨ (k9 = 1 ∧ ¬ (0 ≤ i ∧ i < S.1 (0, 0, 0) 6) ∧ S = D9) ∨ (k9 = 2 ∧ (0 ≤ i ∧ i < S.1 (0, 0, 0) 6) ∧ ¬ (0 ≤ r ∧ r < 6) ∧ S = D9)
set_option maxHeartbeats 4000000 in
set_option maxRecDepth 100000 in
theorem cu_layer (S : XS) (hI : LwI S) (i r : Int) (zi : zR i) (zr : zR r)  : X mX8_layer 0 (xEnt mX8_layer [xR (0, 0, 0), xI i, xI r]) [] (hp S) 6 36 (CO S ["java/lang/IndexOutOfBoundsException", "java/lang/IllegalArgumentException"] (R_layer S i r)) := by
  refine X.weak (c_layer S hI.1 i r zi zr ) (by decide) (by decide) (fun o h' qq => ?_)
  rcases qq with ⟨c1, qq⟩ | ⟨c1, qq⟩
  · rcases qq with ⟨c2, qq⟩ | ⟨c2, qq⟩
    · obtain ⟨g, hg, qq⟩ := qq
      exact CO.q hI qq (Or.inl ⟨rfl, c1, c2, g, hg, rfl, rfl⟩)
    · exact CO.x hI qq 1 rfl (Or.inr (Or.inr ⟨rfl, c1, (c2), rfl⟩))
  · exact CO.x hI qq 0 rfl (Or.inr (Or.inl ⟨rfl, (c1), rfl⟩))
set_option maxHeartbeats 4000000 in
set_option maxRecDepth 100000 in
theorem mo_layer (S : XS) (hI : LwI S) (i r : Int) (zi : zR i) (zr : zR r) : MOk S mX9_layer [xI i, xI r] (R_layer S i r) := by
  intro S1 S2 D9 k9 v9 q1 cb ho em ji hR
  have h6 := wf0_6 hI.1.1
  rcases hR with ⟨rfl, m1, m2, g, hg, rfl, rfl⟩ | ⟨rfl, m1, rfl⟩ | ⟨rfl, m1, m2, rfl⟩
  · have e2 : MdE S S2 := (em.tr (MdE.q q1)).tr ho.md
    have ub : usum S2 5 ≤ 81920 := usum_le (fun l hl => mrl_gen (hI.2.2.1.e e2) l hl) 5 (Nat.le_refl _)
    refine ⟨0, by omega, X.weak (m_layer S S2 hI.1 (ho.wi cb.1) (hI.2.1.e e2)  i r zi zr) (by decide) (by omega) (fun o h' zp => MO.m hI cb q1 ho zp (fun kk zz T hT hP => ⟨by omega, fun hk => ?_⟩))⟩
    rcases hP with hP | ⟨-, -, -, hz, hl2⟩
    · exfalso; omega
    · rw [hz]; exact (hg.uniq hl2 (by omega) (by omega)).symm
  · have e2 : MdE S S2 := (em.tr (MdE.q q1)).tr ho.md
    have ub : usum S2 5 ≤ 81920 := usum_le (fun l hl => mrl_gen (hI.2.2.1.e e2) l hl) 5 (Nat.le_refl _)
    refine ⟨0, by omega, X.weak (m_layer S S2 hI.1 (ho.wi cb.1) (hI.2.1.e e2)  i r zi zr) (by decide) (by omega) (fun o h' zp => MO.m hI cb q1 ho zp (fun kk zz T hT hP => ⟨by omega, fun hk => ?_⟩))⟩
    exact absurd hk (by decide)
  · have e2 : MdE S S2 := (em.tr (MdE.q q1)).tr ho.md
    have ub : usum S2 5 ≤ 81920 := usum_le (fun l hl => mrl_gen (hI.2.2.1.e e2) l hl) 5 (Nat.le_refl _)
    refine ⟨0, by omega, X.weak (m_layer S S2 hI.1 (ho.wi cb.1) (hI.2.1.e e2)  i r zi zr) (by decide) (by omega) (fun o h' zp => MO.m hI cb q1 ho zp (fun kk zz T hT hP => ⟨by omega, fun hk => ?_⟩))⟩
    exact absurd hk (by decide)
abbrev R_rank (S : XS) (i n t q : Int) : Nat → Int → XS → Prop := fun k9 v9 D9 => (k9 = 0 ∧ ((0 ≤ i ∧ i < S.1 (0, 0, 0) 6) ∧ 0 ≤ n ∧ n < S.1 (9, i, 0) 3 + 1) ∧ ((0 ≤ t ∧ t < 24) ∧ 0 ≤ q ∧ q < 384) ∧ (bI (hB S.1 i n.toNat t q) = 1) ∧ ∃ rk ru wy, Rsn S.1 i n.toNat t rk ru wy ∧ v9 = rk q ∧ S = D9) ∨ (k9 = 1 ∧ ¬ ((0 ≤ i ∧ i < S.1 (0, 0, 0) 6) ∧ 0 ≤ n ∧ n < S.1 (9, i, 0) 3 + 1) ∧ S = D9) ∨ (k9 = 2 ∧ ((0 ≤ i ∧ i < S.1 (0, 0, 0) 6) ∧ 0 ≤ n ∧ n < S.1 (9, i, 0) 3 + 1) ∧ ¬ ((0 ≤ t ∧ t < 24) ∧ 0 ≤ q ∧ q < 384) ∧ S = D9) ∨ (k9 = 3 ∧ ((0 ≤ i ∧ i < S.1 (0, 0, 0) 6) ∧ 0 ≤ n ∧ n < S.1 (9, i, 0) 3 + 1) ∧ ((0 ≤ t ∧ t < 24) ∧ 0 ≤ q ∧ q < 384) ∧ ¬ (bI (hB S.1 i n.toNat t q) = 1) ∧ S = D9)
set_option maxHeartbeats 4000000 in
set_option maxRecDepth 100000 in
theorem cu_rank (S : XS) (hI : LwI S) (i n t q : Int) (zi : zR i) (zn : zR n) (zt : zR t) (zq : zR q)  : X mX8_rank 0 (xEnt mX8_rank [xR (0, 0, 0), xI i, xI n, xI t, xI q]) [] (hp S) 6 36 (CO S ["java/lang/IndexOutOfBoundsException", "java/lang/IllegalArgumentException", "java/util/NoSuchElementException"] (R_rank S i n t q)) := by
  refine X.weak (c_rank S hI.1 i n t q zi zn zt zq ) (by decide) (by decide) (fun o h' qq => ?_)
  rcases qq with ⟨c1, qq⟩ | ⟨c1, qq⟩
  · rcases qq with ⟨c2, qq⟩ | ⟨c2, qq⟩
    · rcases qq with ⟨c3, qq⟩ | ⟨c3, qq⟩
      · obtain ⟨rk, ru, wy, hr, qq⟩ := qq
        exact CO.q hI qq (Or.inl ⟨rfl, c1, c2, bI_1.mpr c3, rk, ru, wy, hr, rfl, rfl⟩)
      · exact CO.x hI qq 2 rfl (Or.inr (Or.inr (Or.inr ⟨rfl, c1, c2, (fun z => c3 (bI_1.mp z)), rfl⟩)))
    · exact CO.x hI qq 1 rfl (Or.inr (Or.inr (Or.inl ⟨rfl, c1, (c2), rfl⟩)))
  · exact CO.x hI qq 0 rfl (Or.inr (Or.inl ⟨rfl, (c1), rfl⟩))
set_option maxHeartbeats 4000000 in
set_option maxRecDepth 100000 in
theorem mo_rank (S : XS) (hI : LwI S) (i n t q : Int) (zi : zR i) (zn : zR n) (zt : zR t) (zq : zR q) : MOk S mX9_rank [xI i, xI n, xI t, xI q] (R_rank S i n t q) := by
  intro S1 S2 D9 k9 v9 q1 cb ho em ji hR
  have h6 := wf0_6 hI.1.1
  rcases hR with ⟨rfl, m1, m2, m3, rk, ru, wy, hr, rfl, rfl⟩ | ⟨rfl, m1, rfl⟩ | ⟨rfl, m1, m2, rfl⟩ | ⟨rfl, m1, m2, m3, rfl⟩
  · have e2 : MdE S S2 := (em.tr (MdE.q q1)).tr ho.md
    have ub : usum S2 5 ≤ 81920 := usum_le (fun l hl => mrl_gen (hI.2.2.1.e e2) l hl) 5 (Nat.le_refl _)
    refine ⟨0, by omega, X.weak (m_rank S S2 hI.1 (ho.wi cb.1) (hI.2.1.e e2)  i n t q zi zn zt zq) (by decide) (by omega) (fun o h' zp => MO.m hI cb q1 ho zp (fun kk zz T hT hP => ⟨by omega, fun hk => ?_⟩))⟩
    rcases hP with hP | ⟨-, -, -, -, hz, hf⟩
    · exfalso; omega
    · rw [hz]; exact fin_rk hI.1 (by omega) (by omega) (by omega) hf hr (by omega) (by omega) (bI_1.mp m3)
  · have e2 : MdE S S2 := (em.tr (MdE.q q1)).tr ho.md
    have ub : usum S2 5 ≤ 81920 := usum_le (fun l hl => mrl_gen (hI.2.2.1.e e2) l hl) 5 (Nat.le_refl _)
    refine ⟨0, by omega, X.weak (m_rank S S2 hI.1 (ho.wi cb.1) (hI.2.1.e e2)  i n t q zi zn zt zq) (by decide) (by omega) (fun o h' zp => MO.m hI cb q1 ho zp (fun kk zz T hT hP => ⟨by omega, fun hk => ?_⟩))⟩
    exact absurd hk (by decide)
  · have e2 : MdE S S2 := (em.tr (MdE.q q1)).tr ho.md
    have ub : usum S2 5 ≤ 81920 := usum_le (fun l hl => mrl_gen (hI.2.2.1.e e2) l hl) 5 (Nat.le_refl _)
    refine ⟨0, by omega, X.weak (m_rank S S2 hI.1 (ho.wi cb.1) (hI.2.1.e e2)  i n t q zi zn zt zq) (by decide) (by omega) (fun o h' zp => MO.m hI cb q1 ho zp (fun kk zz T hT hP => ⟨by omega, fun hk => ?_⟩))⟩
    exact absurd hk (by decide)
  · have e2 : MdE S S2 := (em.tr (MdE.q q1)).tr ho.md
    have ub : usum S2 5 ≤ 81920 := usum_le (fun l hl => mrl_gen (hI.2.2.1.e e2) l hl) 5 (Nat.le_refl _)
    refine ⟨0, by omega, X.weak (m_rank S S2 hI.1 (ho.wi cb.1) (hI.2.1.e e2)  i n t q zi zn zt zq) (by decide) (by omega) (fun o h' zp => MO.m hI cb q1 ho zp (fun kk zz T hT hP => ⟨by omega, fun hk => ?_⟩))⟩
    exact absurd hk (by decide)
abbrev R_reason (S : XS) (i n t q : Int) : Nat → Int → XS → Prop := fun k9 v9 D9 => (k9 = 0 ∧ ((0 ≤ i ∧ i < S.1 (0, 0, 0) 6) ∧ 0 ≤ n ∧ n < S.1 (9, i, 0) 3 + 1) ∧ ((0 ≤ t ∧ t < 24) ∧ 0 ≤ q ∧ q < 384) ∧ (bI (hB S.1 i n.toNat t q) = 1) ∧ ∃ rk ru wy, Rsn S.1 i n.toNat t rk ru wy ∧ v9 = (if 0 < rk q then ru q else -1) ∧ S = D9) ∨ (k9 = 1 ∧ ¬ ((0 ≤ i ∧ i < S.1 (0, 0, 0) 6) ∧ 0 ≤ n ∧ n < S.1 (9, i, 0) 3 + 1) ∧ S = D9) ∨ (k9 = 2 ∧ ((0 ≤ i ∧ i < S.1 (0, 0, 0) 6) ∧ 0 ≤ n ∧ n < S.1 (9, i, 0) 3 + 1) ∧ ¬ ((0 ≤ t ∧ t < 24) ∧ 0 ≤ q ∧ q < 384) ∧ S = D9) ∨ (k9 = 3 ∧ ((0 ≤ i ∧ i < S.1 (0, 0, 0) 6) ∧ 0 ≤ n ∧ n < S.1 (9, i, 0) 3 + 1) ∧ ((0 ≤ t ∧ t < 24) ∧ 0 ≤ q ∧ q < 384) ∧ ¬ (bI (hB S.1 i n.toNat t q) = 1) ∧ S = D9)
set_option maxHeartbeats 4000000 in
set_option maxRecDepth 100000 in
theorem cu_reason (S : XS) (hI : LwI S) (i n t q : Int) (zi : zR i) (zn : zR n) (zt : zR t) (zq : zR q)  : X mX8_reason 0 (xEnt mX8_reason [xR (0, 0, 0), xI i, xI n, xI t, xI q]) [] (hp S) 6 36 (CO S ["java/lang/IndexOutOfBoundsException", "java/lang/IllegalArgumentException", "java/util/NoSuchElementException"] (R_reason S i n t q)) := by
  refine X.weak (c_reason S hI.1 i n t q zi zn zt zq ) (by decide) (by decide) (fun o h' qq => ?_)
  rcases qq with ⟨c1, qq⟩ | ⟨c1, qq⟩
  · rcases qq with ⟨c2, qq⟩ | ⟨c2, qq⟩
    · rcases qq with ⟨c3, qq⟩ | ⟨c3, qq⟩
      · obtain ⟨rk, ru, wy, hr, qq⟩ := qq
        exact CO.q hI qq (Or.inl ⟨rfl, c1, c2, bI_1.mpr c3, rk, ru, wy, hr, rfl, rfl⟩)
      · exact CO.x hI qq 2 rfl (Or.inr (Or.inr (Or.inr ⟨rfl, c1, c2, (fun z => c3 (bI_1.mp z)), rfl⟩)))
    · exact CO.x hI qq 1 rfl (Or.inr (Or.inr (Or.inl ⟨rfl, c1, (c2), rfl⟩)))
  · exact CO.x hI qq 0 rfl (Or.inr (Or.inl ⟨rfl, (c1), rfl⟩))
set_option maxHeartbeats 4000000 in
set_option maxRecDepth 100000 in
theorem mo_reason (S : XS) (hI : LwI S) (i n t q : Int) (zi : zR i) (zn : zR n) (zt : zR t) (zq : zR q) : MOk S mX9_reason [xI i, xI n, xI t, xI q] (R_reason S i n t q) := by
  intro S1 S2 D9 k9 v9 q1 cb ho em ji hR
  have h6 := wf0_6 hI.1.1
  rcases hR with ⟨rfl, m1, m2, m3, rk, ru, wy, hr, rfl, rfl⟩ | ⟨rfl, m1, rfl⟩ | ⟨rfl, m1, m2, rfl⟩ | ⟨rfl, m1, m2, m3, rfl⟩
  · have e2 : MdE S S2 := (em.tr (MdE.q q1)).tr ho.md
    have ub : usum S2 5 ≤ 81920 := usum_le (fun l hl => mrl_gen (hI.2.2.1.e e2) l hl) 5 (Nat.le_refl _)
    refine ⟨0, by omega, X.weak (m_reason S S2 hI.1 (ho.wi cb.1) (hI.2.1.e e2)  i n t q zi zn zt zq) (by decide) (by omega) (fun o h' zp => MO.m hI cb q1 ho zp (fun kk zz T hT hP => ⟨by omega, fun hk => ?_⟩))⟩
    rcases hP with hP | ⟨-, -, -, -, hf, hv⟩
    · exfalso; omega
    · have e := fin_rk hI.1 (by omega) (by omega) (by omega) hf hr (q := q) (by omega) (by omega) (bI_1.mp m3)
      have h9 := fin_hb hI.1 (by omega) (by omega) (by omega) hf (q := q) (by omega) (by omega) (bI_1.mp m3)
      by_cases y : 0 < rk q
      · rw [if_pos y]; exact (lk_bev hf hr (by omega) (by omega) hv (by rw [e]; exact y) h9).1
      · rw [if_neg y]
        unfold BeV at hv
        simp only [e] at hv
        omega
  · have e2 : MdE S S2 := (em.tr (MdE.q q1)).tr ho.md
    have ub : usum S2 5 ≤ 81920 := usum_le (fun l hl => mrl_gen (hI.2.2.1.e e2) l hl) 5 (Nat.le_refl _)
    refine ⟨0, by omega, X.weak (m_reason S S2 hI.1 (ho.wi cb.1) (hI.2.1.e e2)  i n t q zi zn zt zq) (by decide) (by omega) (fun o h' zp => MO.m hI cb q1 ho zp (fun kk zz T hT hP => ⟨by omega, fun hk => ?_⟩))⟩
    exact absurd hk (by decide)
  · have e2 : MdE S S2 := (em.tr (MdE.q q1)).tr ho.md
    have ub : usum S2 5 ≤ 81920 := usum_le (fun l hl => mrl_gen (hI.2.2.1.e e2) l hl) 5 (Nat.le_refl _)
    refine ⟨0, by omega, X.weak (m_reason S S2 hI.1 (ho.wi cb.1) (hI.2.1.e e2)  i n t q zi zn zt zq) (by decide) (by omega) (fun o h' zp => MO.m hI cb q1 ho zp (fun kk zz T hT hP => ⟨by omega, fun hk => ?_⟩))⟩
    exact absurd hk (by decide)
  · have e2 : MdE S S2 := (em.tr (MdE.q q1)).tr ho.md
    have ub : usum S2 5 ≤ 81920 := usum_le (fun l hl => mrl_gen (hI.2.2.1.e e2) l hl) 5 (Nat.le_refl _)
    refine ⟨0, by omega, X.weak (m_reason S S2 hI.1 (ho.wi cb.1) (hI.2.1.e e2)  i n t q zi zn zt zq) (by decide) (by omega) (fun o h' zp => MO.m hI cb q1 ho zp (fun kk zz T hT hP => ⟨by omega, fun hk => ?_⟩))⟩
    exact absurd hk (by decide)
abbrev R_proof (S : XS) (i n t q : Int) : Nat → Int → XS → Prop := fun k9 v9 D9 => (k9 = 0 ∧ ((0 ≤ i ∧ i < S.1 (0, 0, 0) 6) ∧ 0 ≤ n ∧ n < S.1 (9, i, 0) 3 + 1) ∧ ((0 ≤ t ∧ t < 24) ∧ 0 ≤ q ∧ q < 384) ∧ (bI (hB S.1 i n.toNat t q) = 1) ∧ ∃ rk ru wy, Rsn S.1 i n.toNat t rk ru wy ∧ v9 = ((prC S.1 rk ru wy q : Nat) : Int) ∧ S = D9) ∨ (k9 = 1 ∧ ¬ ((0 ≤ i ∧ i < S.1 (0, 0, 0) 6) ∧ 0 ≤ n ∧ n < S.1 (9, i, 0) 3 + 1) ∧ S = D9) ∨ (k9 = 2 ∧ ((0 ≤ i ∧ i < S.1 (0, 0, 0) 6) ∧ 0 ≤ n ∧ n < S.1 (9, i, 0) 3 + 1) ∧ ¬ ((0 ≤ t ∧ t < 24) ∧ 0 ≤ q ∧ q < 384) ∧ S = D9) ∨ (k9 = 3 ∧ ((0 ≤ i ∧ i < S.1 (0, 0, 0) 6) ∧ 0 ≤ n ∧ n < S.1 (9, i, 0) 3 + 1) ∧ ((0 ≤ t ∧ t < 24) ∧ 0 ≤ q ∧ q < 384) ∧ ¬ (bI (hB S.1 i n.toNat t q) = 1) ∧ S = D9)
set_option maxHeartbeats 4000000 in
set_option maxRecDepth 100000 in
theorem cu_proof (S : XS) (hI : LwI S) (i n t q : Int) (zi : zR i) (zn : zR n) (zt : zR t) (zq : zR q)  : X mX8_proof 0 (xEnt mX8_proof [xR (0, 0, 0), xI i, xI n, xI t, xI q]) [] (hp S) 6 36 (CO S ["java/lang/IndexOutOfBoundsException", "java/lang/IllegalArgumentException", "java/util/NoSuchElementException"] (R_proof S i n t q)) := by
  refine X.weak (c_proof S hI.1 i n t q zi zn zt zq ) (by decide) (by decide) (fun o h' qq => ?_)
  rcases qq with ⟨c1, qq⟩ | ⟨c1, qq⟩
  · rcases qq with ⟨c2, qq⟩ | ⟨c2, qq⟩
    · rcases qq with ⟨c3, qq⟩ | ⟨c3, qq⟩
      · obtain ⟨rk, ru, wy, hr, qq⟩ := qq
        exact CO.q hI qq (Or.inl ⟨rfl, c1, c2, bI_1.mpr c3, rk, ru, wy, hr, rfl, rfl⟩)
      · exact CO.x hI qq 2 rfl (Or.inr (Or.inr (Or.inr ⟨rfl, c1, c2, (fun z => c3 (bI_1.mp z)), rfl⟩)))
    · exact CO.x hI qq 1 rfl (Or.inr (Or.inr (Or.inl ⟨rfl, c1, (c2), rfl⟩)))
  · exact CO.x hI qq 0 rfl (Or.inr (Or.inl ⟨rfl, (c1), rfl⟩))
set_option maxHeartbeats 4000000 in
set_option maxRecDepth 100000 in
theorem mo_proof (S : XS) (hI : LwI S) (i n t q : Int) (zi : zR i) (zn : zR n) (zt : zR t) (zq : zR q) : MOk S mX9_proof [xI i, xI n, xI t, xI q] (R_proof S i n t q) := by
  intro S1 S2 D9 k9 v9 q1 cb ho em ji hR
  have h6 := wf0_6 hI.1.1
  rcases hR with ⟨rfl, m1, m2, m3, rk, ru, wy, hr, rfl, rfl⟩ | ⟨rfl, m1, rfl⟩ | ⟨rfl, m1, m2, rfl⟩ | ⟨rfl, m1, m2, m3, rfl⟩
  · have e2 : MdE S S2 := (em.tr (MdE.q q1)).tr ho.md
    have ub : usum S2 5 ≤ 81920 := usum_le (fun l hl => mrl_gen (hI.2.2.1.e e2) l hl) 5 (Nat.le_refl _)
    refine ⟨0, by omega, X.weak (m_proof S S2 hI.1 (ho.wi cb.1) (hI.2.1.e e2) (by rw [e2.2]; exact hI.2.2.2.2.2) i n t q zi zn zt zq) (by decide) (by omega) (fun o h' zp => MO.m hI cb q1 ho zp (fun kk zz T hT hP => ⟨by omega, fun hk => ?_⟩))⟩
    rcases hP with hP | ⟨-, -, -, -, rk2, hf, hb2, hz⟩
    · exfalso; omega
    · have h9 := fin_hb hI.1 (by omega) (by omega) (by omega) hf (q := q) (by omega) (by omega) (bI_1.mp m3)
      rw [hz, lk_proof hI.1 (by omega) (by omega) (by omega) hf hb2 hr (by omega) (by omega) h9]
  · have e2 : MdE S S2 := (em.tr (MdE.q q1)).tr ho.md
    have ub : usum S2 5 ≤ 81920 := usum_le (fun l hl => mrl_gen (hI.2.2.1.e e2) l hl) 5 (Nat.le_refl _)
    refine ⟨0, by omega, X.weak (m_proof S S2 hI.1 (ho.wi cb.1) (hI.2.1.e e2) (by rw [e2.2]; exact hI.2.2.2.2.2) i n t q zi zn zt zq) (by decide) (by omega) (fun o h' zp => MO.m hI cb q1 ho zp (fun kk zz T hT hP => ⟨by omega, fun hk => ?_⟩))⟩
    exact absurd hk (by decide)
  · have e2 : MdE S S2 := (em.tr (MdE.q q1)).tr ho.md
    have ub : usum S2 5 ≤ 81920 := usum_le (fun l hl => mrl_gen (hI.2.2.1.e e2) l hl) 5 (Nat.le_refl _)
    refine ⟨0, by omega, X.weak (m_proof S S2 hI.1 (ho.wi cb.1) (hI.2.1.e e2) (by rw [e2.2]; exact hI.2.2.2.2.2) i n t q zi zn zt zq) (by decide) (by omega) (fun o h' zp => MO.m hI cb q1 ho zp (fun kk zz T hT hP => ⟨by omega, fun hk => ?_⟩))⟩
    exact absurd hk (by decide)
  · have e2 : MdE S S2 := (em.tr (MdE.q q1)).tr ho.md
    have ub : usum S2 5 ≤ 81920 := usum_le (fun l hl => mrl_gen (hI.2.2.1.e e2) l hl) 5 (Nat.le_refl _)
    refine ⟨0, by omega, X.weak (m_proof S S2 hI.1 (ho.wi cb.1) (hI.2.1.e e2) (by rw [e2.2]; exact hI.2.2.2.2.2) i n t q zi zn zt zq) (by decide) (by omega) (fun o h' zp => MO.m hI cb q1 ho zp (fun kk zz T hT hP => ⟨by omega, fun hk => ?_⟩))⟩
    exact absurd hk (by decide)
