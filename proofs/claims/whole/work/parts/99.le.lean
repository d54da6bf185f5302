/-! the law's calls: turn, merge, forget, fork, listen -/
theorem trn_k (S : XS) (i r z : Int) {k : Nat} (h : k ≠ 13 ∧ k ≠ 11 ∧ k ≠ 9 ∧ k ≠ 34) (x y : Int) : (sTurn S i r z).1 (k, x, y) = S.1 (k, x, y) := by
  unfold sTurn
  rw [sApp_k _ _ _ _ _ _ _ _ ⟨h.1, h.2.1, h.2.2.1⟩, was_9 _ _ _ _ _ _ h.2.2.2]
theorem MdE.trn (S : XS) (i r z : Int) : MdE S (sTurn S i r z) := ⟨fun k x y hk => trn_k S i r z ⟨by omega, by omega, by omega, by omega⟩ x y, rfl⟩
theorem mgF_j (C : XS) (o b : Int) : (sMgF C o b).2 = C.2 := mgN_j C o b _
theorem mgF_k (C : XS) (o b : Int) {k : Nat} (h : k ≠ 13 ∧ k ≠ 11 ∧ k ≠ 9 ∧ k ≠ 0) (x y : Int) : (sMgF C o b).1 (k, x, y) = C.1 (k, x, y) := by
  unfold sMgF
  rw [putI_o (nK h.2.2.1 _ _ _ _), mg_o C _ h.1 h.2.1 (nK h.2.2.1 _ _ _ _) (nK h.2.2.2 _ _ _ _)]
theorem mgF_0 (C : XS) (o b : Int) {j : Int} (h : j ≠ 8) : (sMgF C o b).1 (0, 0, 0) j = C.1 (0, 0, 0) j := by
  unfold sMgF
  rw [putI_o (nK (by decide) _ _ _ _), mg_0 C _ h]
theorem MdE.mgF (S : XS) (o b : Int) : MdE S (sMgF S o b) := ⟨fun k x y hk => mgF_k S o b ⟨by omega, by omega, by omega, by omega⟩ x y, by rw [mgF_j]⟩
theorem fgB_k (S : XS) (x : Int) (n : Nat) {k : Nat} (h : k ≠ 13 ∧ k ≠ 14) (a c : Int) : (sFgB S x n).1 (k, a, c) = S.1 (k, a, c) := fgB_o S x n h a c
theorem fgB_x (S : XS) (x : Int) (n : Nat) : (sFgB S x n).2.2 = S.2.2 := by
  rw [(fgB_eq S x n).1, (inA_L _ _ _).2.2, fgA_j]
theorem MdE.fgB (S : XS) (x : Int) (n : Nat) : MdE S (sFgB S x n) := ⟨fun k a c hk => fgB_o S x n ⟨by omega, by omega⟩ a c, by rw [fgB_x]⟩
theorem MdE.frk (S : XS) (i : Int) (n : Nat) : MdE S (sFrk S i n) := ⟨fun k x y hk => frk_o S i n ⟨by omega, by omega, by omega, by omega⟩ x y, by rw [frk_j]⟩
theorem MdE.lis (S : XS) (i r a s t : Int) : MdE S (sLis S i r a s t) := ⟨fun k x y hk => lis_o S i r a s t (nK (by omega) _ _ _ _) (nK (by omega) _ _ _ _), rfl⟩
abbrev R_turn (S : XS) (i r z : Int) : Nat → Int → XS → Prop := fun k9 v9 D9 => (k9 = 0 ∧ ((0 ≤ i ∧ i < S.1 (0, 0, 0) 6) ∧ 0 ≤ r ∧ r < S.1 (4, 0, 0) 2) ∧ (z = 0 ∨ bI (CanOn S r (onN S.1 i (S.1 (9, i, 0) 3).toNat)) = 1) ∧ (S.1 (9, i, 0) 3 < 60) ∧ v9 = S.1 (9, i, 0) 3 + 1 ∧ sInf (sTurn S i r z) i (S.1 (0, 0, 0) 7).toNat = D9) ∨ (k9 = 1 ∧ ¬ ((0 ≤ i ∧ i < S.1 (0, 0, 0) 6) ∧ 0 ≤ r ∧ r < S.1 (4, 0, 0) 2) ∧ S = D9) ∨ (k9 = 2 ∧ ((0 ≤ i ∧ i < S.1 (0, 0, 0) 6) ∧ 0 ≤ r ∧ r < S.1 (4, 0, 0) 2) ∧ ¬ (z = 0 ∨ bI (CanOn S r (onN S.1 i (S.1 (9, i, 0) 3).toNat)) = 1) ∧ S = D9) ∨ (k9 = 3 ∧ ((0 ≤ i ∧ i < S.1 (0, 0, 0) 6) ∧ 0 ≤ r ∧ r < S.1 (4, 0, 0) 2) ∧ (z = 0 ∨ bI (CanOn S r (onN S.1 i (S.1 (9, i, 0) 3).toNat)) = 1) ∧ ¬ (S.1 (9, i, 0) 3 < 60) ∧ S = D9)
set_option maxHeartbeats 4000000 in
set_option maxRecDepth 100000 in
theorem cu_turn (S : XS) (hI : LwI S) (i r z : Int) (zi : zR i) (zr : zR r) (hz1 : z = 0 ∨ z = 1)  : X mX8_turn 0 (xEnt mX8_turn [xR (0, 0, 0), xI i, xI r, xI z]) [] (hp S) 6 36 (CO S ["java/lang/IndexOutOfBoundsException", "java/lang/UnsupportedOperationException", "java/lang/IllegalStateException"] (R_turn S i r z)) := by
  have h6 := wf0_6 hI.1.1
  have h7 := wf0_7 hI.1.1
  have hrl : S.1 (9, i, 0) 3 < 60 → CapOk (sTurn S i r z) i ∧ EndOk (sTurn S i r z) i := fun hs => room_lt hI.1.1 hI.2.2.2.1 hs (fun l => trn_k S i r z (by decide) l 0) (fun _ => ⟨rfl, rfl⟩) (by rw [trn_k S i r z (by decide)])
  refine X.weak (c_turn9 S hI.1 i r z zi zr hz1 (fun hs => (hrl hs).1)) (by decide) (by decide) (fun o h' qq => ?_)
  rcases qq with ⟨c1, qq⟩ | ⟨c1, qq⟩
  · rcases qq with ⟨c2, qq⟩ | ⟨c2, qq⟩
    · rcases qq with ⟨c3, qq⟩ | ⟨c3, qq⟩
      · have h4 := wf4_2 hI.1.1
        have wA : CB (sTurn S i r z) := hI.1.turn (by omega) (by omega) (by omega) (by omega) (by omega) hz1 c2
        have hv := wasV_or hI.1.1 (r := r) (z := z) (by omega) (by omega)
        have ji : JInv (sInf (sTurn S i r z) i (S.1 (0, 0, 0) 7).toNat) := (JInv.app (hI.1.was (by omega) (by omega) hv) (hI.2.2.2.1.was hI.1 (by omega) (by omega) hv) (b := i) (r := 1) (by omega) (by rw [putI_o (nK (by decide) _ _ _ _)]; omega) (fun z => by cases z)).inf wA.1 _ (by rw [trn_k S i r z (by decide)]; omega)
        have em : MdE S (sInf (sTurn S i r z) i (S.1 (0, 0, 0) 7).toNat) := (MdE.trn S i r z).inf i _
        exact CO.n qq em ji (Or.inl ⟨rfl, c1, (by by_cases y : z = 0; exact Or.inl y; exact Or.inr (bI_1.mpr (c2 y))), c3, rfl, rfl⟩)
      · exact CO.x hI qq 2 rfl (Or.inr (Or.inr (Or.inr ⟨rfl, c1, (by by_cases y : z = 0; exact Or.inl y; exact Or.inr (bI_1.mpr (c2 y))), (c3), rfl⟩)))
    · exact CO.x hI qq 1 rfl (Or.inr (Or.inr (Or.inl ⟨rfl, c1, (fun w => c2 (fun y => by rcases w with w | w; exact absurd w y; exact bI_1.mp w)), rfl⟩)))
  · exact CO.x hI qq 0 rfl (Or.inr (Or.inl ⟨rfl, (c1), rfl⟩))
set_option maxHeartbeats 4000000 in
set_option maxRecDepth 100000 in
theorem mo_turn (S : XS) (hI : LwI S) (i r z : Int) (zi : zR i) (zr : zR r) (hz1 : z = 0 ∨ z = 1) : MOk S mX9_turn [xI i, xI r, xI z] (R_turn S i r z) := by
  intro S1 S2 D9 k9 v9 q1 cb ho em ji hR
  have e2 : MdE S S2 := (em.tr (MdE.q q1)).tr ho.md
  have ub : usum S2 5 ≤ 81920 := usum_le (fun l hl => mrl_gen (hI.2.2.1.e e2) l hl) 5 (Nat.le_refl _)
  have h7 := wf0_7 hI.1.1
  have h6 := wf0_6 hI.1.1
  have hrl : S.1 (9, i, 0) 3 < 60 → CapOk (sTurn S i r z) i ∧ EndOk (sTurn S i r z) i := fun hs => room_lt hI.1.1 hI.2.2.2.1 hs (fun l => trn_k S i r z (by decide) l 0) (fun _ => ⟨rfl, rfl⟩) (by rw [trn_k S i r z (by decide)])
  rcases hR with ⟨rfl, m1, m2, m3, rfl, rfl⟩ | ⟨rfl, m1, rfl⟩ | ⟨rfl, m1, m2, rfl⟩ | ⟨rfl, m1, m2, m3, rfl⟩
  · have hml : MRl (sTurn S i r z) S2 := (hI.2.2.1.e e2).to (fun l => ⟨trn_k S i r z (by decide) l 0, rfl, rfl, rfl⟩) (by rw [trn_k S i r z (by decide)]) (fun _ _ _ => rfl) rfl (fun _ _ => rfl)
    have hnd : ndS (sTurn S i r z) S2 i (S.1 (0, 0, 0) 7).toNat + usum S2 5 ≤ 81920 := ndS_le hml ((fun hs => (hrl hs).2) (by omega)) (by rw [trn_k S i r z (k := 0) (by decide)]; omega) (by rw [trn_k S i r z (k := 0) (by decide)]; omega)
    refine ⟨_, hnd, X.weak (m_turn S S2 hI.1 (ho.wi cb.1) (hI.2.1.e e2) i r zi zr z hz1 (hI.2.2.1.e e2)  (S.1 (0, 0, 0) 7).toNat (show S.1 (0, 0, 0) 7 = (((S.1 (0, 0, 0) 7).toNat : Nat) : Int) by omega) (fun hs => (hrl hs).2) (ndS (sTurn S i r z) S2 i (S.1 (0, 0, 0) 7).toNat) (fun _ => Nat.le_refl _)) (by decide) (by omega) (fun o h' zp => ?_)⟩
    rcases zp with zp | ⟨-, zp⟩
    · exfalso
      obtain ⟨T, z1, -, -, -, -, hP⟩ := zp
      omega
    · exact MO.tl hI cb q1 ho em ji (by rw [trn_k S i r z (by decide)]) zp
  · refine ⟨0, by omega, X.weak (m_turn S S2 hI.1 (ho.wi cb.1) (hI.2.1.e e2) i r zi zr z hz1 (hI.2.2.1.e e2)  (S.1 (0, 0, 0) 7).toNat (show S.1 (0, 0, 0) 7 = (((S.1 (0, 0, 0) 7).toNat : Nat) : Int) by omega) (fun hs => (hrl hs).2) 0 (fun h => by exfalso; omega)) (by decide) (Nat.zero_le _) (fun o h' zp => ?_)⟩
    rcases zp with zp | ⟨zp, -⟩
    · exact MO.m hI cb q1 ho zp (fun kk zz T hT hP => ⟨by omega, fun h => absurd h (by decide)⟩)
    · exfalso
      omega
  · refine ⟨0, by omega, X.weak (m_turn S S2 hI.1 (ho.wi cb.1) (hI.2.1.e e2) i r zi zr z hz1 (hI.2.2.1.e e2)  (S.1 (0, 0, 0) 7).toNat (show S.1 (0, 0, 0) 7 = (((S.1 (0, 0, 0) 7).toNat : Nat) : Int) by omega) (fun hs => (hrl hs).2) 0 (fun h => by exfalso; omega)) (by decide) (Nat.zero_le _) (fun o h' zp => ?_)⟩
    rcases zp with zp | ⟨zp, -⟩
    · exact MO.m hI cb q1 ho zp (fun kk zz T hT hP => ⟨by omega, fun h => absurd h (by decide)⟩)
    · exfalso
      omega
  · refine ⟨0, by omega, X.weak (m_turn S S2 hI.1 (ho.wi cb.1) (hI.2.1.e e2) i r zi zr z hz1 (hI.2.2.1.e e2)  (S.1 (0, 0, 0) 7).toNat (show S.1 (0, 0, 0) 7 = (((S.1 (0, 0, 0) 7).toNat : Nat) : Int) by omega) (fun hs => (hrl hs).2) 0 (fun h => by exfalso; omega)) (by decide) (Nat.zero_le _) (fun o h' zp => ?_)⟩
    rcases zp with zp | ⟨zp, -⟩
    · exact MO.m hI cb q1 ho zp (fun kk zz T hT hP => ⟨by omega, fun h => absurd h (by decide)⟩)
    · exfalso
      omega
abbrev R_merge (S : XS) (b : Int) : Nat → Int → XS → Prop := fun k9 v9 D9 => (k9 = 0 ∧ (0 ≤ b ∧ b < S.1 (0, 0, 0) 6) ∧ (b ≠ 0) ∧ v9 = (sMgF S (S.1 (9, b, 0) 4) b).1 (9, (S.1 (9, b, 0) 4), 0) 3 - S.1 (9, (S.1 (9, b, 0) 4), 0) 3 ∧ sInf (sMgF S (S.1 (9, b, 0) 4) b) (S.1 (9, b, 0) 4) (S.1 (0, 0, 0) 7).toNat = D9) ∨ (k9 = 1 ∧ ¬ (0 ≤ b ∧ b < S.1 (0, 0, 0) 6) ∧ S = D9) ∨ (k9 = 2 ∧ (0 ≤ b ∧ b < S.1 (0, 0, 0) 6) ∧ ¬ (b ≠ 0) ∧ S = D9)
set_option maxHeartbeats 4000000 in
set_option maxRecDepth 100000 in
theorem cu_merge (S : XS) (hI : LwI S) (b : Int) (zb : zR b)  : X mX8_merge 0 (xEnt mX8_merge [xR (0, 0, 0), xI b]) [] (hp S) 6 36 (CO S ["java/lang/IndexOutOfBoundsException", "java/lang/IllegalArgumentException"] (R_merge S b)) := by
  have h6 := wf0_6 hI.1.1
  have h7 := wf0_7 hI.1.1
  refine X.weak (c_merge S hI.1 b zb (fun b b0 b1 => (hI.2.2.2.1.ho (by omega) b b0 b1).1) (fun b0 b1 => (hI.2.2.2.1.mgF hI.1 b0 b1).2.cap (hI.2.2.2.1.mgF hI.1 b0 b1).1.1)) (by decide) (by decide) (fun o h' qq => ?_)
  rcases qq with ⟨c1, qq⟩ | ⟨c1, qq⟩
  · rcases qq with ⟨c2, qq⟩ | ⟨c2, qq⟩
    · have mg := hI.2.2.2.1.mgF hI.1 (b := b) (by omega) (by omega)
      have ji := mg.2.inf mg.1.1 (S.1 (0, 0, 0) 7).toNat (by rw [mgF_0 S _ b (by decide)]; omega)
      have em : MdE S (sInf (sMgF S (S.1 (9, b, 0) 4) b) (S.1 (9, b, 0) 4) (S.1 (0, 0, 0) 7).toNat) := (MdE.mgF S _ b).inf _ _
      exact CO.n qq em ji (Or.inl ⟨rfl, c1, c2, rfl, rfl⟩)
    · exact CO.x hI qq 1 rfl (Or.inr (Or.inr ⟨rfl, c1, (c2), rfl⟩))
  · exact CO.x hI qq 0 rfl (Or.inr (Or.inl ⟨rfl, (c1), rfl⟩))
set_option maxHeartbeats 4000000 in
set_option maxRecDepth 100000 in
theorem mo_merge (S : XS) (hI : LwI S) (b : Int) (zb : zR b) : MOk S mX9_merge [xI b] (R_merge S b) := by
  intro S1 S2 D9 k9 v9 q1 cb ho em ji hR
  have e2 : MdE S S2 := (em.tr (MdE.q q1)).tr ho.md
  have ub : usum S2 5 ≤ 81920 := usum_le (fun l hl => mrl_gen (hI.2.2.1.e e2) l hl) 5 (Nat.le_refl _)
  have h7 := wf0_7 hI.1.1
  have h6 := wf0_6 hI.1.1
  rcases hR with ⟨rfl, m1, m2, rfl, rfl⟩ | ⟨rfl, m1, rfl⟩ | ⟨rfl, m1, m2, rfl⟩
  · have hml : MRl (sMgF S (S.1 (9, b, 0) 4) b) S2 := (hI.2.2.1.e e2).to (fun l => ⟨mgF_k S _ b (by decide) l 0, by rw [mgF_j], by rw [mgF_j], by rw [mgF_j]⟩) (by rw [mgF_0 S _ b (by decide)]) (fun _ _ _ => rfl) rfl (fun _ _ => rfl)
    have hnd : ndS (sMgF S (S.1 (9, b, 0) 4) b) S2 (S.1 (9, b, 0) 4) (S.1 (0, 0, 0) 7).toNat + usum S2 5 ≤ 81920 := ndS_le hml ((fun b0 b1 => (hI.2.2.2.1.mgF hI.1 b0 b1).2.end (hI.2.2.2.1.mgF hI.1 b0 b1).1.1) (by omega) (by omega)) (by rw [mgF_0 S _ b (by decide)]; omega) (by rw [mgF_0 S _ b (by decide)]; omega)
    refine ⟨_, hnd, X.weak (m_merge S S2 hI.1 (ho.wi cb.1) (hI.2.1.e e2) b zb (hI.2.2.1.e e2) (hI.2.2.2.1.ho (by omega)) hI.2.2.2.1.hsp (S.1 (0, 0, 0) 7).toNat (show S.1 (0, 0, 0) 7 = (((S.1 (0, 0, 0) 7).toNat : Nat) : Int) by omega) (fun b0 b1 => (hI.2.2.2.1.mgF hI.1 b0 b1).2.end (hI.2.2.2.1.mgF hI.1 b0 b1).1.1) (ndS (sMgF S (S.1 (9, b, 0) 4) b) S2 (S.1 (9, b, 0) 4) (S.1 (0, 0, 0) 7).toNat) (fun _ => Nat.le_refl _)) (by decide) (by omega) (fun o h' zp => ?_)⟩
    rcases zp with zp | ⟨-, zp⟩
    · exfalso
      obtain ⟨T, z1, -, -, -, -, hP⟩ := zp
      omega
    · exact MO.tl hI cb q1 ho em ji (by rw [mgF_k S _ b (by decide)]) zp
  · refine ⟨0, by omega, X.weak (m_merge S S2 hI.1 (ho.wi cb.1) (hI.2.1.e e2) b zb (hI.2.2.1.e e2) (hI.2.2.2.1.ho (by omega)) hI.2.2.2.1.hsp (S.1 (0, 0, 0) 7).toNat (show S.1 (0, 0, 0) 7 = (((S.1 (0, 0, 0) 7).toNat : Nat) : Int) by omega) (fun b0 b1 => (hI.2.2.2.1.mgF hI.1 b0 b1).2.end (hI.2.2.2.1.mgF hI.1 b0 b1).1.1) 0 (fun h => by exfalso; omega)) (by decide) (Nat.zero_le _) (fun o h' zp => ?_)⟩
    rcases zp with zp | ⟨zp, -⟩
    · exact MO.m hI cb q1 ho zp (fun kk zz T hT hP => ⟨by omega, fun h => absurd h (by decide)⟩)
    · exfalso
      omega
  · refine ⟨0, by omega, X.weak (m_merge S S2 hI.1 (ho.wi cb.1) (hI.2.1.e e2) b zb (hI.2.2.1.e e2) (hI.2.2.2.1.ho (by omega)) hI.2.2.2.1.hsp (S.1 (0, 0, 0) 7).toNat (show S.1 (0, 0, 0) 7 = (((S.1 (0, 0, 0) 7).toNat : Nat) : Int) by omega) (fun b0 b1 => (hI.2.2.2.1.mgF hI.1 b0 b1).2.end (hI.2.2.2.1.mgF hI.1 b0 b1).1.1) 0 (fun h => by exfalso; omega)) (by decide) (Nat.zero_le _) (fun o h' zp => ?_)⟩
    rcases zp with zp | ⟨zp, -⟩
    · exact MO.m hI cb q1 ho zp (fun kk zz T hT hP => ⟨by omega, fun h => absurd h (by decide)⟩)
    · exfalso
      omega
abbrev R_fork (S : XS) (i n : Int) : Nat → Int → XS → Prop := fun k9 v9 D9 => (k9 = 0 ∧ ((0 ≤ i ∧ i < S.1 (0, 0, 0) 6) ∧ 0 ≤ n ∧ n < S.1 (9, i, 0) 3 + 1) ∧ (S.1 (0, 0, 0) 6 < 4) ∧ v9 = S.1 (0, 0, 0) 6 ∧ sFrk S i n.toNat = D9) ∨ (k9 = 1 ∧ ¬ ((0 ≤ i ∧ i < S.1 (0, 0, 0) 6) ∧ 0 ≤ n ∧ n < S.1 (9, i, 0) 3 + 1) ∧ S = D9) ∨ (k9 = 2 ∧ ((0 ≤ i ∧ i < S.1 (0, 0, 0) 6) ∧ 0 ≤ n ∧ n < S.1 (9, i, 0) 3 + 1) ∧ ¬ (S.1 (0, 0, 0) 6 < 4) ∧ S = D9)
set_option maxHeartbeats 4000000 in
set_option maxRecDepth 100000 in
theorem cu_fork (S : XS) (hI : LwI S) (i n : Int) (zi : zR i) (zn : zR n)  : X mX8_fork 0 (xEnt mX8_fork [xR (0, 0, 0), xI i, xI n]) [] (hp S) 6 36 (CO S ["java/lang/IndexOutOfBoundsException", "java/lang/IllegalStateException"] (R_fork S i n)) := by
  have h6 := wf0_6 hI.1.1
  have h7 := wf0_7 hI.1.1
  refine X.weak (c_fork S hI.1 i n zi zn ) (by decide) (by decide) (fun o h' qq => ?_)
  rcases qq with ⟨c1, qq⟩ | ⟨c1, qq⟩
  · rcases qq with ⟨c2, qq⟩ | ⟨c2, qq⟩
    · have ji := hI.2.2.2.1.frk hI.1.1 (i := i) (n := n.toNat) (by omega) (by omega) (by omega) (by omega)
      have em := MdE.frk S i n.toNat
      exact CO.n qq em ji (Or.inl ⟨rfl, c1, c2, rfl, rfl⟩)
    · exact CO.x hI qq 1 rfl (Or.inr (Or.inr ⟨rfl, c1, (c2), rfl⟩))
  · exact CO.x hI qq 0 rfl (Or.inr (Or.inl ⟨rfl, (c1), rfl⟩))
set_option maxHeartbeats 4000000 in
set_option maxRecDepth 100000 in
theorem mo_fork (S : XS) (hI : LwI S) (i n : Int) (zi : zR i) (zn : zR n) : MOk S mX9_fork [xI i, xI n] (R_fork S i n) := by
  intro S1 S2 D9 k9 v9 q1 cb ho em ji hR
  have e2 : MdE S S2 := (em.tr (MdE.q q1)).tr ho.md
  have ub : usum S2 5 ≤ 81920 := usum_le (fun l hl => mrl_gen (hI.2.2.1.e e2) l hl) 5 (Nat.le_refl _)
  have h7 := wf0_7 hI.1.1
  have h6 := wf0_6 hI.1.1
  rcases hR with ⟨rfl, m1, m2, rfl, rfl⟩ | ⟨rfl, m1, rfl⟩ | ⟨rfl, m1, m2, rfl⟩
  · refine ⟨0, by omega, X.weak (m_fork S S2 hI.1 (ho.wi cb.1) (hI.2.1.e e2) i n zi zn (hI.2.2.1.e e2) (fun h => (hI.2.2.2.1.2.1 _ (by omega) h).2.2.2 (Int.le_refl _)) ) (by decide) (by omega) (fun o h' zp => ?_)⟩
    rcases zp with zp | ⟨-, zp⟩
    · exfalso
      obtain ⟨T, z1, -, -, -, -, hP⟩ := zp
      omega
    · exact MO.tz hI cb q1 ho em ji (by rw [frk_o S i n.toNat (by decide)]) zp
  · refine ⟨0, by omega, X.weak (m_fork S S2 hI.1 (ho.wi cb.1) (hI.2.1.e e2) i n zi zn (hI.2.2.1.e e2) (fun h => (hI.2.2.2.1.2.1 _ (by omega) h).2.2.2 (Int.le_refl _)) ) (by decide) (Nat.zero_le _) (fun o h' zp => ?_)⟩
    rcases zp with zp | ⟨zp, -⟩
    · exact MO.m hI cb q1 ho zp (fun kk zz T hT hP => ⟨by omega, fun h => absurd h (by decide)⟩)
    · exfalso
      omega
  · refine ⟨0, by omega, X.weak (m_fork S S2 hI.1 (ho.wi cb.1) (hI.2.1.e e2) i n zi zn (hI.2.2.1.e e2) (fun h => (hI.2.2.2.1.2.1 _ (by omega) h).2.2.2 (Int.le_refl _)) ) (by decide) (Nat.zero_le _) (fun o h' zp => ?_)⟩
    rcases zp with zp | ⟨zp, -⟩
    · exact MO.m hI cb q1 ho zp (fun kk zz T hT hP => ⟨by omega, fun h => absurd h (by decide)⟩)
    · exfalso
      omega
abbrev R_listen (S : XS) (i r a s t : Int) : Nat → Int → XS → Prop := fun k9 v9 D9 => (k9 = 0 ∧ (0 ≤ i ∧ i < S.1 (0, 0, 0) 6) ∧ (((0 ≤ r ∧ r < 6) ∧ (a = -1 ∨ 0 ≤ a ∧ a < 8) ∧ (s = -1 ∨ 0 ≤ s ∧ s < 8)) ∧ 0 ≤ t ∧ t < 24) ∧ (S.1 (0, 0, 0) 7 < 5) ∧ v9 = S.1 (0, 0, 0) 7 ∧ sLis S i r a s t = D9) ∨ (k9 = 1 ∧ ¬ (0 ≤ i ∧ i < S.1 (0, 0, 0) 6) ∧ S = D9) ∨ (k9 = 2 ∧ (0 ≤ i ∧ i < S.1 (0, 0, 0) 6) ∧ ¬ (((0 ≤ r ∧ r < 6) ∧ (a = -1 ∨ 0 ≤ a ∧ a < 8) ∧ (s = -1 ∨ 0 ≤ s ∧ s < 8)) ∧ 0 ≤ t ∧ t < 24) ∧ S = D9) ∨ (k9 = 3 ∧ (0 ≤ i ∧ i < S.1 (0, 0, 0) 6) ∧ (((0 ≤ r ∧ r < 6) ∧ (a = -1 ∨ 0 ≤ a ∧ a < 8) ∧ (s = -1 ∨ 0 ≤ s ∧ s < 8)) ∧ 0 ≤ t ∧ t < 24) ∧ ¬ (S.1 (0, 0, 0) 7 < 5) ∧ S = D9)
set_option maxHeartbeats 4000000 in
set_option maxRecDepth 100000 in
theorem cu_listen (S : XS) (hI : LwI S) (i r a s t : Int) (zi : zR i) (zr : zR r) (za : zR a) (zs : zR s) (zt : zR t)  : X mX8_listen 0 (xEnt mX8_listen [xR (0, 0, 0), xI i, xI r, xI a, xI s, xI t]) [] (hp S) 6 36 (CO S ["java/lang/IndexOutOfBoundsException", "java/lang/IllegalArgumentException", "java/lang/IllegalStateException"] (R_listen S i r a s t)) := by
  have h6 := wf0_6 hI.1.1
  have h7 := wf0_7 hI.1.1
  refine X.weak (c_listen S hI.1 i r a s t zi zr za zs zt ) (by decide) (by decide) (fun o h' qq => ?_)
  rcases qq with ⟨c1, qq⟩ | ⟨c1, qq⟩
  · rcases qq with ⟨c2, qq⟩ | ⟨c2, qq⟩
    · rcases qq with ⟨c3, qq⟩ | ⟨c3, qq⟩
      · have ji := hI.2.2.2.1.lis hI.1.1 (i := i) (r := r) (a := a) (s := s) (t := t) (by omega) (by omega) (by omega)
        have em := MdE.lis S i r a s t
        exact CO.n qq em ji (Or.inl ⟨rfl, c1, c2, c3, rfl, rfl⟩)
      · exact CO.x hI qq 2 rfl (Or.inr (Or.inr (Or.inr ⟨rfl, c1, c2, (c3), rfl⟩)))
    · exact CO.x hI qq 1 rfl (Or.inr (Or.inr (Or.inl ⟨rfl, c1, (c2), rfl⟩)))
  · exact CO.x hI qq 0 rfl (Or.inr (Or.inl ⟨rfl, (c1), rfl⟩))
set_option maxHeartbeats 4000000 in
set_option maxRecDepth 100000 in
theorem mo_listen (S : XS) (hI : LwI S) (i r a s t : Int) (zi : zR i) (zr : zR r) (za : zR a) (zs : zR s) (zt : zR t) : MOk S mX9_listen [xI i, xI r, xI a, xI s, xI t] (R_listen S i r a s t) := by
  intro S1 S2 D9 k9 v9 q1 cb ho em ji hR
  have e2 : MdE S S2 := (em.tr (MdE.q q1)).tr ho.md
  have ub : usum S2 5 ≤ 81920 := usum_le (fun l hl => mrl_gen (hI.2.2.1.e e2) l hl) 5 (Nat.le_refl _)
  have h7 := wf0_7 hI.1.1
  have h6 := wf0_6 hI.1.1
  rcases hR with ⟨rfl, m1, m2, m3, rfl, rfl⟩ | ⟨rfl, m1, rfl⟩ | ⟨rfl, m1, m2, rfl⟩ | ⟨rfl, m1, m2, m3, rfl⟩
  · refine ⟨0, by omega, X.weak (m_listen S S2 hI.1 (ho.wi cb.1) (hI.2.1.e e2) i r a s t zi zr za zs zt (hI.2.2.1.e e2) ) (by decide) (by omega) (fun o h' zp => ?_)⟩
    rcases zp with zp | ⟨-, zp⟩
    · exfalso
      obtain ⟨T, z1, -, -, -, -, hP⟩ := zp
      omega
    · exact MO.tz hI cb q1 ho em ji (by rw [lis_o S i r a s t (nK (by decide) _ _ _ _) (nK (by decide) _ _ _ _)]) zp
  · refine ⟨0, by omega, X.weak (m_listen S S2 hI.1 (ho.wi cb.1) (hI.2.1.e e2) i r a s t zi zr za zs zt (hI.2.2.1.e e2) ) (by decide) (Nat.zero_le _) (fun o h' zp => ?_)⟩
    rcases zp with zp | ⟨zp, -⟩
    · exact MO.m hI cb q1 ho zp (fun kk zz T hT hP => ⟨by omega, fun h => absurd h (by decide)⟩)
    · exfalso
      omega
  · refine ⟨0, by omega, X.weak (m_listen S S2 hI.1 (ho.wi cb.1) (hI.2.1.e e2) i r a s t zi zr za zs zt (hI.2.2.1.e e2) ) (by decide) (Nat.zero_le _) (fun o h' zp => ?_)⟩
    rcases zp with zp | ⟨zp, -⟩
    · exact MO.m hI cb q1 ho zp (fun kk zz T hT hP => ⟨by omega, fun h => absurd h (by decide)⟩)
    · exfalso
      omega
  · refine ⟨0, by omega, X.weak (m_listen S S2 hI.1 (ho.wi cb.1) (hI.2.1.e e2) i r a s t zi zr za zs zt (hI.2.2.1.e e2) ) (by decide) (Nat.zero_le _) (fun o h' zp => ?_)⟩
    rcases zp with zp | ⟨zp, -⟩
    · exact MO.m hI cb q1 ho zp (fun kk zz T hT hP => ⟨by omega, fun h => absurd h (by decide)⟩)
    · exfalso
      omega
abbrev R_forget (S : XS) (x : Int) : Nat → Int → XS → Prop := fun k9 v9 D9 => (k9 = 0 ∧ (0 ≤ x ∧ x < 8) ∧ v9 = fgS S x (S.1 (0, 0, 0) 6).toNat ∧ sFgB S x (S.1 (0, 0, 0) 6).toNat = D9) ∨ (k9 = 1 ∧ ¬ (0 ≤ x ∧ x < 8) ∧ S = D9)
set_option maxHeartbeats 4000000 in
set_option maxRecDepth 100000 in
theorem cu_forget (S : XS) (hI : LwI S) (x : Int) (zx : zR x)  : X mX8_forget 0 (xEnt mX8_forget [xR (0, 0, 0), xI x]) [] (hp S) 6 36 (CO S ["java/lang/IllegalArgumentException"] (R_forget S x)) := by
  have h6 := wf0_6 hI.1.1
  have h7 := wf0_7 hI.1.1
  refine X.weak (c_forget S hI.1 x zx (hI.2.2.2.1.fgcap hI.1 x)) (by decide) (by decide) (fun o h' qq => ?_)
  rcases qq with ⟨c1, qq⟩ | ⟨c1, qq⟩
  · have ji := (fgB_all hI.1 hI.2.2.2.1 x (S.1 (0, 0, 0) 6).toNat (by omega)).2
    have em := MdE.fgB S x (S.1 (0, 0, 0) 6).toNat
    exact CO.n qq em ji (Or.inl ⟨rfl, c1, rfl, rfl⟩)
  · exact CO.x hI qq 0 rfl (Or.inr ⟨rfl, (c1), rfl⟩)
set_option maxHeartbeats 4000000 in
set_option maxRecDepth 100000 in
theorem mo_forget (S : XS) (hI : LwI S) (x : Int) (zx : zR x) : MOk S mX9_forget [xI x] (R_forget S x) := by
  intro S1 S2 D9 k9 v9 q1 cb ho em ji hR
  have e2 : MdE S S2 := (em.tr (MdE.q q1)).tr ho.md
  have ub : usum S2 5 ≤ 81920 := usum_le (fun l hl => mrl_gen (hI.2.2.1.e e2) l hl) 5 (Nat.le_refl _)
  have h7 := wf0_7 hI.1.1
  have h6 := wf0_6 hI.1.1
  have hml : MRl (sFgA S x (S.1 (0, 0, 0) 6).toNat) S2 := (hI.2.2.1.e e2).to (fun l => ⟨fgA_o S x _ (show (14 : Nat) ≠ 13 by decide), by rw [fgA_j], by rw [fgA_j], by rw [fgA_j]⟩) (by rw [fgA_o S x _ (show ((0, 0, 0) : XL).1 ≠ 13 by decide)]) (fun _ _ _ => rfl) rfl (fun _ _ => rfl)
  have e07 : (sFgA S x (S.1 (0, 0, 0) 6).toNat).1 (0, 0, 0) 7 = S.1 (0, 0, 0) 7 := by rw [fgA_o S x _ (show ((0, 0, 0) : XL).1 ≠ 13 by decide)]
  have hnd : fgCost (sFgA S x (S.1 (0, 0, 0) 6).toNat) S2 (S.1 (0, 0, 0) 7).toNat (S.1 (0, 0, 0) 6).toNat + usum S2 5 ≤ 81920 := fgCost_le hml (fun b _ => hI.2.2.2.1.fgend hI.1 x (S.1 (0, 0, 0) 6).toNat (by omega) b) (by omega) (by omega)
  rcases hR with ⟨rfl, m1, rfl, rfl⟩ | ⟨rfl, m1, rfl⟩
  · refine ⟨fgCost (sFgA S x (S.1 (0, 0, 0) 6).toNat) S2 (S.1 (0, 0, 0) 7).toNat (S.1 (0, 0, 0) 6).toNat, hnd, X.weak (m_forget S S2 hI.1 (ho.wi cb.1) (hI.2.1.e e2) x zx (hI.2.2.1.e e2) (S.1 (0, 0, 0) 6).toNat (S.1 (0, 0, 0) 7).toNat (by omega) (by omega) (fun b _ => hI.2.2.2.1.fgend hI.1 x (S.1 (0, 0, 0) 6).toNat (by omega) b) (fgCost (sFgA S x (S.1 (0, 0, 0) 6).toNat) S2 (S.1 (0, 0, 0) 7).toNat (S.1 (0, 0, 0) 6).toNat) (fun _ => Nat.le_refl _)) (by decide) (by omega) (fun o h' zp => ?_)⟩
    rcases zp with zp | ⟨-, zp⟩
    · exfalso
      obtain ⟨T, z1, -, -, -, -, hP⟩ := zp
      omega
    · rw [← (fgB_eq S x (S.1 (0, 0, 0) 6).toNat).1, ← (fgB_eq S x (S.1 (0, 0, 0) 6).toNat).2] at zp
      exact MO.tz hI cb q1 ho em ji (by rw [fgB_o S x _ (k := 4) (by decide)]) zp
  · refine ⟨0, by omega, X.weak (m_forget S S2 hI.1 (ho.wi cb.1) (hI.2.1.e e2) x zx (hI.2.2.1.e e2) (S.1 (0, 0, 0) 6).toNat (S.1 (0, 0, 0) 7).toNat (by omega) (by omega) (fun b _ => hI.2.2.2.1.fgend hI.1 x (S.1 (0, 0, 0) 6).toNat (by omega) b) 0 (fun h => by exfalso; omega)) (by decide) (Nat.zero_le _) (fun o h' zp => ?_)⟩
    rcases zp with zp | ⟨zp, -⟩
    · exact MO.m hI cb q1 ho zp (fun kk zz T hT hP => ⟨by omega, fun h => absurd h (by decide)⟩)
    · exfalso
      omega
