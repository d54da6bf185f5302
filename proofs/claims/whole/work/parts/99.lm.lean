/-! the law's cases with a double: the reference's side -/
theorem cnt_384 (P : Nat → Prop) : cntN P 384 ≤ 384 := cntN_le _ _
theorem mrA_cnt {C : XS} (hC : CB C) {b : Int} (b0 : 0 ≤ b) (b1 : b < C.1 (0, 0, 0) 6) {n : Nat} (hn : (n : Int) ≤ C.1 (9, b, 0) 3) {t : Int} {rk ru wy : Int → Int} (r : Rsn C.1 b n t rk ru wy) (k : Nat) (hk : k ≤ 384) : mrA rk k = ((cntN (fun k : Nat => hB C.1 b n t k) k : Nat) : Int) := by
  have hs := hl_stab hC b0 b1 n hn t
  induction k with
  | zero => rfl
  | succ k ih =>
    have i1 := ih (by omega)
    have e := r (k / 64) (k % 64) (by omega) (by omega)
    rw [show 64 * ((k / 64 : Nat) : Int) + ((k % 64 : Nat) : Int) = k by omega] at e
    have hb : hB C.1 b n t k ↔ ∃ m, bitJ (levF C.1 (onN C.1 b n) (hl C.1 b n t) (toldN C.1 b t n) m ((k / 64 : Nat) : Int)) ((k % 64 : Nat) : Int) := by
      have q := hs ((k / 64 : Nat) : Int) (by omega) (by omega) (k % 64) (by omega)
      unfold hB
      rw [show (k : Int) / 64 = ((k / 64 : Nat) : Int) by omega, show (k : Int) % 64 = ((k % 64 : Nat) : Int) by omega]
      exact q
    simp only [mrA]
    rcases e with ⟨k0, m, e1, -, e2, -⟩ | ⟨e1, e2⟩
    · rw [if_neg (by omega), cntN_t (P := fun k : Nat => hB C.1 b n t k) (hb.mpr ⟨m, e2⟩)]
      omega
    · rw [if_pos e1, cntN_f (P := fun k : Nat => hB C.1 b n t k) (fun z => by obtain ⟨m, hm⟩ := hb.mp z; exact e2 m hm)]
      exact i1
theorem mo_derivedShare (S : XS) (hI : LwI S) (i t : Int) (zi : zR i) (zt : zR t) (S1 S2 : XS) (k9 : Nat) (v9 : XV) (q1 : QEq S S1) (cb : CB S1) (ho : OutE S1 S2) (hR : R_derivedShare S i t k9 v9) : X mX9_derivedShare 0 (xEnt mX9_derivedShare [xR (50, 0, 0), xI i, xI t]) [] (hp S2) 20 384 (fun o h' => ∃ T w, h' = hp T ∧ o = .inl (some (xF w)) ∧ LwI T ∧ T.2.2.2.2.2 = S2.2.2.2.2.2 ∧ T.2.2.1 = S2.2.2.1 ∧ T.1 (50, 0, 0) 25 = (k9 : Int) ∧ (k9 = 0 → vf_n32 w ∧ v9 = xF w) ∧ usum T 5 = usum S2 5) := by
  have h6 := wf0_6 hI.1.1
  have e2 : MdE S S2 := (MdE.q q1).tr ho.md
  refine X.weak (m_derivedShare S S2 hI.1 (ho.wi cb.1) (hI.2.1.e e2) i t zi zt) (Nat.zero_le _) (Nat.zero_le _) (fun o h' zp => ?_)
  obtain ⟨T, v2, rfl, rfl, hT, wT, hP⟩ := zp
  have lT := LwI.same hI cb q1 ho hT wT
  have eA : ((cntN (fun k : Nat => hB S.1 i (S.1 (9, i, 0) 3).toNat t k) 384 : Nat) : Int) = shA S.1 i (S.1 (9, i, 0) 3).toNat t 6 := lk_all S.1 i _ t 6
  have lA := cnt_384 (fun k : Nat => hB S.1 i (S.1 (9, i, 0) 3).toNat t k)
  rcases hR with ⟨rfl, m1, m2, m3, rfl⟩ | ⟨rfl, m1⟩ | ⟨rfl, m1, m2⟩ | ⟨rfl, m1, m2, m3⟩
  · rcases hP with ⟨-, hP⟩ | ⟨p0, p1, p2, p3, rk, hf, hb2, rfl⟩
    · exfalso; omega
    · have h9 := wf9_3 hI.1.1 (b := i) m1.1 (by omega)
      have eD : ((cntN (fun k : Nat => 0 < rk k ∧ rk k < 9999) 384 : Nat) : Int) = shD S.1 i (S.1 (9, i, 0) 3).toNat t 6 := lk_der hI.1 m1.1 m1.2 (by omega) hf 6 (by decide)
      rw [eD, eA]
      exact ⟨T, _, rfl, rfl, lT, by rw [hT.2.2.2.2.2.1], hT.2.2.2.1, p0, fun _ => ⟨share_n (by omega) (by omega), rfl⟩, usum_q hT 5⟩
  all_goals
    rcases hP with ⟨rfl, hP⟩ | ⟨p0, p1, p2, p3, -⟩
    · exact ⟨T, 0, rfl, rfl, lT, by rw [hT.2.2.2.2.2.1], hT.2.2.2.1, by omega, fun h => absurd h (by decide), usum_q hT 5⟩
    · exfalso; omega
theorem mo_meanRank (S : XS) (hI : LwI S) (i t : Int) (zi : zR i) (zt : zR t) (S1 S2 : XS) (k9 : Nat) (v9 : XV) (q1 : QEq S S1) (cb : CB S1) (ho : OutE S1 S2) (hR : R_meanRank S i t k9 v9) : X mX9_meanRank 0 (xEnt mX9_meanRank [xR (50, 0, 0), xI i, xI t]) [] (hp S2) 20 384 (fun o h' => ∃ T w, h' = hp T ∧ o = .inl (some (xD w)) ∧ LwI T ∧ T.2.2.2.2.2 = S2.2.2.2.2.2 ∧ T.2.2.1 = S2.2.2.1 ∧ T.1 (50, 0, 0) 25 = (k9 : Int) ∧ (k9 = 0 → vf_n64 w ∧ v9 = xD w) ∧ usum T 5 = usum S2 5) := by
  have h6 := wf0_6 hI.1.1
  have e2 : MdE S S2 := (MdE.q q1).tr ho.md
  refine X.weak (m_meanRank S S2 hI.1 (ho.wi cb.1) (hI.2.1.e e2) i t zi zt) (Nat.zero_le _) (Nat.zero_le _) (fun o h' zp => ?_)
  obtain ⟨T, v2, rfl, rfl, hT, wT, hP⟩ := zp
  have lT := LwI.same hI cb q1 ho hT wT
  have lA := cnt_384 (fun k : Nat => hB S.1 i (S.1 (9, i, 0) 3).toNat t k)
  rcases hR with ⟨rfl, m1, m2, rk1, ru, wy, hr, m3, rfl⟩ | ⟨rfl, m1⟩ | ⟨rfl, m1, m2⟩ | ⟨rfl, m1, m2, rk1, ru, wy, hr, m3⟩
  · have h9 := wf9_3 hI.1.1 (b := i) m1.1 (by omega)
    have eA := mrA_cnt hI.1 m1.1 m1.2 (by omega) hr 384 (by decide)
    rcases hP with ⟨-, hP⟩ | ⟨p0, p1, p2, p3, rk, hf, hb2, rfl⟩
    · exfalso; omega
    · obtain ⟨eM, -⟩ := lk_mean hI.1 m1.1 m1.2 (by omega) hf hr 384 (by decide)
      rw [← eM, ← eA]
      exact ⟨T, _, rfl, rfl, lT, by rw [hT.2.2.2.2.2.1], hT.2.2.2.1, p0, fun _ => ⟨mean_n (by omega) (by omega), rfl⟩, usum_q hT 5⟩
  · rcases hP with ⟨rfl, hP⟩ | ⟨p0, p1, p2, p3, -⟩
    · exact ⟨T, 0, rfl, rfl, lT, by rw [hT.2.2.2.2.2.1], hT.2.2.2.1, by omega, fun h => absurd h (by decide), usum_q hT 5⟩
    · exfalso; omega
  · rcases hP with ⟨rfl, hP⟩ | ⟨p0, p1, p2, p3, -⟩
    · exact ⟨T, 0, rfl, rfl, lT, by rw [hT.2.2.2.2.2.1], hT.2.2.2.1, by omega, fun h => absurd h (by decide), usum_q hT 5⟩
    · exfalso; omega
  · have h9 := wf9_3 hI.1.1 (b := i) m1.1 (by omega)
    have eA := mrA_cnt hI.1 m1.1 m1.2 (by omega) hr 384 (by decide)
    rcases hP with ⟨rfl, hP⟩ | ⟨p0, p1, p2, p3, -⟩
    · exact ⟨T, 0, rfl, rfl, lT, by rw [hT.2.2.2.2.2.1], hT.2.2.2.1, by omega, fun h => absurd h (by decide), usum_q hT 5⟩
    · exfalso; omega
