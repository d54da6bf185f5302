/-! the law's calls: turn, merge, forget, fork, listen -/
theorem trn_k (S : XS) (i r z : Int) {k : Nat} (h : k ≠ 13 ∧ k ≠ 11 ∧ k ≠ 9 ∧ k ≠ 34) (x y : Int) : (sTurn S i r z).1 (k, x, y) = S.1 (k, x, y) := by
  unfold sTurn
  rw [sApp_k _ _ _ _ _ _ _ _ ⟨h.1, h.2.1, h.2.2.1⟩, was_9 _ _ _ _ _ _ h.2.2.2]
theorem MdE.trn (S : XS) (i r z : Int) : MdE S (sTurn S i r z) := ⟨fun k x y hk => trn_k S i r z ⟨by omega, by omega, by omega, by omega⟩ x y, rfl⟩
abbrev R_turn (S : XS) (i r z : Int) : Nat → Int → XS → Prop := fun k9 v9 D9 => (k9 = 0 ∧ ((0 ≤ i ∧ i < S.1 (0, 0, 0) 6) ∧ 0 ≤ r ∧ r < S.1 (4, 0, 0) 2) ∧ (z = 0 ∨ bI (CanOn S r (onN S.1 i (S.1 (9, i, 0) 3).toNat)) = 1) ∧ (S.1 (9, i, 0) 3 < 60) ∧ v9 = S.1 (9, i, 0) 3 + 1 ∧ sInf (sTurn S i r z) i (S.1 (0, 0, 0) 7).toNat = D9) ∨ (k9 = 1 ∧ ¬ ((0 ≤ i ∧ i < S.1 (0, 0, 0) 6) ∧ 0 ≤ r ∧ r < S.1 (4, 0, 0) 2) ∧ S = D9) ∨ (k9 = 2 ∧ ((0 ≤ i ∧ i < S.1 (0, 0, 0) 6) ∧ 0 ≤ r ∧ r < S.1 (4, 0, 0) 2) ∧ ¬ (z = 0 ∨ bI (CanOn S r (onN S.1 i (S.1 (9, i, 0) 3).toNat)) = 1) ∧ S = D9) ∨ (k9 = 3 ∧ ((0 ≤ i ∧ i < S.1 (0, 0, 0) 6) ∧ 0 ≤ r ∧ r < S.1 (4, 0, 0) 2) ∧ (z = 0 ∨ bI (CanOn S r (onN S.1 i (S.1 (9, i, 0) 3).toNat)) = 1) ∧ ¬ (S.1 (9, i, 0) 3 < 60) ∧ S = D9)
set_option maxHeartbeats 4000000 in
set_option maxRecDepth 100000 in
theorem cu_turn (S : XS) (hI : LwI S) (i r z : Int) (zi : zR i) (zr : zR r) (hz1 : z = 0 ∨ z = 1)  : X mX8_turn 0 (xEnt mX8_turn [xR (0, 0, 0), xI i, xI r, xI z]) [] (hp S) 6 36 (CO S ["java/lang/IndexOutOfBoundsException", "java/lang/UnsupportedOperationException", "java/lang/IllegalStateException"] (R_turn S i r z)) := by
  have h6 := wf0_6 hI.1.1
  have h7 := wf0_7 hI.1.1
  have hrl : S.1 (9, i, 0) 3 < 60 → CapOk (sTurn S i r z) i ∧ EndOk (sTurn S i r z) i := fun hs => room_lt hI.1.1 hI.2.2.2.1 hs (fun l => trn_k S i r z (by decide) l 0) (fun _ => ⟨rfl, rfl⟩) (by rw [trn_k S i r z (by decide)])
  refine X.weak (c_turn9 S hI.1 i r z zi zr hz1 (fun hs => (hrl hs).1)) (by decide) (by decide) (fun o h' qq => ?_)
  rcases qq with ⟨c1, qq⟩ | ⟨c1, qq⟩
  · rcases qq with ⟨c2, qq⟩ | ⟨c2, qq⟩
    · rcases qq with ⟨c3, qq⟩ | ⟨c3, qq⟩
      · have h4 := wf4_2 hI.1.1
        have wA : CB (sTurn S i r z) := hI.1.turn (by omega) (by omega) (by omega) (by omega) (by omega) hz1 c2
        have hv := wasV_or hI.1.1 (r := r) (z := z) (by omega) (by omega)
        have ji : JInv (sInf (sTurn S i r z) i (S.1 (0, 0, 0) 7).toNat) := (JInv.app (hI.1.was (by omega) (by omega) hv) (hI.2.2.2.1.was hI.1 (by omega) (by omega) hv) (b := i) (r := 1) (by omega) (by rw [putI_o (nK (by decide) _ _ _ _)]; omega) (fun z => by cases z)).inf wA.1 _ (by rw [trn_k S i r z (by decide)]; omega)
        have em : MdE S (sInf (sTurn S i r z) i (S.1 (0, 0, 0) 7).toNat) := (MdE.trn S i r z).inf i _
        exact CO.n qq em ji (Or.inl ⟨rfl, c1, (by by_cases y : z = 0; exact Or.inl y; exact Or.inr (bI_1.mpr (c2 y))), c3, rfl, rfl⟩)
      · exact CO.x hI qq 2 rfl (Or.inr (Or.inr (Or.inr ⟨rfl, c1, (by by_cases y : z = 0; exact Or.inl y; exact Or.inr (bI_1.mpr (c2 y))), (c3), rfl⟩)))
    · exact CO.x hI qq 1 rfl (Or.inr (Or.inr (Or.inl ⟨rfl, c1, (fun w => c2 (fun y => by rcases w with w | w; exact absurd w y; exact bI_1.mp w)), rfl⟩)))
  · exact CO.x hI qq 0 rfl (Or.inr (Or.inl ⟨rfl, (c1), rfl⟩))
