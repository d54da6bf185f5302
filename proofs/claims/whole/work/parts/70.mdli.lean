/-! the reference: spans -/
set_option maxHeartbeats 4000000 in
set_option maxRecDepth 100000 in
theorem l9_spanFrom (C S : XS) (hC : CB C) (hw : WI S) (hM : MR C S) (i n t q : Int) (i0 : 0 ≤ i) (i1 : i < C.1 (0, 0, 0) 6) (n0 : 0 ≤ n) (n1 : n ≤ C.1 (9, i, 0) 3) (t0 : 0 ≤ t) (t1 : t < 24) (q0 : 0 ≤ q) (q1 : q < 384) (V : Nat) : ∀ (nn : Nat) (T : XS) (a : Nat), (a : Int) < (nn : Int) → (MdQ S T) → (WI T) → (T.1 (50, 0, 0) 25 = 0) → ((a : Int) ≤ 23) → (spF (fun h : Nat => hB C.1 i n.toNat h q) a = V) → X mX9_spanFrom 17 [xR (50, 0, 0), xI i, xI n, xI t, xI q, xI (a : Int)] [] (hp T) 0 0 (pM S (fun k z _T => k = 0 ∧ z = (V : Int))) := by
  intro nn
  induction nn with
  | zero => intro T a hm sT wT kT ha hV; exfalso; omega
  | succ nn ih =>
    intro T a hm sT wT kT ha hV
    have c6 := wf0_6 hC.1
    have c4 := wf4_2 hC.1
    have h93 : 0 ≤ i → i < C.1 (0, 0, 0) 6 → 0 ≤ C.1 (9, i, 0) 3 ∧ C.1 (9, i, 0) 3 ≤ 60 := fun a b => wf9_3 hC.1 a (by omega)
    obtain ⟨n11, n12, n13, n24⟩ := (hM.q sT).2.1
    have hz := wT.1
    have k93 := h93 i0 i1
    refine x_iload dX9_spanFrom_17 rfl ?_
    refine x_if_le (tgt := 43) dX9_spanFrom_19 (by decide) (by first | exact hz _ _ | exact hw.1 _ _ | exact zR_of _ | exact bI_z _ | assumption | exact ⟨by omega, by omega⟩) (fun c19 => ?_) (fun c19 => ?_)
    · refine x_iload dX9_spanFrom_43 rfl ?_
      exact x_iret dX9_spanFrom_45 rfl (pM_of sT wT ⟨kT, by obtain rfl : a = 0 := (by omega); rw [← hV]; rfl⟩)
    · obtain ⟨j, hj⟩ : ∃ j : Nat, a = j + 1 := ⟨a - 1, by omega⟩
      refine x_aload_n dX9_spanFrom_22 rfl ?_
      refine x_iload_n dX9_spanFrom_23 rfl ?_
      refine x_iload_n dX9_spanFrom_24 rfl ?_
      refine x_iload dX9_spanFrom_25 rfl ?_
      refine x_iconst dX9_spanFrom_27 ?_
      refine x_isub dX9_spanFrom_28 ?_
      refine x_top (show (a : Int) - 1 = (j : Int) from by omega) ?_
      refine x_iload dX9_spanFrom_29 rfl ?_
      refine x_callV (a := 0) (b := 0) (as := [xI i, xI n, xI (j : Int), xI q]) (rest := []) ok_X9_holds0 dX9_spanFrom_31 wd1351 ⟨wd1353, wd41⟩ (hp50 T) rfl rfl (m_holds0 C T hC wT (hM.q sT) i n (j : Int) q (by omega) (by omega) (by omega) (by omega) (by omega) (by omega) (by omega) (by omega)) rfl (Nat.le_of_ble_eq_true rfl) (Nat.le_of_ble_eq_true rfl) (by decide) (by omega) (by omega) (fun _ q => by obtain ⟨_, _, _, y, _⟩ := q; cases y) (fun _ _ q => ?_) (fun _ _ q => by obtain ⟨_, _, _, y, _⟩ := q; cases y)
      obtain ⟨U1, z1, rfl, y1, qU1, wU1, hU1⟩ := q
      cases y1
      have sU1 := sT.tr qU1
      obtain ⟨rfl, kU1, fU1, oU1⟩ := hU1
      have vU101 := bI_01 (hB C.1 i (n).toNat (j : Int) q)
      refine x_if_eq (tgt := 43) dX9_spanFrom_34 (by decide) (by first | exact hz _ _ | exact hw.1 _ _ | exact zR_of _ | exact bI_z _ | assumption | exact ⟨by omega, by omega⟩) (fun c34 => ?_) (fun c34 => ?_)
      · refine x_iload dX9_spanFrom_43 rfl ?_
        exact x_iret dX9_spanFrom_45 rfl (pM_of sU1 wU1 ⟨by omega, by rw [← hV, hj, spF_f (P := (fun h : Nat => hB C.1 i n.toNat h q)) (bI_0.mp (by omega))]⟩)
      · refine x_iinc (L' := [xR (50, 0, 0), xI i, xI n, xI t, xI q, xI ((a : Int) + (-1))]) dX9_spanFrom_37 rfl rfl ?_
        refine x_goto (tgt := 17) dX9_spanFrom_40 (by decide) ?_
        rw [show (a : Int) + (-1) = (j : Int) by omega]
        exact ih U1 j (by omega) sU1 wU1 (by omega) (by omega) (by rw [← hV, hj]; exact (spF_t (P := (fun h : Nat => hB C.1 i n.toNat h q)) (bI_1.mp (by omega))).symm)
set_option maxHeartbeats 4000000 in
set_option maxRecDepth 100000 in
theorem m_spanFrom (C S : XS) (hC : CB C) (hw : WI S) (hM : MR C S) (i n t q : Int) (zi : zR i) (zn : zR n) (zt : zR t) (zq : zR q) : X mX9_spanFrom 0 (xEnt mX9_spanFrom [xR (50, 0, 0), xI i, xI n, xI t, xI q]) [] (hp S) 0 0 (pM S (fun k z _T => (z = 0 ∧ ((k = 1 ∧ ¬ ((0 ≤ i ∧ i < C.1 (0, 0, 0) 6) ∧ 0 ≤ n ∧ n < C.1 (9, i, 0) 3 + 1)) ∨ (k = 2 ∧ ((0 ≤ i ∧ i < C.1 (0, 0, 0) 6) ∧ 0 ≤ n ∧ n < C.1 (9, i, 0) 3 + 1) ∧ ¬ ((0 ≤ t ∧ t < 24) ∧ 0 ≤ q ∧ q < 384)) ∨ (k = 3 ∧ ((0 ≤ i ∧ i < C.1 (0, 0, 0) 6) ∧ 0 ≤ n ∧ n < C.1 (9, i, 0) 3 + 1) ∧ ((0 ≤ t ∧ t < 24) ∧ 0 ≤ q ∧ q < 384) ∧ ¬ (bI (hB C.1 i n.toNat t q) = 1)))) ∨ (k = 0 ∧ ((0 ≤ i ∧ i < C.1 (0, 0, 0) 6) ∧ 0 ≤ n ∧ n < C.1 (9, i, 0) 3 + 1) ∧ ((0 ≤ t ∧ t < 24) ∧ 0 ≤ q ∧ q < 384) ∧ (bI (hB C.1 i n.toNat t q) = 1) ∧ z = ((spF (fun h : Nat => hB C.1 i n.toNat h q) t.toNat : Nat) : Int)))) := by
  have c6 := wf0_6 hC.1
  have c4 := wf4_2 hC.1
  have h93 : 0 ≤ i → i < C.1 (0, 0, 0) 6 → 0 ≤ C.1 (9, i, 0) 3 ∧ C.1 (9, i, 0) 3 ≤ 60 := fun a b => wf9_3 hC.1 a (by omega)
  obtain ⟨n11, n12, n13, n24⟩ := hM.2.1
  have hz := hw.1
  show X mX9_spanFrom 0 [xR (50, 0, 0), xI i, xI n, xI t, xI q, none] [] (hp S) 0 0 _
  refine x_aload_n dX9_spanFrom_0 rfl ?_
  refine x_iload_n dX9_spanFrom_1 rfl ?_
  refine x_iload_n dX9_spanFrom_2 rfl ?_
  refine x_iload_n dX9_spanFrom_3 rfl ?_
  refine x_iload dX9_spanFrom_4 rfl ?_
  refine x_callV (a := 0) (b := 0) (as := [xI i, xI n, xI t, xI q]) (rest := []) ok_X9_isNot dX9_spanFrom_6 wd1368 ⟨wd1370, wd42⟩ (hp50 S) rfl rfl (m_isNot C S hC hw (hM.q (MdQ.rf S)) i n t q (by first | exact hz _ _ | exact hw.1 _ _ | exact zR_of _ | exact bI_z _ | assumption | exact ⟨by omega, by omega⟩) (by first | exact hz _ _ | exact hw.1 _ _ | exact zR_of _ | exact bI_z _ | assumption | exact ⟨by omega, by omega⟩) (by first | exact hz _ _ | exact hw.1 _ _ | exact zR_of _ | exact bI_z _ | assumption | exact ⟨by omega, by omega⟩) (by first | exact hz _ _ | exact hw.1 _ _ | exact zR_of _ | exact bI_z _ | assumption | exact ⟨by omega, by omega⟩)) rfl (Nat.le_of_ble_eq_true rfl) (Nat.le_of_ble_eq_true rfl) (by decide) (by omega) (by omega) (fun _ q => by obtain ⟨_, _, _, y, _⟩ := q; cases y) (fun _ _ q => ?_) (fun _ _ q => by obtain ⟨_, _, _, y, _⟩ := q; cases y)
  obtain ⟨U1, z1, rfl, y1, qU1, wU1, hU1⟩ := q
  cases y1
  have sU1 := (MdQ.rf S).tr qU1
  rcases hU1 with ⟨rfl, hU1⟩ | ⟨rfl, kU1, bkU1, hfU1, hbU1, fU1, oU1⟩
  · refine x_if_eq (tgt := 14) dX9_spanFrom_9 (by decide) ⟨by decide, by decide⟩ (fun z => absurd z (by decide)) (fun _ => ?_)
    refine x_iconst dX9_spanFrom_12 ?_
    exact x_iret dX9_spanFrom_13 rfl (pM_of sU1 wU1 (Or.inl ⟨rfl, by omega⟩))
  · refine x_if_eq (tgt := 14) dX9_spanFrom_9 (by decide) ⟨by decide, by decide⟩ (fun _ => ?_) (fun z => absurd z (by decide))
    refine x_iload_n dX9_spanFrom_14 rfl ?_
    refine x_istore (L' := [xR (50, 0, 0), xI i, xI n, xI t, xI q, xI t]) dX9_spanFrom_15 (by decide) rfl ?_
    have k93 := h93 (by omega) (by omega)
    obtain ⟨m, rfl⟩ := Int.eq_ofNat_of_zero_le (show 0 ≤ t by omega)
    refine X.weak (l9_spanFrom C U1 hC wU1 (hM.q sU1) i n m q (by omega) (by omega) (by omega) (by omega) (by omega) (by omega) (by omega) (by omega) (spF (fun h : Nat => hB C.1 i n.toNat h q) m) (m + 25) U1 m (by omega) (MdQ.rf _) wU1 kU1 (by omega) rfl) (Nat.le_refl _) (Nat.le_refl _) (fun o h' q => ?_)
    obtain ⟨T, z, rfl, rfl, qT, wT, e1, e2⟩ := q
    exact pM_of (sU1.tr qT) wT (Or.inr ⟨e1, by omega, by omega, by omega, e2⟩)
set_option maxHeartbeats 4000000 in
set_option maxRecDepth 100000 in
theorem l9_spanTo (C S : XS) (hC : CB C) (hw : WI S) (hM : MR C S) (i n t q : Int) (i0 : 0 ≤ i) (i1 : i < C.1 (0, 0, 0) 6) (n0 : 0 ≤ n) (n1 : n ≤ C.1 (9, i, 0) 3) (t0 : 0 ≤ t) (t1 : t < 24) (q0 : 0 ≤ q) (q1 : q < 384) (V : Nat) : ∀ (nn : Nat) (T : XS) (a : Nat), 24 - (a : Int) < (nn : Int) → (MdQ S T) → (WI T) → (T.1 (50, 0, 0) 25 = 0) → ((a : Int) ≤ 23) → (spT (fun h : Nat => hB C.1 i n.toNat h q) (23 - a) = V) → X mX9_spanTo 17 [xR (50, 0, 0), xI i, xI n, xI t, xI q, xI (a : Int)] [] (hp T) 0 0 (pM S (fun k z _T => k = 0 ∧ z = (V : Int))) := by
  intro nn
  induction nn with
  | zero => intro T a hm sT wT kT ha hV; exfalso; omega
  | succ nn ih =>
    intro T a hm sT wT kT ha hV
    have c6 := wf0_6 hC.1
    have c4 := wf4_2 hC.1
    have h93 : 0 ≤ i → i < C.1 (0, 0, 0) 6 → 0 ≤ C.1 (9, i, 0) 3 ∧ C.1 (9, i, 0) 3 ≤ 60 := fun a b => wf9_3 hC.1 a (by omega)
    obtain ⟨n11, n12, n13, n24⟩ := (hM.q sT).2.1
    have hz := wT.1
    have k93 := h93 i0 i1
    refine x_iload dX9_spanTo_17 rfl ?_
    refine x_bipush (v := 23) dX9_spanTo_19 (by decide) ?_
    refine x_icmp_ge (tgt := 45) dX9_spanTo_21 (by decide) (by first | exact hz _ _ | exact hw.1 _ _ | exact zR_of _ | exact bI_z _ | assumption | exact ⟨by omega, by omega⟩) ⟨by decide, by decide⟩ (fun c21 => ?_) (fun c21 => ?_)
    · refine x_iload dX9_spanTo_45 rfl ?_
      exact x_iret dX9_spanTo_47 rfl (pM_of sT wT ⟨kT, by rw [← hV, show 23 - a = 0 by omega]; show (a : Int) = ((23 : Nat) : Int); omega⟩)
    · refine x_aload_n dX9_spanTo_24 rfl ?_
      refine x_iload_n dX9_spanTo_25 rfl ?_
      refine x_iload_n dX9_spanTo_26 rfl ?_
      refine x_iload dX9_spanTo_27 rfl ?_
      refine x_iconst dX9_spanTo_29 ?_
      refine x_iadd dX9_spanTo_30 ?_
      refine x_top (show (a : Int) + 1 = ((a + 1 : Nat) : Int) from by omega) ?_
      refine x_iload dX9_spanTo_31 rfl ?_
      refine x_callV (a := 0) (b := 0) (as := [xI i, xI n, xI ((a + 1 : Nat) : Int), xI q]) (rest := []) ok_X9_holds0 dX9_spanTo_33 wd1351 ⟨wd1353, wd41⟩ (hp50 T) rfl rfl (m_holds0 C T hC wT (hM.q sT) i n ((a + 1 : Nat) : Int) q (by omega) (by omega) (by omega) (by omega) (by omega) (by omega) (by omega) (by omega)) rfl (Nat.le_of_ble_eq_true rfl) (Nat.le_of_ble_eq_true rfl) (by decide) (by omega) (by omega) (fun _ q => by obtain ⟨_, _, _, y, _⟩ := q; cases y) (fun _ _ q => ?_) (fun _ _ q => by obtain ⟨_, _, _, y, _⟩ := q; cases y)
      obtain ⟨U1, z1, rfl, y1, qU1, wU1, hU1⟩ := q
      cases y1
      have sU1 := sT.tr qU1
      obtain ⟨rfl, kU1, fU1, oU1⟩ := hU1
      have vU101 := bI_01 (hB C.1 i (n).toNat ((a + 1 : Nat) : Int) q)
      refine x_if_eq (tgt := 45) dX9_spanTo_36 (by decide) (by first | exact hz _ _ | exact hw.1 _ _ | exact zR_of _ | exact bI_z _ | assumption | exact ⟨by omega, by omega⟩) (fun c36 => ?_) (fun c36 => ?_)
      · refine x_iload dX9_spanTo_45 rfl ?_
        exact x_iret dX9_spanTo_47 rfl (pM_of sU1 wU1 ⟨by omega, by rw [← hV, show 23 - a = 22 - a + 1 by omega, spT_f (P := (fun h : Nat => hB C.1 i n.toNat h q)) (d := 22 - a) (by rw [show 23 - (22 - a) = a + 1 by omega]; exact bI_0.mp (by omega))]; omega⟩)
      · refine x_iinc (L' := [xR (50, 0, 0), xI i, xI n, xI t, xI q, xI ((a : Int) + 1)]) dX9_spanTo_39 rfl rfl ?_
        refine x_goto (tgt := 17) dX9_spanTo_42 (by decide) ?_
        exact ih U1 (a + 1) (by omega) sU1 wU1 (by omega) (by omega) (by rw [← hV, show 23 - a = 22 - a + 1 by omega, spT_t (P := (fun h : Nat => hB C.1 i n.toNat h q)) (d := 22 - a) (by rw [show 23 - (22 - a) = a + 1 by omega]; exact bI_1.mp (by omega)), show 23 - (a + 1) = 22 - a by omega])
set_option maxHeartbeats 4000000 in
set_option maxRecDepth 100000 in
theorem m_spanTo (C S : XS) (hC : CB C) (hw : WI S) (hM : MR C S) (i n t q : Int) (zi : zR i) (zn : zR n) (zt : zR t) (zq : zR q) : X mX9_spanTo 0 (xEnt mX9_spanTo [xR (50, 0, 0), xI i, xI n, xI t, xI q]) [] (hp S) 0 0 (pM S (fun k z _T => (z = 0 ∧ ((k = 1 ∧ ¬ ((0 ≤ i ∧ i < C.1 (0, 0, 0) 6) ∧ 0 ≤ n ∧ n < C.1 (9, i, 0) 3 + 1)) ∨ (k = 2 ∧ ((0 ≤ i ∧ i < C.1 (0, 0, 0) 6) ∧ 0 ≤ n ∧ n < C.1 (9, i, 0) 3 + 1) ∧ ¬ ((0 ≤ t ∧ t < 24) ∧ 0 ≤ q ∧ q < 384)) ∨ (k = 3 ∧ ((0 ≤ i ∧ i < C.1 (0, 0, 0) 6) ∧ 0 ≤ n ∧ n < C.1 (9, i, 0) 3 + 1) ∧ ((0 ≤ t ∧ t < 24) ∧ 0 ≤ q ∧ q < 384) ∧ ¬ (bI (hB C.1 i n.toNat t q) = 1)))) ∨ (k = 0 ∧ ((0 ≤ i ∧ i < C.1 (0, 0, 0) 6) ∧ 0 ≤ n ∧ n < C.1 (9, i, 0) 3 + 1) ∧ ((0 ≤ t ∧ t < 24) ∧ 0 ≤ q ∧ q < 384) ∧ (bI (hB C.1 i n.toNat t q) = 1) ∧ z = ((spT (fun h : Nat => hB C.1 i n.toNat h q) (23 - t.toNat) : Nat) : Int)))) := by
  have c6 := wf0_6 hC.1
  have c4 := wf4_2 hC.1
  have h93 : 0 ≤ i → i < C.1 (0, 0, 0) 6 → 0 ≤ C.1 (9, i, 0) 3 ∧ C.1 (9, i, 0) 3 ≤ 60 := fun a b => wf9_3 hC.1 a (by omega)
  obtain ⟨n11, n12, n13, n24⟩ := hM.2.1
  have hz := hw.1
  show X mX9_spanTo 0 [xR (50, 0, 0), xI i, xI n, xI t, xI q, none] [] (hp S) 0 0 _
  refine x_aload_n dX9_spanTo_0 rfl ?_
  refine x_iload_n dX9_spanTo_1 rfl ?_
  refine x_iload_n dX9_spanTo_2 rfl ?_
  refine x_iload_n dX9_spanTo_3 rfl ?_
  refine x_iload dX9_spanTo_4 rfl ?_
  refine x_callV (a := 0) (b := 0) (as := [xI i, xI n, xI t, xI q]) (rest := []) ok_X9_isNot dX9_spanTo_6 wd1368 ⟨wd1370, wd42⟩ (hp50 S) rfl rfl (m_isNot C S hC hw (hM.q (MdQ.rf S)) i n t q (by first | exact hz _ _ | exact hw.1 _ _ | exact zR_of _ | exact bI_z _ | assumption | exact ⟨by omega, by omega⟩) (by first | exact hz _ _ | exact hw.1 _ _ | exact zR_of _ | exact bI_z _ | assumption | exact ⟨by omega, by omega⟩) (by first | exact hz _ _ | exact hw.1 _ _ | exact zR_of _ | exact bI_z _ | assumption | exact ⟨by omega, by omega⟩) (by first | exact hz _ _ | exact hw.1 _ _ | exact zR_of _ | exact bI_z _ | assumption | exact ⟨by omega, by omega⟩)) rfl (Nat.le_of_ble_eq_true rfl) (Nat.le_of_ble_eq_true rfl) (by decide) (by omega) (by omega) (fun _ q => by obtain ⟨_, _, _, y, _⟩ := q; cases y) (fun _ _ q => ?_) (fun _ _ q => by obtain ⟨_, _, _, y, _⟩ := q; cases y)
  obtain ⟨U1, z1, rfl, y1, qU1, wU1, hU1⟩ := q
  cases y1
  have sU1 := (MdQ.rf S).tr qU1
  rcases hU1 with ⟨rfl, hU1⟩ | ⟨rfl, kU1, bkU1, hfU1, hbU1, fU1, oU1⟩
  · refine x_if_eq (tgt := 14) dX9_spanTo_9 (by decide) ⟨by decide, by decide⟩ (fun z => absurd z (by decide)) (fun _ => ?_)
    refine x_iconst dX9_spanTo_12 ?_
    exact x_iret dX9_spanTo_13 rfl (pM_of sU1 wU1 (Or.inl ⟨rfl, by omega⟩))
  · refine x_if_eq (tgt := 14) dX9_spanTo_9 (by decide) ⟨by decide, by decide⟩ (fun _ => ?_) (fun z => absurd z (by decide))
    refine x_iload_n dX9_spanTo_14 rfl ?_
    refine x_istore (L' := [xR (50, 0, 0), xI i, xI n, xI t, xI q, xI t]) dX9_spanTo_15 (by decide) rfl ?_
    have k93 := h93 (by omega) (by omega)
    obtain ⟨m, rfl⟩ := Int.eq_ofNat_of_zero_le (show 0 ≤ t by omega)
    refine X.weak (l9_spanTo C U1 hC wU1 (hM.q sU1) i n m q (by omega) (by omega) (by omega) (by omega) (by omega) (by omega) (by omega) (by omega) (spT (fun h : Nat => hB C.1 i n.toNat h q) (23 - m)) (m + 25) U1 m (by omega) (MdQ.rf _) wU1 kU1 (by omega) rfl) (Nat.le_refl _) (Nat.le_refl _) (fun o h' q => ?_)
    obtain ⟨T, z, rfl, rfl, qT, wT, e1, e2⟩ := q
    exact pM_of (sU1.tr qT) wT (Or.inr ⟨e1, by omega, by omega, by omega, e2⟩)
set_option maxHeartbeats 4000000 in
set_option maxRecDepth 100000 in
theorem l9_since (C S : XS) (hC : CB C) (hw : WI S) (hM : MR C S) (i t q : Int) (i0 : 0 ≤ i) (i1 : i < C.1 (0, 0, 0) 6) (t0 : 0 ≤ t) (t1 : t < 24) (q0 : 0 ≤ q) (q1 : q < 384) (V : Nat) : ∀ (nn : Nat) (T : XS) (a : Nat), (a : Int) < (nn : Int) → (MdQ S T) → (WI T) → (T.1 (50, 0, 0) 25 = 0) → ((a : Int) ≤ C.1 (9, i, 0) 3) → (spF (fun k : Nat => hB C.1 i k t q ↔ hB C.1 i (C.1 (9, i, 0) 3).toNat t q) a = V) → X mX9_since 63 [xR (50, 0, 0), xI i, xI t, xI q, xI (a : Int), xI (bI (hB C.1 i (C.1 (9, i, 0) 3).toNat t q))] [] (hp T) 0 0 (pM S (fun k z _T => k = 0 ∧ z = (V : Int))) := by
  intro nn
  induction nn with
  | zero => intro T a hm sT wT kT ha hV; exfalso; omega
  | succ nn ih =>
    intro T a hm sT wT kT ha hV
    have c6 := wf0_6 hC.1
    have c4 := wf4_2 hC.1
    have h93 : 0 ≤ i → i < C.1 (0, 0, 0) 6 → 0 ≤ C.1 (9, i, 0) 3 ∧ C.1 (9, i, 0) 3 ≤ 60 := fun a b => wf9_3 hC.1 a (by omega)
    obtain ⟨n11, n12, n13, n24⟩ := (hM.q sT).2.1
    have hz := wT.1
    have k93 := h93 i0 i1
    have v01 := bI_01 (hB C.1 i (C.1 (9, i, 0) 3).toNat t q)
    refine x_iload dX9_since_63 rfl ?_
    refine x_if_le (tgt := 90) dX9_since_65 (by decide) (by first | exact hz _ _ | exact hw.1 _ _ | exact zR_of _ | exact bI_z _ | assumption | exact ⟨by omega, by omega⟩) (fun c65 => ?_) (fun c65 => ?_)
    · refine x_iload dX9_since_90 rfl ?_
      exact x_iret dX9_since_92 rfl (pM_of sT wT ⟨kT, by obtain rfl : a = 0 := (by omega); rw [← hV]; rfl⟩)
    · obtain ⟨j, hj⟩ : ∃ j : Nat, a = j + 1 := ⟨a - 1, by omega⟩
      refine x_aload_n dX9_since_68 rfl ?_
      refine x_iload_n dX9_since_69 rfl ?_
      refine x_iload dX9_since_70 rfl ?_
      refine x_iconst dX9_since_72 ?_
      refine x_isub dX9_since_73 ?_
      refine x_top (show (a : Int) - 1 = (j : Int) from by omega) ?_
      refine x_iload_n dX9_since_74 rfl ?_
      refine x_iload_n dX9_since_75 rfl ?_
      refine x_callV (a := 0) (b := 0) (as := [xI i, xI (j : Int), xI t, xI q]) (rest := []) ok_X9_holds0 dX9_since_76 wd1351 ⟨wd1353, wd41⟩ (hp50 T) rfl rfl (m_holds0 C T hC wT (hM.q sT) i (j : Int) t q (by omega) (by omega) (by omega) (by omega) (by omega) (by omega) (by omega) (by omega)) rfl (Nat.le_of_ble_eq_true rfl) (Nat.le_of_ble_eq_true rfl) (by decide) (by omega) (by omega) (fun _ q => by obtain ⟨_, _, _, y, _⟩ := q; cases y) (fun _ _ q => ?_) (fun _ _ q => by obtain ⟨_, _, _, y, _⟩ := q; cases y)
      obtain ⟨U1, z1, rfl, y1, qU1, wU1, hU1⟩ := q
      cases y1
      have sU1 := sT.tr qU1
      obtain ⟨rfl, kU1, fU1, oU1⟩ := hU1
      have vU101 := bI_01 (hB C.1 i ((j : Int)).toNat t q)
      refine x_iload dX9_since_79 rfl ?_
      refine x_icmp_ne (tgt := 90) dX9_since_81 (by decide) (by first | exact hz _ _ | exact hw.1 _ _ | exact zR_of _ | exact bI_z _ | assumption | exact ⟨by omega, by omega⟩) (by first | exact hz _ _ | exact hw.1 _ _ | exact zR_of _ | exact bI_z _ | assumption | exact ⟨by omega, by omega⟩) (fun c81 => ?_) (fun c81 => ?_)
      · refine x_iload dX9_since_90 rfl ?_
        exact x_iret dX9_since_92 rfl (pM_of sU1 wU1 ⟨by omega, by rw [← hV, hj, spF_f (n := j) (P := (fun k : Nat => hB C.1 i k t q ↔ hB C.1 i (C.1 (9, i, 0) 3).toNat t q)) (fun z => c81 (bI_eq.mpr z))]⟩)
      · refine x_iinc (L' := [xR (50, 0, 0), xI i, xI t, xI q, xI ((a : Int) + (-1)), xI (bI (hB C.1 i (C.1 (9, i, 0) 3).toNat t q))]) dX9_since_84 rfl rfl ?_
        refine x_goto (tgt := 63) dX9_since_87 (by decide) ?_
        rw [show (a : Int) + (-1) = (j : Int) by omega]
        exact ih U1 j (by omega) sU1 wU1 (by omega) (by omega) (by rw [← hV, hj]; exact (spF_t (P := (fun k : Nat => hB C.1 i k t q ↔ hB C.1 i (C.1 (9, i, 0) 3).toNat t q)) (bI_eq.mp c81)).symm)
set_option maxHeartbeats 4000000 in
set_option maxRecDepth 100000 in
theorem m_since (C S : XS) (hC : CB C) (hw : WI S) (hM : MR C S) (i t q : Int) (zi : zR i) (zt : zR t) (zq : zR q) : X mX9_since 0 (xEnt mX9_since [xR (50, 0, 0), xI i, xI t, xI q]) [] (hp S) 0 0 (pM S (fun k z _T => (z = 0 ∧ ((k = 1 ∧ ¬ (0 ≤ i ∧ i < C.1 (0, 0, 0) 6)) ∨ (k = 2 ∧ (0 ≤ i ∧ i < C.1 (0, 0, 0) 6) ∧ ¬ ((0 ≤ t ∧ t < 24) ∧ 0 ≤ q ∧ q < 384)))) ∨ (k = 0 ∧ (0 ≤ i ∧ i < C.1 (0, 0, 0) 6) ∧ ((0 ≤ t ∧ t < 24) ∧ 0 ≤ q ∧ q < 384) ∧ z = ((spF (fun k : Nat => hB C.1 i k t q ↔ hB C.1 i (C.1 (9, i, 0) 3).toNat t q) (C.1 (9, i, 0) 3).toNat : Nat) : Int)))) := by
  have c6 := wf0_6 hC.1
  have c4 := wf4_2 hC.1
  have h93 : 0 ≤ i → i < C.1 (0, 0, 0) 6 → 0 ≤ C.1 (9, i, 0) 3 ∧ C.1 (9, i, 0) 3 ≤ 60 := fun a b => wf9_3 hC.1 a (by omega)
  obtain ⟨n11, n12, n13, n24⟩ := hM.2.1
  have hz := hw.1
  show X mX9_since 0 [xR (50, 0, 0), xI i, xI t, xI q, none, none] [] (hp S) 0 0 _
  refine x_aload_n dX9_since_0 rfl ?_
  refine x_iload_n dX9_since_1 rfl ?_
  refine x_callV (a := 0) (b := 0) (as := [xI i]) (rest := []) ok_X9_isNoBranch dX9_since_2 wd1204 ⟨wd1206, wd18⟩ (hp50 S) rfl rfl (m_isNoBranch C S hC hw (hM.q (MdQ.rf S)) i (by first | exact hz _ _ | exact hw.1 _ _ | exact zR_of _ | exact bI_z _ | assumption | exact ⟨by omega, by omega⟩)) rfl (Nat.le_of_ble_eq_true rfl) (Nat.le_of_ble_eq_true rfl) (by decide) (by omega) (by omega) (fun _ q => by obtain ⟨_, _, _, y, _⟩ := q; cases y) (fun _ _ q => ?_) (fun _ _ q => by obtain ⟨_, _, _, y, _⟩ := q; cases y)
  obtain ⟨U1, z1, rfl, y1, qU1, wU1, hU1⟩ := q
  cases y1
  have sU1 := (MdQ.rf S).tr qU1
  rcases hU1 with ⟨rfl, hU1⟩ | ⟨rfl, hU1⟩
  · refine x_if_ne (tgt := 42) dX9_since_5 (by decide) ⟨by decide, by decide⟩ (fun _ => ?_) (fun z => absurd z (by decide))
    refine x_iconst dX9_since_42 ?_
    exact x_iret dX9_since_43 rfl (pM_of sU1 wU1 (Or.inl ⟨rfl, by omega⟩))
  · refine x_if_ne (tgt := 42) dX9_since_5 (by decide) ⟨by decide, by decide⟩ (fun z => absurd z (by decide)) (fun _ => ?_)
    refine x_aload_n dX9_since_8 rfl ?_
    refine x_iload_n dX9_since_9 rfl ?_
    refine x_iconst dX9_since_10 ?_
    refine x_bipush (v := 23) dX9_since_11 (by decide) ?_
    refine x_callS_r (a := 0) (b := 0) (as := [xI t, xI 0, xI 23]) (rest := [xR (50, 0, 0)]) ok_X9_isIn dX9_since_13 wd1212 wd1213 (m_isIn U1 t 0 23 (by first | exact hz _ _ | exact hw.1 _ _ | exact zR_of _ | exact bI_z _ | assumption | exact ⟨by omega, by omega⟩) ⟨by decide, by decide⟩ ⟨by decide, by decide⟩) rfl (Nat.le_of_ble_eq_true rfl) (Nat.le_of_ble_eq_true rfl) (by decide) (by omega) (by omega) ?_
    by_cases b13 : 0 ≤ t ∧ t ≤ 23
    · refine x_top (bI_t b13) ?_
      refine x_if_eq (tgt := 30) dX9_since_16 (by decide) ⟨by decide, by decide⟩ (fun z => absurd z (by decide)) (fun _ => ?_)
      refine x_iload_n dX9_since_19 rfl ?_
      refine x_iconst dX9_since_20 ?_
      refine x_sipush (v := 383) dX9_since_21 (by decide) ?_
      refine x_callS_r (a := 0) (b := 0) (as := [xI q, xI 0, xI 383]) (rest := [xR (50, 0, 0)]) ok_X9_isIn dX9_since_24 wd1212 wd1213 (m_isIn U1 q 0 383 (by first | exact hz _ _ | exact hw.1 _ _ | exact zR_of _ | exact bI_z _ | assumption | exact ⟨by omega, by omega⟩) ⟨by decide, by decide⟩ ⟨by decide, by decide⟩) rfl (Nat.le_of_ble_eq_true rfl) (Nat.le_of_ble_eq_true rfl) (by decide) (by omega) (by omega) ?_
      by_cases b24 : 0 ≤ q ∧ q ≤ 383
      · refine x_top (bI_t b24) ?_
        refine x_if_ne (tgt := 34) dX9_since_27 (by decide) ⟨by decide, by decide⟩ (fun _ => ?_) (fun z => absurd z (by decide))
        refine x_iconst dX9_since_34 ?_
        refine x_iconst dX9_since_35 ?_
        refine x_callV_r (a := 0) (b := 0) (as := [xI 0, xI 2]) (rest := []) ok_X9_isThrown dX9_since_36 wd1215 ⟨wd1217, wd20⟩ (hp50 U1) rfl rfl ((show X mX9_isThrown 0 (xEnt mX9_isThrown [xR (50, 0, 0), xI 0, xI 2]) [] (hp U1) 0 0 (pRet (xI 0) (hp (putI U1 (50, 0, 0) 25 0))) from by have q := m_isThrown U1 wU1 0 2 (by omega) (by omega); rw [if_pos rfl] at q; exact q)) rfl (Nat.le_of_ble_eq_true rfl) (Nat.le_of_ble_eq_true rfl) (by decide) (by omega) (by omega) ?_
        refine x_if_eq (tgt := 44) dX9_since_39 (by decide) ⟨by decide, by decide⟩ (fun _ => ?_) (fun z => absurd z (by decide))
        refine x_aload_n dX9_since_44 rfl ?_
        refine x_get (v := xR (58, 0, 0)) dX9_since_45 fl_RX9_33 (hp50 (putI U1 (50, 0, 0) 25 0)) rfl ?_
        refine x_iload_n dX9_since_48 rfl ?_
        refine x_aldi (f := U1.1 (58, 0, 0)) dX9_since_49 (hp58 (putI U1 (50, 0, 0) 25 0)) (show (58 : Nat) ≠ 99 by decide) (by omega) (by omega) (by decide) ?_
        have f49_1 := wfa58 wU1 (S := U1) i
        have k93 := h93 (by omega) (by omega)
        have mb := (hM.q sU1).2.2.2.1 i (by omega) (by omega)
        refine x_top (show U1.1 (58, 0, 0) i = C.1 (9, i, 0) 3 from by first | exact mb.1 | (rw [putI_o (by decide)]; exact mb.1)) ?_
        refine x_istore (L' := [xR (50, 0, 0), xI i, xI t, xI q, xI (C.1 (9, i, 0) 3), none]) dX9_since_50 (by decide) rfl ?_
        refine x_aload_n dX9_since_52 rfl ?_
        refine x_iload_n dX9_since_53 rfl ?_
        refine x_iload dX9_since_54 rfl ?_
        refine x_iload_n dX9_since_56 rfl ?_
        refine x_iload_n dX9_since_57 rfl ?_
        refine x_callV (a := 0) (b := 0) (as := [xI i, xI (C.1 (9, i, 0) 3), xI t, xI q]) (rest := []) ok_X9_holds0 dX9_since_58 wd1351 ⟨wd1353, wd41⟩ (hp50 (putI U1 (50, 0, 0) 25 0)) rfl rfl (m_holds0 C (putI U1 (50, 0, 0) 25 0) hC (wp50_25 wU1 (by omega)) (hM.q (sU1.thr 0)) i (C.1 (9, i, 0) 3) t q (by omega) (by omega) (by omega) (by omega) (by omega) (by omega) (by omega) (by omega)) rfl (Nat.le_of_ble_eq_true rfl) (Nat.le_of_ble_eq_true rfl) (by decide) (by omega) (by omega) (fun _ q => by obtain ⟨_, _, _, y, _⟩ := q; cases y) (fun _ _ q => ?_) (fun _ _ q => by obtain ⟨_, _, _, y, _⟩ := q; cases y)
        obtain ⟨U2, z2, rfl, y2, qU2, wU2, hU2⟩ := q
        cases y2
        have sU2 := (sU1.thr 0).tr qU2
        obtain ⟨rfl, kU2, fU2, oU2⟩ := hU2
        have vU201 := bI_01 (hB C.1 i ((C.1 (9, i, 0) 3)).toNat t q)
        rw [putI_self] at kU2
        refine x_istore (L' := [xR (50, 0, 0), xI i, xI t, xI q, xI (C.1 (9, i, 0) 3), xI (bI (hB C.1 i ((C.1 (9, i, 0) 3)).toNat t q))]) dX9_since_61 (by decide) rfl ?_
        have k93 := h93 (by omega) (by omega)
        obtain ⟨m, hm⟩ := Int.eq_ofNat_of_zero_le (show 0 ≤ C.1 (9, i, 0) 3 by omega)
        have z := l9_since C U2 hC wU2 (hM.q sU2) i t q (by omega) (by omega) (by omega) (by omega) (by omega) (by omega) (spF (fun k : Nat => hB C.1 i k t q ↔ hB C.1 i (C.1 (9, i, 0) 3).toNat t q) m) (m + 25) U2 m (by omega) (MdQ.rf _) wU2 (by omega) (by omega) rfl
        rw [← hm] at z
        refine X.weak z (Nat.le_refl _) (Nat.le_refl _) (fun o h' q => ?_)
        obtain ⟨T, z, rfl, rfl, qT, wT, e1, e2⟩ := q
        exact pM_of (sU2.tr qT) wT (Or.inr ⟨e1, by omega, by omega, by rw [e2, show (C.1 (9, i, 0) 3).toNat = m by omega]⟩)
      · refine x_top (bI_f b24) ?_
        refine x_if_ne (tgt := 34) dX9_since_27 (by decide) ⟨by decide, by decide⟩ (fun z => absurd z (by decide)) (fun _ => ?_)
        refine x_iconst dX9_since_30 ?_
        refine x_goto (tgt := 35) dX9_since_31 (by decide) ?_
        refine x_iconst dX9_since_35 ?_
        refine x_callV_r (a := 0) (b := 0) (as := [xI 1, xI 2]) (rest := []) ok_X9_isThrown dX9_since_36 wd1215 ⟨wd1217, wd20⟩ (hp50 U1) rfl rfl ((show X mX9_isThrown 0 (xEnt mX9_isThrown [xR (50, 0, 0), xI 1, xI 2]) [] (hp U1) 0 0 (pRet (xI 1) (hp (putI U1 (50, 0, 0) 25 2))) from by have q := m_isThrown U1 wU1 1 2 (by omega) (by omega); rw [if_neg (by decide)] at q; exact q)) rfl (Nat.le_of_ble_eq_true rfl) (Nat.le_of_ble_eq_true rfl) (by decide) (by omega) (by omega) ?_
        refine x_if_eq (tgt := 44) dX9_since_39 (by decide) ⟨by decide, by decide⟩ (fun z => absurd z (by decide)) (fun _ => ?_)
        refine x_iconst dX9_since_42 ?_
        exact x_iret dX9_since_43 rfl (pM_thr sU1 wU1 (by omega) (Or.inl ⟨rfl, by omega⟩))
    · refine x_top (bI_f b13) ?_
      refine x_if_eq (tgt := 30) dX9_since_16 (by decide) ⟨by decide, by decide⟩ (fun _ => ?_) (fun z => absurd z (by decide))
      refine x_iconst dX9_since_30 ?_
      refine x_goto (tgt := 35) dX9_since_31 (by decide) ?_
      refine x_iconst dX9_since_35 ?_
      refine x_callV_r (a := 0) (b := 0) (as := [xI 1, xI 2]) (rest := []) ok_X9_isThrown dX9_since_36 wd1215 ⟨wd1217, wd20⟩ (hp50 U1) rfl rfl ((show X mX9_isThrown 0 (xEnt mX9_isThrown [xR (50, 0, 0), xI 1, xI 2]) [] (hp U1) 0 0 (pRet (xI 1) (hp (putI U1 (50, 0, 0) 25 2))) from by have q := m_isThrown U1 wU1 1 2 (by omega) (by omega); rw [if_neg (by decide)] at q; exact q)) rfl (Nat.le_of_ble_eq_true rfl) (Nat.le_of_ble_eq_true rfl) (by decide) (by omega) (by omega) ?_
      refine x_if_eq (tgt := 44) dX9_since_39 (by decide) ⟨by decide, by decide⟩ (fun z => absurd z (by decide)) (fun _ => ?_)
      refine x_iconst dX9_since_42 ?_
      exact x_iret dX9_since_43 rfl (pM_thr sU1 wU1 (by omega) (Or.inl ⟨rfl, by omega⟩))
