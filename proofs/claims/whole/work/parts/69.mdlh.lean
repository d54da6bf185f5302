/-! the reference: questions -/
set_option maxHeartbeats 4000000 in
set_option maxRecDepth 100000 in
theorem m_holdsAnew (C S : XS) (hC : CB C) (hw : WI S) (hM : MR C S) (i n t q : Int) (zi : zR i) (zn : zR n) (zt : zR t) (zq : zR q) : X mX9_holdsAnew 0 (xEnt mX9_holdsAnew [xR (50, 0, 0), xI i, xI n, xI t, xI q]) [] (hp S) 0 0 (pM S (fun k z _T => (z = 0 ∧ ((k = 1 ∧ ¬ ((0 ≤ i ∧ i < C.1 (0, 0, 0) 6) ∧ 0 ≤ n ∧ n < C.1 (9, i, 0) 3 + 1)) ∨ (k = 2 ∧ ((0 ≤ i ∧ i < C.1 (0, 0, 0) 6) ∧ 0 ≤ n ∧ n < C.1 (9, i, 0) 3 + 1) ∧ ¬ ((0 ≤ t ∧ t < 24) ∧ 0 ≤ q ∧ q < 384)))) ∨ (k = 0 ∧ ((0 ≤ i ∧ i < C.1 (0, 0, 0) 6) ∧ 0 ≤ n ∧ n < C.1 (9, i, 0) 3 + 1) ∧ ((0 ≤ t ∧ t < 24) ∧ 0 ≤ q ∧ q < 384) ∧ z = bI (hB C.1 i n.toNat t q)))) := by
  have c6 := wf0_6 hC.1
  have c4 := wf4_2 hC.1
  have h93 : 0 ≤ i → i < C.1 (0, 0, 0) 6 → 0 ≤ C.1 (9, i, 0) 3 ∧ C.1 (9, i, 0) 3 ≤ 60 := fun a b => wf9_3 hC.1 a (by omega)
  obtain ⟨n11, n12, n13, n24⟩ := hM.2.1
  have hz := hw.1
  have v01 := bI_01 (hB C.1 i n.toNat t q)
  show X mX9_holdsAnew 0 [xR (50, 0, 0), xI i, xI n, xI t, xI q] [] (hp S) 0 0 _
  refine x_aload_n dX9_holdsAnew_0 rfl ?_
  refine x_iload_n dX9_holdsAnew_1 rfl ?_
  refine x_iload_n dX9_holdsAnew_2 rfl ?_
  refine x_iload_n dX9_holdsAnew_3 rfl ?_
  refine x_iload dX9_holdsAnew_4 rfl ?_
  refine x_callV (a := 0) (b := 0) (as := [xI i, xI n, xI t, xI q]) (rest := []) ok_X9_holds dX9_holdsAnew_6 wd1359 ⟨wd1344, wd1345⟩ (hp50 S) rfl rfl (m_holds C S hC hw (hM.q (MdQ.rf S)) i n t q (by first | exact hz _ _ | exact hw.1 _ _ | exact zR_of _ | exact bI_z _ | assumption | exact ⟨by omega, by omega⟩) (by first | exact hz _ _ | exact hw.1 _ _ | exact zR_of _ | exact bI_z _ | assumption | exact ⟨by omega, by omega⟩) (by first | exact hz _ _ | exact hw.1 _ _ | exact zR_of _ | exact bI_z _ | assumption | exact ⟨by omega, by omega⟩) (by first | exact hz _ _ | exact hw.1 _ _ | exact zR_of _ | exact bI_z _ | assumption | exact ⟨by omega, by omega⟩)) rfl (Nat.le_of_ble_eq_true rfl) (Nat.le_of_ble_eq_true rfl) (by decide) (by omega) (by omega) (fun _ q => by obtain ⟨_, _, _, y, _⟩ := q; cases y) (fun _ _ q => ?_) (fun _ _ q => by obtain ⟨_, _, _, y, _⟩ := q; cases y)
  obtain ⟨U1, z1, rfl, y1, qU1, wU1, hU1⟩ := q
  cases y1
  have sU1 := (MdQ.rf S).tr qU1
  obtain hU1 := hU1
  exact x_zret dX9_holdsAnew_9 rfl (by omega) (pM_of sU1 wU1 hU1)
set_option maxHeartbeats 4000000 in
set_option maxRecDepth 100000 in
theorem m_knowing (C S : XS) (hC : CB C) (hw : WI S) (hM : MR C S) (i : Int) (zi : zR i) : X mX9_knowing 0 (xEnt mX9_knowing [xR (50, 0, 0), xI i]) [] (hp S) 0 0 (pM S (fun k z _T => (z = 0 ∧ ((k = 1 ∧ ¬ (0 ≤ i ∧ i < C.1 (0, 0, 0) 6)))) ∨ (k = 0 ∧ (0 ≤ i ∧ i < C.1 (0, 0, 0) 6) ∧ z = C.1 (9, i, 0) 3))) := by
  have c6 := wf0_6 hC.1
  have c4 := wf4_2 hC.1
  have h93 : 0 ≤ i → i < C.1 (0, 0, 0) 6 → 0 ≤ C.1 (9, i, 0) 3 ∧ C.1 (9, i, 0) 3 ≤ 60 := fun a b => wf9_3 hC.1 a (by omega)
  obtain ⟨n11, n12, n13, n24⟩ := hM.2.1
  have hz := hw.1
  show X mX9_knowing 0 [xR (50, 0, 0), xI i] [] (hp S) 0 0 _
  refine x_aload_n dX9_knowing_0 rfl ?_
  refine x_iload_n dX9_knowing_1 rfl ?_
  refine x_callV (a := 0) (b := 0) (as := [xI i]) (rest := []) ok_X9_isNoBranch dX9_knowing_2 wd1204 ⟨wd1206, wd18⟩ (hp50 S) rfl rfl (m_isNoBranch C S hC hw (hM.q (MdQ.rf S)) i (by first | exact hz _ _ | exact hw.1 _ _ | exact zR_of _ | exact bI_z _ | assumption | exact ⟨by omega, by omega⟩)) rfl (Nat.le_of_ble_eq_true rfl) (Nat.le_of_ble_eq_true rfl) (by decide) (by omega) (by omega) (fun _ q => by obtain ⟨_, _, _, y, _⟩ := q; cases y) (fun _ _ q => ?_) (fun _ _ q => by obtain ⟨_, _, _, y, _⟩ := q; cases y)
  obtain ⟨U1, z1, rfl, y1, qU1, wU1, hU1⟩ := q
  cases y1
  have sU1 := (MdQ.rf S).tr qU1
  rcases hU1 with ⟨rfl, hU1⟩ | ⟨rfl, hU1⟩
  · refine x_if_eq (tgt := 12) dX9_knowing_5 (by decide) ⟨by decide, by decide⟩ (fun z => absurd z (by decide)) (fun _ => ?_)
    refine x_iconst dX9_knowing_8 ?_
    refine x_goto (tgt := 18) dX9_knowing_9 (by decide) ?_
    exact x_iret dX9_knowing_18 rfl (pM_of sU1 wU1 (by omega))
  · refine x_if_eq (tgt := 12) dX9_knowing_5 (by decide) ⟨by decide, by decide⟩ (fun _ => ?_) (fun z => absurd z (by decide))
    have mb := (hM.q sU1).2.2.2.1 i (by omega) (by omega)
    refine x_aload_n dX9_knowing_12 rfl ?_
    refine x_get (v := xR (58, 0, 0)) dX9_knowing_13 fl_RX9_33 (hp50 U1) rfl ?_
    refine x_iload_n dX9_knowing_16 rfl ?_
    refine x_aldi (f := U1.1 (58, 0, 0)) dX9_knowing_17 (hp58 U1) (show (58 : Nat) ≠ 99 by decide) (by omega) (by omega) (by decide) ?_
    have f17_1 := wfa58 wU1 (S := U1) i
    exact x_iret dX9_knowing_18 rfl (pM_of sU1 wU1 (by omega))
set_option maxHeartbeats 4000000 in
set_option maxRecDepth 100000 in
theorem m_isOn (C S : XS) (hC : CB C) (hw : WI S) (hM : MR C S) (i r n : Int) (zi : zR i) (zr : zR r) (zn : zR n) : X mX9_isOn 0 (xEnt mX9_isOn [xR (50, 0, 0), xI i, xI r, xI n]) [] (hp S) 0 0 (pM S (fun k z _T => (z = 0 ∧ ((k = 1 ∧ ¬ ((0 ≤ i ∧ i < C.1 (0, 0, 0) 6) ∧ (0 ≤ r ∧ r < C.1 (4, 0, 0) 2) ∧ 0 ≤ n ∧ n < C.1 (9, i, 0) 3 + 1)))) ∨ (k = 0 ∧ ((0 ≤ i ∧ i < C.1 (0, 0, 0) 6) ∧ (0 ≤ r ∧ r < C.1 (4, 0, 0) 2) ∧ 0 ≤ n ∧ n < C.1 (9, i, 0) 3 + 1) ∧ z = bI (bitI (onN C.1 i n.toNat) r)))) := by
  have c6 := wf0_6 hC.1
  have c4 := wf4_2 hC.1
  have h93 : 0 ≤ i → i < C.1 (0, 0, 0) 6 → 0 ≤ C.1 (9, i, 0) 3 ∧ C.1 (9, i, 0) 3 ≤ 60 := fun a b => wf9_3 hC.1 a (by omega)
  obtain ⟨n11, n12, n13, n24⟩ := hM.2.1
  have hz := hw.1
  show X mX9_isOn 0 [xR (50, 0, 0), xI i, xI r, xI n] [] (hp S) 0 0 _
  refine x_aload_n dX9_isOn_0 rfl ?_
  refine x_iload_n dX9_isOn_1 rfl ?_
  refine x_iconst dX9_isOn_2 ?_
  refine x_aload_n dX9_isOn_3 rfl ?_
  refine x_get (v := xI (S.1 (50, 0, 0) 12)) dX9_isOn_4 fl_RX9_111 (hp50 S) rfl ?_
  have f4_1 := wf50_12 hw (S := S)
  refine x_iconst dX9_isOn_7 ?_
  refine x_isub dX9_isOn_8 ?_
  refine x_callS_r (a := 0) (b := 0) (as := [xI r, xI 0, xI ((S.1 (50, 0, 0) 12) - 1)]) (rest := [xR (50, 0, 0)]) ok_X9_isIn dX9_isOn_9 wd1212 wd1213 (m_isIn S r 0 ((S.1 (50, 0, 0) 12) - 1) (by first | exact hz _ _ | exact hw.1 _ _ | exact zR_of _ | exact bI_z _ | assumption | exact ⟨by omega, by omega⟩) ⟨by decide, by decide⟩ (by first | exact hz _ _ | exact hw.1 _ _ | exact zR_of _ | exact bI_z _ | assumption | exact ⟨by omega, by omega⟩)) rfl (Nat.le_of_ble_eq_true rfl) (Nat.le_of_ble_eq_true rfl) (by decide) (by omega) (by omega) ?_
  by_cases b9 : 0 ≤ r ∧ r ≤ ((S.1 (50, 0, 0) 12) - 1)
  · refine x_top (bI_t b9) ?_
    refine x_if_ne (tgt := 19) dX9_isOn_12 (by decide) ⟨by decide, by decide⟩ (fun _ => ?_) (fun z => absurd z (by decide))
    refine x_iconst dX9_isOn_19 ?_
    refine x_iconst dX9_isOn_20 ?_
    refine x_callV_r (a := 0) (b := 0) (as := [xI 0, xI 1]) (rest := []) ok_X9_isThrown dX9_isOn_21 wd1215 ⟨wd1217, wd20⟩ (hp50 S) rfl rfl ((show X mX9_isThrown 0 (xEnt mX9_isThrown [xR (50, 0, 0), xI 0, xI 1]) [] (hp S) 0 0 (pRet (xI 0) (hp (putI S (50, 0, 0) 25 0))) from by have q := m_isThrown S hw 0 1 (by omega) (by omega); rw [if_pos rfl] at q; exact q)) rfl (Nat.le_of_ble_eq_true rfl) (Nat.le_of_ble_eq_true rfl) (by decide) (by omega) (by omega) ?_
    refine x_if_ne (tgt := 36) dX9_isOn_24 (by decide) ⟨by decide, by decide⟩ (fun z => absurd z (by decide)) (fun _ => ?_)
    refine x_aload_n dX9_isOn_27 rfl ?_
    refine x_iload_n dX9_isOn_28 rfl ?_
    refine x_iload_n dX9_isOn_29 rfl ?_
    refine x_callV (a := 0) (b := 0) (as := [xI i, xI n]) (rest := []) ok_X9_isNoKnowing dX9_isOn_30 wd1331 ⟨wd1333, wd39⟩ (hp50 (putI S (50, 0, 0) 25 0)) rfl rfl (m_isNoKnowing C (putI S (50, 0, 0) 25 0) hC (wp50_25 hw (by omega)) (hM.q ((MdQ.rf S).thr 0)) i n (by first | exact hz _ _ | exact hw.1 _ _ | exact zR_of _ | exact bI_z _ | assumption | exact ⟨by omega, by omega⟩) (by first | exact hz _ _ | exact hw.1 _ _ | exact zR_of _ | exact bI_z _ | assumption | exact ⟨by omega, by omega⟩)) rfl (Nat.le_of_ble_eq_true rfl) (Nat.le_of_ble_eq_true rfl) (by decide) (by omega) (by omega) (fun _ q => by obtain ⟨_, _, _, y, _⟩ := q; cases y) (fun _ _ q => ?_) (fun _ _ q => by obtain ⟨_, _, _, y, _⟩ := q; cases y)
    obtain ⟨U1, z1, rfl, y1, qU1, wU1, hU1⟩ := q
    cases y1
    have sU1 := ((MdQ.rf S).thr 0).tr qU1
    rcases hU1 with ⟨rfl, hU1⟩ | ⟨rfl, hU1⟩
    · refine x_if_eq (tgt := 38) dX9_isOn_33 (by decide) ⟨by decide, by decide⟩ (fun z => absurd z (by decide)) (fun _ => ?_)
      refine x_iconst dX9_isOn_36 ?_
      exact x_zret dX9_isOn_37 rfl (Or.inl rfl) (pM_of sU1 wU1 (by omega))
    · refine x_if_eq (tgt := 38) dX9_isOn_33 (by decide) ⟨by decide, by decide⟩ (fun _ => ?_) (fun z => absurd z (by decide))
      refine x_aload_n dX9_isOn_38 rfl ?_
      refine x_iload_n dX9_isOn_39 rfl ?_
      refine x_iload_n dX9_isOn_40 rfl ?_
      refine x_callV (a := 0) (b := 0) (as := [xI i, xI n]) (rest := []) ok_X9_turnsOn dX9_isOn_41 wd1249 ⟨wd1251, wd27⟩ (hp50 U1) rfl rfl (m_turnsOnZ C U1 hC wU1 (hM.q sU1).1 i (by omega) (by omega) n (by omega) (by omega)) rfl (Nat.le_of_ble_eq_true rfl) (Nat.le_of_ble_eq_true rfl) (by decide) (by omega) (by omega) (fun _ q => ?_) (fun _ _ q => by cases q.1) (fun _ _ q => by cases q.1)
      obtain ⟨-, U2, rfl, eU2, wU2, oU2⟩ := q
      have sU2 := sU1.tr (eU2.md rfl)
      have kU2 := congrFun (eU2.1 (50, 0, 0) (by decide)) 25
      refine x_aload_n dX9_isOn_44 rfl ?_
      refine x_get (v := xR (71, 0, 0)) dX9_isOn_45 fl_RX9_81 (hp50 U2) rfl ?_
      refine x_iload_n dX9_isOn_48 rfl ?_
      refine x_aldz (f := U2.1 (71, 0, 0)) dX9_isOn_49 (hp71 U2) (show (71 : Nat) ≠ 99 by decide) (by omega) (by omega) (by decide) ?_
      have f49_2 := wfa71 wU2 (S := U2) r
      exact x_zret dX9_isOn_50 rfl (by omega) (pM_of sU2 wU2 (by have o := oU2 r.toNat (by omega); rw [show ((r.toNat : Nat) : Int) = r by omega] at o; exact Or.inr ⟨by omega, by omega, o⟩))
  · refine x_top (bI_f b9) ?_
    refine x_if_ne (tgt := 19) dX9_isOn_12 (by decide) ⟨by decide, by decide⟩ (fun z => absurd z (by decide)) (fun _ => ?_)
    refine x_iconst dX9_isOn_15 ?_
    refine x_goto (tgt := 20) dX9_isOn_16 (by decide) ?_
    refine x_iconst dX9_isOn_20 ?_
    refine x_callV_r (a := 0) (b := 0) (as := [xI 1, xI 1]) (rest := []) ok_X9_isThrown dX9_isOn_21 wd1215 ⟨wd1217, wd20⟩ (hp50 S) rfl rfl ((show X mX9_isThrown 0 (xEnt mX9_isThrown [xR (50, 0, 0), xI 1, xI 1]) [] (hp S) 0 0 (pRet (xI 1) (hp (putI S (50, 0, 0) 25 1))) from by have q := m_isThrown S hw 1 1 (by omega) (by omega); rw [if_neg (by decide)] at q; exact q)) rfl (Nat.le_of_ble_eq_true rfl) (Nat.le_of_ble_eq_true rfl) (by decide) (by omega) (by omega) ?_
    refine x_if_ne (tgt := 36) dX9_isOn_24 (by decide) ⟨by decide, by decide⟩ (fun _ => ?_) (fun z => absurd z (by decide))
    refine x_iconst dX9_isOn_36 ?_
    exact x_zret dX9_isOn_37 rfl (Or.inl rfl) (pM_thr (MdQ.rf S) hw (by omega) (by omega))
set_option maxHeartbeats 4000000 in
set_option maxRecDepth 100000 in
theorem m_layer (C S : XS) (hC : CB C) (hw : WI S) (hM : MR C S) (i r : Int) (zi : zR i) (zr : zR r) : X mX9_layer 0 (xEnt mX9_layer [xR (50, 0, 0), xI i, xI r]) [] (hp S) 0 0 (pM S (fun k z _T => (z = 0 ∧ ((k = 1 ∧ ¬ (0 ≤ i ∧ i < C.1 (0, 0, 0) 6)) ∨ (k = 2 ∧ (0 ≤ i ∧ i < C.1 (0, 0, 0) 6) ∧ ¬ (0 ≤ r ∧ r < 6)))) ∨ (k = 0 ∧ (0 ≤ i ∧ i < C.1 (0, 0, 0) 6) ∧ (0 ≤ r ∧ r < 6) ∧ z = _T.1 (72, 0, 0) r ∧ LyG C.1 (onN C.1 i (C.1 (9, i, 0) 3).toNat) (_T.1 (72, 0, 0))))) := by
  have c6 := wf0_6 hC.1
  have c4 := wf4_2 hC.1
  have h93 : 0 ≤ i → i < C.1 (0, 0, 0) 6 → 0 ≤ C.1 (9, i, 0) 3 ∧ C.1 (9, i, 0) 3 ≤ 60 := fun a b => wf9_3 hC.1 a (by omega)
  obtain ⟨n11, n12, n13, n24⟩ := hM.2.1
  have hz := hw.1
  show X mX9_layer 0 [xR (50, 0, 0), xI i, xI r, none] [] (hp S) 0 0 _
  refine x_aload_n dX9_layer_0 rfl ?_
  refine x_iload_n dX9_layer_1 rfl ?_
  refine x_callV (a := 0) (b := 0) (as := [xI i]) (rest := []) ok_X9_isNoBranch dX9_layer_2 wd1204 ⟨wd1206, wd18⟩ (hp50 S) rfl rfl (m_isNoBranch C S hC hw (hM.q (MdQ.rf S)) i (by first | exact hz _ _ | exact hw.1 _ _ | exact zR_of _ | exact bI_z _ | assumption | exact ⟨by omega, by omega⟩)) rfl (Nat.le_of_ble_eq_true rfl) (Nat.le_of_ble_eq_true rfl) (by decide) (by omega) (by omega) (fun _ q => by obtain ⟨_, _, _, y, _⟩ := q; cases y) (fun _ _ q => ?_) (fun _ _ q => by obtain ⟨_, _, _, y, _⟩ := q; cases y)
  obtain ⟨U1, z1, rfl, y1, qU1, wU1, hU1⟩ := q
  cases y1
  have sU1 := (MdQ.rf S).tr qU1
  rcases hU1 with ⟨rfl, hU1⟩ | ⟨rfl, hU1⟩
  · refine x_if_ne (tgt := 30) dX9_layer_5 (by decide) ⟨by decide, by decide⟩ (fun _ => ?_) (fun z => absurd z (by decide))
    refine x_iconst dX9_layer_30 ?_
    exact x_iret dX9_layer_31 rfl (pM_of sU1 wU1 (Or.inl (by omega)))
  · refine x_if_ne (tgt := 30) dX9_layer_5 (by decide) ⟨by decide, by decide⟩ (fun z => absurd z (by decide)) (fun _ => ?_)
    refine x_aload_n dX9_layer_8 rfl ?_
    refine x_iload_n dX9_layer_9 rfl ?_
    refine x_iconst dX9_layer_10 ?_
    refine x_iconst dX9_layer_11 ?_
    refine x_callS_r (a := 0) (b := 0) (as := [xI r, xI 0, xI 5]) (rest := [xR (50, 0, 0)]) ok_X9_isIn dX9_layer_12 wd1212 wd1213 (m_isIn U1 r 0 5 (by first | exact hz _ _ | exact hw.1 _ _ | exact zR_of _ | exact bI_z _ | assumption | exact ⟨by omega, by omega⟩) ⟨by decide, by decide⟩ ⟨by decide, by decide⟩) rfl (Nat.le_of_ble_eq_true rfl) (Nat.le_of_ble_eq_true rfl) (by decide) (by omega) (by omega) ?_
    by_cases b12 : 0 ≤ r ∧ r ≤ 5
    · refine x_top (bI_t b12) ?_
      refine x_if_ne (tgt := 22) dX9_layer_15 (by decide) ⟨by decide, by decide⟩ (fun _ => ?_) (fun z => absurd z (by decide))
      refine x_iconst dX9_layer_22 ?_
      refine x_iconst dX9_layer_23 ?_
      refine x_callV_r (a := 0) (b := 0) (as := [xI 0, xI 2]) (rest := []) ok_X9_isThrown dX9_layer_24 wd1215 ⟨wd1217, wd20⟩ (hp50 U1) rfl rfl ((show X mX9_isThrown 0 (xEnt mX9_isThrown [xR (50, 0, 0), xI 0, xI 2]) [] (hp U1) 0 0 (pRet (xI 0) (hp (putI U1 (50, 0, 0) 25 0))) from by have q := m_isThrown U1 wU1 0 2 (by omega) (by omega); rw [if_pos rfl] at q; exact q)) rfl (Nat.le_of_ble_eq_true rfl) (Nat.le_of_ble_eq_true rfl) (by decide) (by omega) (by omega) ?_
      refine x_if_eq (tgt := 32) dX9_layer_27 (by decide) ⟨by decide, by decide⟩ (fun _ => ?_) (fun z => absurd z (by decide))
      refine x_aload_n dX9_layer_32 rfl ?_
      refine x_iload_n dX9_layer_33 rfl ?_
      refine x_aload_n dX9_layer_34 rfl ?_
      refine x_get (v := xR (58, 0, 0)) dX9_layer_35 fl_RX9_33 (hp50 (putI U1 (50, 0, 0) 25 0)) rfl ?_
      refine x_iload_n dX9_layer_38 rfl ?_
      refine x_aldi (f := U1.1 (58, 0, 0)) dX9_layer_39 (hp58 (putI U1 (50, 0, 0) 25 0)) (show (58 : Nat) ≠ 99 by decide) (by omega) (by omega) (by decide) ?_
      have f39_1 := wfa58 wU1 (S := U1) i
      have mb := (hM.q sU1).2.2.2.1 i (by omega) (by omega)
      refine x_top (show U1.1 (58, 0, 0) i = C.1 (9, i, 0) 3 from by first | exact mb.1 | (rw [putI_o (by decide)]; exact mb.1)) ?_
      refine x_callV (a := 0) (b := 0) (as := [xI i, xI (C.1 (9, i, 0) 3)]) (rest := []) ok_X9_turnsOn dX9_layer_40 wd1249 ⟨wd1251, wd27⟩ (hp50 (putI U1 (50, 0, 0) 25 0)) rfl rfl (m_turnsOnZ C (putI U1 (50, 0, 0) 25 0) hC (wp50_25 wU1 (by omega)) (hM.q (sU1.thr 0)).1 i (by omega) (by omega) (C.1 (9, i, 0) 3) (by omega) (by omega)) rfl (Nat.le_of_ble_eq_true rfl) (Nat.le_of_ble_eq_true rfl) (by decide) (by omega) (by omega) (fun _ q => ?_) (fun _ _ q => by cases q.1) (fun _ _ q => by cases q.1)
      obtain ⟨-, U2, rfl, eU2, wU2, oU2⟩ := q
      have sU2 := (sU1.thr 0).tr (eU2.md rfl)
      have kU2 := congrFun (eU2.1 (50, 0, 0) (by decide)) 25
      rw [putI_self] at kU2
      refine x_aload_n dX9_layer_43 rfl ?_
      refine x_callV (a := 0) (b := 0) (as := []) (rest := []) ok_X9_layers dX9_layer_44 wd1253 ⟨wd1255, wd28⟩ (hp50 U2) rfl rfl (m_layers C U2 hC.1 wU2 (hM.q sU2).2.1 (hM.q sU2).2.2.1 _ oU2) rfl (Nat.le_of_ble_eq_true rfl) (Nat.le_of_ble_eq_true rfl) (by decide) (by omega) (by omega) (fun _ q => by obtain ⟨_, _, _, _, ⟨q, _⟩ | ⟨q, _⟩⟩ := q <;> cases q) (fun _ _ q => ?_) (fun _ _ q => by obtain ⟨_, _, _, _, ⟨q, _⟩ | ⟨q, _⟩⟩ := q <;> cases q)
      obtain ⟨U3, rfl, eU3, wU3, lU3⟩ := q
      have sU3 := sU2.tr (eU3.md rfl)
      have kU3 := congrFun (eU3.1 (50, 0, 0) (by decide)) 25
      rcases lU3 with ⟨yU3, lU3⟩ | ⟨yU3, lU3⟩
      · cases yU3
        refine x_istore_n (L' := [xR (50, 0, 0), xI i, xI r, xI 1]) dX9_layer_47 (by decide) rfl ?_
        refine x_aload_n dX9_layer_48 rfl ?_
        refine x_get (v := xR (72, 0, 0)) dX9_layer_49 fl_RX9_84 (hp50 U3) rfl ?_
        refine x_iload_n dX9_layer_52 rfl ?_
        refine x_aldi (f := U3.1 (72, 0, 0)) dX9_layer_53 (hp72 U3) (show (72 : Nat) ≠ 99 by decide) (by omega) (by omega) (by decide) ?_
        have f53_2 := wfa72 wU3 (S := U3) r
        exact x_iret dX9_layer_54 rfl (pM_of sU3 wU3 (Or.inr ⟨by omega, by omega, by omega, rfl, lU3⟩))
      · cases yU3
        · exfalso; obtain ⟨g, g1, g2⟩ := hC.2.2.2.1 i (by omega) (by omega) (C.1 (9, i, 0) 3).toNat (by omega); exact lU3 g g1 g2
    · refine x_top (bI_f b12) ?_
      refine x_if_ne (tgt := 22) dX9_layer_15 (by decide) ⟨by decide, by decide⟩ (fun z => absurd z (by decide)) (fun _ => ?_)
      refine x_iconst dX9_layer_18 ?_
      refine x_goto (tgt := 23) dX9_layer_19 (by decide) ?_
      refine x_iconst dX9_layer_23 ?_
      refine x_callV_r (a := 0) (b := 0) (as := [xI 1, xI 2]) (rest := []) ok_X9_isThrown dX9_layer_24 wd1215 ⟨wd1217, wd20⟩ (hp50 U1) rfl rfl ((show X mX9_isThrown 0 (xEnt mX9_isThrown [xR (50, 0, 0), xI 1, xI 2]) [] (hp U1) 0 0 (pRet (xI 1) (hp (putI U1 (50, 0, 0) 25 2))) from by have q := m_isThrown U1 wU1 1 2 (by omega) (by omega); rw [if_neg (by decide)] at q; exact q)) rfl (Nat.le_of_ble_eq_true rfl) (Nat.le_of_ble_eq_true rfl) (by decide) (by omega) (by omega) ?_
      refine x_if_eq (tgt := 32) dX9_layer_27 (by decide) ⟨by decide, by decide⟩ (fun z => absurd z (by decide)) (fun _ => ?_)
      refine x_iconst dX9_layer_30 ?_
      exact x_iret dX9_layer_31 rfl (pM_thr sU1 wU1 (by omega) (Or.inl (by omega)))
set_option maxHeartbeats 4000000 in
set_option maxRecDepth 100000 in
theorem m_isNot (C S : XS) (hC : CB C) (hw : WI S) (hM : MR C S) (i n t q : Int) (zi : zR i) (zn : zR n) (zt : zR t) (zq : zR q) : X mX9_isNot 0 (xEnt mX9_isNot [xR (50, 0, 0), xI i, xI n, xI t, xI q]) [] (hp S) 0 0 (pM S (fun k z _T => (z = 1 ∧ ((k = 1 ∧ ¬ ((0 ≤ i ∧ i < C.1 (0, 0, 0) 6) ∧ 0 ≤ n ∧ n < C.1 (9, i, 0) 3 + 1)) ∨ (k = 2 ∧ ((0 ≤ i ∧ i < C.1 (0, 0, 0) 6) ∧ 0 ≤ n ∧ n < C.1 (9, i, 0) 3 + 1) ∧ ¬ ((0 ≤ t ∧ t < 24) ∧ 0 ≤ q ∧ q < 384)) ∨ (k = 3 ∧ ((0 ≤ i ∧ i < C.1 (0, 0, 0) 6) ∧ 0 ≤ n ∧ n < C.1 (9, i, 0) 3 + 1) ∧ ((0 ≤ t ∧ t < 24) ∧ 0 ≤ q ∧ q < 384) ∧ ¬ (bI (hB C.1 i n.toNat t q) = 1)))) ∨ (z = 0 ∧ k = 0 ∧ ((0 ≤ i ∧ i < C.1 (0, 0, 0) 6) ∧ 0 ≤ n ∧ n < C.1 (9, i, 0) 3 + 1) ∧ ((0 ≤ t ∧ t < 24) ∧ 0 ≤ q ∧ q < 384) ∧ (bI (hB C.1 i n.toNat t q) = 1) ∧ FinR C i n.toNat t (_T.1 (73, 0, 0)) ∧ OnRow _T (onN C.1 i n.toNat)))) := by
  have c6 := wf0_6 hC.1
  have c4 := wf4_2 hC.1
  have h93 : 0 ≤ i → i < C.1 (0, 0, 0) 6 → 0 ≤ C.1 (9, i, 0) 3 ∧ C.1 (9, i, 0) 3 ≤ 60 := fun a b => wf9_3 hC.1 a (by omega)
  obtain ⟨n11, n12, n13, n24⟩ := hM.2.1
  have hz := hw.1
  show X mX9_isNot 0 [xR (50, 0, 0), xI i, xI n, xI t, xI q] [] (hp S) 0 0 _
  refine x_aload_n dX9_isNot_0 rfl ?_
  refine x_iload_n dX9_isNot_1 rfl ?_
  refine x_iload_n dX9_isNot_2 rfl ?_
  refine x_iload_n dX9_isNot_3 rfl ?_
  refine x_iload dX9_isNot_4 rfl ?_
  refine x_callV (a := 0) (b := 0) (as := [xI i, xI n, xI t, xI q]) (rest := []) ok_X9_isNoAnswer dX9_isNot_6 wd1347 ⟨wd1349, wd40⟩ (hp50 S) rfl rfl (m_isNoAnswer C S hC hw (hM.q (MdQ.rf S)) i n t q (by first | exact hz _ _ | exact hw.1 _ _ | exact zR_of _ | exact bI_z _ | assumption | exact ⟨by omega, by omega⟩) (by first | exact hz _ _ | exact hw.1 _ _ | exact zR_of _ | exact bI_z _ | assumption | exact ⟨by omega, by omega⟩) (by first | exact hz _ _ | exact hw.1 _ _ | exact zR_of _ | exact bI_z _ | assumption | exact ⟨by omega, by omega⟩) (by first | exact hz _ _ | exact hw.1 _ _ | exact zR_of _ | exact bI_z _ | assumption | exact ⟨by omega, by omega⟩)) rfl (Nat.le_of_ble_eq_true rfl) (Nat.le_of_ble_eq_true rfl) (by decide) (by omega) (by omega) (fun _ q => by obtain ⟨_, _, _, y, _⟩ := q; cases y) (fun _ _ q => ?_) (fun _ _ q => by obtain ⟨_, _, _, y, _⟩ := q; cases y)
  obtain ⟨U1, z1, rfl, y1, qU1, wU1, hU1⟩ := q
  cases y1
  have sU1 := (MdQ.rf S).tr qU1
  rcases hU1 with ⟨rfl, hU1⟩ | ⟨rfl, hU1⟩
  · refine x_if_ne (tgt := 37) dX9_isNot_9 (by decide) ⟨by decide, by decide⟩ (fun _ => ?_) (fun z => absurd z (by decide))
    refine x_iconst dX9_isNot_37 ?_
    refine x_goto (tgt := 42) dX9_isNot_38 (by decide) ?_
    exact x_zret dX9_isNot_42 rfl (Or.inr rfl) (pM_of sU1 wU1 (Or.inl ⟨rfl, by omega⟩))
  · refine x_if_ne (tgt := 37) dX9_isNot_9 (by decide) ⟨by decide, by decide⟩ (fun z => absurd z (by decide)) (fun _ => ?_)
    refine x_aload_n dX9_isNot_12 rfl ?_
    refine x_aload_n dX9_isNot_13 rfl ?_
    refine x_iload_n dX9_isNot_14 rfl ?_
    refine x_iload_n dX9_isNot_15 rfl ?_
    refine x_iload_n dX9_isNot_16 rfl ?_
    refine x_iload dX9_isNot_17 rfl ?_
    refine x_callV (a := 0) (b := 0) (as := [xI i, xI n, xI t, xI q]) (rest := [xR (50, 0, 0)]) ok_X9_holds0 dX9_isNot_19 wd1351 ⟨wd1353, wd41⟩ (hp50 U1) rfl rfl (m_holds0 C U1 hC wU1 (hM.q sU1) i n t q (by omega) (by omega) (by omega) (by omega) (by omega) (by omega) (by omega) (by omega)) rfl (Nat.le_of_ble_eq_true rfl) (Nat.le_of_ble_eq_true rfl) (by decide) (by omega) (by omega) (fun _ q => by obtain ⟨_, _, _, y, _⟩ := q; cases y) (fun _ _ q => ?_) (fun _ _ q => by obtain ⟨_, _, _, y, _⟩ := q; cases y)
    obtain ⟨U2, z2, rfl, y2, qU2, wU2, hU2⟩ := q
    cases y2
    have sU2 := sU1.tr qU2
    obtain ⟨rfl, kU2, fU2, oU2⟩ := hU2
    have vU201 := bI_01 (hB C.1 i (n).toNat t q)
    refine x_if_ne (tgt := 29) dX9_isNot_22 (by decide) (by first | exact hz _ _ | exact hw.1 _ _ | exact zR_of _ | exact bI_z _ | assumption | exact ⟨by omega, by omega⟩) (fun c22 => ?_) (fun c22 => ?_)
    · refine x_iconst dX9_isNot_29 ?_
      refine x_iconst dX9_isNot_30 ?_
      refine x_callV_r (a := 0) (b := 0) (as := [xI 0, xI 3]) (rest := []) ok_X9_isThrown dX9_isNot_31 wd1215 ⟨wd1217, wd20⟩ (hp50 U2) rfl rfl ((show X mX9_isThrown 0 (xEnt mX9_isThrown [xR (50, 0, 0), xI 0, xI 3]) [] (hp U2) 0 0 (pRet (xI 0) (hp (putI U2 (50, 0, 0) 25 0))) from by have q := m_isThrown U2 wU2 0 3 (by omega) (by omega); rw [if_pos rfl] at q; exact q)) rfl (Nat.le_of_ble_eq_true rfl) (Nat.le_of_ble_eq_true rfl) (by decide) (by omega) (by omega) ?_
      refine x_if_eq (tgt := 41) dX9_isNot_34 (by decide) ⟨by decide, by decide⟩ (fun _ => ?_) (fun z => absurd z (by decide))
      refine x_iconst dX9_isNot_41 ?_
      exact x_zret dX9_isNot_42 rfl (Or.inl rfl) (pM_thr sU2 wU2 (by omega) (Or.inr ⟨rfl, rfl, by omega, by omega, by omega, by rw [putI_o (by decide)]; exact fU2, oU2.q (putI_o (by decide))⟩))
    · refine x_iconst dX9_isNot_25 ?_
      refine x_goto (tgt := 30) dX9_isNot_26 (by decide) ?_
      refine x_iconst dX9_isNot_30 ?_
      refine x_callV_r (a := 0) (b := 0) (as := [xI 1, xI 3]) (rest := []) ok_X9_isThrown dX9_isNot_31 wd1215 ⟨wd1217, wd20⟩ (hp50 U2) rfl rfl ((show X mX9_isThrown 0 (xEnt mX9_isThrown [xR (50, 0, 0), xI 1, xI 3]) [] (hp U2) 0 0 (pRet (xI 1) (hp (putI U2 (50, 0, 0) 25 3))) from by have q := m_isThrown U2 wU2 1 3 (by omega) (by omega); rw [if_neg (by decide)] at q; exact q)) rfl (Nat.le_of_ble_eq_true rfl) (Nat.le_of_ble_eq_true rfl) (by decide) (by omega) (by omega) ?_
      refine x_if_eq (tgt := 41) dX9_isNot_34 (by decide) ⟨by decide, by decide⟩ (fun z => absurd z (by decide)) (fun _ => ?_)
      refine x_iconst dX9_isNot_37 ?_
      refine x_goto (tgt := 42) dX9_isNot_38 (by decide) ?_
      exact x_zret dX9_isNot_42 rfl (Or.inr rfl) (pM_thr sU2 wU2 (by omega) (Or.inl ⟨rfl, by omega⟩))
set_option maxHeartbeats 4000000 in
set_option maxRecDepth 100000 in
theorem m_rank (C S : XS) (hC : CB C) (hw : WI S) (hM : MR C S) (i n t q : Int) (zi : zR i) (zn : zR n) (zt : zR t) (zq : zR q) : X mX9_rank 0 (xEnt mX9_rank [xR (50, 0, 0), xI i, xI n, xI t, xI q]) [] (hp S) 0 0 (pM S (fun k z _T => (z = 0 ∧ ((k = 1 ∧ ¬ ((0 ≤ i ∧ i < C.1 (0, 0, 0) 6) ∧ 0 ≤ n ∧ n < C.1 (9, i, 0) 3 + 1)) ∨ (k = 2 ∧ ((0 ≤ i ∧ i < C.1 (0, 0, 0) 6) ∧ 0 ≤ n ∧ n < C.1 (9, i, 0) 3 + 1) ∧ ¬ ((0 ≤ t ∧ t < 24) ∧ 0 ≤ q ∧ q < 384)) ∨ (k = 3 ∧ ((0 ≤ i ∧ i < C.1 (0, 0, 0) 6) ∧ 0 ≤ n ∧ n < C.1 (9, i, 0) 3 + 1) ∧ ((0 ≤ t ∧ t < 24) ∧ 0 ≤ q ∧ q < 384) ∧ ¬ (bI (hB C.1 i n.toNat t q) = 1)))) ∨ (k = 0 ∧ ((0 ≤ i ∧ i < C.1 (0, 0, 0) 6) ∧ 0 ≤ n ∧ n < C.1 (9, i, 0) 3 + 1) ∧ ((0 ≤ t ∧ t < 24) ∧ 0 ≤ q ∧ q < 384) ∧ (bI (hB C.1 i n.toNat t q) = 1) ∧ z = _T.1 (73, 0, 0) q ∧ FinR C i n.toNat t (_T.1 (73, 0, 0))))) := by
  have c6 := wf0_6 hC.1
  have c4 := wf4_2 hC.1
  have h93 : 0 ≤ i → i < C.1 (0, 0, 0) 6 → 0 ≤ C.1 (9, i, 0) 3 ∧ C.1 (9, i, 0) 3 ≤ 60 := fun a b => wf9_3 hC.1 a (by omega)
  obtain ⟨n11, n12, n13, n24⟩ := hM.2.1
  have hz := hw.1
  show X mX9_rank 0 [xR (50, 0, 0), xI i, xI n, xI t, xI q] [] (hp S) 0 0 _
  refine x_aload_n dX9_rank_0 rfl ?_
  refine x_iload_n dX9_rank_1 rfl ?_
  refine x_iload_n dX9_rank_2 rfl ?_
  refine x_iload_n dX9_rank_3 rfl ?_
  refine x_iload dX9_rank_4 rfl ?_
  refine x_callV (a := 0) (b := 0) (as := [xI i, xI n, xI t, xI q]) (rest := []) ok_X9_isNot dX9_rank_6 wd1368 ⟨wd1370, wd42⟩ (hp50 S) rfl rfl (m_isNot C S hC hw (hM.q (MdQ.rf S)) i n t q (by first | exact hz _ _ | exact hw.1 _ _ | exact zR_of _ | exact bI_z _ | assumption | exact ⟨by omega, by omega⟩) (by first | exact hz _ _ | exact hw.1 _ _ | exact zR_of _ | exact bI_z _ | assumption | exact ⟨by omega, by omega⟩) (by first | exact hz _ _ | exact hw.1 _ _ | exact zR_of _ | exact bI_z _ | assumption | exact ⟨by omega, by omega⟩) (by first | exact hz _ _ | exact hw.1 _ _ | exact zR_of _ | exact bI_z _ | assumption | exact ⟨by omega, by omega⟩)) rfl (Nat.le_of_ble_eq_true rfl) (Nat.le_of_ble_eq_true rfl) (by decide) (by omega) (by omega) (fun _ q => by obtain ⟨_, _, _, y, _⟩ := q; cases y) (fun _ _ q => ?_) (fun _ _ q => by obtain ⟨_, _, _, y, _⟩ := q; cases y)
  obtain ⟨U1, z1, rfl, y1, qU1, wU1, hU1⟩ := q
  cases y1
  have sU1 := (MdQ.rf S).tr qU1
  rcases hU1 with ⟨rfl, hU1⟩ | ⟨rfl, kU1, bkU1, hfU1, hbU1, fU1, oU1⟩
  · refine x_if_eq (tgt := 16) dX9_rank_9 (by decide) ⟨by decide, by decide⟩ (fun z => absurd z (by decide)) (fun _ => ?_)
    refine x_iconst dX9_rank_12 ?_
    refine x_goto (tgt := 23) dX9_rank_13 (by decide) ?_
    exact x_iret dX9_rank_23 rfl (pM_of sU1 wU1 (Or.inl ⟨rfl, by omega⟩))
  · refine x_if_eq (tgt := 16) dX9_rank_9 (by decide) ⟨by decide, by decide⟩ (fun _ => ?_) (fun z => absurd z (by decide))
    refine x_aload_n dX9_rank_16 rfl ?_
    refine x_get (v := xR (73, 0, 0)) dX9_rank_17 fl_RX9_87 (hp50 U1) rfl ?_
    refine x_iload dX9_rank_20 rfl ?_
    refine x_aldi (f := U1.1 (73, 0, 0)) dX9_rank_22 (hp73 U1) (show (73 : Nat) ≠ 99 by decide) (by omega) (by omega) (by decide) ?_
    have f22_1 := wfa73 wU1 (S := U1) q
    exact x_iret dX9_rank_23 rfl (pM_of sU1 wU1 (Or.inr ⟨kU1, bkU1, hfU1, hbU1, rfl, fU1⟩))
theorem hB_at {f : XL → Int → Int} {b : Int} {n : Nat} {t r : Int} {j : Nat} (hj : j < 64) : hB f b n t (64 * r + j) ↔ bitJ (hl f b n t r) j := by
  unfold hB
  rw [show (64 * r + (j : Int)) / 64 = r by omega, show (64 * r + (j : Int)) % 64 = j by omega]
set_option maxHeartbeats 4000000 in
set_option maxRecDepth 100000 in
theorem l_count (C S : XS) (hC : CB C) (hw : WI S) (i n t r : Int) (i0 : 0 ≤ i) (i1 : i < C.1 (0, 0, 0) 6) (n0 : 0 ≤ n) (n1 : n ≤ C.1 (9, i, 0) 3) (t0 : 0 ≤ t) (t1 : t < 24) (r0 : 0 ≤ r) (r1 : r < 6) (hF : FinR C i n.toNat t (S.1 (73, 0, 0))) : ∀ (nn : Nat) (j : Nat), 65 - (j : Int) < (nn : Int) → (j ≤ 64) → X mX9_count 61 [xR (50, 0, 0), xI i, xI n, xI t, xI r, xI (((cntN (fun p => bitJ (hl C.1 i n.toNat t r) p) j : Nat)) : Int), xI (64 * r + (j : Int))] [] (hp S) 0 0 (pRet (xI (((cntN (fun p => bitJ (hl C.1 i n.toNat t r) p) 64 : Nat)) : Int)) (hp S)) := by
  intro nn
  induction nn with
  | zero => intro j hm hj; exfalso; omega
  | succ nn ih =>
    intro j hm hj
    have cb := cntN_le (fun p => bitJ (hl C.1 i n.toNat t r) p) j
    have hz := hw.1
    refine x_iload dX9_count_61 rfl ?_
    refine x_bipush (v := 64) dX9_count_63 (by decide) ?_
    refine x_iload dX9_count_65 rfl ?_
    refine x_imul dX9_count_67 ?_
    refine x_bipush (v := 64) dX9_count_68 (by decide) ?_
    refine x_iadd dX9_count_70 ?_
    refine x_icmp_ge (tgt := 103) dX9_count_71 (by decide) (by first | exact hz _ _ | exact hw.1 _ _ | exact zR_of _ | exact bI_z _ | assumption | exact ⟨by omega, by omega⟩) (by first | exact hz _ _ | exact hw.1 _ _ | exact zR_of _ | exact bI_z _ | assumption | exact ⟨by omega, by omega⟩) (fun c71 => ?_) (fun c71 => ?_)
    · refine x_iload dX9_count_103 rfl ?_
      exact x_iret dX9_count_105 rfl (by obtain rfl : j = 64 := (by omega); exact pRI rfl)
    · have fb := hF.hb hC i0 i1 (show (n.toNat : Int) ≤ C.1 (9, i, 0) 3 by omega) (q := 64 * r + (j : Int)) (by omega) (by omega)
      refine x_iload dX9_count_74 rfl ?_
      refine x_aload_n dX9_count_76 rfl ?_
      refine x_get (v := xR (73, 0, 0)) dX9_count_77 fl_RX9_87 (hp50 S) rfl ?_
      refine x_iload dX9_count_80 rfl ?_
      refine x_aldi (f := S.1 (73, 0, 0)) dX9_count_82 (hp73 S) (show (73 : Nat) ≠ 99 by decide) (by omega) (by omega) (by decide) ?_
      have f82_1 := wfa73 hw (S := S) (64 * r + (j : Int))
      refine x_sipush (v := 9999) dX9_count_83 (by decide) ?_
      refine x_icmp_ge (tgt := 93) dX9_count_86 (by decide) (by first | exact hz _ _ | exact hw.1 _ _ | exact zR_of _ | exact bI_z _ | assumption | exact ⟨by omega, by omega⟩) ⟨by decide, by decide⟩ (fun c86 => ?_) (fun c86 => ?_)
      · refine x_iconst dX9_count_93 ?_
        refine x_iadd dX9_count_94 ?_
        refine x_istore (L' := [xR (50, 0, 0), xI i, xI n, xI t, xI r, xI ((((cntN (fun p => bitJ (hl C.1 i n.toNat t r) p) j : Nat)) : Int) + 0), xI (64 * r + (j : Int))]) dX9_count_95 (by decide) rfl ?_
        refine x_iinc (L' := [xR (50, 0, 0), xI i, xI n, xI t, xI r, xI ((((cntN (fun p => bitJ (hl C.1 i n.toNat t r) p) j : Nat)) : Int) + 0), xI ((64 * r + (j : Int)) + 1)]) dX9_count_97 rfl rfl ?_
        refine x_goto (tgt := 61) dX9_count_100 (by decide) ?_
        have hbj := fb.1.trans (hB_at (f := C.1) (b := i) (n := n.toNat) (t := t) (r := r) (j := j) (by omega))
        have kk := ih (j + 1) (by omega) (by omega)
        rw [show 64 * r + ((j + 1 : Nat) : Int) = 64 * r + (j : Int) + 1 by omega, cntN_f (fun z => by have := hbj.mpr z; omega)] at kk
        rw [show (((cntN (fun p => bitJ (hl C.1 i n.toNat t r) p) j : Nat)) : Int) + 0 = (((cntN (fun p => bitJ (hl C.1 i n.toNat t r) p) j : Nat)) : Int) from Int.add_zero _]
        exact kk
      · refine x_iconst dX9_count_89 ?_
        refine x_goto (tgt := 94) dX9_count_90 (by decide) ?_
        refine x_iadd dX9_count_94 ?_
        refine x_istore (L' := [xR (50, 0, 0), xI i, xI n, xI t, xI r, xI ((((cntN (fun p => bitJ (hl C.1 i n.toNat t r) p) j : Nat)) : Int) + 1), xI (64 * r + (j : Int))]) dX9_count_95 (by decide) rfl ?_
        refine x_iinc (L' := [xR (50, 0, 0), xI i, xI n, xI t, xI r, xI ((((cntN (fun p => bitJ (hl C.1 i n.toNat t r) p) j : Nat)) : Int) + 1), xI ((64 * r + (j : Int)) + 1)]) dX9_count_97 rfl rfl ?_
        refine x_goto (tgt := 61) dX9_count_100 (by decide) ?_
        have hbj := fb.1.trans (hB_at (f := C.1) (b := i) (n := n.toNat) (t := t) (r := r) (j := j) (by omega))
        have kk := ih (j + 1) (by omega) (by omega)
        rw [show 64 * r + ((j + 1 : Nat) : Int) = 64 * r + (j : Int) + 1 by omega, cntN_t (hbj.mp (by omega))] at kk
        exact kk
set_option maxHeartbeats 4000000 in
set_option maxRecDepth 100000 in
theorem m_count (C S : XS) (hC : CB C) (hw : WI S) (hM : MR C S) (i n t r : Int) (zi : zR i) (zn : zR n) (zt : zR t) (zr : zR r) : X mX9_count 0 (xEnt mX9_count [xR (50, 0, 0), xI i, xI n, xI t, xI r]) [] (hp S) 0 0 (pM S (fun k z _T => (z = 0 ∧ ((k = 1 ∧ ¬ ((0 ≤ i ∧ i < C.1 (0, 0, 0) 6) ∧ 0 ≤ n ∧ n < C.1 (9, i, 0) 3 + 1)) ∨ (k = 2 ∧ ((0 ≤ i ∧ i < C.1 (0, 0, 0) 6) ∧ 0 ≤ n ∧ n < C.1 (9, i, 0) 3 + 1) ∧ ¬ ((0 ≤ t ∧ t < 24) ∧ 0 ≤ r ∧ r < 6)))) ∨ (k = 0 ∧ ((0 ≤ i ∧ i < C.1 (0, 0, 0) 6) ∧ 0 ≤ n ∧ n < C.1 (9, i, 0) 3 + 1) ∧ ((0 ≤ t ∧ t < 24) ∧ 0 ≤ r ∧ r < 6) ∧ z = fBits (hl C.1 i n.toNat t r)))) := by
  have c6 := wf0_6 hC.1
  have c4 := wf4_2 hC.1
  have h93 : 0 ≤ i → i < C.1 (0, 0, 0) 6 → 0 ≤ C.1 (9, i, 0) 3 ∧ C.1 (9, i, 0) 3 ≤ 60 := fun a b => wf9_3 hC.1 a (by omega)
  obtain ⟨n11, n12, n13, n24⟩ := hM.2.1
  have hz := hw.1
  show X mX9_count 0 [xR (50, 0, 0), xI i, xI n, xI t, xI r, none, none] [] (hp S) 0 0 _
  refine x_aload_n dX9_count_0 rfl ?_
  refine x_iload_n dX9_count_1 rfl ?_
  refine x_iload_n dX9_count_2 rfl ?_
  refine x_callV (a := 0) (b := 0) (as := [xI i, xI n]) (rest := []) ok_X9_isNoKnowing dX9_count_3 wd1331 ⟨wd1333, wd39⟩ (hp50 S) rfl rfl (m_isNoKnowing C S hC hw (hM.q (MdQ.rf S)) i n (by first | exact hz _ _ | exact hw.1 _ _ | exact zR_of _ | exact bI_z _ | assumption | exact ⟨by omega, by omega⟩) (by first | exact hz _ _ | exact hw.1 _ _ | exact zR_of _ | exact bI_z _ | assumption | exact ⟨by omega, by omega⟩)) rfl (Nat.le_of_ble_eq_true rfl) (Nat.le_of_ble_eq_true rfl) (by decide) (by omega) (by omega) (fun _ q => by obtain ⟨_, _, _, y, _⟩ := q; cases y) (fun _ _ q => ?_) (fun _ _ q => by obtain ⟨_, _, _, y, _⟩ := q; cases y)
  obtain ⟨U1, z1, rfl, y1, qU1, wU1, hU1⟩ := q
  cases y1
  have sU1 := (MdQ.rf S).tr qU1
  rcases hU1 with ⟨rfl, hU1⟩ | ⟨rfl, hU1⟩
  · refine x_if_ne (tgt := 42) dX9_count_6 (by decide) ⟨by decide, by decide⟩ (fun _ => ?_) (fun z => absurd z (by decide))
    refine x_iconst dX9_count_42 ?_
    exact x_iret dX9_count_43 rfl (pM_of sU1 wU1 (Or.inl (by omega)))
  · refine x_if_ne (tgt := 42) dX9_count_6 (by decide) ⟨by decide, by decide⟩ (fun z => absurd z (by decide)) (fun _ => ?_)
    refine x_aload_n dX9_count_9 rfl ?_
    refine x_iload_n dX9_count_10 rfl ?_
    refine x_iconst dX9_count_11 ?_
    refine x_bipush (v := 23) dX9_count_12 (by decide) ?_
    refine x_callS_r (a := 0) (b := 0) (as := [xI t, xI 0, xI 23]) (rest := [xR (50, 0, 0)]) ok_X9_isIn dX9_count_14 wd1212 wd1213 (m_isIn U1 t 0 23 (by first | exact hz _ _ | exact hw.1 _ _ | exact zR_of _ | exact bI_z _ | assumption | exact ⟨by omega, by omega⟩) ⟨by decide, by decide⟩ ⟨by decide, by decide⟩) rfl (Nat.le_of_ble_eq_true rfl) (Nat.le_of_ble_eq_true rfl) (by decide) (by omega) (by omega) ?_
    by_cases b14 : 0 ≤ t ∧ t ≤ 23
    · refine x_top (bI_t b14) ?_
      refine x_if_eq (tgt := 30) dX9_count_17 (by decide) ⟨by decide, by decide⟩ (fun z => absurd z (by decide)) (fun _ => ?_)
      refine x_iload dX9_count_20 rfl ?_
      refine x_iconst dX9_count_22 ?_
      refine x_iconst dX9_count_23 ?_
      refine x_callS_r (a := 0) (b := 0) (as := [xI r, xI 0, xI 5]) (rest := [xR (50, 0, 0)]) ok_X9_isIn dX9_count_24 wd1212 wd1213 (m_isIn U1 r 0 5 (by first | exact hz _ _ | exact hw.1 _ _ | exact zR_of _ | exact bI_z _ | assumption | exact ⟨by omega, by omega⟩) ⟨by decide, by decide⟩ ⟨by decide, by decide⟩) rfl (Nat.le_of_ble_eq_true rfl) (Nat.le_of_ble_eq_true rfl) (by decide) (by omega) (by omega) ?_
      by_cases b24 : 0 ≤ r ∧ r ≤ 5
      · refine x_top (bI_t b24) ?_
        refine x_if_ne (tgt := 34) dX9_count_27 (by decide) ⟨by decide, by decide⟩ (fun _ => ?_) (fun z => absurd z (by decide))
        refine x_iconst dX9_count_34 ?_
        refine x_iconst dX9_count_35 ?_
        refine x_callV_r (a := 0) (b := 0) (as := [xI 0, xI 2]) (rest := []) ok_X9_isThrown dX9_count_36 wd1215 ⟨wd1217, wd20⟩ (hp50 U1) rfl rfl ((show X mX9_isThrown 0 (xEnt mX9_isThrown [xR (50, 0, 0), xI 0, xI 2]) [] (hp U1) 0 0 (pRet (xI 0) (hp (putI U1 (50, 0, 0) 25 0))) from by have q := m_isThrown U1 wU1 0 2 (by omega) (by omega); rw [if_pos rfl] at q; exact q)) rfl (Nat.le_of_ble_eq_true rfl) (Nat.le_of_ble_eq_true rfl) (by decide) (by omega) (by omega) ?_
        refine x_if_eq (tgt := 44) dX9_count_39 (by decide) ⟨by decide, by decide⟩ (fun _ => ?_) (fun z => absurd z (by decide))
        refine x_aload_n dX9_count_44 rfl ?_
        refine x_iload_n dX9_count_45 rfl ?_
        refine x_iload_n dX9_count_46 rfl ?_
        refine x_iload_n dX9_count_47 rfl ?_
        refine x_callV (a := 0) (b := 0) (as := [xI i, xI n, xI t]) (rest := []) ok_X9_finds dX9_count_48 wd1245 ⟨wd1247, wd26⟩ (hp50 (putI U1 (50, 0, 0) 25 0)) rfl rfl (m_findsZ C (putI U1 (50, 0, 0) 25 0) hC (wp50_25 wU1 (by omega)) (hM.q (sU1.thr 0)) i (by omega) (by omega) n (by omega) (by omega) t (by omega) (by omega)) rfl (Nat.le_of_ble_eq_true rfl) (Nat.le_of_ble_eq_true rfl) (by decide) (by omega) (by omega) (fun _ q => ?_) (fun _ _ q => by cases q.1) (fun _ _ q => by cases q.1)
        obtain ⟨-, U2, rfl, eU2, wU2, fU2, oU2, lU2⟩ := q
        have sU2 := (sU1.thr 0).tr eU2.1
        have kU2 := congrFun eU2.2 25
        rw [putI_self] at kU2
        refine x_iconst dX9_count_51 ?_
        refine x_istore (L' := [xR (50, 0, 0), xI i, xI n, xI t, xI r, xI 0, none]) dX9_count_52 (by decide) rfl ?_
        refine x_bipush (v := 64) dX9_count_54 (by decide) ?_
        refine x_iload dX9_count_56 rfl ?_
        refine x_imul dX9_count_58 ?_
        refine x_istore (L' := [xR (50, 0, 0), xI i, xI n, xI t, xI r, xI 0, xI (64 * r)]) dX9_count_59 (by decide) rfl ?_
        have k93 := h93 (by omega) (by omega)
        have z := l_count C U2 hC wU2 i n t r (by omega) (by omega) (by omega) (by omega) (by omega) (by omega) (by omega) (by omega) fU2 66 0 (by omega) (by omega)
        rw [show 64 * r + ((0 : Nat) : Int) = 64 * r by omega] at z
        refine X.weak z (Nat.le_refl _) (Nat.le_refl _) (fun o h' q => ?_)
        obtain ⟨rfl, rfl⟩ := q
        exact pM_of sU2 wU2 (Or.inr ⟨by omega, by omega, by omega, by rw [fBits_cnt]⟩)
      · refine x_top (bI_f b24) ?_
        refine x_if_ne (tgt := 34) dX9_count_27 (by decide) ⟨by decide, by decide⟩ (fun z => absurd z (by decide)) (fun _ => ?_)
        refine x_iconst dX9_count_30 ?_
        refine x_goto (tgt := 35) dX9_count_31 (by decide) ?_
        refine x_iconst dX9_count_35 ?_
        refine x_callV_r (a := 0) (b := 0) (as := [xI 1, xI 2]) (rest := []) ok_X9_isThrown dX9_count_36 wd1215 ⟨wd1217, wd20⟩ (hp50 U1) rfl rfl ((show X mX9_isThrown 0 (xEnt mX9_isThrown [xR (50, 0, 0), xI 1, xI 2]) [] (hp U1) 0 0 (pRet (xI 1) (hp (putI U1 (50, 0, 0) 25 2))) from by have q := m_isThrown U1 wU1 1 2 (by omega) (by omega); rw [if_neg (by decide)] at q; exact q)) rfl (Nat.le_of_ble_eq_true rfl) (Nat.le_of_ble_eq_true rfl) (by decide) (by omega) (by omega) ?_
        refine x_if_eq (tgt := 44) dX9_count_39 (by decide) ⟨by decide, by decide⟩ (fun z => absurd z (by decide)) (fun _ => ?_)
        refine x_iconst dX9_count_42 ?_
        exact x_iret dX9_count_43 rfl (pM_thr sU1 wU1 (by omega) (Or.inl (by omega)))
    · refine x_top (bI_f b14) ?_
      refine x_if_eq (tgt := 30) dX9_count_17 (by decide) ⟨by decide, by decide⟩ (fun _ => ?_) (fun z => absurd z (by decide))
      refine x_iconst dX9_count_30 ?_
      refine x_goto (tgt := 35) dX9_count_31 (by decide) ?_
      refine x_iconst dX9_count_35 ?_
      refine x_callV_r (a := 0) (b := 0) (as := [xI 1, xI 2]) (rest := []) ok_X9_isThrown dX9_count_36 wd1215 ⟨wd1217, wd20⟩ (hp50 U1) rfl rfl ((show X mX9_isThrown 0 (xEnt mX9_isThrown [xR (50, 0, 0), xI 1, xI 2]) [] (hp U1) 0 0 (pRet (xI 1) (hp (putI U1 (50, 0, 0) 25 2))) from by have q := m_isThrown U1 wU1 1 2 (by omega) (by omega); rw [if_neg (by decide)] at q; exact q)) rfl (Nat.le_of_ble_eq_true rfl) (Nat.le_of_ble_eq_true rfl) (by decide) (by omega) (by omega) ?_
      refine x_if_eq (tgt := 44) dX9_count_39 (by decide) ⟨by decide, by decide⟩ (fun z => absurd z (by decide)) (fun _ => ?_)
      refine x_iconst dX9_count_42 ?_
      exact x_iret dX9_count_43 rfl (pM_thr sU1 wU1 (by omega) (Or.inl (by omega)))
