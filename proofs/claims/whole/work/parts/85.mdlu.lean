/-! the reference: waiting -/
set_option maxHeartbeats 4000000 in
set_option maxRecDepth 100000 in
theorem m_waiting (C S : XS) (hC : CB C) (hw : WI S) (hM : MR C S) (i : Int) (zi : zR i) : X mX9_waiting 0 (xEnt mX9_waiting [xR (50, 0, 0), xI i]) [] (hp S) 0 0 (pM S (fun k z _T => (z = 0 ∧ ((k = 1 ∧ ¬ (0 ≤ i ∧ i < C.1 (0, 0, 0) 7)))) ∨ (k = 0 ∧ (0 ≤ i ∧ i < C.1 (0, 0, 0) 7) ∧ z = S.1 (68, 0, 0) i - S.1 (69, 0, 0) i))) := by
  have c6 := wf0_6 hC.1
  have c4 := wf4_2 hC.1
  obtain ⟨n11, n12, n13, n24⟩ := hM.2.1
  have hz := hw.1
  have c7 := wf0_7 hC.1
  show X mX9_waiting 0 [xR (50, 0, 0), xI i] [] (hp S) 0 0 _
  refine x_aload_n dX9_waiting_0 rfl ?_
  refine x_iload_n dX9_waiting_1 rfl ?_
  refine x_aload_n dX9_waiting_2 rfl ?_
  refine x_get (v := xI (S.1 (50, 0, 0) 24)) dX9_waiting_3 fl_RX9_241 (hp50 S) rfl ?_
  have f3_1 := wf50_24 hw (S := S)
  refine x_callV (a := 0) (b := 0) (as := [xI i, xI (S.1 (50, 0, 0) 24)]) (rest := []) ok_X9_isNo dX9_waiting_6 wd1208 ⟨wd1210, wd19⟩ (hp50 S) rfl rfl (m_isNoR S hw i (S.1 (50, 0, 0) 24) (by first | exact hz _ _ | exact hw.1 _ _ | exact zR_of _ | exact bI_z _ | assumption | exact ⟨by omega, by omega⟩) (by first | exact hz _ _ | exact hw.1 _ _ | exact zR_of _ | exact bI_z _ | assumption | exact ⟨by omega, by omega⟩) (by omega) (by omega)) rfl (Nat.le_of_ble_eq_true rfl) (Nat.le_of_ble_eq_true rfl) (by decide) (by omega) (by omega) (fun _ q => by obtain ⟨_, _, _, y, _⟩ := q; cases y) (fun _ _ q => ?_) (fun _ _ q => by obtain ⟨_, _, _, y, _⟩ := q; cases y)
  obtain ⟨U1, z1, rfl, y1, qU1, wU1, hU1⟩ := q
  cases y1
  have sU1 := (MdQ.rf S).tr qU1
  rcases hU1 with ⟨rfl, hU1⟩ | ⟨rfl, hU1⟩
  · refine x_if_eq (tgt := 16) dX9_waiting_9 (by decide) ⟨by decide, by decide⟩ (fun z => absurd z (by decide)) (fun _ => ?_)
    refine x_iconst dX9_waiting_12 ?_
    refine x_goto (tgt := 29) dX9_waiting_13 (by decide) ?_
    first | (have w8 := congrFun (sU1.1 (68, 0, 0) rfl (by decide)) i; have w9 := congrFun (sU1.1 (69, 0, 0) rfl (by decide)) i) | skip
    exact x_iret dX9_waiting_29 rfl (pM_of sU1 wU1 (by omega))
  · refine x_if_eq (tgt := 16) dX9_waiting_9 (by decide) ⟨by decide, by decide⟩ (fun _ => ?_) (fun z => absurd z (by decide))
    refine x_aload_n dX9_waiting_16 rfl ?_
    refine x_get (v := xR (68, 0, 0)) dX9_waiting_17 fl_RX9_67 (hp50 U1) rfl ?_
    refine x_iload_n dX9_waiting_20 rfl ?_
    refine x_aldi (f := U1.1 (68, 0, 0)) dX9_waiting_21 (hp68 U1) (show (68 : Nat) ≠ 99 by decide) (by omega) (by omega) (by decide) ?_
    have f21_2 := wfa68 wU1 (S := U1) i
    refine x_aload_n dX9_waiting_22 rfl ?_
    refine x_get (v := xR (69, 0, 0)) dX9_waiting_23 fl_RX9_70 (hp50 U1) rfl ?_
    refine x_iload_n dX9_waiting_26 rfl ?_
    refine x_aldi (f := U1.1 (69, 0, 0)) dX9_waiting_27 (hp69 U1) (show (69 : Nat) ≠ 99 by decide) (by omega) (by omega) (by decide) ?_
    have f27_3 := wfa69 wU1 (S := U1) i
    refine x_isub dX9_waiting_28 ?_
    first | (have w8 := congrFun (sU1.1 (68, 0, 0) rfl (by decide)) i; have w9 := congrFun (sU1.1 (69, 0, 0) rfl (by decide)) i) | skip
    exact x_iret dX9_waiting_29 rfl (pM_of sU1 wU1 (by omega))
