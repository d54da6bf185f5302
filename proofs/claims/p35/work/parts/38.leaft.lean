/-! look-ups and checks -/
set_option maxHeartbeats 4000000 in
set_option maxRecDepth 100000 in
theorem c_branchAt (S : XS) (hw : WI S) (i : Int) (za : zR i) : X mX8_branchAt 0 (xEnt mX8_branchAt [xR (0, 0, 0), xI i]) [] (hp S) 1 6 (pOr (0 ≤ i ∧ i < S.1 (0, 0, 0) 6) (pRet (xR (9, i, 0)) (hp S)) (pThr "java/lang/IndexOutOfBoundsException" (hp S))) := by
  have hz := hw.1
  have q0 := za; unfold zR at q0
  show X mX8_branchAt 0 [xR (0, 0, 0), xI i] [] (hp S) 1 6 _
  refine x_iload_n dX8_branchAt_0 rfl ?_
  refine x_aload_n dX8_branchAt_1 rfl ?_
  refine x_get (v := xI (S.1 (0, 0, 0) 6)) dX8_branchAt_2 fl_RX8_46 (hp0 S) rfl ?_
  have f2_1 := wf0_6 hw (S := S)
  refine x_callS_r (a := 0) (b := 0) (as := [xI i, xI (S.1 (0, 0, 0) 6)]) (rest := []) ok_X8_isBelow dX8_branchAt_5 wd515 wd516 (c_isBelow S i (S.1 (0, 0, 0) 6) (by first | exact hz _ _ | exact hw.1 _ _ | exact zR_of _ | assumption | exact ⟨by omega, by omega⟩) (by first | exact hz _ _ | exact hw.1 _ _ | exact zR_of _ | assumption | exact ⟨by omega, by omega⟩)) rfl (Nat.le_of_ble_eq_true rfl) (Nat.le_of_ble_eq_true rfl) (by decide) (by omega) (by omega) ?_
  by_cases b5 : 0 ≤ i ∧ i < (S.1 (0, 0, 0) 6)
  · refine x_top (bI_t b5) ?_
    refine x_if_ne (tgt := 22) dX8_branchAt_8 (by decide) ⟨by decide, by decide⟩ (fun _ => ?_) (fun z => absurd z (by decide))
    refine x_aload_n dX8_branchAt_22 rfl ?_
    refine x_get (v := xR (1, 0, 0)) dX8_branchAt_23 fl_RX8_11 (hp0 S) rfl ?_
    refine x_iload_n dX8_branchAt_26 rfl ?_
    refine x_alda (l2 := (9, i, 0)) dX8_branchAt_27 (hp1 S) (show (1 : Nat) ≠ 99 by decide) (by decide) (by decide) (by omega) (by omega) (by decide) rfl ?_
    exact x_aret dX8_branchAt_28 rfl (Or.inl ⟨by omega, rfl, rfl⟩)
  · refine x_top (bI_f b5) ?_
    refine x_if_ne (tgt := 22) dX8_branchAt_8 (by decide) ⟨by decide, by decide⟩ (fun z => absurd z (by decide)) (fun _ => ?_)
    exact x_throw (thr_RX8_221_335_225) rfl dX8_branchAt_11 dX8_branchAt_14 (Or.inr ⟨dX8_branchAt_15, dX8_branchAt_18, dX8_branchAt_21⟩) (by decide) (Nat.le_of_ble_eq_true rfl) (by omega) (by omega) (Or.inr ⟨by omega, rfl, rfl⟩)
set_option maxHeartbeats 4000000 in
set_option maxRecDepth 100000 in
theorem c_ruleAt (S : XS) (hw : WI S) (i : Int) (za : zR i) : X mX8_ruleAt 0 (xEnt mX8_ruleAt [xR (0, 0, 0), xI i]) [] (hp S) 1 6 (pOr (0 ≤ i ∧ i < S.1 (4, 0, 0) 2) (pRet (xR (34, i, 0)) (hp S)) (pThr "java/lang/IndexOutOfBoundsException" (hp S))) := by
  have hz := hw.1
  have q0 := za; unfold zR at q0
  show X mX8_ruleAt 0 [xR (0, 0, 0), xI i] [] (hp S) 1 6 _
  refine x_iload_n dX8_ruleAt_0 rfl ?_
  refine x_aload_n dX8_ruleAt_1 rfl ?_
  refine x_get (v := xR (4, 0, 0)) dX8_ruleAt_2 fl_RX8_28 (hp0 S) rfl ?_
  refine x_get (v := xI (S.1 (4, 0, 0) 2)) dX8_ruleAt_5 fl_RX8_102 (hp4 S) rfl ?_
  have f5_1 := wf4_2 hw (S := S)
  refine x_callS_r (a := 0) (b := 0) (as := [xI i, xI (S.1 (4, 0, 0) 2)]) (rest := []) ok_X8_isBelow dX8_ruleAt_8 wd515 wd516 (c_isBelow S i (S.1 (4, 0, 0) 2) (by first | exact hz _ _ | exact hw.1 _ _ | exact zR_of _ | assumption | exact ⟨by omega, by omega⟩) (by first | exact hz _ _ | exact hw.1 _ _ | exact zR_of _ | assumption | exact ⟨by omega, by omega⟩)) rfl (Nat.le_of_ble_eq_true rfl) (Nat.le_of_ble_eq_true rfl) (by decide) (by omega) (by omega) ?_
  by_cases b8 : 0 ≤ i ∧ i < (S.1 (4, 0, 0) 2)
  · refine x_top (bI_t b8) ?_
    refine x_if_ne (tgt := 25) dX8_ruleAt_11 (by decide) ⟨by decide, by decide⟩ (fun _ => ?_) (fun z => absurd z (by decide))
    refine x_aload_n dX8_ruleAt_25 rfl ?_
    refine x_get (v := xR (4, 0, 0)) dX8_ruleAt_26 fl_RX8_28 (hp0 S) rfl ?_
    refine x_get (v := xR (32, 0, 0)) dX8_ruleAt_29 fl_RX8_108 (hp4 S) rfl ?_
    refine x_iload_n dX8_ruleAt_32 rfl ?_
    refine x_alda (l2 := (34, i, 0)) dX8_ruleAt_33 (hp32 S) (show (32 : Nat) ≠ 99 by decide) (by decide) (by decide) (by omega) (by omega) (by decide) rfl ?_
    exact x_aret dX8_ruleAt_34 rfl (Or.inl ⟨by omega, rfl, rfl⟩)
  · refine x_top (bI_f b8) ?_
    refine x_if_ne (tgt := 25) dX8_ruleAt_11 (by decide) ⟨by decide, by decide⟩ (fun z => absurd z (by decide)) (fun _ => ?_)
    exact x_throw (thr_RX8_221_337_225) rfl dX8_ruleAt_14 dX8_ruleAt_17 (Or.inr ⟨dX8_ruleAt_18, dX8_ruleAt_21, dX8_ruleAt_24⟩) (by decide) (Nat.le_of_ble_eq_true rfl) (by omega) (by omega) (Or.inr ⟨by omega, rfl, rfl⟩)
set_option maxHeartbeats 4000000 in
set_option maxRecDepth 100000 in
theorem c_checkKnowing (S : XS) (hw : WI S) (b : Int) (h1 : 0 ≤ b) (h2 : b < 4) (i : Int) (za : zR i) : X mX8_checkKnowing 0 (xEnt mX8_checkKnowing [xR (9, b, 0), xI i]) [] (hp S) 1 6 (pOr (0 ≤ i ∧ i < S.1 (9, b, 0) 3 + 1) (pVoid (hp S)) (pThr "java/lang/IndexOutOfBoundsException" (hp S))) := by
  have hz := hw.1
  have q0 := za; unfold zR at q0
  show X mX8_checkKnowing 0 [xR (9, b, 0), xI i] [] (hp S) 1 6 _
  refine x_iload_n dX8_checkKnowing_0 rfl ?_
  refine x_aload_n dX8_checkKnowing_1 rfl ?_
  refine x_get (v := xI (S.1 (9, b, 0) 3)) dX8_checkKnowing_2 fl_RX8_92 (hp9 S (by omega) (by omega)) rfl ?_
  have f2_1 := wf9_3 hw (S := S) (b := b) (by omega) (by omega)
  refine x_iconst dX8_checkKnowing_5 ?_
  refine x_iadd dX8_checkKnowing_6 ?_
  refine x_callS_r (a := 0) (b := 0) (as := [xI i, xI ((S.1 (9, b, 0) 3) + 1)]) (rest := []) ok_X8_isBelow dX8_checkKnowing_7 wd515 wd516 (c_isBelow S i ((S.1 (9, b, 0) 3) + 1) (by first | exact hz _ _ | exact hw.1 _ _ | exact zR_of _ | assumption | exact ⟨by omega, by omega⟩) (by first | exact hz _ _ | exact hw.1 _ _ | exact zR_of _ | assumption | exact ⟨by omega, by omega⟩)) rfl (Nat.le_of_ble_eq_true rfl) (Nat.le_of_ble_eq_true rfl) (by decide) (by omega) (by omega) ?_
  by_cases b7 : 0 ≤ i ∧ i < ((S.1 (9, b, 0) 3) + 1)
  · refine x_top (bI_t b7) ?_
    refine x_if_ne (tgt := 24) dX8_checkKnowing_10 (by decide) ⟨by decide, by decide⟩ (fun _ => ?_) (fun z => absurd z (by decide))
    exact x_vret dX8_checkKnowing_24 rfl (Or.inl ⟨by omega, rfl, rfl⟩)
  · refine x_top (bI_f b7) ?_
    refine x_if_ne (tgt := 24) dX8_checkKnowing_10 (by decide) ⟨by decide, by decide⟩ (fun z => absurd z (by decide)) (fun _ => ?_)
    exact x_throw (thr_RX8_221_341_225) rfl dX8_checkKnowing_13 dX8_checkKnowing_16 (Or.inr ⟨dX8_checkKnowing_17, dX8_checkKnowing_20, dX8_checkKnowing_23⟩) (by decide) (Nat.le_of_ble_eq_true rfl) (by omega) (by omega) (Or.inr ⟨by omega, rfl, rfl⟩)
set_option maxHeartbeats 4000000 in
set_option maxRecDepth 100000 in
theorem c_checkFact (S : XS) (hw : WI S) (i : Int) (za : zR i) : X mX8_checkFact 0 (xEnt mX8_checkFact [xI i]) [] (hp S) 1 6 (pOr (0 ≤ i ∧ i < 384) (pVoid (hp S)) (pThr "java/lang/IllegalArgumentException" (hp S))) := by
  have hz := hw.1
  have q0 := za; unfold zR at q0
  show X mX8_checkFact 0 [xI i] [] (hp S) 1 6 _
  refine x_iload_n dX8_checkFact_0 rfl ?_
  refine x_sipush (v := 384) dX8_checkFact_1 (by decide) ?_
  refine x_callS_r (a := 0) (b := 0) (as := [xI i, xI 384]) (rest := []) ok_X8_isBelow dX8_checkFact_4 wd515 wd516 (c_isBelow S i 384 (by first | exact hz _ _ | exact hw.1 _ _ | exact zR_of _ | assumption | exact ⟨by omega, by omega⟩) ⟨by decide, by decide⟩) rfl (Nat.le_of_ble_eq_true rfl) (Nat.le_of_ble_eq_true rfl) (by decide) (by omega) (by omega) ?_
  by_cases b4 : 0 ≤ i ∧ i < 384
  · refine x_top (bI_t b4) ?_
    refine x_if_ne (tgt := 21) dX8_checkFact_7 (by decide) ⟨by decide, by decide⟩ (fun _ => ?_) (fun z => absurd z (by decide))
    exact x_vret dX8_checkFact_21 rfl (Or.inl ⟨by omega, rfl, rfl⟩)
  · refine x_top (bI_f b4) ?_
    refine x_if_ne (tgt := 21) dX8_checkFact_7 (by decide) ⟨by decide, by decide⟩ (fun z => absurd z (by decide)) (fun _ => ?_)
    exact x_throw (thr_RX8_213_343_217) rfl dX8_checkFact_10 dX8_checkFact_13 (Or.inr ⟨dX8_checkFact_14, dX8_checkFact_17, dX8_checkFact_20⟩) (by decide) (Nat.le_of_ble_eq_true rfl) (by omega) (by omega) (Or.inr ⟨by omega, rfl, rfl⟩)
set_option maxHeartbeats 4000000 in
set_option maxRecDepth 100000 in
theorem c_checkHour (S : XS) (hw : WI S) (i : Int) (za : zR i) : X mX8_checkHour 0 (xEnt mX8_checkHour [xI i]) [] (hp S) 1 6 (pOr (0 ≤ i ∧ i < 24) (pVoid (hp S)) (pThr "java/lang/IllegalArgumentException" (hp S))) := by
  have hz := hw.1
  have q0 := za; unfold zR at q0
  show X mX8_checkHour 0 [xI i] [] (hp S) 1 6 _
  refine x_iload_n dX8_checkHour_0 rfl ?_
  refine x_bipush (v := 24) dX8_checkHour_1 (by decide) ?_
  refine x_callS_r (a := 0) (b := 0) (as := [xI i, xI 24]) (rest := []) ok_X8_isBelow dX8_checkHour_3 wd515 wd516 (c_isBelow S i 24 (by first | exact hz _ _ | exact hw.1 _ _ | exact zR_of _ | assumption | exact ⟨by omega, by omega⟩) ⟨by decide, by decide⟩) rfl (Nat.le_of_ble_eq_true rfl) (Nat.le_of_ble_eq_true rfl) (by decide) (by omega) (by omega) ?_
  by_cases b3 : 0 ≤ i ∧ i < 24
  · refine x_top (bI_t b3) ?_
    refine x_if_ne (tgt := 20) dX8_checkHour_6 (by decide) ⟨by decide, by decide⟩ (fun _ => ?_) (fun z => absurd z (by decide))
    exact x_vret dX8_checkHour_20 rfl (Or.inl ⟨by omega, rfl, rfl⟩)
  · refine x_top (bI_f b3) ?_
    refine x_if_ne (tgt := 20) dX8_checkHour_6 (by decide) ⟨by decide, by decide⟩ (fun z => absurd z (by decide)) (fun _ => ?_)
    exact x_throw (thr_RX8_213_345_217) rfl dX8_checkHour_9 dX8_checkHour_12 (Or.inr ⟨dX8_checkHour_13, dX8_checkHour_16, dX8_checkHour_19⟩) (by decide) (Nat.le_of_ble_eq_true rfl) (by omega) (by omega) (Or.inr ⟨by omega, rfl, rfl⟩)
set_option maxHeartbeats 4000000 in
set_option maxRecDepth 100000 in
theorem c_checkRelation (S : XS) (hw : WI S) (i : Int) (za : zR i) : X mX8_checkRelation 0 (xEnt mX8_checkRelation [xI i]) [] (hp S) 1 6 (pOr (0 ≤ i ∧ i < 6) (pVoid (hp S)) (pThr "java/lang/IllegalArgumentException" (hp S))) := by
  have hz := hw.1
  have q0 := za; unfold zR at q0
  show X mX8_checkRelation 0 [xI i] [] (hp S) 1 6 _
  refine x_iload_n dX8_checkRelation_0 rfl ?_
  refine x_bipush (v := 6) dX8_checkRelation_1 (by decide) ?_
  refine x_callS_r (a := 0) (b := 0) (as := [xI i, xI 6]) (rest := []) ok_X8_isBelow dX8_checkRelation_3 wd515 wd516 (c_isBelow S i 6 (by first | exact hz _ _ | exact hw.1 _ _ | exact zR_of _ | assumption | exact ⟨by omega, by omega⟩) ⟨by decide, by decide⟩) rfl (Nat.le_of_ble_eq_true rfl) (Nat.le_of_ble_eq_true rfl) (by decide) (by omega) (by omega) ?_
  by_cases b3 : 0 ≤ i ∧ i < 6
  · refine x_top (bI_t b3) ?_
    refine x_if_ne (tgt := 20) dX8_checkRelation_6 (by decide) ⟨by decide, by decide⟩ (fun _ => ?_) (fun z => absurd z (by decide))
    exact x_vret dX8_checkRelation_20 rfl (Or.inl ⟨by omega, rfl, rfl⟩)
  · refine x_top (bI_f b3) ?_
    refine x_if_ne (tgt := 20) dX8_checkRelation_6 (by decide) ⟨by decide, by decide⟩ (fun z => absurd z (by decide)) (fun _ => ?_)
    exact x_throw (thr_RX8_213_349_217) rfl dX8_checkRelation_9 dX8_checkRelation_12 (Or.inr ⟨dX8_checkRelation_13, dX8_checkRelation_16, dX8_checkRelation_19⟩) (by decide) (Nat.le_of_ble_eq_true rfl) (by omega) (by omega) (Or.inr ⟨by omega, rfl, rfl⟩)
set_option maxHeartbeats 4000000 in
set_option maxRecDepth 100000 in
theorem c_checkSpan (S : XS) (hw : WI S) (i j : Int) (za : zR i) (zb : zR j) : X mX8_checkSpan 0 (xEnt mX8_checkSpan [xI i, xI j]) [] (hp S) 1 6 (pOr ((0 ≤ i ∧ i < 24) ∧ (0 ≤ j ∧ j < 24) ∧ i ≤ j) (pVoid (hp S)) (pThr "java/lang/IllegalArgumentException" (hp S))) := by
  have hz := hw.1
  have q0 := za; unfold zR at q0
  have q1 := zb; unfold zR at q1
  show X mX8_checkSpan 0 [xI i, xI j] [] (hp S) 1 6 _
  refine x_iload_n dX8_checkSpan_0 rfl ?_
  refine x_bipush (v := 24) dX8_checkSpan_1 (by decide) ?_
  refine x_callS_r (a := 0) (b := 0) (as := [xI i, xI 24]) (rest := []) ok_X8_isBelow dX8_checkSpan_3 wd515 wd516 (c_isBelow S i 24 (by first | exact hz _ _ | exact hw.1 _ _ | exact zR_of _ | assumption | exact ⟨by omega, by omega⟩) ⟨by decide, by decide⟩) rfl (Nat.le_of_ble_eq_true rfl) (Nat.le_of_ble_eq_true rfl) (by decide) (by omega) (by omega) ?_
  by_cases b3 : 0 ≤ i ∧ i < 24
  · refine x_top (bI_t b3) ?_
    refine x_if_eq (tgt := 23) dX8_checkSpan_6 (by decide) ⟨by decide, by decide⟩ (fun z => absurd z (by decide)) (fun _ => ?_)
    refine x_iload_n dX8_checkSpan_9 rfl ?_
    refine x_bipush (v := 24) dX8_checkSpan_10 (by decide) ?_
    refine x_callS_r (a := 0) (b := 0) (as := [xI j, xI 24]) (rest := []) ok_X8_isBelow dX8_checkSpan_12 wd515 wd516 (c_isBelow S j 24 (by first | exact hz _ _ | exact hw.1 _ _ | exact zR_of _ | assumption | exact ⟨by omega, by omega⟩) ⟨by decide, by decide⟩) rfl (Nat.le_of_ble_eq_true rfl) (Nat.le_of_ble_eq_true rfl) (by decide) (by omega) (by omega) ?_
    by_cases b12 : 0 ≤ j ∧ j < 24
    · refine x_top (bI_t b12) ?_
      refine x_if_eq (tgt := 23) dX8_checkSpan_15 (by decide) ⟨by decide, by decide⟩ (fun z => absurd z (by decide)) (fun _ => ?_)
      refine x_iload_n dX8_checkSpan_18 rfl ?_
      refine x_iload_n dX8_checkSpan_19 rfl ?_
      refine x_icmp_ge (tgt := 34) dX8_checkSpan_20 (by decide) (by first | exact hz _ _ | exact hw.1 _ _ | exact zR_of _ | assumption | exact ⟨by omega, by omega⟩) (by first | exact hz _ _ | exact hw.1 _ _ | exact zR_of _ | assumption | exact ⟨by omega, by omega⟩) (fun c20 => ?_) (fun c20 => ?_)
      · exact x_vret dX8_checkSpan_34 rfl (Or.inl ⟨by omega, rfl, rfl⟩)
      · exact x_throw (thr_RX8_213_347_217) rfl dX8_checkSpan_23 dX8_checkSpan_26 (Or.inr ⟨dX8_checkSpan_27, dX8_checkSpan_30, dX8_checkSpan_33⟩) (by decide) (Nat.le_of_ble_eq_true rfl) (by omega) (by omega) (Or.inr ⟨by omega, rfl, rfl⟩)
    · refine x_top (bI_f b12) ?_
      refine x_if_eq (tgt := 23) dX8_checkSpan_15 (by decide) ⟨by decide, by decide⟩ (fun _ => ?_) (fun z => absurd z (by decide))
      exact x_throw (thr_RX8_213_347_217) rfl dX8_checkSpan_23 dX8_checkSpan_26 (Or.inr ⟨dX8_checkSpan_27, dX8_checkSpan_30, dX8_checkSpan_33⟩) (by decide) (Nat.le_of_ble_eq_true rfl) (by omega) (by omega) (Or.inr ⟨by omega, rfl, rfl⟩)
  · refine x_top (bI_f b3) ?_
    refine x_if_eq (tgt := 23) dX8_checkSpan_6 (by decide) ⟨by decide, by decide⟩ (fun _ => ?_) (fun z => absurd z (by decide))
    exact x_throw (thr_RX8_213_347_217) rfl dX8_checkSpan_23 dX8_checkSpan_26 (Or.inr ⟨dX8_checkSpan_27, dX8_checkSpan_30, dX8_checkSpan_33⟩) (by decide) (Nat.le_of_ble_eq_true rfl) (by omega) (by omega) (Or.inr ⟨by omega, rfl, rfl⟩)
set_option maxHeartbeats 4000000 in
set_option maxRecDepth 100000 in
theorem c_checkPattern (S : XS) (hw : WI S) (i j k : Int) (za : zR i) (zb : zR j) (zc : zR k) : X mX8_checkPattern 0 (xEnt mX8_checkPattern [xI i, xI j, xI k]) [] (hp S) 1 6 (pOr ((0 ≤ i ∧ i < 6) ∧ (0 ≤ j ∧ j < 3) ∧ (0 ≤ k ∧ k < 3)) (pVoid (hp S)) (pThr "java/lang/IllegalArgumentException" (hp S))) := by
  have hz := hw.1
  have q0 := za; unfold zR at q0
  have q1 := zb; unfold zR at q1
  have q2 := zc; unfold zR at q2
  show X mX8_checkPattern 0 [xI i, xI j, xI k] [] (hp S) 1 6 _
  refine x_iload_n dX8_checkPattern_0 rfl ?_
  refine x_bipush (v := 6) dX8_checkPattern_1 (by decide) ?_
  refine x_callS_r (a := 0) (b := 0) (as := [xI i, xI 6]) (rest := []) ok_X8_isBelow dX8_checkPattern_3 wd515 wd516 (c_isBelow S i 6 (by first | exact hz _ _ | exact hw.1 _ _ | exact zR_of _ | assumption | exact ⟨by omega, by omega⟩) ⟨by decide, by decide⟩) rfl (Nat.le_of_ble_eq_true rfl) (Nat.le_of_ble_eq_true rfl) (by decide) (by omega) (by omega) ?_
  by_cases b3 : 0 ≤ i ∧ i < 6
  · refine x_top (bI_t b3) ?_
    refine x_if_eq (tgt := 25) dX8_checkPattern_6 (by decide) ⟨by decide, by decide⟩ (fun z => absurd z (by decide)) (fun _ => ?_)
    refine x_iload_n dX8_checkPattern_9 rfl ?_
    refine x_iconst dX8_checkPattern_10 ?_
    refine x_callS_r (a := 0) (b := 0) (as := [xI j, xI 3]) (rest := []) ok_X8_isBelow dX8_checkPattern_11 wd515 wd516 (c_isBelow S j 3 (by first | exact hz _ _ | exact hw.1 _ _ | exact zR_of _ | assumption | exact ⟨by omega, by omega⟩) ⟨by decide, by decide⟩) rfl (Nat.le_of_ble_eq_true rfl) (Nat.le_of_ble_eq_true rfl) (by decide) (by omega) (by omega) ?_
    by_cases b11 : 0 ≤ j ∧ j < 3
    · refine x_top (bI_t b11) ?_
      refine x_if_eq (tgt := 25) dX8_checkPattern_14 (by decide) ⟨by decide, by decide⟩ (fun z => absurd z (by decide)) (fun _ => ?_)
      refine x_iload_n dX8_checkPattern_17 rfl ?_
      refine x_iconst dX8_checkPattern_18 ?_
      refine x_callS_r (a := 0) (b := 0) (as := [xI k, xI 3]) (rest := []) ok_X8_isBelow dX8_checkPattern_19 wd515 wd516 (c_isBelow S k 3 (by first | exact hz _ _ | exact hw.1 _ _ | exact zR_of _ | assumption | exact ⟨by omega, by omega⟩) ⟨by decide, by decide⟩) rfl (Nat.le_of_ble_eq_true rfl) (Nat.le_of_ble_eq_true rfl) (by decide) (by omega) (by omega) ?_
      by_cases b19 : 0 ≤ k ∧ k < 3
      · refine x_top (bI_t b19) ?_
        refine x_if_ne (tgt := 36) dX8_checkPattern_22 (by decide) ⟨by decide, by decide⟩ (fun _ => ?_) (fun z => absurd z (by decide))
        exact x_vret dX8_checkPattern_36 rfl (Or.inl ⟨by omega, rfl, rfl⟩)
      · refine x_top (bI_f b19) ?_
        refine x_if_ne (tgt := 36) dX8_checkPattern_22 (by decide) ⟨by decide, by decide⟩ (fun z => absurd z (by decide)) (fun _ => ?_)
        exact x_throw (thr_RX8_213_351_217) rfl dX8_checkPattern_25 dX8_checkPattern_28 (Or.inr ⟨dX8_checkPattern_29, dX8_checkPattern_32, dX8_checkPattern_35⟩) (by decide) (Nat.le_of_ble_eq_true rfl) (by omega) (by omega) (Or.inr ⟨by omega, rfl, rfl⟩)
    · refine x_top (bI_f b11) ?_
      refine x_if_eq (tgt := 25) dX8_checkPattern_14 (by decide) ⟨by decide, by decide⟩ (fun _ => ?_) (fun z => absurd z (by decide))
      exact x_throw (thr_RX8_213_351_217) rfl dX8_checkPattern_25 dX8_checkPattern_28 (Or.inr ⟨dX8_checkPattern_29, dX8_checkPattern_32, dX8_checkPattern_35⟩) (by decide) (Nat.le_of_ble_eq_true rfl) (by omega) (by omega) (Or.inr ⟨by omega, rfl, rfl⟩)
  · refine x_top (bI_f b3) ?_
    refine x_if_eq (tgt := 25) dX8_checkPattern_6 (by decide) ⟨by decide, by decide⟩ (fun _ => ?_) (fun z => absurd z (by decide))
    exact x_throw (thr_RX8_213_351_217) rfl dX8_checkPattern_25 dX8_checkPattern_28 (Or.inr ⟨dX8_checkPattern_29, dX8_checkPattern_32, dX8_checkPattern_35⟩) (by decide) (Nat.le_of_ble_eq_true rfl) (by omega) (by omega) (Or.inr ⟨by omega, rfl, rfl⟩)
set_option maxHeartbeats 4000000 in
set_option maxRecDepth 100000 in
theorem c_checkRoom (S : XS) (hw : WI S) (b : Int) (h1 : 0 ≤ b) (h2 : b < 4) : X mX8_checkRoom 0 (xEnt mX8_checkRoom [xR (9, b, 0)]) [] (hp S) 1 6 (pOr (S.1 (9, b, 0) 3 < 60) (pVoid (hp S)) (pThr "java/lang/IllegalStateException" (hp S))) := by
  have hz := hw.1
  show X mX8_checkRoom 0 [xR (9, b, 0)] [] (hp S) 1 6 _
  refine x_aload_n dX8_checkRoom_0 rfl ?_
  refine x_callV_r (a := 0) (b := 0) (as := []) (rest := []) ok_X0_isFull dX8_checkRoom_1 wd581 ⟨wd582, wd583⟩ (hp9 S (by omega) (by omega)) rfl rfl (c_isFull S hw b (by omega) (by omega)) rfl (Nat.le_of_ble_eq_true rfl) (Nat.le_of_ble_eq_true rfl) (by decide) (by omega) (by omega) ?_
  by_cases b1 : 60 ≤ S.1 (9, b, 0) 3
  · refine x_top (bI_t b1) ?_
    refine x_if_eq (tgt := 18) dX8_checkRoom_4 (by decide) ⟨by decide, by decide⟩ (fun z => absurd z (by decide)) (fun _ => ?_)
    exact x_throw (thr_RX8_103_356_107) rfl dX8_checkRoom_7 dX8_checkRoom_10 (Or.inr ⟨dX8_checkRoom_11, dX8_checkRoom_14, dX8_checkRoom_17⟩) (by decide) (Nat.le_of_ble_eq_true rfl) (by omega) (by omega) (Or.inr ⟨by omega, rfl, rfl⟩)
  · refine x_top (bI_f b1) ?_
    refine x_if_eq (tgt := 18) dX8_checkRoom_4 (by decide) ⟨by decide, by decide⟩ (fun _ => ?_) (fun z => absurd z (by decide))
    exact x_vret dX8_checkRoom_18 rfl (Or.inl ⟨by omega, rfl, rfl⟩)
