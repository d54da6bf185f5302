/-! the reference: small answers; rules and conditions added -/
set_option maxHeartbeats 4000000 in
set_option maxRecDepth 100000 in
theorem m_thrown (S : XS) (hw : WI S) : X mX9_thrown 0 (xEnt mX9_thrown [xR (50, 0, 0)]) [] (hp S) 0 0 (pRet (xI (S.1 (50, 0, 0) 25)) (hp S)) := by
  show X mX9_thrown 0 [xR (50, 0, 0)] [] (hp S) 0 0 _
  refine x_aload_n dX9_thrown_0 rfl ?_
  refine x_get (v := xI (S.1 (50, 0, 0) 25)) dX9_thrown_1 fl_RX9_96 (hp50 S) rfl ?_
  have f1_1 := wf50_25 hw (S := S)
  exact x_iret dX9_thrown_4 rfl (pRI rfl)
set_option maxHeartbeats 4000000 in
set_option maxRecDepth 100000 in
theorem m_conflicts (C S : XS) (hC : CB C) (hw : WI S) (hM : MR C S) : X mX9_conflicts 0 (xEnt mX9_conflicts [xR (50, 0, 0)]) [] (hp S) 0 0 (pM S (fun k z _T => k = 0 ∧ z = C.1 (0, 0, 0) 8)) := by
  obtain ⟨n11, n12, n13, n24⟩ := hM.2.1
  have hz := hw.1
  show X mX9_conflicts 0 [xR (50, 0, 0)] [] (hp S) 0 0 _
  refine x_aload_n dX9_conflicts_0 rfl ?_
  refine x_iconst dX9_conflicts_1 ?_
  refine x_put dX9_conflicts_2 fl_RX9_96 (fun r hr => by cases hr; rfl) (hp50 S) xfit_i (Nat.le_of_ble_eq_true rfl) rfl ?_
  refine x_heq (pu50_25 S 0) ?_
  have hw2_1 : WI (putI S (50, 0, 0) 25 0) := wp50_25 hw (by omega)
  refine x_aload_n dX9_conflicts_5 rfl ?_
  refine x_get (v := xI ((putI S (50, 0, 0) 25 0).1 (50, 0, 0) 13)) dX9_conflicts_6 fl_RX9_229 (hp50 (putI S (50, 0, 0) 25 0)) rfl ?_
  have f6_2 := wf50_13 hw2_1 (S := putI S (50, 0, 0) 25 0)
  exact x_iret dX9_conflicts_9 rfl (pM_thr (MdQ.rf S) hw (by omega) ⟨rfl, by rw [putI_at, if_neg (by decide)]; exact n13⟩)
set_option maxHeartbeats 4000000 in
set_option maxRecDepth 100000 in
theorem m_isSound (C S : XS) (hC : CB C) (hw : WI S) (hM : MR C S) : X mX9_isSound 0 (xEnt mX9_isSound [xR (50, 0, 0)]) [] (hp S) 0 0 (pM S (fun k z _T => k = 0 ∧ z = 1)) := by
  have hz := hw.1
  show X mX9_isSound 0 [xR (50, 0, 0)] [] (hp S) 0 0 _
  refine x_aload_n dX9_isSound_0 rfl ?_
  refine x_iconst dX9_isSound_1 ?_
  refine x_put dX9_isSound_2 fl_RX9_96 (fun r hr => by cases hr; rfl) (hp50 S) xfit_i (Nat.le_of_ble_eq_true rfl) rfl ?_
  refine x_heq (pu50_25 S 0) ?_
  have hw2_1 : WI (putI S (50, 0, 0) 25 0) := wp50_25 hw (by omega)
  refine x_iconst dX9_isSound_5 ?_
  exact x_zret dX9_isSound_6 rfl (Or.inr rfl) (pM_thr (MdQ.rf S) hw (by omega) ⟨rfl, rfl⟩)
set_option maxHeartbeats 4000000 in
set_option maxRecDepth 100000 in
theorem m_isForgotten (C S : XS) (hC : CB C) (hw : WI S) (hM : MR C S) (i n : Int) (zi : zR i) (zn : zR n) : X mX9_isForgotten 0 (xEnt mX9_isForgotten [xR (50, 0, 0), xI i, xI n]) [] (hp S) 0 0 (pM S (fun k z _T => (z = 0 ∧ ((k = 1 ∧ ¬ ((0 ≤ i ∧ i < C.1 (0, 0, 0) 6) ∧ 0 ≤ n ∧ n < C.1 (9, i, 0) 3)))) ∨ (k = 0 ∧ ((0 ≤ i ∧ i < C.1 (0, 0, 0) 6) ∧ 0 ≤ n ∧ n < C.1 (9, i, 0) 3) ∧ z = C.1 (13, i, n) 6))) := by
  have c6 := wf0_6 hC.1
  have c4 := wf4_2 hC.1
  have h93 : 0 ≤ i → i < C.1 (0, 0, 0) 6 → 0 ≤ C.1 (9, i, 0) 3 ∧ C.1 (9, i, 0) 3 ≤ 60 := fun a b => wf9_3 hC.1 a (by omega)
  obtain ⟨n11, n12, n13, n24⟩ := hM.2.1
  have hz := hw.1
  show X mX9_isForgotten 0 [xR (50, 0, 0), xI i, xI n] [] (hp S) 0 0 _
  refine x_aload_n dX9_isForgotten_0 rfl ?_
  refine x_iload_n dX9_isForgotten_1 rfl ?_
  refine x_iconst dX9_isForgotten_2 ?_
  refine x_aload_n dX9_isForgotten_3 rfl ?_
  refine x_get (v := xI (S.1 (50, 0, 0) 11)) dX9_isForgotten_4 fl_RX9_45 (hp50 S) rfl ?_
  have f4_1 := wf50_11 hw (S := S)
  refine x_iconst dX9_isForgotten_7 ?_
  refine x_isub dX9_isForgotten_8 ?_
  refine x_callS_r (a := 0) (b := 0) (as := [xI i, xI 0, xI ((S.1 (50, 0, 0) 11) - 1)]) (rest := [xR (50, 0, 0)]) ok_X9_isIn dX9_isForgotten_9 wd1212 wd1213 (m_isIn S i 0 ((S.1 (50, 0, 0) 11) - 1) (by first | exact hz _ _ | exact hw.1 _ _ | exact zR_of _ | exact bI_z _ | assumption | exact ⟨by omega, by omega⟩) ⟨by decide, by decide⟩ (by first | exact hz _ _ | exact hw.1 _ _ | exact zR_of _ | exact bI_z _ | assumption | exact ⟨by omega, by omega⟩)) rfl (Nat.le_of_ble_eq_true rfl) (Nat.le_of_ble_eq_true rfl) (by decide) (by omega) (by omega) ?_
  by_cases b9 : 0 ≤ i ∧ i ≤ ((S.1 (50, 0, 0) 11) - 1)
  · refine x_top (bI_t b9) ?_
    refine x_if_eq (tgt := 31) dX9_isForgotten_12 (by decide) ⟨by decide, by decide⟩ (fun z => absurd z (by decide)) (fun _ => ?_)
    have mb := hM.2.2.2.1 i (by omega) (by omega)
    refine x_iload_n dX9_isForgotten_15 rfl ?_
    refine x_iconst dX9_isForgotten_16 ?_
    refine x_aload_n dX9_isForgotten_17 rfl ?_
    refine x_get (v := xR (58, 0, 0)) dX9_isForgotten_18 fl_RX9_33 (hp50 S) rfl ?_
    refine x_iload_n dX9_isForgotten_21 rfl ?_
    refine x_aldi (f := S.1 (58, 0, 0)) dX9_isForgotten_22 (hp58 S) (show (58 : Nat) ≠ 99 by decide) (by omega) (by omega) (by decide) ?_
    have f22_2 := wfa58 hw (S := S) i
    refine x_iconst dX9_isForgotten_23 ?_
    refine x_isub dX9_isForgotten_24 ?_
    refine x_callS_r (a := 0) (b := 0) (as := [xI n, xI 0, xI ((S.1 (58, 0, 0) i) - 1)]) (rest := [xR (50, 0, 0)]) ok_X9_isIn dX9_isForgotten_25 wd1212 wd1213 (m_isIn S n 0 ((S.1 (58, 0, 0) i) - 1) (by first | exact hz _ _ | exact hw.1 _ _ | exact zR_of _ | exact bI_z _ | assumption | exact ⟨by omega, by omega⟩) ⟨by decide, by decide⟩ (by first | exact hz _ _ | exact hw.1 _ _ | exact zR_of _ | exact bI_z _ | assumption | exact ⟨by omega, by omega⟩)) rfl (Nat.le_of_ble_eq_true rfl) (Nat.le_of_ble_eq_true rfl) (by decide) (by omega) (by omega) ?_
    by_cases b25 : 0 ≤ n ∧ n ≤ ((S.1 (58, 0, 0) i) - 1)
    · refine x_top (bI_t b25) ?_
      refine x_if_ne (tgt := 35) dX9_isForgotten_28 (by decide) ⟨by decide, by decide⟩ (fun _ => ?_) (fun z => absurd z (by decide))
      refine x_iconst dX9_isForgotten_35 ?_
      refine x_iconst dX9_isForgotten_36 ?_
      refine x_callV_r (a := 0) (b := 0) (as := [xI 0, xI 1]) (rest := []) ok_X9_isThrown dX9_isForgotten_37 wd1215 ⟨wd1217, wd20⟩ (hp50 S) rfl rfl ((show X mX9_isThrown 0 (xEnt mX9_isThrown [xR (50, 0, 0), xI 0, xI 1]) [] (hp S) 0 0 (pRet (xI 0) (hp (putI S (50, 0, 0) 25 0))) from by have q := m_isThrown S hw 0 1 (by omega) (by omega); rw [if_pos rfl] at q; exact q)) rfl (Nat.le_of_ble_eq_true rfl) (Nat.le_of_ble_eq_true rfl) (by decide) (by omega) (by omega) ?_
      refine x_if_ne (tgt := 61) dX9_isForgotten_40 (by decide) ⟨by decide, by decide⟩ (fun z => absurd z (by decide)) (fun _ => ?_)
      have k93 := h93 (by omega) (by omega)
      have mt := (hM.1 i n (by omega) (by omega) (by omega) (by omega)).2.2.2.2.2
      have b13 := wf13_6 hC.1 (b := i) (t := n) (by omega) (by omega) (by omega) (by omega)
      rw [show 60 * i + n = i * 60 + n by omega] at mt
      refine x_aload_n dX9_isForgotten_43 rfl ?_
      refine x_get (v := xR (56, 0, 0)) dX9_isForgotten_44 fl_RX9_26 (hp50 (putI S (50, 0, 0) 25 0)) rfl ?_
      refine x_iload_n dX9_isForgotten_47 rfl ?_
      refine x_bipush (v := 60) dX9_isForgotten_48 (by decide) ?_
      refine x_imul dX9_isForgotten_50 ?_
      refine x_iload_n dX9_isForgotten_51 rfl ?_
      refine x_iadd dX9_isForgotten_52 ?_
      refine x_aldz (f := S.1 (56, 0, 0)) dX9_isForgotten_53 (hp56 (putI S (50, 0, 0) 25 0)) (show (56 : Nat) ≠ 99 by decide) (by omega) (by omega) (by decide) ?_
      have f53_3 := wfa56 hw (S := S) ((i * 60) + n)
      refine x_if_eq (tgt := 61) dX9_isForgotten_54 (by decide) (by first | exact hz _ _ | exact hw.1 _ _ | exact zR_of _ | exact bI_z _ | assumption | exact ⟨by omega, by omega⟩) (fun c54 => ?_) (fun c54 => ?_)
      · refine x_iconst dX9_isForgotten_61 ?_
        exact x_zret dX9_isForgotten_62 rfl (Or.inl rfl) (pM_thr (MdQ.rf S) hw (by omega) (by omega))
      · refine x_iconst dX9_isForgotten_57 ?_
        refine x_goto (tgt := 62) dX9_isForgotten_58 (by decide) ?_
        exact x_zret dX9_isForgotten_62 rfl (Or.inr rfl) (pM_thr (MdQ.rf S) hw (by omega) (by omega))
    · refine x_top (bI_f b25) ?_
      refine x_if_ne (tgt := 35) dX9_isForgotten_28 (by decide) ⟨by decide, by decide⟩ (fun z => absurd z (by decide)) (fun _ => ?_)
      refine x_iconst dX9_isForgotten_31 ?_
      refine x_goto (tgt := 36) dX9_isForgotten_32 (by decide) ?_
      refine x_iconst dX9_isForgotten_36 ?_
      refine x_callV_r (a := 0) (b := 0) (as := [xI 1, xI 1]) (rest := []) ok_X9_isThrown dX9_isForgotten_37 wd1215 ⟨wd1217, wd20⟩ (hp50 S) rfl rfl ((show X mX9_isThrown 0 (xEnt mX9_isThrown [xR (50, 0, 0), xI 1, xI 1]) [] (hp S) 0 0 (pRet (xI 1) (hp (putI S (50, 0, 0) 25 1))) from by have q := m_isThrown S hw 1 1 (by omega) (by omega); rw [if_neg (by decide)] at q; exact q)) rfl (Nat.le_of_ble_eq_true rfl) (Nat.le_of_ble_eq_true rfl) (by decide) (by omega) (by omega) ?_
      refine x_if_ne (tgt := 61) dX9_isForgotten_40 (by decide) ⟨by decide, by decide⟩ (fun _ => ?_) (fun z => absurd z (by decide))
      refine x_iconst dX9_isForgotten_61 ?_
      exact x_zret dX9_isForgotten_62 rfl (Or.inl rfl) (pM_thr (MdQ.rf S) hw (by omega) (by omega))
  · refine x_top (bI_f b9) ?_
    refine x_if_eq (tgt := 31) dX9_isForgotten_12 (by decide) ⟨by decide, by decide⟩ (fun _ => ?_) (fun z => absurd z (by decide))
    refine x_iconst dX9_isForgotten_31 ?_
    refine x_goto (tgt := 36) dX9_isForgotten_32 (by decide) ?_
    refine x_iconst dX9_isForgotten_36 ?_
    refine x_callV_r (a := 0) (b := 0) (as := [xI 1, xI 1]) (rest := []) ok_X9_isThrown dX9_isForgotten_37 wd1215 ⟨wd1217, wd20⟩ (hp50 S) rfl rfl ((show X mX9_isThrown 0 (xEnt mX9_isThrown [xR (50, 0, 0), xI 1, xI 1]) [] (hp S) 0 0 (pRet (xI 1) (hp (putI S (50, 0, 0) 25 1))) from by have q := m_isThrown S hw 1 1 (by omega) (by omega); rw [if_neg (by decide)] at q; exact q)) rfl (Nat.le_of_ble_eq_true rfl) (Nat.le_of_ble_eq_true rfl) (by decide) (by omega) (by omega) ?_
    refine x_if_ne (tgt := 61) dX9_isForgotten_40 (by decide) ⟨by decide, by decide⟩ (fun _ => ?_) (fun z => absurd z (by decide))
    refine x_iconst dX9_isForgotten_61 ?_
    exact x_zret dX9_isForgotten_62 rfl (Or.inl rfl) (pM_thr (MdQ.rf S) hw (by omega) (by omega))
set_option maxHeartbeats 4000000 in
set_option maxRecDepth 100000 in
theorem l_hold85 (C S : XS) (hC : CB C) (hw : WI S) (i t : Int) (i0 : 0 ≤ i) (i1 : i < C.1 (0, 0, 0) 6) (hF : FinR C i (C.1 (9, i, 0) 3).toNat t (S.1 (73, 0, 0))) : X mX9_holding 85 [xR (50, 0, 0), xI i, xI t, xI ((cntN (fun k : Nat => hB C.1 i (C.1 (9, i, 0) 3).toNat t k) 384 : Nat) : Int), none] [] (hp S) 0 0 (pM S (fun k z _T => (z = -1 ∧ k = 3 ∧ ((cntN (fun k : Nat => hB C.1 i (C.1 (9, i, 0) 3).toNat t k) 384 : Nat) : Int) = 0) ∨ (k = 0 ∧ ((cntN (fun k : Nat => hB C.1 i (C.1 (9, i, 0) 3).toNat t k) 384 : Nat) : Int) ≠ 0 ∧ z = ((cntN (fun k : Nat => hB C.1 i (C.1 (9, i, 0) 3).toNat t k) 384 : Nat) : Int) ∧ FinR C i (C.1 (9, i, 0) 3).toNat t (_T.1 (73, 0, 0))))) := by
  have cb := cntN_le (fun k : Nat => hB C.1 i (C.1 (9, i, 0) 3).toNat t k) 384
  have hz := hw.1
  refine x_aload_n dX9_holding_85 rfl ?_
  refine x_iload_n dX9_holding_86 rfl ?_
  refine x_if_ne (tgt := 94) dX9_holding_87 (by decide) (by first | exact hz _ _ | exact hw.1 _ _ | exact zR_of _ | exact bI_z _ | assumption | exact ⟨by omega, by omega⟩) (fun c87 => ?_) (fun c87 => ?_)
  · refine x_iconst dX9_holding_94 ?_
    refine x_iconst dX9_holding_95 ?_
    refine x_callV_r (a := 0) (b := 0) (as := [xI 0, xI 3]) (rest := []) ok_X9_isThrown dX9_holding_96 wd1215 ⟨wd1217, wd20⟩ (hp50 S) rfl rfl ((show X mX9_isThrown 0 (xEnt mX9_isThrown [xR (50, 0, 0), xI 0, xI 3]) [] (hp S) 0 0 (pRet (xI 0) (hp (putI S (50, 0, 0) 25 0))) from by have q := m_isThrown S hw 0 3 (by omega) (by omega); rw [if_pos rfl] at q; exact q)) rfl (Nat.le_of_ble_eq_true rfl) (Nat.le_of_ble_eq_true rfl) (by decide) (by omega) (by omega) ?_
    refine x_if_eq (tgt := 106) dX9_holding_99 (by decide) ⟨by decide, by decide⟩ (fun _ => ?_) (fun z => absurd z (by decide))
    refine x_iload_n dX9_holding_106 rfl ?_
    exact x_iret dX9_holding_107 rfl (pM_thr (MdQ.rf S) hw (by omega) (Or.inr ⟨rfl, by omega, rfl, by rw [putI_o (by decide)]; exact hF⟩))
  · refine x_iconst dX9_holding_90 ?_
    refine x_goto (tgt := 95) dX9_holding_91 (by decide) ?_
    refine x_iconst dX9_holding_95 ?_
    refine x_callV_r (a := 0) (b := 0) (as := [xI 1, xI 3]) (rest := []) ok_X9_isThrown dX9_holding_96 wd1215 ⟨wd1217, wd20⟩ (hp50 S) rfl rfl ((show X mX9_isThrown 0 (xEnt mX9_isThrown [xR (50, 0, 0), xI 1, xI 3]) [] (hp S) 0 0 (pRet (xI 1) (hp (putI S (50, 0, 0) 25 3))) from by have q := m_isThrown S hw 1 3 (by omega) (by omega); rw [if_neg (by decide)] at q; exact q)) rfl (Nat.le_of_ble_eq_true rfl) (Nat.le_of_ble_eq_true rfl) (by decide) (by omega) (by omega) ?_
    refine x_if_eq (tgt := 106) dX9_holding_99 (by decide) ⟨by decide, by decide⟩ (fun z => absurd z (by decide)) (fun _ => ?_)
    refine x_iconst dX9_holding_102 ?_
    refine x_goto (tgt := 107) dX9_holding_103 (by decide) ?_
    exact x_iret dX9_holding_107 rfl (pM_thr (MdQ.rf S) hw (by omega) (Or.inl ⟨rfl, rfl, by omega⟩))
set_option maxHeartbeats 4000000 in
set_option maxRecDepth 100000 in
theorem l_hold (C S : XS) (hC : CB C) (hw : WI S) (i t : Int) (i0 : 0 ≤ i) (i1 : i < C.1 (0, 0, 0) 6) (hF : FinR C i (C.1 (9, i, 0) 3).toNat t (S.1 (73, 0, 0))) : ∀ (nn : Nat) (j : Nat), 385 - (j : Int) < (nn : Int) → (j ≤ 384) → X mX9_holding 50 [xR (50, 0, 0), xI i, xI t, xI ((cntN (fun k : Nat => hB C.1 i (C.1 (9, i, 0) 3).toNat t k) j : Nat) : Int), xI (j : Int)] [] (hp S) 0 0 (pM S (fun k z _T => (z = -1 ∧ k = 3 ∧ ((cntN (fun k : Nat => hB C.1 i (C.1 (9, i, 0) 3).toNat t k) 384 : Nat) : Int) = 0) ∨ (k = 0 ∧ ((cntN (fun k : Nat => hB C.1 i (C.1 (9, i, 0) 3).toNat t k) 384 : Nat) : Int) ≠ 0 ∧ z = ((cntN (fun k : Nat => hB C.1 i (C.1 (9, i, 0) 3).toNat t k) 384 : Nat) : Int) ∧ FinR C i (C.1 (9, i, 0) 3).toNat t (_T.1 (73, 0, 0))))) := by
  intro nn
  induction nn with
  | zero => intro j hm hj; exfalso; omega
  | succ nn ih =>
    intro j hm hj
    have cb := cntN_le (fun k : Nat => hB C.1 i (C.1 (9, i, 0) 3).toNat t k) j
    have hz := hw.1
    have c6 := wf0_6 hC.1
    have c9 := wf9_3 hC.1 i0 (show i < 4 by omega)
    refine x_iload dX9_holding_50 rfl ?_
    refine x_sipush (v := 384) dX9_holding_52 (by decide) ?_
    refine x_icmp_ge (tgt := 85) dX9_holding_55 (by decide) (by first | exact hz _ _ | exact hw.1 _ _ | exact zR_of _ | exact bI_z _ | assumption | exact ⟨by omega, by omega⟩) ⟨by decide, by decide⟩ (fun c55 => ?_) (fun c55 => ?_)
    · obtain rfl : j = 384 := (by omega)
      exact X.loc (by simp [xLle]) (l_hold85 C S hC hw i t i0 i1 hF)
    · have fb := hF.hb hC i0 i1 (show (((C.1 (9, i, 0) 3).toNat : Nat) : Int) ≤ C.1 (9, i, 0) 3 by omega) (q := (j : Int)) (by omega) (by omega)
      refine x_iload_n dX9_holding_58 rfl ?_
      refine x_aload_n dX9_holding_59 rfl ?_
      refine x_get (v := xR (73, 0, 0)) dX9_holding_60 fl_RX9_87 (hp50 S) rfl ?_
      refine x_iload dX9_holding_63 rfl ?_
      refine x_aldi (f := S.1 (73, 0, 0)) dX9_holding_65 (hp73 S) (show (73 : Nat) ≠ 99 by decide) (by omega) (by omega) (by decide) ?_
      have f65_1 := wfa73 hw (S := S) (j : Int)
      refine x_sipush (v := 9999) dX9_holding_66 (by decide) ?_
      refine x_icmp_ge (tgt := 76) dX9_holding_69 (by decide) (by first | exact hz _ _ | exact hw.1 _ _ | exact zR_of _ | exact bI_z _ | assumption | exact ⟨by omega, by omega⟩) ⟨by decide, by decide⟩ (fun c69 => ?_) (fun c69 => ?_)
      · refine x_iconst dX9_holding_76 ?_
        refine x_iadd dX9_holding_77 ?_
        refine x_istore_n (L' := [xR (50, 0, 0), xI i, xI t, xI (((cntN (fun k : Nat => hB C.1 i (C.1 (9, i, 0) 3).toNat t k) j : Nat) : Int) + 0), xI (j : Int)]) dX9_holding_78 (by decide) rfl ?_
        refine x_iinc (L' := [xR (50, 0, 0), xI i, xI t, xI (((cntN (fun k : Nat => hB C.1 i (C.1 (9, i, 0) 3).toNat t k) j : Nat) : Int) + 0), xI ((j : Int) + 1)]) dX9_holding_79 rfl rfl ?_
        refine x_goto (tgt := 50) dX9_holding_82 (by decide) ?_
        have kk := ih (j + 1) (by omega) (by omega)
        rw [cntN_f (P := (fun k : Nat => hB C.1 i (C.1 (9, i, 0) 3).toNat t k)) (fun z => by have := fb.1.mpr z; omega)] at kk
        rw [show ((cntN (fun k : Nat => hB C.1 i (C.1 (9, i, 0) 3).toNat t k) j : Nat) : Int) + 0 = ((cntN (fun k : Nat => hB C.1 i (C.1 (9, i, 0) 3).toNat t k) j : Nat) : Int) from Int.add_zero _]
        exact kk
      · refine x_iconst dX9_holding_72 ?_
        refine x_goto (tgt := 77) dX9_holding_73 (by decide) ?_
        refine x_iadd dX9_holding_77 ?_
        refine x_istore_n (L' := [xR (50, 0, 0), xI i, xI t, xI (((cntN (fun k : Nat => hB C.1 i (C.1 (9, i, 0) 3).toNat t k) j : Nat) : Int) + 1), xI (j : Int)]) dX9_holding_78 (by decide) rfl ?_
        refine x_iinc (L' := [xR (50, 0, 0), xI i, xI t, xI (((cntN (fun k : Nat => hB C.1 i (C.1 (9, i, 0) 3).toNat t k) j : Nat) : Int) + 1), xI ((j : Int) + 1)]) dX9_holding_79 rfl rfl ?_
        refine x_goto (tgt := 50) dX9_holding_82 (by decide) ?_
        have kk := ih (j + 1) (by omega) (by omega)
        rw [cntN_t (P := (fun k : Nat => hB C.1 i (C.1 (9, i, 0) 3).toNat t k)) (fb.1.mp (by omega))] at kk
        exact kk
set_option maxHeartbeats 4000000 in
set_option maxRecDepth 100000 in
theorem m_holding (C S : XS) (hC : CB C) (hw : WI S) (hM : MR C S) (i t : Int) (zi : zR i) (zt : zR t) : X mX9_holding 0 (xEnt mX9_holding [xR (50, 0, 0), xI i, xI t]) [] (hp S) 0 0 (pM S (fun k z _T => (z = -1 ∧ ((k = 1 ∧ ¬ (0 ≤ i ∧ i < C.1 (0, 0, 0) 6)) ∨ (k = 2 ∧ (0 ≤ i ∧ i < C.1 (0, 0, 0) 6) ∧ ¬ (0 ≤ t ∧ t < 24)) ∨ (k = 3 ∧ (0 ≤ i ∧ i < C.1 (0, 0, 0) 6) ∧ (0 ≤ t ∧ t < 24) ∧ ¬ (((cntN (fun k : Nat => hB C.1 i (C.1 (9, i, 0) 3).toNat t k) 384 : Nat) : Int) ≠ 0)))) ∨ (k = 0 ∧ (0 ≤ i ∧ i < C.1 (0, 0, 0) 6) ∧ (0 ≤ t ∧ t < 24) ∧ (((cntN (fun k : Nat => hB C.1 i (C.1 (9, i, 0) 3).toNat t k) 384 : Nat) : Int) ≠ 0) ∧ z = ((cntN (fun k : Nat => hB C.1 i (C.1 (9, i, 0) 3).toNat t k) 384 : Nat) : Int) ∧ FinR C i (C.1 (9, i, 0) 3).toNat t (_T.1 (73, 0, 0))))) := by
  have c6 := wf0_6 hC.1
  have c4 := wf4_2 hC.1
  have h93 : 0 ≤ i → i < C.1 (0, 0, 0) 6 → 0 ≤ C.1 (9, i, 0) 3 ∧ C.1 (9, i, 0) 3 ≤ 60 := fun a b => wf9_3 hC.1 a (by omega)
  obtain ⟨n11, n12, n13, n24⟩ := hM.2.1
  have hz := hw.1
  show X mX9_holding 0 [xR (50, 0, 0), xI i, xI t, none, none] [] (hp S) 0 0 _
  refine x_aload_n dX9_holding_0 rfl ?_
  refine x_iload_n dX9_holding_1 rfl ?_
  refine x_callV (a := 0) (b := 0) (as := [xI i]) (rest := []) ok_X9_isNoBranch dX9_holding_2 wd1204 ⟨wd1206, wd18⟩ (hp50 S) rfl rfl (m_isNoBranch C S hC hw (hM.q (MdQ.rf S)) i (by first | exact hz _ _ | exact hw.1 _ _ | exact zR_of _ | exact bI_z _ | assumption | exact ⟨by omega, by omega⟩)) rfl (Nat.le_of_ble_eq_true rfl) (Nat.le_of_ble_eq_true rfl) (by decide) (by omega) (by omega) (fun _ q => by obtain ⟨_, _, _, y, _⟩ := q; cases y) (fun _ _ q => ?_) (fun _ _ q => by obtain ⟨_, _, _, y, _⟩ := q; cases y)
  obtain ⟨U1, z1, rfl, y1, qU1, wU1, hU1⟩ := q
  cases y1
  have sU1 := (MdQ.rf S).tr qU1
  rcases hU1 with ⟨rfl, hU1⟩ | ⟨rfl, hU1⟩
  · refine x_if_ne (tgt := 31) dX9_holding_5 (by decide) ⟨by decide, by decide⟩ (fun _ => ?_) (fun z => absurd z (by decide))
    refine x_iconst dX9_holding_31 ?_
    exact x_iret dX9_holding_32 rfl (pM_of sU1 wU1 (Or.inl ⟨rfl, by omega⟩))
  · refine x_if_ne (tgt := 31) dX9_holding_5 (by decide) ⟨by decide, by decide⟩ (fun z => absurd z (by decide)) (fun _ => ?_)
    refine x_aload_n dX9_holding_8 rfl ?_
    refine x_iload_n dX9_holding_9 rfl ?_
    refine x_iconst dX9_holding_10 ?_
    refine x_bipush (v := 23) dX9_holding_11 (by decide) ?_
    refine x_callS_r (a := 0) (b := 0) (as := [xI t, xI 0, xI 23]) (rest := [xR (50, 0, 0)]) ok_X9_isIn dX9_holding_13 wd1212 wd1213 (m_isIn U1 t 0 23 (by first | exact hz _ _ | exact hw.1 _ _ | exact zR_of _ | exact bI_z _ | assumption | exact ⟨by omega, by omega⟩) ⟨by decide, by decide⟩ ⟨by decide, by decide⟩) rfl (Nat.le_of_ble_eq_true rfl) (Nat.le_of_ble_eq_true rfl) (by decide) (by omega) (by omega) ?_
    by_cases b13 : 0 ≤ t ∧ t ≤ 23
    · refine x_top (bI_t b13) ?_
      refine x_if_ne (tgt := 23) dX9_holding_16 (by decide) ⟨by decide, by decide⟩ (fun _ => ?_) (fun z => absurd z (by decide))
      refine x_iconst dX9_holding_23 ?_
      refine x_iconst dX9_holding_24 ?_
      refine x_callV_r (a := 0) (b := 0) (as := [xI 0, xI 2]) (rest := []) ok_X9_isThrown dX9_holding_25 wd1215 ⟨wd1217, wd20⟩ (hp50 U1) rfl rfl ((show X mX9_isThrown 0 (xEnt mX9_isThrown [xR (50, 0, 0), xI 0, xI 2]) [] (hp U1) 0 0 (pRet (xI 0) (hp (putI U1 (50, 0, 0) 25 0))) from by have q := m_isThrown U1 wU1 0 2 (by omega) (by omega); rw [if_pos rfl] at q; exact q)) rfl (Nat.le_of_ble_eq_true rfl) (Nat.le_of_ble_eq_true rfl) (by decide) (by omega) (by omega) ?_
      refine x_if_eq (tgt := 33) dX9_holding_28 (by decide) ⟨by decide, by decide⟩ (fun _ => ?_) (fun z => absurd z (by decide))
      refine x_aload_n dX9_holding_33 rfl ?_
      refine x_iload_n dX9_holding_34 rfl ?_
      refine x_aload_n dX9_holding_35 rfl ?_
      refine x_get (v := xR (58, 0, 0)) dX9_holding_36 fl_RX9_33 (hp50 (putI U1 (50, 0, 0) 25 0)) rfl ?_
      refine x_iload_n dX9_holding_39 rfl ?_
      refine x_aldi (f := U1.1 (58, 0, 0)) dX9_holding_40 (hp58 (putI U1 (50, 0, 0) 25 0)) (show (58 : Nat) ≠ 99 by decide) (by omega) (by omega) (by decide) ?_
      have f40_1 := wfa58 wU1 (S := U1) i
      have k93 := h93 (by omega) (by omega)
      have mb := (hM.q sU1).2.2.2.1 i (by omega) (by omega)
      refine x_top (show U1.1 (58, 0, 0) i = C.1 (9, i, 0) 3 from by first | exact mb.1 | (rw [putI_o (by decide)]; exact mb.1)) ?_
      refine x_iload_n dX9_holding_41 rfl ?_
      refine x_callV (a := 0) (b := 0) (as := [xI i, xI (C.1 (9, i, 0) 3), xI t]) (rest := []) ok_X9_finds dX9_holding_42 wd1245 ⟨wd1247, wd26⟩ (hp50 (putI U1 (50, 0, 0) 25 0)) rfl rfl (m_findsZ C (putI U1 (50, 0, 0) 25 0) hC (wp50_25 wU1 (by omega)) (hM.q (sU1.thr 0)) i (by omega) (by omega) (C.1 (9, i, 0) 3) (by omega) (by omega) t (by omega) (by omega)) rfl (Nat.le_of_ble_eq_true rfl) (Nat.le_of_ble_eq_true rfl) (by decide) (by omega) (by omega) (fun _ q => ?_) (fun _ _ q => by cases q.1) (fun _ _ q => by cases q.1)
      obtain ⟨-, U2, rfl, eU2, wU2, fU2, oU2, lU2⟩ := q
      have sU2 := (sU1.thr 0).tr eU2.1
      have kU2 := congrFun eU2.2 25
      rw [putI_self] at kU2
      refine x_iconst dX9_holding_45 ?_
      refine x_istore_n (L' := [xR (50, 0, 0), xI i, xI t, xI 0, none]) dX9_holding_46 (by decide) rfl ?_
      refine x_iconst dX9_holding_47 ?_
      refine x_istore (L' := [xR (50, 0, 0), xI i, xI t, xI 0, xI 0]) dX9_holding_48 (by decide) rfl ?_
      have z := l_hold C U2 hC wU2 i t (by omega) (by omega) fU2 386 0 (by omega) (by omega)
      refine X.weak z (Nat.le_refl _) (Nat.le_refl _) (fun o h' q => ?_)
      obtain ⟨T, z, rfl, rfl, qT, wT, hT⟩ := q
      refine pM_of (sU2.tr qT) wT ?_
      rcases hT with ⟨e1, e2, e3⟩ | ⟨e1, e2, e3, e4⟩
      · exact Or.inl ⟨e1, Or.inr (Or.inr ⟨e2, by omega, by omega, by omega⟩)⟩
      · exact Or.inr ⟨e1, by omega, by omega, e2, e3, e4⟩
    · refine x_top (bI_f b13) ?_
      refine x_if_ne (tgt := 23) dX9_holding_16 (by decide) ⟨by decide, by decide⟩ (fun z => absurd z (by decide)) (fun _ => ?_)
      refine x_iconst dX9_holding_19 ?_
      refine x_goto (tgt := 24) dX9_holding_20 (by decide) ?_
      refine x_iconst dX9_holding_24 ?_
      refine x_callV_r (a := 0) (b := 0) (as := [xI 1, xI 2]) (rest := []) ok_X9_isThrown dX9_holding_25 wd1215 ⟨wd1217, wd20⟩ (hp50 U1) rfl rfl ((show X mX9_isThrown 0 (xEnt mX9_isThrown [xR (50, 0, 0), xI 1, xI 2]) [] (hp U1) 0 0 (pRet (xI 1) (hp (putI U1 (50, 0, 0) 25 2))) from by have q := m_isThrown U1 wU1 1 2 (by omega) (by omega); rw [if_neg (by decide)] at q; exact q)) rfl (Nat.le_of_ble_eq_true rfl) (Nat.le_of_ble_eq_true rfl) (by decide) (by omega) (by omega) ?_
      refine x_if_eq (tgt := 33) dX9_holding_28 (by decide) ⟨by decide, by decide⟩ (fun z => absurd z (by decide)) (fun _ => ?_)
      refine x_iconst dX9_holding_31 ?_
      exact x_iret dX9_holding_32 rfl (pM_thr sU1 wU1 (by omega) (Or.inl ⟨rfl, by omega⟩))
/-- a rule more -/
def sNew (S : XS) (n h a b c u v : Int) : XS := putI (sAdd (putI (putI (putI S (62, 0, 0) (3 * n) h) (62, 0, 0) (3 * n + 1) a) (62, 0, 0) (3 * n + 2) b) n 0 c u v 0) (50, 0, 0) 12 (n + 1)
theorem sNew_wi {S : XS} (hw : WI S) {n h a b c u v : Int} (hn : 0 ≤ n ∧ n < 10) (hh : 0 ≤ h ∧ h < 6) (ha : 0 ≤ a ∧ a ≤ 2) (hb : 0 ≤ b ∧ b ≤ 2) (hc : 0 ≤ c ∧ c < 6) (hu : 0 ≤ u ∧ u ≤ 2) (hv : 0 ≤ v ∧ v ≤ 2) : WI (sNew S n h a b c u v) := wp50_12 (sAdd_wi (wpa62 (wpa62 (wpa62 hw (by omega)) (by omega)) (by omega)) (by omega) hc hu hv (Or.inl rfl)) (by omega)
set_option maxHeartbeats 4000000 in
set_option maxRecDepth 100000 in
theorem l9_addRule (S : XS) (hw : WI S) (n h a b c u v : Int) (hn : S.1 (50, 0, 0) 12 = n) (n0 : 0 ≤ n) (n1 : n < 10) (h64 : S.1 (64, 0, 0) n = 0) (hh : 0 ≤ h ∧ h < 6) (ha : 0 ≤ a ∧ a ≤ 2) (hb : 0 ≤ b ∧ b ≤ 2) (hc : 0 ≤ c ∧ c < 6) (hu : 0 ≤ u ∧ u ≤ 2) (hv : 0 ≤ v ∧ v ≤ 2) : X mX9_addRule 58 [xR (50, 0, 0), xI h, xI a, xI b, xI c, xI u, xI v, none] [] (hp S) 0 0 (pRet (xI n) (hp (sNew S n h a b c u v))) := by
  have hz := hw.1
  refine x_aload_n dX9_addRule_58 rfl ?_
  refine x_get (v := xR (62, 0, 0)) dX9_addRule_59 fl_RX9_49 (hp50 S) rfl ?_
  refine x_iconst dX9_addRule_62 ?_
  refine x_aload_n dX9_addRule_63 rfl ?_
  refine x_get (v := xI (S.1 (50, 0, 0) 12)) dX9_addRule_64 fl_RX9_111 (hp50 S) rfl ?_
  have f64_1 := wf50_12 hw (S := S)
  refine x_top (show S.1 (50, 0, 0) 12 = n from hn) ?_
  refine x_imul dX9_addRule_67 ?_
  refine x_iload_n dX9_addRule_68 rfl ?_
  refine x_asti dX9_addRule_69 (hp62 S) (show (62 : Nat) ≠ 99 by decide) (by omega) (by omega) (by decide) ?_
  refine x_heq (pa62 S (3 * n) h) ?_
  have hw69_2 : WI (putI S (62, 0, 0) (3 * n) h) := wpa62 hw (by omega)
  refine x_aload_n dX9_addRule_70 rfl ?_
  refine x_get (v := xR (62, 0, 0)) dX9_addRule_71 fl_RX9_49 (hp50 (putI S (62, 0, 0) (3 * n) h)) rfl ?_
  refine x_iconst dX9_addRule_74 ?_
  refine x_aload_n dX9_addRule_75 rfl ?_
  refine x_get (v := xI (S.1 (50, 0, 0) 12)) dX9_addRule_76 fl_RX9_111 (hp50 (putI S (62, 0, 0) (3 * n) h)) rfl ?_
  have f76_3 := wf50_12 hw (S := S)
  refine x_top (show S.1 (50, 0, 0) 12 = n from hn) ?_
  refine x_imul dX9_addRule_79 ?_
  refine x_iconst dX9_addRule_80 ?_
  refine x_iadd dX9_addRule_81 ?_
  refine x_iload_n dX9_addRule_82 rfl ?_
  refine x_asti dX9_addRule_83 (hp62 (putI S (62, 0, 0) (3 * n) h)) (show (62 : Nat) ≠ 99 by decide) (by omega) (by omega) (by decide) ?_
  refine x_heq (pa62 (putI S (62, 0, 0) (3 * n) h) ((3 * n) + 1) a) ?_
  have hw83_4 : WI (putI (putI S (62, 0, 0) (3 * n) h) (62, 0, 0) ((3 * n) + 1) a) := wpa62 hw69_2 (by omega)
  refine x_aload_n dX9_addRule_84 rfl ?_
  refine x_get (v := xR (62, 0, 0)) dX9_addRule_85 fl_RX9_49 (hp50 (putI (putI S (62, 0, 0) (3 * n) h) (62, 0, 0) ((3 * n) + 1) a)) rfl ?_
  refine x_iconst dX9_addRule_88 ?_
  refine x_aload_n dX9_addRule_89 rfl ?_
  refine x_get (v := xI (S.1 (50, 0, 0) 12)) dX9_addRule_90 fl_RX9_111 (hp50 (putI (putI S (62, 0, 0) (3 * n) h) (62, 0, 0) ((3 * n) + 1) a)) rfl ?_
  have f90_5 := wf50_12 hw (S := S)
  refine x_top (show S.1 (50, 0, 0) 12 = n from hn) ?_
  refine x_imul dX9_addRule_93 ?_
  refine x_iconst dX9_addRule_94 ?_
  refine x_iadd dX9_addRule_95 ?_
  refine x_iload_n dX9_addRule_96 rfl ?_
  refine x_asti dX9_addRule_97 (hp62 (putI (putI S (62, 0, 0) (3 * n) h) (62, 0, 0) ((3 * n) + 1) a)) (show (62 : Nat) ≠ 99 by decide) (by omega) (by omega) (by decide) ?_
  refine x_heq (pa62 (putI (putI S (62, 0, 0) (3 * n) h) (62, 0, 0) ((3 * n) + 1) a) ((3 * n) + 2) b) ?_
  have hw97_6 : WI (putI (putI (putI S (62, 0, 0) (3 * n) h) (62, 0, 0) ((3 * n) + 1) a) (62, 0, 0) ((3 * n) + 2) b) := wpa62 hw83_4 (by omega)
  refine x_aload_n dX9_addRule_98 rfl ?_
  refine x_aload_n dX9_addRule_99 rfl ?_
  refine x_get (v := xI (S.1 (50, 0, 0) 12)) dX9_addRule_100 fl_RX9_111 (hp50 (putI (putI (putI S (62, 0, 0) (3 * n) h) (62, 0, 0) ((3 * n) + 1) a) (62, 0, 0) ((3 * n) + 2) b)) rfl ?_
  have f100_7 := wf50_12 hw (S := S)
  refine x_top (show S.1 (50, 0, 0) 12 = n from hn) ?_
  refine x_iload dX9_addRule_103 rfl ?_
  refine x_iload dX9_addRule_105 rfl ?_
  refine x_iload dX9_addRule_107 rfl ?_
  refine x_iconst dX9_addRule_109 ?_
  refine x_callV_r (a := 0) (b := 0) (as := [xI n, xI c, xI u, xI v, xI 0]) (rest := []) ok_X9_adds dX9_addRule_110 wd1307 ⟨wd1309, wd36⟩ (hp50 (putI (putI (putI S (62, 0, 0) (3 * n) h) (62, 0, 0) ((3 * n) + 1) a) (62, 0, 0) ((3 * n) + 2) b)) rfl rfl (m_adds (putI (putI (putI S (62, 0, 0) (3 * n) h) (62, 0, 0) ((3 * n) + 1) a) (62, 0, 0) ((3 * n) + 2) b) hw97_6 n 0 c u v 0 (by omega) (by omega) (by rw [putI_o (by decide), putI_o (by decide), putI_o (by decide)]; exact h64) (by omega) (by omega) (by omega) (by omega) (by omega) (Or.inl rfl)) rfl (Nat.le_of_ble_eq_true rfl) (Nat.le_of_ble_eq_true rfl) (by decide) (by omega) (by omega) ?_
  refine x_istore (L' := [xR (50, 0, 0), xI h, xI a, xI b, xI c, xI u, xI v, xI (0 + 1)]) dX9_addRule_113 (by decide) rfl ?_
  refine x_aload_n dX9_addRule_115 rfl ?_
  refine x_dup dX9_addRule_116 rfl ?_
  refine x_get (v := xI ((sAdd (putI (putI (putI S (62, 0, 0) (3 * n) h) (62, 0, 0) ((3 * n) + 1) a) (62, 0, 0) ((3 * n) + 2) b) n 0 c u v 0).1 (50, 0, 0) 12)) dX9_addRule_117 fl_RX9_111 (hp50 (sAdd (putI (putI (putI S (62, 0, 0) (3 * n) h) (62, 0, 0) ((3 * n) + 1) a) (62, 0, 0) ((3 * n) + 2) b) n 0 c u v 0)) rfl ?_
  have f117_8 := wf50_12 (sAdd_wi hw97_6 (by omega) (by omega) (by omega) (by omega) (Or.inl rfl)) (S := sAdd (putI (putI (putI S (62, 0, 0) (3 * n) h) (62, 0, 0) ((3 * n) + 1) a) (62, 0, 0) ((3 * n) + 2) b) n 0 c u v 0)
  refine x_top (show (sAdd (putI (putI (putI S (62, 0, 0) (3 * n) h) (62, 0, 0) ((3 * n) + 1) a) (62, 0, 0) ((3 * n) + 2) b) n 0 c u v 0).1 (50, 0, 0) 12 = n from by first | exact hn | (show (sAdd _ _ _ _ _ _ _).1 (50, 0, 0) 12 = n; exact hn)) ?_
  refine x_iconst dX9_addRule_120 ?_
  refine x_iadd dX9_addRule_121 ?_
  refine x_put dX9_addRule_122 fl_RX9_111 (fun r hr => by cases hr; rfl) (hp50 (sAdd (putI (putI (putI S (62, 0, 0) (3 * n) h) (62, 0, 0) ((3 * n) + 1) a) (62, 0, 0) ((3 * n) + 2) b) n 0 c u v 0)) xfit_i (Nat.le_of_ble_eq_true rfl) rfl ?_
  refine x_heq (pu50_12 (sAdd (putI (putI (putI S (62, 0, 0) (3 * n) h) (62, 0, 0) ((3 * n) + 1) a) (62, 0, 0) ((3 * n) + 2) b) n 0 c u v 0) (n + 1)) ?_
  have hw122_9 : WI (putI (sAdd (putI (putI (putI S (62, 0, 0) (3 * n) h) (62, 0, 0) ((3 * n) + 1) a) (62, 0, 0) ((3 * n) + 2) b) n 0 c u v 0) (50, 0, 0) 12 (n + 1)) := wp50_12 (sAdd_wi hw97_6 (by omega) (by omega) (by omega) (by omega) (Or.inl rfl)) (by omega)
  refine x_aload_n dX9_addRule_125 rfl ?_
  refine x_get (v := xI ((putI (sAdd (putI (putI (putI S (62, 0, 0) (3 * n) h) (62, 0, 0) ((3 * n) + 1) a) (62, 0, 0) ((3 * n) + 2) b) n 0 c u v 0) (50, 0, 0) 12 (n + 1)).1 (50, 0, 0) 12)) dX9_addRule_126 fl_RX9_111 (hp50 (putI (sAdd (putI (putI (putI S (62, 0, 0) (3 * n) h) (62, 0, 0) ((3 * n) + 1) a) (62, 0, 0) ((3 * n) + 2) b) n 0 c u v 0) (50, 0, 0) 12 (n + 1))) rfl ?_
  have f126_10 := wf50_12 hw122_9 (S := putI (sAdd (putI (putI (putI S (62, 0, 0) (3 * n) h) (62, 0, 0) ((3 * n) + 1) a) (62, 0, 0) ((3 * n) + 2) b) n 0 c u v 0) (50, 0, 0) 12 (n + 1))
  refine x_top (show (putI (sAdd (putI (putI (putI S (62, 0, 0) (3 * n) h) (62, 0, 0) ((3 * n) + 1) a) (62, 0, 0) ((3 * n) + 2) b) n 0 c u v 0) (50, 0, 0) 12 (n + 1)).1 (50, 0, 0) 12 = n + 1 from by rw [putI_self]) ?_
  refine x_iconst dX9_addRule_129 ?_
  refine x_isub dX9_addRule_130 ?_
  exact x_iret dX9_addRule_131 rfl (pRI (by omega))
set_option maxHeartbeats 4000000 in
set_option maxRecDepth 100000 in
theorem m_addRule (C S : XS) (hC : CB C) (hw : WI S) (hM : MR C S) (h a b c u v : Int) (zh : zR h) (za : zR a) (zb : zR b) (zc : zR c) (zu : zR u) (zv : zR v) (h64 : S.1 (64, 0, 0) (C.1 (4, 0, 0) 2) = 0) : X mX9_addRule 0 (xEnt mX9_addRule [xR (50, 0, 0), xI h, xI a, xI b, xI c, xI u, xI v]) [] (hp S) 0 0 (pMu S (fun k z => z = 0 ∧ ((k = 1 ∧ ¬ (((0 ≤ h ∧ h < 6) ∧ (0 ≤ a ∧ a < 3) ∧ (0 ≤ b ∧ b < 3)) ∧ (0 ≤ c ∧ c < 6) ∧ (0 ≤ u ∧ u < 3) ∧ (0 ≤ v ∧ v < 3))) ∨ (k = 2 ∧ (((0 ≤ h ∧ h < 6) ∧ (0 ≤ a ∧ a < 3) ∧ (0 ≤ b ∧ b < 3)) ∧ (0 ≤ c ∧ c < 6) ∧ (0 ≤ u ∧ u < 3) ∧ (0 ≤ v ∧ v < 3)) ∧ ¬ (C.1 (4, 0, 0) 2 < 10)))) ((((0 ≤ h ∧ h < 6) ∧ (0 ≤ a ∧ a < 3) ∧ (0 ≤ b ∧ b < 3)) ∧ (0 ≤ c ∧ c < 6) ∧ (0 ≤ u ∧ u < 3) ∧ (0 ≤ v ∧ v < 3)) ∧ (C.1 (4, 0, 0) 2 < 10)) (C.1 (4, 0, 0) 2) (fun U => sNew U (C.1 (4, 0, 0) 2) h a b c u v)) := by
  have c6 := wf0_6 hC.1
  have c4 := wf4_2 hC.1
  obtain ⟨n11, n12, n13, n24⟩ := hM.2.1
  have hz := hw.1
  show X mX9_addRule 0 [xR (50, 0, 0), xI h, xI a, xI b, xI c, xI u, xI v, none] [] (hp S) 0 0 _
  refine x_aload_n dX9_addRule_0 rfl ?_
  refine x_iload_n dX9_addRule_1 rfl ?_
  refine x_iload_n dX9_addRule_2 rfl ?_
  refine x_iload_n dX9_addRule_3 rfl ?_
  refine x_callS_r (a := 0) (b := 0) (as := [xI h, xI a, xI b]) (rest := [xR (50, 0, 0)]) ok_X9_isPart dX9_addRule_4 wd1304 wd1305 (m_isPart S h a b (by first | exact hz _ _ | exact hw.1 _ _ | exact zR_of _ | exact bI_z _ | assumption | exact ⟨by omega, by omega⟩) (by first | exact hz _ _ | exact hw.1 _ _ | exact zR_of _ | exact bI_z _ | assumption | exact ⟨by omega, by omega⟩) (by first | exact hz _ _ | exact hw.1 _ _ | exact zR_of _ | exact bI_z _ | assumption | exact ⟨by omega, by omega⟩)) rfl (Nat.le_of_ble_eq_true rfl) (Nat.le_of_ble_eq_true rfl) (by decide) (by omega) (by omega) ?_
  by_cases b4 : (0 ≤ h ∧ h < 6) ∧ (0 ≤ a ∧ a ≤ 2) ∧ 0 ≤ b ∧ b ≤ 2
  · refine x_top (bI_t b4) ?_
    refine x_if_eq (tgt := 22) dX9_addRule_7 (by decide) ⟨by decide, by decide⟩ (fun z => absurd z (by decide)) (fun _ => ?_)
    refine x_iload dX9_addRule_10 rfl ?_
    refine x_iload dX9_addRule_12 rfl ?_
    refine x_iload dX9_addRule_14 rfl ?_
    refine x_callS_r (a := 0) (b := 0) (as := [xI c, xI u, xI v]) (rest := [xR (50, 0, 0)]) ok_X9_isPart dX9_addRule_16 wd1304 wd1305 (m_isPart S c u v (by first | exact hz _ _ | exact hw.1 _ _ | exact zR_of _ | exact bI_z _ | assumption | exact ⟨by omega, by omega⟩) (by first | exact hz _ _ | exact hw.1 _ _ | exact zR_of _ | exact bI_z _ | assumption | exact ⟨by omega, by omega⟩) (by first | exact hz _ _ | exact hw.1 _ _ | exact zR_of _ | exact bI_z _ | assumption | exact ⟨by omega, by omega⟩)) rfl (Nat.le_of_ble_eq_true rfl) (Nat.le_of_ble_eq_true rfl) (by decide) (by omega) (by omega) ?_
    by_cases b16 : (0 ≤ c ∧ c < 6) ∧ (0 ≤ u ∧ u ≤ 2) ∧ 0 ≤ v ∧ v ≤ 2
    · refine x_top (bI_t b16) ?_
      refine x_if_ne (tgt := 26) dX9_addRule_19 (by decide) ⟨by decide, by decide⟩ (fun _ => ?_) (fun z => absurd z (by decide))
      refine x_iconst dX9_addRule_26 ?_
      refine x_iconst dX9_addRule_27 ?_
      refine x_callV_r (a := 0) (b := 0) (as := [xI 0, xI 1]) (rest := []) ok_X9_isThrown dX9_addRule_28 wd1215 ⟨wd1217, wd20⟩ (hp50 S) rfl rfl ((show X mX9_isThrown 0 (xEnt mX9_isThrown [xR (50, 0, 0), xI 0, xI 1]) [] (hp S) 0 0 (pRet (xI 0) (hp (putI S (50, 0, 0) 25 0))) from by have q := m_isThrown S hw 0 1 (by omega) (by omega); rw [if_pos rfl] at q; exact q)) rfl (Nat.le_of_ble_eq_true rfl) (Nat.le_of_ble_eq_true rfl) (by decide) (by omega) (by omega) ?_
      refine x_if_ne (tgt := 56) dX9_addRule_31 (by decide) ⟨by decide, by decide⟩ (fun z => absurd z (by decide)) (fun _ => ?_)
      refine x_aload_n dX9_addRule_34 rfl ?_
      refine x_aload_n dX9_addRule_35 rfl ?_
      refine x_get (v := xI ((putI S (50, 0, 0) 25 0).1 (50, 0, 0) 12)) dX9_addRule_36 fl_RX9_111 (hp50 (putI S (50, 0, 0) 25 0)) rfl ?_
      have f36_1 := wf50_12 (wp50_25 hw (by omega)) (S := putI S (50, 0, 0) 25 0)
      refine x_top (show (putI S (50, 0, 0) 25 0).1 (50, 0, 0) 12 = C.1 (4, 0, 0) 2 from by first | exact n12 | (rw [putI_at, if_neg (by decide)]; exact n12)) ?_
      refine x_bipush (v := 10) dX9_addRule_39 (by decide) ?_
      refine x_icmp_ne (tgt := 48) dX9_addRule_41 (by decide) (by first | exact hz _ _ | exact hw.1 _ _ | exact zR_of _ | exact bI_z _ | assumption | exact ⟨by omega, by omega⟩) ⟨by decide, by decide⟩ (fun c41 => ?_) (fun c41 => ?_)
      · refine x_iconst dX9_addRule_48 ?_
        refine x_iconst dX9_addRule_49 ?_
        refine x_callV_r (a := 0) (b := 0) (as := [xI 0, xI 2]) (rest := []) ok_X9_isThrown dX9_addRule_50 wd1215 ⟨wd1217, wd20⟩ (hp50 (putI S (50, 0, 0) 25 0)) rfl rfl ((show X mX9_isThrown 0 (xEnt mX9_isThrown [xR (50, 0, 0), xI 0, xI 2]) [] (hp (putI S (50, 0, 0) 25 0)) 0 0 (pRet (xI 0) (hp (putI (putI S (50, 0, 0) 25 0) (50, 0, 0) 25 0))) from by have q := m_isThrown (putI S (50, 0, 0) 25 0) (wp50_25 hw (by omega)) 0 2 (by omega) (by omega); rw [if_pos rfl] at q; exact q)) rfl (Nat.le_of_ble_eq_true rfl) (Nat.le_of_ble_eq_true rfl) (by decide) (by omega) (by omega) ?_
        refine x_if_eq (tgt := 58) dX9_addRule_53 (by decide) ⟨by decide, by decide⟩ (fun _ => ?_) (fun z => absurd z (by decide))
        refine X.weak (l9_addRule (putI (putI S (50, 0, 0) 25 0) (50, 0, 0) 25 0) (wp50_25 (wp50_25 hw (by omega)) (by omega)) (C.1 (4, 0, 0) 2) h a b c u v (by first | exact n12 | (rw [putI_at, if_neg (by decide), putI_at, if_neg (by decide)]; exact n12)) (by omega) (by omega) (by rw [putI_o (by decide), putI_o (by decide)]; exact h64) (by omega) (by omega) (by omega) (by omega) (by omega) (by omega)) (Nat.le_refl _) (Nat.le_refl _) (fun o h' q => ?_)
        obtain ⟨rfl, rfl⟩ := q
        exact Or.inr ⟨by omega, rfl, (putI (putI S (50, 0, 0) 25 0) (50, 0, 0) 25 0), (((MdQ.rf S).thr 0).thr 0), (wp50_25 (wp50_25 hw (by omega)) (by omega)), by rw [putI_self], sNew_wi (wp50_25 (wp50_25 hw (by omega)) (by omega)) (by omega) (by omega) (by omega) (by omega) (by omega) (by omega) (by omega), rfl⟩
      · refine x_iconst dX9_addRule_44 ?_
        refine x_goto (tgt := 49) dX9_addRule_45 (by decide) ?_
        refine x_iconst dX9_addRule_49 ?_
        refine x_callV_r (a := 0) (b := 0) (as := [xI 1, xI 2]) (rest := []) ok_X9_isThrown dX9_addRule_50 wd1215 ⟨wd1217, wd20⟩ (hp50 (putI S (50, 0, 0) 25 0)) rfl rfl ((show X mX9_isThrown 0 (xEnt mX9_isThrown [xR (50, 0, 0), xI 1, xI 2]) [] (hp (putI S (50, 0, 0) 25 0)) 0 0 (pRet (xI 1) (hp (putI (putI S (50, 0, 0) 25 0) (50, 0, 0) 25 2))) from by have q := m_isThrown (putI S (50, 0, 0) 25 0) (wp50_25 hw (by omega)) 1 2 (by omega) (by omega); rw [if_neg (by decide)] at q; exact q)) rfl (Nat.le_of_ble_eq_true rfl) (Nat.le_of_ble_eq_true rfl) (by decide) (by omega) (by omega) ?_
        refine x_if_eq (tgt := 58) dX9_addRule_53 (by decide) ⟨by decide, by decide⟩ (fun z => absurd z (by decide)) (fun _ => ?_)
        refine x_iconst dX9_addRule_56 ?_
        exact x_iret dX9_addRule_57 rfl (Or.inl (pM_thr ((MdQ.rf S).thr 0) (wp50_25 hw (by omega)) (by omega) (by omega)))
    · refine x_top (bI_f b16) ?_
      refine x_if_ne (tgt := 26) dX9_addRule_19 (by decide) ⟨by decide, by decide⟩ (fun z => absurd z (by decide)) (fun _ => ?_)
      refine x_iconst dX9_addRule_22 ?_
      refine x_goto (tgt := 27) dX9_addRule_23 (by decide) ?_
      refine x_iconst dX9_addRule_27 ?_
      refine x_callV_r (a := 0) (b := 0) (as := [xI 1, xI 1]) (rest := []) ok_X9_isThrown dX9_addRule_28 wd1215 ⟨wd1217, wd20⟩ (hp50 S) rfl rfl ((show X mX9_isThrown 0 (xEnt mX9_isThrown [xR (50, 0, 0), xI 1, xI 1]) [] (hp S) 0 0 (pRet (xI 1) (hp (putI S (50, 0, 0) 25 1))) from by have q := m_isThrown S hw 1 1 (by omega) (by omega); rw [if_neg (by decide)] at q; exact q)) rfl (Nat.le_of_ble_eq_true rfl) (Nat.le_of_ble_eq_true rfl) (by decide) (by omega) (by omega) ?_
      refine x_if_ne (tgt := 56) dX9_addRule_31 (by decide) ⟨by decide, by decide⟩ (fun _ => ?_) (fun z => absurd z (by decide))
      refine x_iconst dX9_addRule_56 ?_
      exact x_iret dX9_addRule_57 rfl (Or.inl (pM_thr (MdQ.rf S) hw (by omega) (by omega)))
  · refine x_top (bI_f b4) ?_
    refine x_if_eq (tgt := 22) dX9_addRule_7 (by decide) ⟨by decide, by decide⟩ (fun _ => ?_) (fun z => absurd z (by decide))
    refine x_iconst dX9_addRule_22 ?_
    refine x_goto (tgt := 27) dX9_addRule_23 (by decide) ?_
    refine x_iconst dX9_addRule_27 ?_
    refine x_callV_r (a := 0) (b := 0) (as := [xI 1, xI 1]) (rest := []) ok_X9_isThrown dX9_addRule_28 wd1215 ⟨wd1217, wd20⟩ (hp50 S) rfl rfl ((show X mX9_isThrown 0 (xEnt mX9_isThrown [xR (50, 0, 0), xI 1, xI 1]) [] (hp S) 0 0 (pRet (xI 1) (hp (putI S (50, 0, 0) 25 1))) from by have q := m_isThrown S hw 1 1 (by omega) (by omega); rw [if_neg (by decide)] at q; exact q)) rfl (Nat.le_of_ble_eq_true rfl) (Nat.le_of_ble_eq_true rfl) (by decide) (by omega) (by omega) ?_
    refine x_if_ne (tgt := 56) dX9_addRule_31 (by decide) ⟨by decide, by decide⟩ (fun _ => ?_) (fun z => absurd z (by decide))
    refine x_iconst dX9_addRule_56 ?_
    exact x_iret dX9_addRule_57 rfl (Or.inl (pM_thr (MdQ.rf S) hw (by omega) (by omega)))
