/-! the calls: the small ones -/
set_option maxHeartbeats 4000000 in
set_option maxRecDepth 100000 in
theorem c_knowing (S : XS) (hw : WI S) (i : Int) (za : zR i) : X mX8_knowing 0 (xEnt mX8_knowing [xR (0, 0, 0), xI i]) [] (hp S) 1 6 (pOr (0 ≤ i ∧ i < S.1 (0, 0, 0) 6) (pRet (xI (S.1 (9, i, 0) 3)) (hp S)) (pThr "java/lang/IndexOutOfBoundsException" (hp S))) := by
  have za2 := za
  unfold zR at za2
  have hn6 := wf0_6 hw
  show X mX8_knowing 0 [xR (0, 0, 0), xI i] [] (hp S) 1 6 _
  refine x_aload_n dX8_knowing_0 rfl ?_
  refine x_iload_n dX8_knowing_1 rfl ?_
  refine x_callV_t (a := 1) (b := 6) (as := [xI i]) (rest := []) ok_X8_branchAt dX8_knowing_2 wd511 ⟨wd513, wd6⟩ (hp0 S) rfl rfl (c_branchAt S hw i (by first | exact hz _ _ | exact hw.1 _ _ | exact zR_of _ | assumption | exact ⟨by omega, by omega⟩)) rfl (Nat.le_of_ble_eq_true rfl) (Nat.le_of_ble_eq_true rfl) (by decide) (by omega) (by omega) (fun t2 => ?_) (fun t2 => ?_)
  · refine x_get (v := xI (S.1 (9, i, 0) 3)) dX8_knowing_5 fl_RX8_92 (hp9 S (by omega) (by omega)) rfl ?_
    have f5_1 := wf9_3 hw (S := S) (b := i) (by omega) (by omega)
    exact x_iret dX8_knowing_8 rfl (Or.inl ⟨by omega, rfl, rfl⟩)
  · exact XX.out rfl (Or.inr ⟨by omega, rfl, rfl⟩)
set_option maxHeartbeats 4000000 in
set_option maxRecDepth 100000 in
theorem c_setUnique (S : XS) (hw : WI S) (i z : Int) (za : zR i) (hz1 : z = 0 ∨ z = 1) : X mX8_setUnique 0 (xEnt mX8_setUnique [xR (0, 0, 0), xI i, xI z]) [] (hp S) 1 6 (pOr (0 ≤ i ∧ i < 6) (pRet (xI (S.1 (3, 0, 0) i)) (hp (putI S (3, 0, 0) i z))) (pThr "java/lang/IllegalArgumentException" (hp S))) := by
  have za2 := za
  unfold zR at za2
  show X mX8_setUnique 0 [xR (0, 0, 0), xI i, xI z, none] [] (hp S) 1 6 _
  refine x_iload_n dX8_setUnique_0 rfl ?_
  refine x_callS_tv (a := 1) (b := 6) (as := [xI i]) (rest := []) ok_X8_checkRelation dX8_setUnique_1 wd705 wd706 (c_checkRelation S hw i (by first | exact hz _ _ | exact hw.1 _ _ | exact zR_of _ | assumption | exact ⟨by omega, by omega⟩)) rfl (Nat.le_of_ble_eq_true rfl) (Nat.le_of_ble_eq_true rfl) (by decide) (by omega) (by omega) (fun t1 => ?_) (fun t1 => ?_)
  · refine x_aload_n dX8_setUnique_4 rfl ?_
    refine x_get (v := xR (3, 0, 0)) dX8_setUnique_5 fl_RX8_21 (hp0 S) rfl ?_
    refine x_iload_n dX8_setUnique_8 rfl ?_
    refine x_aldz (f := S.1 (3, 0, 0)) dX8_setUnique_9 (hp3 S) (show (3 : Nat) ≠ 99 by decide) (by omega) (by omega) (by decide) ?_
    have f9_1 := wfa3 hw (S := S) i
    refine x_istore_n (L' := [xR (0, 0, 0), xI i, xI z, xI (S.1 (3, 0, 0) i)]) dX8_setUnique_10 (by decide) rfl ?_
    refine x_aload_n dX8_setUnique_11 rfl ?_
    refine x_get (v := xR (3, 0, 0)) dX8_setUnique_12 fl_RX8_21 (hp0 S) rfl ?_
    refine x_iload_n dX8_setUnique_15 rfl ?_
    refine x_iload_n dX8_setUnique_16 rfl ?_
    refine x_astz dX8_setUnique_17 (hp3 S) (show (3 : Nat) ≠ 99 by decide) (by omega) (by omega) (by decide) (by first | exact hz1 | assumption) ?_
    refine x_heq (pa3 S i z) ?_
    have hw17_2 : WI (putI S (3, 0, 0) i z) := wpa3 hw (by first | exact hz1 | assumption)
    refine x_iload_n dX8_setUnique_18 rfl ?_
    exact x_zret dX8_setUnique_19 rfl (by first | exact hz1 | assumption) (Or.inl ⟨by omega, rfl, rfl⟩)
  · exact XX.out rfl (Or.inr ⟨by omega, rfl, rfl⟩)
set_option maxHeartbeats 4000000 in
set_option maxRecDepth 100000 in
theorem c_isOn (S : XS) (hw : WI S) (i r k : Int) (za : zR i) (zb : zR r) (zc : zR k) : X mX8_isOn 0 (xEnt mX8_isOn [xR (0, 0, 0), xI i, xI r, xI k]) [] (hp S) 3 18 (pOr ((0 ≤ i ∧ i < S.1 (0, 0, 0) 6) ∧ (0 ≤ r ∧ r < S.1 (4, 0, 0) 2) ∧ 0 ≤ k ∧ k < S.1 (9, i, 0) 3 + 1) (pRet (xI (bI (bitI (onN S.1 i k.toNat) r))) (hp S)) (pThr "java/lang/IndexOutOfBoundsException" (hp S))) := by
  have za2 := za
  unfold zR at za2
  have zb2 := zb
  unfold zR at zb2
  have zc2 := zc
  unfold zR at zc2
  have hn6 := wf0_6 hw
  have hn4 := wf4_2 hw
  have h93 : 0 ≤ i → i < S.1 (0, 0, 0) 6 → 0 ≤ S.1 (9, i, 0) 3 ∧ S.1 (9, i, 0) 3 ≤ 60 := fun a b => wf9_3 hw a (by omega)
  show X mX8_isOn 0 [xR (0, 0, 0), xI i, xI r, xI k, none] [] (hp S) 3 18 _
  refine x_aload_n dX8_isOn_0 rfl ?_
  refine x_iload_n dX8_isOn_1 rfl ?_
  refine x_callV_t (a := 1) (b := 6) (as := [xI i]) (rest := []) ok_X8_branchAt dX8_isOn_2 wd511 ⟨wd513, wd6⟩ (hp0 S) rfl rfl (c_branchAt S hw i (by first | exact hz _ _ | exact hw.1 _ _ | exact zR_of _ | assumption | exact ⟨by omega, by omega⟩)) rfl (Nat.le_of_ble_eq_true rfl) (Nat.le_of_ble_eq_true rfl) (by decide) (by omega) (by omega) (fun t2 => ?_) (fun t2 => ?_)
  · refine x_astore (L' := [xR (0, 0, 0), xI i, xI r, xI k, xR (9, i, 0)]) dX8_isOn_5 (by decide) rfl ?_
    refine x_aload_n dX8_isOn_7 rfl ?_
    refine x_iload_n dX8_isOn_8 rfl ?_
    refine x_callV_t (a := 1) (b := 6) (as := [xI r]) (rest := []) ok_X8_ruleAt dX8_isOn_9 wd675 ⟨wd677, wd9⟩ (hp0 S) rfl rfl (c_ruleAt S hw r (by first | exact hz _ _ | exact hw.1 _ _ | exact zR_of _ | assumption | exact ⟨by omega, by omega⟩)) rfl (Nat.le_of_ble_eq_true rfl) (Nat.le_of_ble_eq_true rfl) (by decide) (by omega) (by omega) (fun t9 => ?_) (fun t9 => ?_)
    · refine x_pop dX8_isOn_12 rfl ?_
      refine x_aload dX8_isOn_13 rfl ?_
      refine x_iload_n dX8_isOn_15 rfl ?_
      refine x_callS_tv (a := 1) (b := 6) (as := [xR (9, i, 0), xI k]) (rest := []) ok_X8_checkKnowing dX8_isOn_16 wd724 wd725 (c_checkKnowing S hw i (by omega) (by omega) k (by first | exact hz _ _ | exact hw.1 _ _ | exact zR_of _ | assumption | exact ⟨by omega, by omega⟩)) rfl (Nat.le_of_ble_eq_true rfl) (Nat.le_of_ble_eq_true rfl) (by decide) (by omega) (by omega) (fun t16 => ?_) (fun t16 => ?_)
      · refine x_iload_n dX8_isOn_19 rfl ?_
        refine x_aload dX8_isOn_20 rfl ?_
        refine x_iload_n dX8_isOn_22 rfl ?_
        refine x_callV_r (a := 0) (b := 0) (as := [xI k]) (rest := [xI r]) ok_X0_rulesOn dX8_isOn_23 wd688 ⟨wd363, wd364⟩ (hp9 S (by omega) (by omega)) rfl rfl (x_nat (e := k) (by omega) (fun n => X mX0_rulesOn 0 (xEnt mX0_rulesOn [xR (9, i, 0), xI n]) [] (hp S) 0 0 (pRet (xI (onN S.1 i ((k).toNat))) (hp S))) (c_rulesOn S hw i (by omega) (by omega) ((k).toNat) (by omega))) rfl (Nat.le_of_ble_eq_true rfl) (Nat.le_of_ble_eq_true rfl) (by decide) (by omega) (by omega) ?_
        refine x_callS_r (a := 0) (b := 0) (as := [xI r, xI (onN S.1 i ((k).toNat))]) (rest := []) ok_X8_isAmong dX8_isOn_26 wd816 wd383 (c_isAmong S r (onN S.1 i ((k).toNat))) rfl (Nat.le_of_ble_eq_true rfl) (Nat.le_of_ble_eq_true rfl) (by decide) (by omega) (by omega) ?_
        exact x_zret dX8_isOn_29 rfl (bI_01 _) (Or.inl ⟨by omega, rfl, rfl⟩)
      · exact XX.out rfl (Or.inr ⟨by omega, rfl, rfl⟩)
    · exact XX.out rfl (Or.inr ⟨by omega, rfl, rfl⟩)
  · exact XX.out rfl (Or.inr ⟨by omega, rfl, rfl⟩)
