/-! tell, untell, turn: room for the hour that is heard is asked only where there is one -/
set_option maxHeartbeats 4000000 in
set_option maxRecDepth 100000 in
theorem c_tell9 (S : XS) (hb : CB S) (i q x y : Int) (zi : zR i) (zq : zR q) (zx : zR x) (zy : zR y) (hcap : S.1 (9, i, 0) 3 < 60 → CapOk (sApp S i 0 1 q x y (-1)) i) : X mX8_tell 0 (xEnt mX8_tell [xR (0, 0, 0), xI i, xI q, xI x, xI y]) [] (hp S) 5 30 (pOr (0 ≤ i ∧ i < S.1 (0, 0, 0) 6) (pOr ((0 ≤ q ∧ q < 384) ∧ (0 ≤ x ∧ x < 24) ∧ (0 ≤ y ∧ y < 24) ∧ x ≤ y) (pOr (¬ Riv S.1 i q x y) (pOr (S.1 (9, i, 0) 3 < 60) (pN (sInf (sApp S i 0 1 q x y (-1)) i (S.1 (0, 0, 0) 7).toNat) (some (xI (S.1 (9, i, 0) 3 + 1)))) (pX S "java/lang/IllegalStateException")) (pX S "java/lang/UnsupportedOperationException")) (pX S "java/lang/IllegalArgumentException")) (pX S "java/lang/IndexOutOfBoundsException")) := by
  have hw := hb.1
  have hn6 := wf0_6 hw
  have h93 : 0 ≤ i → i < S.1 (0, 0, 0) 6 → 0 ≤ S.1 (9, i, 0) 3 ∧ S.1 (9, i, 0) 3 ≤ 60 := fun a b => wf9_3 hw a (by omega)
  have hn7 := wf0_7 hw
  have hn4 := wf4_2 hw
  have zi2 := zi
  unfold zR at zi2
  have zq2 := zq
  unfold zR at zq2
  have zx2 := zx
  unfold zR at zx2
  have zy2 := zy
  unfold zR at zy2
  show X mX8_tell 0 [xR (0, 0, 0), xI i, xI q, xI x, xI y, none] [] (hp S) 5 30 _
  refine x_aload_n dX8_tell_0 rfl ?_
  refine x_iload_n dX8_tell_1 rfl ?_
  refine x_callV_t (a := 1) (b := 6) (as := [xI i]) (rest := []) ok_X8_branchAt dX8_tell_2 wd511 ⟨wd513, wd6⟩ (hp0 S) rfl rfl (c_branchAt S hb.1 i (by first | exact hz _ _ | exact hw.1 _ _ | exact zR_of _ | exact bI_z _ | assumption | exact ⟨by omega, by omega⟩)) rfl (Nat.le_of_ble_eq_true rfl) (Nat.le_of_ble_eq_true rfl) (by decide) (by omega) (by omega) (fun t2 => ?_) (fun t2 => ?_)
  · refine x_astore (L' := [xR (0, 0, 0), xI i, xI q, xI x, xI y, xR (9, i, 0)]) dX8_tell_5 (by decide) rfl ?_
    refine x_iload_n dX8_tell_7 rfl ?_
    refine x_callS_tv (a := 1) (b := 6) (as := [xI q]) (rest := []) ok_X8_checkFact dX8_tell_8 wd531 wd532 (c_checkFact S hb.1 q (by first | exact hz _ _ | exact hw.1 _ _ | exact zR_of _ | exact bI_z _ | assumption | exact ⟨by omega, by omega⟩)) rfl (Nat.le_of_ble_eq_true rfl) (Nat.le_of_ble_eq_true rfl) (by decide) (by omega) (by omega) (fun t8 => ?_) (fun t8 => ?_)
    · refine x_iload_n dX8_tell_11 rfl ?_
      refine x_iload dX8_tell_12 rfl ?_
      refine x_callS_tv (a := 1) (b := 6) (as := [xI x, xI y]) (rest := []) ok_X8_checkSpan dX8_tell_14 wd550 wd551 (c_checkSpan S hb.1 x y (by first | exact hz _ _ | exact hw.1 _ _ | exact zR_of _ | exact bI_z _ | assumption | exact ⟨by omega, by omega⟩) (by first | exact hz _ _ | exact hw.1 _ _ | exact zR_of _ | exact bI_z _ | assumption | exact ⟨by omega, by omega⟩)) rfl (Nat.le_of_ble_eq_true rfl) (Nat.le_of_ble_eq_true rfl) (by decide) (by omega) (by omega) (fun t14 => ?_) (fun t14 => ?_)
      · refine x_aload_n dX8_tell_17 rfl ?_
        refine x_aload dX8_tell_18 rfl ?_
        refine x_iload_n dX8_tell_20 rfl ?_
        refine x_iload_n dX8_tell_21 rfl ?_
        refine x_iload dX8_tell_22 rfl ?_
        refine x_callV (a := 0) (b := 0) (as := [xR (9, i, 0), xI q, xI x, xI y]) (rest := []) ok_X8_hasRival dX8_tell_24 wd554 ⟨wd556, wd7⟩ (hp0 S) rfl rfl (c_hasRival S hb i (by omega) (by omega) q (by omega) (by omega) x y (by omega) (by omega) (by omega) (by omega)) rfl (Nat.le_of_ble_eq_true rfl) (Nat.le_of_ble_eq_true rfl) (by decide) (by omega) (by omega) (fun _ q => by cases q.1) (fun _ _ q => ?_) (fun _ _ q => by cases q.1)
        obtain ⟨y, V1, rfl, qV1, bV1⟩ := q
        cases y
        have eV6 := congrFun (qV1.1 (0, 0, 0) rfl) 6
        have eV7 := congrFun (qV1.1 (0, 0, 0) rfl) 7
        have eV9 := congrFun (qV1.1 (9, i, 0) rfl) 3
        by_cases hRv : Riv S.1 i q x y
        · refine x_top (bI_t hRv) ?_
          refine x_if_eq (tgt := 40) dX8_tell_27 (by decide) ⟨by decide, by decide⟩ (fun z => absurd z (by decide)) (fun _ => ?_)
          exact x_throw (thr_RX8_74_76_78) rfl dX8_tell_30 dX8_tell_33 (Or.inl ⟨dX8_tell_34, dX8_tell_36, dX8_tell_39⟩) (by decide) (Nat.le_of_ble_eq_true rfl) (by omega) (by omega) (by first | exact Or.inr ⟨by omega, pXi qV1 bV1⟩ | exact Or.inl ⟨by omega, Or.inr ⟨by omega, pXi qV1 bV1⟩⟩ | exact Or.inl ⟨by omega, Or.inl ⟨by omega, Or.inr ⟨by first | omega | assumption | exact fun z => z hRv, pXi qV1 bV1⟩⟩⟩ | exact Or.inl ⟨by omega, Or.inl ⟨by omega, Or.inl ⟨by first | omega | assumption, Or.inr ⟨by omega, pXi qV1 bV1⟩⟩⟩⟩)
        · refine x_top (bI_f hRv) ?_
          refine x_if_eq (tgt := 40) dX8_tell_27 (by decide) ⟨by decide, by decide⟩ (fun _ => ?_) (fun z => absurd z (by decide))
          refine x_aload dX8_tell_40 rfl ?_
          refine x_callS_tv (a := 1) (b := 6) (as := [xR (9, i, 0)]) (rest := []) ok_X8_checkRoom dX8_tell_42 wd578 wd579 (c_checkRoom V1 bV1.1 i (by omega) (by omega)  ) rfl (Nat.le_of_ble_eq_true rfl) (Nat.le_of_ble_eq_true rfl) (by decide) (by omega) (by omega) (fun t42 => ?_) (fun t42 => ?_)
          · refine x_aload dX8_tell_45 rfl ?_
            refine x_iconst dX8_tell_47 ?_
            refine x_iconst dX8_tell_48 ?_
            refine x_iload_n dX8_tell_49 rfl ?_
            refine x_iload_n dX8_tell_50 rfl ?_
            refine x_iload dX8_tell_51 rfl ?_
            refine x_iconst dX8_tell_53 ?_
            refine x_callV_v (a := 0) (b := 0) (as := [xI 0, xI 1, xI q, xI x, xI y, xI (-1)]) (rest := []) ok_X0_append dX8_tell_54 wd601 ⟨wd602, wd603⟩ (hp9 V1 (by omega) (by omega)) rfl rfl (c_append V1 bV1.1 i (by omega) (by omega) (by omega) 0 1 q x y (-1) (by first | exact Or.inl rfl | exact Or.inr rfl | assumption) (by first | exact Or.inl rfl | exact Or.inr rfl | assumption) (by omega) (by omega) (by omega) (by omega)) rfl (Nat.le_of_ble_eq_true rfl) (Nat.le_of_ble_eq_true rfl) (by decide) (by omega) (by omega) ?_
            refine x_aload_n dX8_tell_57 rfl ?_
            refine x_iload_n dX8_tell_58 rfl ?_
            refine x_callV (a := 0) (b := 0) (as := [xI i]) (rest := []) ok_X8_inform dX8_tell_59 wd611 ⟨wd613, wd8⟩ (hp0 (sApp V1 i 0 1 q x y (-1))) rfl rfl (c_inform (sApp V1 i 0 1 q x y (-1)) (CB.app bV1 (by omega) (by omega) (by omega) (Or.inl rfl) (Or.inr rfl) (by omega) (by omega) (by omega) (by omega) (fun z => absurd rfl z) (fun z => absurd rfl z)) i (by omega) (by rw [sApp_k _ _ _ _ _ _ _ _ (k := 0) (by decide)]; omega) ((hcap (by omega)).q (qV1.app i 0 1 q x y (-1))) (S.1 (0, 0, 0) 7).toNat (by rw [sApp_k _ _ _ _ _ _ _ _ (k := 0) (by decide)]; omega)) rfl (Nat.le_of_ble_eq_true rfl) (Nat.le_of_ble_eq_true rfl) (by decide) (by omega) (by omega) (fun _ q => ?_) (fun _ _ q => by cases q.1) (fun _ _ q => by cases q.1)
            obtain ⟨-, I1, rfl, qI1, bI1⟩ := q
            have e9I : I1.1 (9, i, 0) 3 = S.1 (9, i, 0) 3 + 1 := by rw [qI1.1 (9, i, 0) rfl, (sInf_L _ i _).i (k := 9) (by decide), app_size, eV9]
            refine x_aload dX8_tell_62 rfl ?_
            refine x_get (v := xI (I1.1 (9, i, 0) 3)) dX8_tell_64 fl_RX8_92 (hp9 I1 (by omega) (by omega)) rfl ?_
            have f64_1 := wf9_3 bI1.1 (S := I1) (b := i) (by omega) (by omega)
            exact x_iret dX8_tell_67 rfl (Or.inl ⟨by omega, Or.inl ⟨by omega, Or.inl ⟨hRv, Or.inl ⟨by omega, by rw [e9I], I1, rfl, (((qV1.app i 0 1 q x y (-1)).inf i _).tr qI1), bI1⟩⟩⟩⟩)
          · exact XX.out rfl (by first | exact Or.inr ⟨by omega, pXi qV1 bV1⟩ | exact Or.inl ⟨by omega, Or.inr ⟨by omega, pXi qV1 bV1⟩⟩ | exact Or.inl ⟨by omega, Or.inl ⟨by omega, Or.inr ⟨by first | omega | assumption | exact fun z => z hRv, pXi qV1 bV1⟩⟩⟩ | exact Or.inl ⟨by omega, Or.inl ⟨by omega, Or.inl ⟨by first | omega | assumption, Or.inr ⟨by omega, pXi qV1 bV1⟩⟩⟩⟩)
      · exact XX.out rfl (by first | exact Or.inr ⟨by omega, pXi (QEq.rf S) hb⟩ | exact Or.inl ⟨by omega, Or.inr ⟨by omega, pXi (QEq.rf S) hb⟩⟩ | exact Or.inl ⟨by omega, Or.inl ⟨by omega, Or.inr ⟨by first | omega | assumption | exact fun z => z hRv, pXi (QEq.rf S) hb⟩⟩⟩ | exact Or.inl ⟨by omega, Or.inl ⟨by omega, Or.inl ⟨by first | omega | assumption, Or.inr ⟨by omega, pXi (QEq.rf S) hb⟩⟩⟩⟩)
    · exact XX.out rfl (by first | exact Or.inr ⟨by omega, pXi (QEq.rf S) hb⟩ | exact Or.inl ⟨by omega, Or.inr ⟨by omega, pXi (QEq.rf S) hb⟩⟩ | exact Or.inl ⟨by omega, Or.inl ⟨by omega, Or.inr ⟨by first | omega | assumption | exact fun z => z hRv, pXi (QEq.rf S) hb⟩⟩⟩ | exact Or.inl ⟨by omega, Or.inl ⟨by omega, Or.inl ⟨by first | omega | assumption, Or.inr ⟨by omega, pXi (QEq.rf S) hb⟩⟩⟩⟩)
  · exact XX.out rfl (by first | exact Or.inr ⟨by omega, pXi (QEq.rf S) hb⟩ | exact Or.inl ⟨by omega, Or.inr ⟨by omega, pXi (QEq.rf S) hb⟩⟩ | exact Or.inl ⟨by omega, Or.inl ⟨by omega, Or.inr ⟨by first | omega | assumption | exact fun z => z hRv, pXi (QEq.rf S) hb⟩⟩⟩ | exact Or.inl ⟨by omega, Or.inl ⟨by omega, Or.inl ⟨by first | omega | assumption, Or.inr ⟨by omega, pXi (QEq.rf S) hb⟩⟩⟩⟩)
set_option maxHeartbeats 4000000 in
set_option maxRecDepth 100000 in
theorem c_untell9 (S : XS) (hb : CB S) (i q x y : Int) (zi : zR i) (zq : zR q) (zx : zR x) (zy : zR y) (hcap : S.1 (9, i, 0) 3 < 60 → CapOk (sApp S i 0 0 q x y (-1)) i) : X mX8_untell 0 (xEnt mX8_untell [xR (0, 0, 0), xI i, xI q, xI x, xI y]) [] (hp S) 5 30 (pOr (0 ≤ i ∧ i < S.1 (0, 0, 0) 6) (pOr ((0 ≤ q ∧ q < 384) ∧ (0 ≤ x ∧ x < 24) ∧ (0 ≤ y ∧ y < 24) ∧ x ≤ y) (pOr (S.1 (9, i, 0) 3 < 60) (pN (sInf (sApp S i 0 0 q x y (-1)) i (S.1 (0, 0, 0) 7).toNat) (some (xI (S.1 (9, i, 0) 3 + 1)))) (pX S "java/lang/IllegalStateException")) (pX S "java/lang/IllegalArgumentException")) (pX S "java/lang/IndexOutOfBoundsException")) := by
  have hw := hb.1
  have hn6 := wf0_6 hw
  have h93 : 0 ≤ i → i < S.1 (0, 0, 0) 6 → 0 ≤ S.1 (9, i, 0) 3 ∧ S.1 (9, i, 0) 3 ≤ 60 := fun a b => wf9_3 hw a (by omega)
  have hn7 := wf0_7 hw
  have hn4 := wf4_2 hw
  have zi2 := zi
  unfold zR at zi2
  have zq2 := zq
  unfold zR at zq2
  have zx2 := zx
  unfold zR at zx2
  have zy2 := zy
  unfold zR at zy2
  show X mX8_untell 0 [xR (0, 0, 0), xI i, xI q, xI x, xI y, none] [] (hp S) 5 30 _
  refine x_aload_n dX8_untell_0 rfl ?_
  refine x_iload_n dX8_untell_1 rfl ?_
  refine x_callV_t (a := 1) (b := 6) (as := [xI i]) (rest := []) ok_X8_branchAt dX8_untell_2 wd511 ⟨wd513, wd6⟩ (hp0 S) rfl rfl (c_branchAt S hb.1 i (by first | exact hz _ _ | exact hw.1 _ _ | exact zR_of _ | exact bI_z _ | assumption | exact ⟨by omega, by omega⟩)) rfl (Nat.le_of_ble_eq_true rfl) (Nat.le_of_ble_eq_true rfl) (by decide) (by omega) (by omega) (fun t2 => ?_) (fun t2 => ?_)
  · refine x_astore (L' := [xR (0, 0, 0), xI i, xI q, xI x, xI y, xR (9, i, 0)]) dX8_untell_5 (by decide) rfl ?_
    refine x_iload_n dX8_untell_7 rfl ?_
    refine x_callS_tv (a := 1) (b := 6) (as := [xI q]) (rest := []) ok_X8_checkFact dX8_untell_8 wd531 wd532 (c_checkFact S hb.1 q (by first | exact hz _ _ | exact hw.1 _ _ | exact zR_of _ | exact bI_z _ | assumption | exact ⟨by omega, by omega⟩)) rfl (Nat.le_of_ble_eq_true rfl) (Nat.le_of_ble_eq_true rfl) (by decide) (by omega) (by omega) (fun t8 => ?_) (fun t8 => ?_)
    · refine x_iload_n dX8_untell_11 rfl ?_
      refine x_iload dX8_untell_12 rfl ?_
      refine x_callS_tv (a := 1) (b := 6) (as := [xI x, xI y]) (rest := []) ok_X8_checkSpan dX8_untell_14 wd550 wd551 (c_checkSpan S hb.1 x y (by first | exact hz _ _ | exact hw.1 _ _ | exact zR_of _ | exact bI_z _ | assumption | exact ⟨by omega, by omega⟩) (by first | exact hz _ _ | exact hw.1 _ _ | exact zR_of _ | exact bI_z _ | assumption | exact ⟨by omega, by omega⟩)) rfl (Nat.le_of_ble_eq_true rfl) (Nat.le_of_ble_eq_true rfl) (by decide) (by omega) (by omega) (fun t14 => ?_) (fun t14 => ?_)
      · refine x_aload dX8_untell_17 rfl ?_
        refine x_callS_tv (a := 1) (b := 6) (as := [xR (9, i, 0)]) (rest := []) ok_X8_checkRoom dX8_untell_19 wd578 wd579 (c_checkRoom S hb.1 i (by omega) (by omega)  ) rfl (Nat.le_of_ble_eq_true rfl) (Nat.le_of_ble_eq_true rfl) (by decide) (by omega) (by omega) (fun t19 => ?_) (fun t19 => ?_)
        · refine x_aload dX8_untell_22 rfl ?_
          refine x_iconst dX8_untell_24 ?_
          refine x_iconst dX8_untell_25 ?_
          refine x_iload_n dX8_untell_26 rfl ?_
          refine x_iload_n dX8_untell_27 rfl ?_
          refine x_iload dX8_untell_28 rfl ?_
          refine x_iconst dX8_untell_30 ?_
          refine x_callV_v (a := 0) (b := 0) (as := [xI 0, xI 0, xI q, xI x, xI y, xI (-1)]) (rest := []) ok_X0_append dX8_untell_31 wd601 ⟨wd602, wd603⟩ (hp9 S (by omega) (by omega)) rfl rfl (c_append S hb.1 i (by omega) (by omega) (by omega) 0 0 q x y (-1) (by first | exact Or.inl rfl | exact Or.inr rfl | assumption) (by first | exact Or.inl rfl | exact Or.inr rfl | assumption) (by omega) (by omega) (by omega) (by omega)) rfl (Nat.le_of_ble_eq_true rfl) (Nat.le_of_ble_eq_true rfl) (by decide) (by omega) (by omega) ?_
          refine x_aload_n dX8_untell_34 rfl ?_
          refine x_iload_n dX8_untell_35 rfl ?_
          refine x_callV (a := 0) (b := 0) (as := [xI i]) (rest := []) ok_X8_inform dX8_untell_36 wd611 ⟨wd613, wd8⟩ (hp0 (sApp S i 0 0 q x y (-1))) rfl rfl (c_inform (sApp S i 0 0 q x y (-1)) (CB.app hb (by omega) (by omega) (by omega) (Or.inl rfl) (Or.inl rfl) (by omega) (by omega) (by omega) (by omega) (fun z => absurd rfl z) (fun z => absurd rfl z)) i (by omega) (by rw [sApp_k _ _ _ _ _ _ _ _ (k := 0) (by decide)]; omega) ((hcap (by omega))) (S.1 (0, 0, 0) 7).toNat (by rw [sApp_k _ _ _ _ _ _ _ _ (k := 0) (by decide)]; omega)) rfl (Nat.le_of_ble_eq_true rfl) (Nat.le_of_ble_eq_true rfl) (by decide) (by omega) (by omega) (fun _ q => ?_) (fun _ _ q => by cases q.1) (fun _ _ q => by cases q.1)
          obtain ⟨-, I1, rfl, qI1, bI1⟩ := q
          have e9I : I1.1 (9, i, 0) 3 = S.1 (9, i, 0) 3 + 1 := by rw [qI1.1 (9, i, 0) rfl, (sInf_L _ i _).i (k := 9) (by decide), app_size]
          refine x_aload dX8_untell_39 rfl ?_
          refine x_get (v := xI (I1.1 (9, i, 0) 3)) dX8_untell_41 fl_RX8_92 (hp9 I1 (by omega) (by omega)) rfl ?_
          have f41_1 := wf9_3 bI1.1 (S := I1) (b := i) (by omega) (by omega)
          exact x_iret dX8_untell_44 rfl (Or.inl ⟨by omega, Or.inl ⟨by omega, Or.inl ⟨by omega, by rw [e9I], I1, rfl, qI1, bI1⟩⟩⟩)
        · exact XX.out rfl (by first | exact Or.inr ⟨by omega, pXi (QEq.rf S) hb⟩ | exact Or.inl ⟨by omega, Or.inr ⟨by omega, pXi (QEq.rf S) hb⟩⟩ | exact Or.inl ⟨by omega, Or.inl ⟨by omega, Or.inr ⟨by first | omega | assumption | exact fun z => z hRv, pXi (QEq.rf S) hb⟩⟩⟩ | exact Or.inl ⟨by omega, Or.inl ⟨by omega, Or.inl ⟨by first | omega | assumption, Or.inr ⟨by omega, pXi (QEq.rf S) hb⟩⟩⟩⟩)
      · exact XX.out rfl (by first | exact Or.inr ⟨by omega, pXi (QEq.rf S) hb⟩ | exact Or.inl ⟨by omega, Or.inr ⟨by omega, pXi (QEq.rf S) hb⟩⟩ | exact Or.inl ⟨by omega, Or.inl ⟨by omega, Or.inr ⟨by first | omega | assumption | exact fun z => z hRv, pXi (QEq.rf S) hb⟩⟩⟩ | exact Or.inl ⟨by omega, Or.inl ⟨by omega, Or.inl ⟨by first | omega | assumption, Or.inr ⟨by omega, pXi (QEq.rf S) hb⟩⟩⟩⟩)
    · exact XX.out rfl (by first | exact Or.inr ⟨by omega, pXi (QEq.rf S) hb⟩ | exact Or.inl ⟨by omega, Or.inr ⟨by omega, pXi (QEq.rf S) hb⟩⟩ | exact Or.inl ⟨by omega, Or.inl ⟨by omega, Or.inr ⟨by first | omega | assumption | exact fun z => z hRv, pXi (QEq.rf S) hb⟩⟩⟩ | exact Or.inl ⟨by omega, Or.inl ⟨by omega, Or.inl ⟨by first | omega | assumption, Or.inr ⟨by omega, pXi (QEq.rf S) hb⟩⟩⟩⟩)
  · exact XX.out rfl (by first | exact Or.inr ⟨by omega, pXi (QEq.rf S) hb⟩ | exact Or.inl ⟨by omega, Or.inr ⟨by omega, pXi (QEq.rf S) hb⟩⟩ | exact Or.inl ⟨by omega, Or.inl ⟨by omega, Or.inr ⟨by first | omega | assumption | exact fun z => z hRv, pXi (QEq.rf S) hb⟩⟩⟩ | exact Or.inl ⟨by omega, Or.inl ⟨by omega, Or.inl ⟨by first | omega | assumption, Or.inr ⟨by omega, pXi (QEq.rf S) hb⟩⟩⟩⟩)
set_option maxHeartbeats 4000000 in
set_option maxRecDepth 100000 in
theorem c_turn9 (S : XS) (hb : CB S) (i r z : Int) (zi : zR i) (zr : zR r) (hz1 : z = 0 ∨ z = 1) (hcap : S.1 (9, i, 0) 3 < 60 → CapOk (sTurn S i r z) i) : X mX8_turn 0 (xEnt mX8_turn [xR (0, 0, 0), xI i, xI r, xI z]) [] (hp S) 6 36 (pOr ((0 ≤ i ∧ i < S.1 (0, 0, 0) 6) ∧ 0 ≤ r ∧ r < S.1 (4, 0, 0) 2) (pOr ((z ≠ 0 → CanOn S r (onN S.1 i (S.1 (9, i, 0) 3).toNat))) (pOr (S.1 (9, i, 0) 3 < 60) (pN (sInf (sTurn S i r z) i (S.1 (0, 0, 0) 7).toNat) (some (xI (S.1 (9, i, 0) 3 + 1)))) (pX S "java/lang/IllegalStateException")) (pX S "java/lang/UnsupportedOperationException")) (pX S "java/lang/IndexOutOfBoundsException")) := by
  have hw := hb.1
  have hn6 := wf0_6 hw
  have h93 : 0 ≤ i → i < S.1 (0, 0, 0) 6 → 0 ≤ S.1 (9, i, 0) 3 ∧ S.1 (9, i, 0) 3 ≤ 60 := fun a b => wf9_3 hw a (by omega)
  have hn7 := wf0_7 hw
  have hn4 := wf4_2 hw
  have zi2 := zi
  unfold zR at zi2
  have zr2 := zr
  unfold zR at zr2
  show X mX8_turn 0 [xR (0, 0, 0), xI i, xI r, xI z, none, none] [] (hp S) 6 36 _
  refine x_aload_n dX8_turn_0 rfl ?_
  refine x_iload_n dX8_turn_1 rfl ?_
  refine x_callV_t (a := 1) (b := 6) (as := [xI i]) (rest := []) ok_X8_branchAt dX8_turn_2 wd511 ⟨wd513, wd6⟩ (hp0 S) rfl rfl (c_branchAt S hb.1 i (by first | exact hz _ _ | exact hw.1 _ _ | exact zR_of _ | exact bI_z _ | assumption | exact ⟨by omega, by omega⟩)) rfl (Nat.le_of_ble_eq_true rfl) (Nat.le_of_ble_eq_true rfl) (by decide) (by omega) (by omega) (fun t2 => ?_) (fun t2 => ?_)
  · refine x_astore (L' := [xR (0, 0, 0), xI i, xI r, xI z, xR (9, i, 0), none]) dX8_turn_5 (by decide) rfl ?_
    refine x_aload_n dX8_turn_7 rfl ?_
    refine x_iload_n dX8_turn_8 rfl ?_
    refine x_callV_t (a := 1) (b := 6) (as := [xI r]) (rest := []) ok_X8_ruleAt dX8_turn_9 wd675 ⟨wd677, wd9⟩ (hp0 S) rfl rfl (c_ruleAt S hb.1 r (by first | exact hz _ _ | exact hw.1 _ _ | exact zR_of _ | exact bI_z _ | assumption | exact ⟨by omega, by omega⟩)) rfl (Nat.le_of_ble_eq_true rfl) (Nat.le_of_ble_eq_true rfl) (by decide) (by omega) (by omega) (fun t9 => ?_) (fun t9 => ?_)
    · refine x_astore (L' := [xR (0, 0, 0), xI i, xI r, xI z, xR (9, i, 0), xR (34, r, 0)]) dX8_turn_12 (by decide) rfl ?_
      refine x_iload_n dX8_turn_14 rfl ?_
      refine x_if_eq (tgt := 49) dX8_turn_15 (by decide) (by first | exact hz _ _ | exact hw.1 _ _ | exact zR_of _ | exact bI_z _ | assumption | exact ⟨by omega, by omega⟩) (fun c15 => ?_) (fun c15 => ?_)
      · refine x_aload dX8_turn_49 rfl ?_
        refine x_callS_tv (a := 1) (b := 6) (as := [xR (9, i, 0)]) (rest := []) ok_X8_checkRoom dX8_turn_51 wd578 wd579 (c_checkRoom S hb.1 i (by omega) (by omega)  ) rfl (Nat.le_of_ble_eq_true rfl) (Nat.le_of_ble_eq_true rfl) (by decide) (by omega) (by omega) (fun t51 => ?_) (fun t51 => ?_)
        · refine x_aload dX8_turn_54 rfl ?_
          refine x_aload dX8_turn_56 rfl ?_
          refine x_get (v := xI (S.1 (34, r, 0) 5)) dX8_turn_58 fl_RX8_124 (hp34 S (by omega) (by omega)) rfl ?_
          have f58_1 := wf34_5 hb.1 (S := S) (b := r) (by omega) (by omega)
          refine x_if_ne (tgt := 68) dX8_turn_61 (by decide) (by first | exact hz _ _ | exact hw.1 _ _ | exact zR_of _ | exact bI_z _ | assumption | exact ⟨by omega, by omega⟩) (fun c61 => ?_) (fun c61 => ?_)
          · refine x_iconst dX8_turn_68 ?_
            refine x_goto (tgt := 73) dX8_turn_69 (by decide) ?_
            refine x_top (show 1 = wasV S r z from by unfold wasV; first | (exfalso; omega) | rw [if_pos (by omega)] | rw [if_neg (by omega)]) ?_
            refine x_put dX8_turn_73 fl_RX8_124 (fun r hr => by cases hr; rfl) (hp34 S (by omega) (by omega)) (xfit_z (by first | exact hz1 | (unfold wasV; split <;> omega) | omega)) (Nat.le_of_ble_eq_true rfl) rfl ?_
            refine x_heq (pu34_5 S (by omega) (by omega) (wasV S r z)) ?_
            have hw73_2 : WI (putI S (34, r, 0) 5 (wasV S r z)) := wp34_5 hb.1 (by omega) (by omega) (by first | exact hz1 | (unfold wasV; split <;> omega) | omega)
            refine x_heq (show hp (sWas S r (wasV S r z)) = hp (putI S (34, r, 0) 5 (wasV S r z)) from rfl) ?_
            refine x_aload dX8_turn_76 rfl ?_
            refine x_iconst dX8_turn_78 ?_
            refine x_iload_n dX8_turn_79 rfl ?_
            refine x_iload_n dX8_turn_80 rfl ?_
            refine x_iconst dX8_turn_81 ?_
            refine x_iconst dX8_turn_82 ?_
            refine x_iconst dX8_turn_83 ?_
            refine x_callV_v (a := 0) (b := 0) (as := [xI 1, xI z, xI r, xI 0, xI 0, xI (-1)]) (rest := []) ok_X0_append dX8_turn_84 wd601 ⟨wd602, wd603⟩ (hp9 (sWas S r (wasV S r z)) (by omega) (by omega)) rfl rfl (c_append (sWas S r (wasV S r z)) (hb.was (r := r) (by omega) (by omega) (wasV_or (z := z) hb.1 (by omega) (by omega))).1 i (by omega) (by omega) (by rw [was_9 _ _ _ 9 _ _ (by decide)]; omega) 1 z r 0 0 (-1) (Or.inr rfl) hz1 (by omega) (by omega) (by omega) (by omega)) rfl (Nat.le_of_ble_eq_true rfl) (Nat.le_of_ble_eq_true rfl) (by decide) (by omega) (by omega) ?_
            refine x_aload_n dX8_turn_87 rfl ?_
            refine x_iload_n dX8_turn_88 rfl ?_
            refine x_callV (a := 0) (b := 0) (as := [xI i]) (rest := []) ok_X8_inform dX8_turn_89 wd611 ⟨wd613, wd8⟩ (hp0 (sTurn S i r z)) rfl rfl (c_inform (sTurn S i r z) (hb.turn (by omega) (by omega) (by omega) (by omega) (by omega) hz1 (fun k => absurd k (by omega))) i (by omega) (by unfold sTurn; rw [sApp_k _ _ _ _ _ _ _ _ (k := 0) (by decide), was_9 _ _ _ 0 _ _ (by decide)]; omega) ((hcap (by omega))) (S.1 (0, 0, 0) 7).toNat (by unfold sTurn; rw [sApp_k _ _ _ _ _ _ _ _ (k := 0) (by decide), was_9 _ _ _ 0 _ _ (by decide)]; omega)) rfl (Nat.le_of_ble_eq_true rfl) (Nat.le_of_ble_eq_true rfl) (by decide) (by omega) (by omega) (fun _ q => ?_) (fun _ _ q => by cases q.1) (fun _ _ q => by cases q.1)
            obtain ⟨-, I1, rfl, qI1, bI1⟩ := q
            have e9I : I1.1 (9, i, 0) 3 = S.1 (9, i, 0) 3 + 1 := by rw [qI1.1 (9, i, 0) rfl, (sInf_L _ i _).i (k := 9) (by decide)]; unfold sTurn; rw [app_size, was_9 _ _ _ 9 _ _ (by decide)]
            have qfin : QEq (sInf (sTurn S i r z) i (S.1 (0, 0, 0) 7).toNat) I1 := qI1
            refine x_aload dX8_turn_92 rfl ?_
            refine x_get (v := xI (I1.1 (9, i, 0) 3)) dX8_turn_94 fl_RX8_92 (hp9 I1 (by omega) (by omega)) rfl ?_
            have f94_3 := wf9_3 bI1.1 (S := I1) (b := i) (by omega) (by omega)
            exact x_iret dX8_turn_97 rfl (Or.inl ⟨by omega, Or.inl ⟨by first | exact fun _ => hC | (intro k; exfalso; omega), Or.inl ⟨by omega, by rw [e9I], I1, rfl, qfin, bI1⟩⟩⟩)
          · refine x_iload_n dX8_turn_64 rfl ?_
            refine x_if_eq (tgt := 72) dX8_turn_65 (by decide) (by first | exact hz _ _ | exact hw.1 _ _ | exact zR_of _ | exact bI_z _ | assumption | exact ⟨by omega, by omega⟩) (fun c65 => ?_) (fun c65 => ?_)
            · refine x_iconst dX8_turn_72 ?_
              refine x_top (show 0 = wasV S r z from by unfold wasV; first | (exfalso; omega) | rw [if_pos (by omega)] | rw [if_neg (by omega)]) ?_
              refine x_put dX8_turn_73 fl_RX8_124 (fun r hr => by cases hr; rfl) (hp34 S (by omega) (by omega)) (xfit_z (by first | exact hz1 | (unfold wasV; split <;> omega) | omega)) (Nat.le_of_ble_eq_true rfl) rfl ?_
              refine x_heq (pu34_5 S (by omega) (by omega) (wasV S r z)) ?_
              have hw73_4 : WI (putI S (34, r, 0) 5 (wasV S r z)) := wp34_5 hb.1 (by omega) (by omega) (by first | exact hz1 | (unfold wasV; split <;> omega) | omega)
              refine x_heq (show hp (sWas S r (wasV S r z)) = hp (putI S (34, r, 0) 5 (wasV S r z)) from rfl) ?_
              refine x_aload dX8_turn_76 rfl ?_
              refine x_iconst dX8_turn_78 ?_
              refine x_iload_n dX8_turn_79 rfl ?_
              refine x_iload_n dX8_turn_80 rfl ?_
              refine x_iconst dX8_turn_81 ?_
              refine x_iconst dX8_turn_82 ?_
              refine x_iconst dX8_turn_83 ?_
              refine x_callV_v (a := 0) (b := 0) (as := [xI 1, xI z, xI r, xI 0, xI 0, xI (-1)]) (rest := []) ok_X0_append dX8_turn_84 wd601 ⟨wd602, wd603⟩ (hp9 (sWas S r (wasV S r z)) (by omega) (by omega)) rfl rfl (c_append (sWas S r (wasV S r z)) (hb.was (r := r) (by omega) (by omega) (wasV_or (z := z) hb.1 (by omega) (by omega))).1 i (by omega) (by omega) (by rw [was_9 _ _ _ 9 _ _ (by decide)]; omega) 1 z r 0 0 (-1) (Or.inr rfl) hz1 (by omega) (by omega) (by omega) (by omega)) rfl (Nat.le_of_ble_eq_true rfl) (Nat.le_of_ble_eq_true rfl) (by decide) (by omega) (by omega) ?_
              refine x_aload_n dX8_turn_87 rfl ?_
              refine x_iload_n dX8_turn_88 rfl ?_
              refine x_callV (a := 0) (b := 0) (as := [xI i]) (rest := []) ok_X8_inform dX8_turn_89 wd611 ⟨wd613, wd8⟩ (hp0 (sTurn S i r z)) rfl rfl (c_inform (sTurn S i r z) (hb.turn (by omega) (by omega) (by omega) (by omega) (by omega) hz1 (fun k => absurd k (by omega))) i (by omega) (by unfold sTurn; rw [sApp_k _ _ _ _ _ _ _ _ (k := 0) (by decide), was_9 _ _ _ 0 _ _ (by decide)]; omega) ((hcap (by omega))) (S.1 (0, 0, 0) 7).toNat (by unfold sTurn; rw [sApp_k _ _ _ _ _ _ _ _ (k := 0) (by decide), was_9 _ _ _ 0 _ _ (by decide)]; omega)) rfl (Nat.le_of_ble_eq_true rfl) (Nat.le_of_ble_eq_true rfl) (by decide) (by omega) (by omega) (fun _ q => ?_) (fun _ _ q => by cases q.1) (fun _ _ q => by cases q.1)
              obtain ⟨-, I1, rfl, qI1, bI1⟩ := q
              have e9I : I1.1 (9, i, 0) 3 = S.1 (9, i, 0) 3 + 1 := by rw [qI1.1 (9, i, 0) rfl, (sInf_L _ i _).i (k := 9) (by decide)]; unfold sTurn; rw [app_size, was_9 _ _ _ 9 _ _ (by decide)]
              have qfin : QEq (sInf (sTurn S i r z) i (S.1 (0, 0, 0) 7).toNat) I1 := qI1
              refine x_aload dX8_turn_92 rfl ?_
              refine x_get (v := xI (I1.1 (9, i, 0) 3)) dX8_turn_94 fl_RX8_92 (hp9 I1 (by omega) (by omega)) rfl ?_
              have f94_5 := wf9_3 bI1.1 (S := I1) (b := i) (by omega) (by omega)
              exact x_iret dX8_turn_97 rfl (Or.inl ⟨by omega, Or.inl ⟨by first | exact fun _ => hC | (intro k; exfalso; omega), Or.inl ⟨by omega, by rw [e9I], I1, rfl, qfin, bI1⟩⟩⟩)
            · refine x_iconst dX8_turn_68 ?_
              refine x_goto (tgt := 73) dX8_turn_69 (by decide) ?_
              refine x_top (show 1 = wasV S r z from by unfold wasV; first | (exfalso; omega) | rw [if_pos (by omega)] | rw [if_neg (by omega)]) ?_
              refine x_put dX8_turn_73 fl_RX8_124 (fun r hr => by cases hr; rfl) (hp34 S (by omega) (by omega)) (xfit_z (by first | exact hz1 | (unfold wasV; split <;> omega) | omega)) (Nat.le_of_ble_eq_true rfl) rfl ?_
              refine x_heq (pu34_5 S (by omega) (by omega) (wasV S r z)) ?_
              have hw73_6 : WI (putI S (34, r, 0) 5 (wasV S r z)) := wp34_5 hb.1 (by omega) (by omega) (by first | exact hz1 | (unfold wasV; split <;> omega) | omega)
              refine x_heq (show hp (sWas S r (wasV S r z)) = hp (putI S (34, r, 0) 5 (wasV S r z)) from rfl) ?_
              refine x_aload dX8_turn_76 rfl ?_
              refine x_iconst dX8_turn_78 ?_
              refine x_iload_n dX8_turn_79 rfl ?_
              refine x_iload_n dX8_turn_80 rfl ?_
              refine x_iconst dX8_turn_81 ?_
              refine x_iconst dX8_turn_82 ?_
              refine x_iconst dX8_turn_83 ?_
              refine x_callV_v (a := 0) (b := 0) (as := [xI 1, xI z, xI r, xI 0, xI 0, xI (-1)]) (rest := []) ok_X0_append dX8_turn_84 wd601 ⟨wd602, wd603⟩ (hp9 (sWas S r (wasV S r z)) (by omega) (by omega)) rfl rfl (c_append (sWas S r (wasV S r z)) (hb.was (r := r) (by omega) (by omega) (wasV_or (z := z) hb.1 (by omega) (by omega))).1 i (by omega) (by omega) (by rw [was_9 _ _ _ 9 _ _ (by decide)]; omega) 1 z r 0 0 (-1) (Or.inr rfl) hz1 (by omega) (by omega) (by omega) (by omega)) rfl (Nat.le_of_ble_eq_true rfl) (Nat.le_of_ble_eq_true rfl) (by decide) (by omega) (by omega) ?_
              refine x_aload_n dX8_turn_87 rfl ?_
              refine x_iload_n dX8_turn_88 rfl ?_
              refine x_callV (a := 0) (b := 0) (as := [xI i]) (rest := []) ok_X8_inform dX8_turn_89 wd611 ⟨wd613, wd8⟩ (hp0 (sTurn S i r z)) rfl rfl (c_inform (sTurn S i r z) (hb.turn (by omega) (by omega) (by omega) (by omega) (by omega) hz1 (fun k => absurd k (by omega))) i (by omega) (by unfold sTurn; rw [sApp_k _ _ _ _ _ _ _ _ (k := 0) (by decide), was_9 _ _ _ 0 _ _ (by decide)]; omega) ((hcap (by omega))) (S.1 (0, 0, 0) 7).toNat (by unfold sTurn; rw [sApp_k _ _ _ _ _ _ _ _ (k := 0) (by decide), was_9 _ _ _ 0 _ _ (by decide)]; omega)) rfl (Nat.le_of_ble_eq_true rfl) (Nat.le_of_ble_eq_true rfl) (by decide) (by omega) (by omega) (fun _ q => ?_) (fun _ _ q => by cases q.1) (fun _ _ q => by cases q.1)
              obtain ⟨-, I1, rfl, qI1, bI1⟩ := q
              have e9I : I1.1 (9, i, 0) 3 = S.1 (9, i, 0) 3 + 1 := by rw [qI1.1 (9, i, 0) rfl, (sInf_L _ i _).i (k := 9) (by decide)]; unfold sTurn; rw [app_size, was_9 _ _ _ 9 _ _ (by decide)]
              have qfin : QEq (sInf (sTurn S i r z) i (S.1 (0, 0, 0) 7).toNat) I1 := qI1
              refine x_aload dX8_turn_92 rfl ?_
              refine x_get (v := xI (I1.1 (9, i, 0) 3)) dX8_turn_94 fl_RX8_92 (hp9 I1 (by omega) (by omega)) rfl ?_
              have f94_7 := wf9_3 bI1.1 (S := I1) (b := i) (by omega) (by omega)
              exact x_iret dX8_turn_97 rfl (Or.inl ⟨by omega, Or.inl ⟨by first | exact fun _ => hC | (intro k; exfalso; omega), Or.inl ⟨by omega, by rw [e9I], I1, rfl, qfin, bI1⟩⟩⟩)
        · exact XX.out rfl (by first | exact Or.inr ⟨by omega, pXi (QEq.rf S) hb⟩ | exact Or.inl ⟨by omega, Or.inr ⟨fun k => hC (k (by omega)), pXi (QEq.rf S) hb⟩⟩ | exact Or.inl ⟨by omega, Or.inl ⟨by first | exact fun _ => hC | (intro k; exfalso; omega), Or.inr ⟨by omega, pXi (QEq.rf S) hb⟩⟩⟩)
      · refine x_aload_n dX8_turn_18 rfl ?_
        refine x_get (v := xR (4, 0, 0)) dX8_turn_19 fl_RX8_28 (hp0 S) rfl ?_
        refine x_iload_n dX8_turn_22 rfl ?_
        refine x_aload dX8_turn_23 rfl ?_
        refine x_aload dX8_turn_25 rfl ?_
        refine x_get (v := xI (S.1 (9, i, 0) 3)) dX8_turn_27 fl_RX8_92 (hp9 S (by omega) (by omega)) rfl ?_
        have f27_8 := wf9_3 hb.1 (S := S) (b := i) (by omega) (by omega)
        refine x_callV_r (a := 0) (b := 0) (as := [xI (S.1 (9, i, 0) 3)]) (rest := [xI r, xR (4, 0, 0)]) ok_X0_rulesOn dX8_turn_30 wd688 ⟨wd363, wd364⟩ (hp9 S (by omega) (by omega)) rfl rfl (x_nat (e := (S.1 (9, i, 0) 3)) (by omega) (fun n => X mX0_rulesOn 0 (xEnt mX0_rulesOn [xR (9, i, 0), xI n]) [] (hp S) 0 0 (pRet (xI (onN S.1 i ((S.1 (9, i, 0) 3).toNat))) (hp S))) (c_rulesOn S hb.1 i (by omega) (by omega) ((S.1 (9, i, 0) 3).toNat) (by omega))) rfl (Nat.le_of_ble_eq_true rfl) (Nat.le_of_ble_eq_true rfl) (by decide) (by omega) (by omega) ?_
        refine x_callV (a := 0) (b := 0) (as := [xI r, xI (onN S.1 i ((S.1 (9, i, 0) 3).toNat))]) (rest := []) ok_X5_canBeOn dX8_turn_33 wd689 ⟨wd690, wd691⟩ (hp4 S) rfl rfl (c_canBeOn S hb.1 r (onN S.1 i ((S.1 (9, i, 0) 3).toNat)) (by omega) (by omega)) rfl (Nat.le_of_ble_eq_true rfl) (Nat.le_of_ble_eq_true rfl) (by decide) (by omega) (by omega) (fun _ q => by obtain ⟨_, _, _, ⟨q, _⟩ | ⟨q, _⟩⟩ := q <;> cases q) (fun _ _ q => ?_) (fun _ _ q => by obtain ⟨_, _, _, ⟨q, _⟩ | ⟨q, _⟩⟩ := q <;> cases q)
        obtain ⟨gC, gO, rfl, hC⟩ := q
        have qV1 := QEq.row33 S gC 6
        have bV1 := CB.row33 hb gO
        generalize rowI S (33, 0, 0) gC 6 = V1 at qV1 bV1 ⊢
        have eV6 := congrFun (qV1.1 (0, 0, 0) rfl) 6
        have eV7 := congrFun (qV1.1 (0, 0, 0) rfl) 7
        have eV9 := congrFun (qV1.1 (9, i, 0) rfl) 3
        have eV4 := congrFun (qV1.1 (4, 0, 0) rfl) 2
        have eV5 := congrFun (qV1.1 (34, r, 0) rfl) 5
        rcases hC with ⟨y, hC⟩ | ⟨y, hC⟩ <;> cases y
        · skip
          refine x_if_ne (tgt := 49) dX8_turn_36 (by decide) ⟨by decide, by decide⟩ (fun _ => ?_) (fun z => absurd z (by decide))
          refine x_aload dX8_turn_49 rfl ?_
          refine x_callS_tv (a := 1) (b := 6) (as := [xR (9, i, 0)]) (rest := []) ok_X8_checkRoom dX8_turn_51 wd578 wd579 (c_checkRoom V1 bV1.1 i (by omega) (by omega)  ) rfl (Nat.le_of_ble_eq_true rfl) (Nat.le_of_ble_eq_true rfl) (by decide) (by omega) (by omega) (fun t51 => ?_) (fun t51 => ?_)
          · refine x_aload dX8_turn_54 rfl ?_
            refine x_aload dX8_turn_56 rfl ?_
            refine x_get (v := xI (V1.1 (34, r, 0) 5)) dX8_turn_58 fl_RX8_124 (hp34 V1 (by omega) (by omega)) rfl ?_
            have f58_9 := wf34_5 bV1.1 (S := V1) (b := r) (by omega) (by omega)
            refine x_if_ne (tgt := 68) dX8_turn_61 (by decide) (by first | exact hz _ _ | exact hw.1 _ _ | exact zR_of _ | exact bI_z _ | assumption | exact ⟨by omega, by omega⟩) (fun c61 => ?_) (fun c61 => ?_)
            · refine x_iconst dX8_turn_68 ?_
              refine x_goto (tgt := 73) dX8_turn_69 (by decide) ?_
              refine x_top (show 1 = wasV V1 r z from by unfold wasV; first | (exfalso; omega) | rw [if_pos (by omega)] | rw [if_neg (by omega)]) ?_
              refine x_put dX8_turn_73 fl_RX8_124 (fun r hr => by cases hr; rfl) (hp34 V1 (by omega) (by omega)) (xfit_z (by first | exact hz1 | (unfold wasV; split <;> omega) | omega)) (Nat.le_of_ble_eq_true rfl) rfl ?_
              refine x_heq (pu34_5 V1 (by omega) (by omega) (wasV V1 r z)) ?_
              have hw73_10 : WI (putI V1 (34, r, 0) 5 (wasV V1 r z)) := wp34_5 bV1.1 (by omega) (by omega) (by first | exact hz1 | (unfold wasV; split <;> omega) | omega)
              refine x_heq (show hp (sWas V1 r (wasV V1 r z)) = hp (putI V1 (34, r, 0) 5 (wasV V1 r z)) from rfl) ?_
              refine x_aload dX8_turn_76 rfl ?_
              refine x_iconst dX8_turn_78 ?_
              refine x_iload_n dX8_turn_79 rfl ?_
              refine x_iload_n dX8_turn_80 rfl ?_
              refine x_iconst dX8_turn_81 ?_
              refine x_iconst dX8_turn_82 ?_
              refine x_iconst dX8_turn_83 ?_
              refine x_callV_v (a := 0) (b := 0) (as := [xI 1, xI z, xI r, xI 0, xI 0, xI (-1)]) (rest := []) ok_X0_append dX8_turn_84 wd601 ⟨wd602, wd603⟩ (hp9 (sWas V1 r (wasV V1 r z)) (by omega) (by omega)) rfl rfl (c_append (sWas V1 r (wasV V1 r z)) (bV1.was (r := r) (by omega) (by omega) (wasV_or (z := z) bV1.1 (by omega) (by omega))).1 i (by omega) (by omega) (by rw [was_9 _ _ _ 9 _ _ (by decide)]; omega) 1 z r 0 0 (-1) (Or.inr rfl) hz1 (by omega) (by omega) (by omega) (by omega)) rfl (Nat.le_of_ble_eq_true rfl) (Nat.le_of_ble_eq_true rfl) (by decide) (by omega) (by omega) ?_
              refine x_aload_n dX8_turn_87 rfl ?_
              refine x_iload_n dX8_turn_88 rfl ?_
              refine x_callV (a := 0) (b := 0) (as := [xI i]) (rest := []) ok_X8_inform dX8_turn_89 wd611 ⟨wd613, wd8⟩ (hp0 (sTurn V1 i r z)) rfl rfl (c_inform (sTurn V1 i r z) (bV1.turn (by omega) (by omega) (by omega) (by omega) (by omega) hz1 (fun _ => by rw [qV1.onN, qV1.1 (9, i, 0) rfl]; exact qV1.can hC)) i (by omega) (by unfold sTurn; rw [sApp_k _ _ _ _ _ _ _ _ (k := 0) (by decide), was_9 _ _ _ 0 _ _ (by decide)]; omega) (((hcap (by omega)).q (qV1.turn i r z))) (S.1 (0, 0, 0) 7).toNat (by unfold sTurn; rw [sApp_k _ _ _ _ _ _ _ _ (k := 0) (by decide), was_9 _ _ _ 0 _ _ (by decide)]; omega)) rfl (Nat.le_of_ble_eq_true rfl) (Nat.le_of_ble_eq_true rfl) (by decide) (by omega) (by omega) (fun _ q => ?_) (fun _ _ q => by cases q.1) (fun _ _ q => by cases q.1)
              obtain ⟨-, I1, rfl, qI1, bI1⟩ := q
              have e9I : I1.1 (9, i, 0) 3 = S.1 (9, i, 0) 3 + 1 := by rw [qI1.1 (9, i, 0) rfl, (sInf_L _ i _).i (k := 9) (by decide)]; unfold sTurn; rw [app_size, was_9 _ _ _ 9 _ _ (by decide)]; omega
              have qfin : QEq (sInf (sTurn S i r z) i (S.1 (0, 0, 0) 7).toNat) I1 := ((qV1.turn i r z).inf i _).tr qI1
              refine x_aload dX8_turn_92 rfl ?_
              refine x_get (v := xI (I1.1 (9, i, 0) 3)) dX8_turn_94 fl_RX8_92 (hp9 I1 (by omega) (by omega)) rfl ?_
              have f94_11 := wf9_3 bI1.1 (S := I1) (b := i) (by omega) (by omega)
              exact x_iret dX8_turn_97 rfl (Or.inl ⟨by omega, Or.inl ⟨by first | exact fun _ => hC | (intro k; exfalso; omega), Or.inl ⟨by omega, by rw [e9I], I1, rfl, qfin, bI1⟩⟩⟩)
            · refine x_iload_n dX8_turn_64 rfl ?_
              refine x_if_eq (tgt := 72) dX8_turn_65 (by decide) (by first | exact hz _ _ | exact hw.1 _ _ | exact zR_of _ | exact bI_z _ | assumption | exact ⟨by omega, by omega⟩) (fun c65 => ?_) (fun c65 => ?_)
              · refine x_iconst dX8_turn_72 ?_
                refine x_top (show 0 = wasV V1 r z from by unfold wasV; first | (exfalso; omega) | rw [if_pos (by omega)] | rw [if_neg (by omega)]) ?_
                refine x_put dX8_turn_73 fl_RX8_124 (fun r hr => by cases hr; rfl) (hp34 V1 (by omega) (by omega)) (xfit_z (by first | exact hz1 | (unfold wasV; split <;> omega) | omega)) (Nat.le_of_ble_eq_true rfl) rfl ?_
                refine x_heq (pu34_5 V1 (by omega) (by omega) (wasV V1 r z)) ?_
                have hw73_12 : WI (putI V1 (34, r, 0) 5 (wasV V1 r z)) := wp34_5 bV1.1 (by omega) (by omega) (by first | exact hz1 | (unfold wasV; split <;> omega) | omega)
                refine x_heq (show hp (sWas V1 r (wasV V1 r z)) = hp (putI V1 (34, r, 0) 5 (wasV V1 r z)) from rfl) ?_
                refine x_aload dX8_turn_76 rfl ?_
                refine x_iconst dX8_turn_78 ?_
                refine x_iload_n dX8_turn_79 rfl ?_
                refine x_iload_n dX8_turn_80 rfl ?_
                refine x_iconst dX8_turn_81 ?_
                refine x_iconst dX8_turn_82 ?_
                refine x_iconst dX8_turn_83 ?_
                refine x_callV_v (a := 0) (b := 0) (as := [xI 1, xI z, xI r, xI 0, xI 0, xI (-1)]) (rest := []) ok_X0_append dX8_turn_84 wd601 ⟨wd602, wd603⟩ (hp9 (sWas V1 r (wasV V1 r z)) (by omega) (by omega)) rfl rfl (c_append (sWas V1 r (wasV V1 r z)) (bV1.was (r := r) (by omega) (by omega) (wasV_or (z := z) bV1.1 (by omega) (by omega))).1 i (by omega) (by omega) (by rw [was_9 _ _ _ 9 _ _ (by decide)]; omega) 1 z r 0 0 (-1) (Or.inr rfl) hz1 (by omega) (by omega) (by omega) (by omega)) rfl (Nat.le_of_ble_eq_true rfl) (Nat.le_of_ble_eq_true rfl) (by decide) (by omega) (by omega) ?_
                refine x_aload_n dX8_turn_87 rfl ?_
                refine x_iload_n dX8_turn_88 rfl ?_
                refine x_callV (a := 0) (b := 0) (as := [xI i]) (rest := []) ok_X8_inform dX8_turn_89 wd611 ⟨wd613, wd8⟩ (hp0 (sTurn V1 i r z)) rfl rfl (c_inform (sTurn V1 i r z) (bV1.turn (by omega) (by omega) (by omega) (by omega) (by omega) hz1 (fun _ => by rw [qV1.onN, qV1.1 (9, i, 0) rfl]; exact qV1.can hC)) i (by omega) (by unfold sTurn; rw [sApp_k _ _ _ _ _ _ _ _ (k := 0) (by decide), was_9 _ _ _ 0 _ _ (by decide)]; omega) (((hcap (by omega)).q (qV1.turn i r z))) (S.1 (0, 0, 0) 7).toNat (by unfold sTurn; rw [sApp_k _ _ _ _ _ _ _ _ (k := 0) (by decide), was_9 _ _ _ 0 _ _ (by decide)]; omega)) rfl (Nat.le_of_ble_eq_true rfl) (Nat.le_of_ble_eq_true rfl) (by decide) (by omega) (by omega) (fun _ q => ?_) (fun _ _ q => by cases q.1) (fun _ _ q => by cases q.1)
                obtain ⟨-, I1, rfl, qI1, bI1⟩ := q
                have e9I : I1.1 (9, i, 0) 3 = S.1 (9, i, 0) 3 + 1 := by rw [qI1.1 (9, i, 0) rfl, (sInf_L _ i _).i (k := 9) (by decide)]; unfold sTurn; rw [app_size, was_9 _ _ _ 9 _ _ (by decide)]; omega
                have qfin : QEq (sInf (sTurn S i r z) i (S.1 (0, 0, 0) 7).toNat) I1 := ((qV1.turn i r z).inf i _).tr qI1
                refine x_aload dX8_turn_92 rfl ?_
                refine x_get (v := xI (I1.1 (9, i, 0) 3)) dX8_turn_94 fl_RX8_92 (hp9 I1 (by omega) (by omega)) rfl ?_
                have f94_13 := wf9_3 bI1.1 (S := I1) (b := i) (by omega) (by omega)
                exact x_iret dX8_turn_97 rfl (Or.inl ⟨by omega, Or.inl ⟨by first | exact fun _ => hC | (intro k; exfalso; omega), Or.inl ⟨by omega, by rw [e9I], I1, rfl, qfin, bI1⟩⟩⟩)
              · refine x_iconst dX8_turn_68 ?_
                refine x_goto (tgt := 73) dX8_turn_69 (by decide) ?_
                refine x_top (show 1 = wasV V1 r z from by unfold wasV; first | (exfalso; omega) | rw [if_pos (by omega)] | rw [if_neg (by omega)]) ?_
                refine x_put dX8_turn_73 fl_RX8_124 (fun r hr => by cases hr; rfl) (hp34 V1 (by omega) (by omega)) (xfit_z (by first | exact hz1 | (unfold wasV; split <;> omega) | omega)) (Nat.le_of_ble_eq_true rfl) rfl ?_
                refine x_heq (pu34_5 V1 (by omega) (by omega) (wasV V1 r z)) ?_
                have hw73_14 : WI (putI V1 (34, r, 0) 5 (wasV V1 r z)) := wp34_5 bV1.1 (by omega) (by omega) (by first | exact hz1 | (unfold wasV; split <;> omega) | omega)
                refine x_heq (show hp (sWas V1 r (wasV V1 r z)) = hp (putI V1 (34, r, 0) 5 (wasV V1 r z)) from rfl) ?_
                refine x_aload dX8_turn_76 rfl ?_
                refine x_iconst dX8_turn_78 ?_
                refine x_iload_n dX8_turn_79 rfl ?_
                refine x_iload_n dX8_turn_80 rfl ?_
                refine x_iconst dX8_turn_81 ?_
                refine x_iconst dX8_turn_82 ?_
                refine x_iconst dX8_turn_83 ?_
                refine x_callV_v (a := 0) (b := 0) (as := [xI 1, xI z, xI r, xI 0, xI 0, xI (-1)]) (rest := []) ok_X0_append dX8_turn_84 wd601 ⟨wd602, wd603⟩ (hp9 (sWas V1 r (wasV V1 r z)) (by omega) (by omega)) rfl rfl (c_append (sWas V1 r (wasV V1 r z)) (bV1.was (r := r) (by omega) (by omega) (wasV_or (z := z) bV1.1 (by omega) (by omega))).1 i (by omega) (by omega) (by rw [was_9 _ _ _ 9 _ _ (by decide)]; omega) 1 z r 0 0 (-1) (Or.inr rfl) hz1 (by omega) (by omega) (by omega) (by omega)) rfl (Nat.le_of_ble_eq_true rfl) (Nat.le_of_ble_eq_true rfl) (by decide) (by omega) (by omega) ?_
                refine x_aload_n dX8_turn_87 rfl ?_
                refine x_iload_n dX8_turn_88 rfl ?_
                refine x_callV (a := 0) (b := 0) (as := [xI i]) (rest := []) ok_X8_inform dX8_turn_89 wd611 ⟨wd613, wd8⟩ (hp0 (sTurn V1 i r z)) rfl rfl (c_inform (sTurn V1 i r z) (bV1.turn (by omega) (by omega) (by omega) (by omega) (by omega) hz1 (fun _ => by rw [qV1.onN, qV1.1 (9, i, 0) rfl]; exact qV1.can hC)) i (by omega) (by unfold sTurn; rw [sApp_k _ _ _ _ _ _ _ _ (k := 0) (by decide), was_9 _ _ _ 0 _ _ (by decide)]; omega) (((hcap (by omega)).q (qV1.turn i r z))) (S.1 (0, 0, 0) 7).toNat (by unfold sTurn; rw [sApp_k _ _ _ _ _ _ _ _ (k := 0) (by decide), was_9 _ _ _ 0 _ _ (by decide)]; omega)) rfl (Nat.le_of_ble_eq_true rfl) (Nat.le_of_ble_eq_true rfl) (by decide) (by omega) (by omega) (fun _ q => ?_) (fun _ _ q => by cases q.1) (fun _ _ q => by cases q.1)
                obtain ⟨-, I1, rfl, qI1, bI1⟩ := q
                have e9I : I1.1 (9, i, 0) 3 = S.1 (9, i, 0) 3 + 1 := by rw [qI1.1 (9, i, 0) rfl, (sInf_L _ i _).i (k := 9) (by decide)]; unfold sTurn; rw [app_size, was_9 _ _ _ 9 _ _ (by decide)]; omega
                have qfin : QEq (sInf (sTurn S i r z) i (S.1 (0, 0, 0) 7).toNat) I1 := ((qV1.turn i r z).inf i _).tr qI1
                refine x_aload dX8_turn_92 rfl ?_
                refine x_get (v := xI (I1.1 (9, i, 0) 3)) dX8_turn_94 fl_RX8_92 (hp9 I1 (by omega) (by omega)) rfl ?_
                have f94_15 := wf9_3 bI1.1 (S := I1) (b := i) (by omega) (by omega)
                exact x_iret dX8_turn_97 rfl (Or.inl ⟨by omega, Or.inl ⟨by first | exact fun _ => hC | (intro k; exfalso; omega), Or.inl ⟨by omega, by rw [e9I], I1, rfl, qfin, bI1⟩⟩⟩)
          · exact XX.out rfl (by first | exact Or.inr ⟨by omega, pXi qV1 bV1⟩ | exact Or.inl ⟨by omega, Or.inr ⟨fun k => hC (k (by omega)), pXi qV1 bV1⟩⟩ | exact Or.inl ⟨by omega, Or.inl ⟨by first | exact fun _ => hC | (intro k; exfalso; omega), Or.inr ⟨by omega, pXi qV1 bV1⟩⟩⟩)
        · skip
          refine x_if_ne (tgt := 49) dX8_turn_36 (by decide) ⟨by decide, by decide⟩ (fun z => absurd z (by decide)) (fun _ => ?_)
          exact x_throw (thr_RX8_74_139_78) rfl dX8_turn_39 dX8_turn_42 (Or.inl ⟨dX8_turn_43, dX8_turn_45, dX8_turn_48⟩) (by decide) (Nat.le_of_ble_eq_true rfl) (by omega) (by omega) (by first | exact Or.inr ⟨by omega, pXi qV1 bV1⟩ | exact Or.inl ⟨by omega, Or.inr ⟨fun k => hC (k (by omega)), pXi qV1 bV1⟩⟩ | exact Or.inl ⟨by omega, Or.inl ⟨by first | exact fun _ => hC | (intro k; exfalso; omega), Or.inr ⟨by omega, pXi qV1 bV1⟩⟩⟩)
    · exact XX.out rfl (by first | exact Or.inr ⟨by omega, pXi (QEq.rf S) hb⟩ | exact Or.inl ⟨by omega, Or.inr ⟨fun k => hC (k (by omega)), pXi (QEq.rf S) hb⟩⟩ | exact Or.inl ⟨by omega, Or.inl ⟨by first | exact fun _ => hC | (intro k; exfalso; omega), Or.inr ⟨by omega, pXi (QEq.rf S) hb⟩⟩⟩)
  · exact XX.out rfl (by first | exact Or.inr ⟨by omega, pXi (QEq.rf S) hb⟩ | exact Or.inl ⟨by omega, Or.inr ⟨fun k => hC (k (by omega)), pXi (QEq.rf S) hb⟩⟩ | exact Or.inl ⟨by omega, Or.inl ⟨by first | exact fun _ => hC | (intro k; exfalso; omega), Or.inr ⟨by omega, pXi (QEq.rf S) hb⟩⟩⟩)

