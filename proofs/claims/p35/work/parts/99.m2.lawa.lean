/-! p35: the law: its leaves -/
set_option maxHeartbeats 4000000 in
set_option maxRecDepth 100000 in
theorem c_cell (S : XS) (hw : WI S) (hn : S.2.2.2.2.2 < 1000000) (i : Int) (i0 : 0 ≤ i) (i1 : i < 1000000) : X mL_cell 0 (xEnt mL_cell [xR (99, 0, 0), xI i]) [] (hp S) 0 0 (pEx (fun _ => True) (hp S)) := by
  have hz := hw.1
  show X mL_cell 0 [xR (99, 0, 0), xI i, none] [] (hp S) 0 0 _
  refine x_ldc (v := 69069) dL_cell_0 wd830 ?_
  refine x_iload_n dL_cell_2 rfl ?_
  refine x_aload_n dL_cell_3 rfl ?_
  refine x_lens dL_cell_4 (hp99 S) rfl (by omega) ?_
  refine x_icmp_ge (tgt := 14) dL_cell_5 (by decide) (by first | exact hz _ _ | exact hw.1 _ _ | exact zR_of _ | exact bI_z _ | assumption | exact ⟨by omega, by omega⟩) (by first | exact hz _ _ | exact hw.1 _ _ | exact zR_of _ | exact bI_z _ | assumption | exact ⟨by omega, by omega⟩) (fun c5 => ?_) (fun c5 => ?_)
  · refine x_iconst dL_cell_14 ?_
    refine x_sipush (v := 1009) dL_cell_15 (by decide) ?_
    refine x_iload_n dL_cell_18 rfl ?_
    refine x_imul dL_cell_19 ?_
    refine x_iadd dL_cell_20 ?_
    refine x_imul dL_cell_21 ?_
    refine x_sipush (v := 12345) dL_cell_22 (by decide) ?_
    refine x_iadd dL_cell_25 ?_
    refine x_istore_n (L' := [xR (99, 0, 0), xI i, xI ((69069 * (0 + (1009 * i))) + 12345)]) dL_cell_26 (by decide) rfl ?_
    refine x_iload_n dL_cell_27 rfl ?_
    refine x_iload_n dL_cell_28 rfl ?_
    refine x_bipush (v := 13) dL_cell_29 (by decide) ?_
    refine x_iushr dL_cell_31 ?_
    refine x_ixor dL_cell_32 ?_
    refine x_ldc (v := 1103515245) dL_cell_33 wd831 ?_
    refine x_imul dL_cell_35 ?_
    refine x_istore_n (L' := [xR (99, 0, 0), xI i, xI ((zXor ((69069 * (0 + (1009 * i))) + 12345) (zUshr ((69069 * (0 + (1009 * i))) + 12345) 13)) * 1103515245)]) dL_cell_36 (by decide) rfl ?_
    refine x_iload_n dL_cell_37 rfl ?_
    refine x_iload_n dL_cell_38 rfl ?_
    refine x_bipush (v := 16) dL_cell_39 (by decide) ?_
    refine x_iushr dL_cell_41 ?_
    refine x_ixor dL_cell_42 ?_
    exact x_iret dL_cell_43 rfl ⟨_, trivial, rfl, rfl⟩
  · refine x_aload_n dL_cell_8 rfl ?_
    refine x_iload_n dL_cell_9 rfl ?_
    refine x_alds dL_cell_10 (hp99 S) rfl (by omega) (by omega) (by omega) ?_
    refine x_goto (tgt := 15) dL_cell_11 (by decide) ?_
    refine x_sipush (v := 1009) dL_cell_15 (by decide) ?_
    refine x_iload_n dL_cell_18 rfl ?_
    refine x_imul dL_cell_19 ?_
    refine x_iadd dL_cell_20 ?_
    refine x_imul dL_cell_21 ?_
    refine x_sipush (v := 12345) dL_cell_22 (by decide) ?_
    refine x_iadd dL_cell_25 ?_
    refine x_istore_n (L' := [xR (99, 0, 0), xI i, xI ((69069 * ((S.1 (99, 0, 0) i) + (1009 * i))) + 12345)]) dL_cell_26 (by decide) rfl ?_
    refine x_iload_n dL_cell_27 rfl ?_
    refine x_iload_n dL_cell_28 rfl ?_
    refine x_bipush (v := 13) dL_cell_29 (by decide) ?_
    refine x_iushr dL_cell_31 ?_
    refine x_ixor dL_cell_32 ?_
    refine x_ldc (v := 1103515245) dL_cell_33 wd831 ?_
    refine x_imul dL_cell_35 ?_
    refine x_istore_n (L' := [xR (99, 0, 0), xI i, xI ((zXor ((69069 * ((S.1 (99, 0, 0) i) + (1009 * i))) + 12345) (zUshr ((69069 * ((S.1 (99, 0, 0) i) + (1009 * i))) + 12345) 13)) * 1103515245)]) dL_cell_36 (by decide) rfl ?_
    refine x_iload_n dL_cell_37 rfl ?_
    refine x_iload_n dL_cell_38 rfl ?_
    refine x_bipush (v := 16) dL_cell_39 (by decide) ?_
    refine x_iushr dL_cell_41 ?_
    refine x_ixor dL_cell_42 ?_
    exact x_iret dL_cell_43 rfl ⟨_, trivial, rfl, rfl⟩
set_option maxHeartbeats 4000000 in
set_option maxRecDepth 100000 in
theorem c_in (S : XS) (hw : WI S) (hn : S.2.2.2.2.2 < 1000000) (i n : Int) (i0 : 0 ≤ i) (i1 : i < 1000000) (n0 : 1 ≤ n) (n1 : n < 1000000) : X mL_in 0 (xEnt mL_in [xR (99, 0, 0), xI i, xI n]) [] (hp S) 0 0 (pEx (fun v => 0 ≤ v ∧ v < n) (hp S)) := by
  show X mL_in 0 [xR (99, 0, 0), xI i, xI n] [] (hp S) 0 0 _
  refine x_aload_n dL_in_0 rfl ?_
  refine x_iload_n dL_in_1 rfl ?_
  refine x_callS (a := 0) (b := 0) (as := [xR (99, 0, 0), xI i]) (rest := []) ok_L_cell dL_in_2 wd827 wd828 (c_cell S hw hn i (by omega) (by omega)) rfl (Nat.le_of_ble_eq_true rfl) (Nat.le_of_ble_eq_true rfl) (by decide) (by omega) (by omega) (fun _ q => by obtain ⟨_, _, q, _⟩ := q; cases q) (fun _ _ q => ?_) (fun _ _ q => by obtain ⟨_, _, q, _⟩ := q; cases q)
  obtain ⟨v, -, y, rfl⟩ := q
  cases y
  refine x_ldc (v := 2147483647) dL_in_5 wd832 ?_
  have zm := zAnd_max v
  refine x_iand dL_in_7 ?_
  refine x_iload_n dL_in_8 rfl ?_
  refine x_irem dL_in_9 (by omega) (by omega) (by omega) (by omega) ?_
  exact x_iret dL_in_10 rfl ⟨_, ⟨Int.emod_nonneg _ (by omega), Int.emod_lt_of_pos _ (by omega)⟩, rfl, rfl⟩
set_option maxHeartbeats 4000000 in
set_option maxRecDepth 100000 in
theorem c_anyFact (S : XS) (hw : WI S) (hn : S.2.2.2.2.2 < 1000000) (i : Int) (i0 : 0 ≤ i) (i1 : i < 900000) : X mL_anyFact 0 (xEnt mL_anyFact [xR (99, 0, 0), xI i]) [] (hp S) 0 0 (pEx (fun v => 0 ≤ v ∧ v < 384) (hp S)) := by
  show X mL_anyFact 0 [xR (99, 0, 0), xI i] [] (hp S) 0 0 _
  refine x_bipush (v := 64) dL_anyFact_0 (by decide) ?_
  refine x_aload_n dL_anyFact_2 rfl ?_
  refine x_iload_n dL_anyFact_3 rfl ?_
  refine x_iconst dL_anyFact_4 ?_
  refine x_callS (a := 0) (b := 0) (as := [xR (99, 0, 0), xI i, xI 4]) (rest := [xI 64]) ok_L_in dL_anyFact_5 wd824 wd825 (c_in S hw hn i 4 (by omega) (by omega) (by omega) (by omega)) rfl (Nat.le_of_ble_eq_true rfl) (Nat.le_of_ble_eq_true rfl) (by decide) (by omega) (by omega) (fun _ q => by obtain ⟨_, _, q, _⟩ := q; cases q) (fun _ _ q => ?_) (fun _ _ q => by obtain ⟨_, _, q, _⟩ := q; cases q)
  obtain ⟨v5, hv5, y, rfl⟩ := q
  cases y
  refine x_imul dL_anyFact_8 ?_
  refine x_bipush (v := 8) dL_anyFact_9 (by decide) ?_
  refine x_aload_n dL_anyFact_11 rfl ?_
  refine x_iload_n dL_anyFact_12 rfl ?_
  refine x_iconst dL_anyFact_13 ?_
  refine x_iadd dL_anyFact_14 ?_
  refine x_iconst dL_anyFact_15 ?_
  refine x_callS (a := 0) (b := 0) (as := [xR (99, 0, 0), xI (i + 1), xI 4]) (rest := [xI 8, xI (64 * v5)]) ok_L_in dL_anyFact_16 wd824 wd825 (c_in S hw hn (i + 1) 4 (by omega) (by omega) (by omega) (by omega)) rfl (Nat.le_of_ble_eq_true rfl) (Nat.le_of_ble_eq_true rfl) (by decide) (by omega) (by omega) (fun _ q => by obtain ⟨_, _, q, _⟩ := q; cases q) (fun _ _ q => ?_) (fun _ _ q => by obtain ⟨_, _, q, _⟩ := q; cases q)
  obtain ⟨v16, hv16, y, rfl⟩ := q
  cases y
  refine x_imul dL_anyFact_19 ?_
  refine x_iadd dL_anyFact_20 ?_
  refine x_aload_n dL_anyFact_21 rfl ?_
  refine x_iload_n dL_anyFact_22 rfl ?_
  refine x_iconst dL_anyFact_23 ?_
  refine x_iadd dL_anyFact_24 ?_
  refine x_iconst dL_anyFact_25 ?_
  refine x_callS (a := 0) (b := 0) (as := [xR (99, 0, 0), xI (i + 2), xI 4]) (rest := [xI ((64 * v5) + (8 * v16))]) ok_L_in dL_anyFact_26 wd824 wd825 (c_in S hw hn (i + 2) 4 (by omega) (by omega) (by omega) (by omega)) rfl (Nat.le_of_ble_eq_true rfl) (Nat.le_of_ble_eq_true rfl) (by decide) (by omega) (by omega) (fun _ q => by obtain ⟨_, _, q, _⟩ := q; cases q) (fun _ _ q => ?_) (fun _ _ q => by obtain ⟨_, _, q, _⟩ := q; cases q)
  obtain ⟨v26, hv26, y, rfl⟩ := q
  cases y
  refine x_iadd dL_anyFact_29 ?_
  exact x_iret dL_anyFact_30 rfl ⟨_, by omega, rfl, rfl⟩
set_option maxHeartbeats 4000000 in
set_option maxRecDepth 100000 in
theorem c_at (S : XS) (k : Int) : X mL_at 0 (xEnt mL_at [xI 0, xI k]) [] (hp S) 0 0 (pRet (xI (100 + 6 * k)) (hp S)) := by
  show X mL_at 0 [xI 0, xI k] [] (hp S) 0 0 _
  refine x_bipush (v := 100) dL_at_0 (by decide) ?_
  refine x_bipush (v := 6) dL_at_2 (by decide) ?_
  refine x_bipush (v := 60) dL_at_4 (by decide) ?_
  refine x_iload_n dL_at_6 rfl ?_
  refine x_imul dL_at_7 ?_
  refine x_iload_n dL_at_8 rfl ?_
  refine x_iadd dL_at_9 ?_
  refine x_imul dL_at_10 ?_
  refine x_iadd dL_at_11 ?_
  exact x_iret dL_at_12 rfl (pRI (by omega))
set_option maxHeartbeats 4000000 in
set_option maxRecDepth 100000 in
theorem l_isToldN (C S : XS) (hC : WI C) (hw : WI S) (ht : NT C S) (n : Nat) (hn : (n : Int) ≤ C.1 (9, 0, 0) 3) (t x : Int) (zt : zR t) (x0 : 0 ≤ x) (x1 : x < 384) : ∀ (nn : Nat) (i : Nat), (i : Int) < (nn : Int) → (i ≤ n) → X mL_isTold 5 [xR (50, 0, 0), xI 0, xI (n : Int), xI t, xI x, xI ((i : Int) - 1), none] [] (hp S) 0 0 (pRet (xI (bI (sB (toldN C.1 0 t i) x))) (hp S)) := by
  intro nn
  induction nn with
  | zero => intro i hm hi; exfalso; omega
  | succ nn ih =>
    intro i hm hi
    have hz := hw.1
    have c9 := wf9_3 hC (b := 0) (by omega) (by omega)
    refine x_iload dL_isTold_5 rfl ?_
    refine x_if_lt (tgt := 86) dL_isTold_7 (by decide) (by first | exact hz _ _ | exact hw.1 _ _ | exact zR_of _ | exact bI_z _ | assumption | exact ⟨by omega, by omega⟩) (fun c7 => ?_) (fun c7 => ?_)
    · refine x_iconst dL_isTold_86 ?_
      exact x_zret dL_isTold_87 rfl (Or.inl rfl) (pRI (bI_f (by rw [show i = 0 by omega]; exact told_0 C.1 t x0)).symm)
    · have ti := ht.2 ((i : Int) - 1) (by omega) (by omega)
      have f0 := wf13_0 hC (b := 0) (t := (i : Int) - 1) (by omega) (by omega) (by omega) (by omega)
      have f1 := wf13_1 hC (b := 0) (t := (i : Int) - 1) (by omega) (by omega) (by omega) (by omega)
      have tb := told_back hC t i (by omega) (by omega) x0 x1
      refine x_iload_n dL_isTold_10 rfl ?_
      refine x_iload dL_isTold_11 rfl ?_
      refine x_callS_r (a := 0) (b := 0) (as := [xI 0, xI ((i : Int) - 1)]) (rest := []) ok_L_at dL_isTold_13 wd836 wd837 (c_at S ((i : Int) - 1)) rfl (Nat.le_of_ble_eq_true rfl) (Nat.le_of_ble_eq_true rfl) (by decide) (by omega) (by omega) ?_
      refine x_istore (L' := [xR (50, 0, 0), xI 0, xI (n : Int), xI t, xI x, xI ((i : Int) - 1), xI (100 + 6 * ((i : Int) - 1))]) dL_isTold_16 (by decide) rfl ?_
      refine x_aload_n dL_isTold_18 rfl ?_
      refine x_iload dL_isTold_19 rfl ?_
      refine x_aldi (f := S.1 (50, 0, 0)) dL_isTold_21 (hp50 S) (show (50 : Nat) ≠ 99 by decide) (by omega) (by omega) (by decide) ?_
      refine x_iconst dL_isTold_22 ?_
      refine x_icmp_ge (tgt := 80) dL_isTold_23 (by decide) (by first | exact hz _ _ | exact hw.1 _ _ | exact zR_of _ | exact bI_z _ | assumption | exact ⟨by omega, by omega⟩) ⟨by decide, by decide⟩ (fun c23 => ?_) (fun c23 => ?_)
      · refine x_iinc (L' := [xR (50, 0, 0), xI 0, xI (n : Int), xI t, xI x, xI (((i : Int) - 1) + (-1)), xI (100 + 6 * ((i : Int) - 1))]) dL_isTold_80 rfl rfl ?_
        refine x_goto (tgt := 5) dL_isTold_83 (by decide) ?_
        refine X.loc (L' := [xR (50, 0, 0), xI 0, xI (n : Int), xI t, xI x, xI (((i : Int) - 1) + (-1)), none]) ⟨rfl, ⟨rfl, ⟨rfl, ⟨rfl, ⟨rfl, ⟨rfl, trivial⟩⟩⟩⟩⟩⟩ ?_
        have kk := ih (i - 1) (by omega) (by omega)
        rw [show ((i - 1 : Nat) : Int) - 1 = (i : Int) - 1 + (-1) by omega, ← bI_c (tb.trans (by rw [if_neg (by omega)]))] at kk
        exact kk
      · refine x_aload_n dL_isTold_26 rfl ?_
        refine x_iload dL_isTold_27 rfl ?_
        refine x_iconst dL_isTold_29 ?_
        refine x_iadd dL_isTold_30 ?_
        refine x_aldi (f := S.1 (50, 0, 0)) dL_isTold_31 (hp50 S) (show (50 : Nat) ≠ 99 by decide) (by omega) (by omega) (by decide) ?_
        refine x_iload dL_isTold_32 rfl ?_
        refine x_icmp_ne (tgt := 80) dL_isTold_34 (by decide) (by first | exact hz _ _ | exact hw.1 _ _ | exact zR_of _ | exact bI_z _ | assumption | exact ⟨by omega, by omega⟩) (by first | exact hz _ _ | exact hw.1 _ _ | exact zR_of _ | exact bI_z _ | assumption | exact ⟨by omega, by omega⟩) (fun c34 => ?_) (fun c34 => ?_)
        · refine x_iinc (L' := [xR (50, 0, 0), xI 0, xI (n : Int), xI t, xI x, xI (((i : Int) - 1) + (-1)), xI (100 + 6 * ((i : Int) - 1))]) dL_isTold_80 rfl rfl ?_
          refine x_goto (tgt := 5) dL_isTold_83 (by decide) ?_
          refine X.loc (L' := [xR (50, 0, 0), xI 0, xI (n : Int), xI t, xI x, xI (((i : Int) - 1) + (-1)), none]) ⟨rfl, ⟨rfl, ⟨rfl, ⟨rfl, ⟨rfl, ⟨rfl, trivial⟩⟩⟩⟩⟩⟩ ?_
          have kk := ih (i - 1) (by omega) (by omega)
          rw [show ((i - 1 : Nat) : Int) - 1 = (i : Int) - 1 + (-1) by omega, ← bI_c (tb.trans (by rw [if_neg (by omega)]))] at kk
          exact kk
        · refine x_aload_n dL_isTold_37 rfl ?_
          refine x_iload dL_isTold_38 rfl ?_
          refine x_iconst dL_isTold_40 ?_
          refine x_iadd dL_isTold_41 ?_
          refine x_aldi (f := S.1 (50, 0, 0)) dL_isTold_42 (hp50 S) (show (50 : Nat) ≠ 99 by decide) (by omega) (by omega) (by decide) ?_
          refine x_iload_n dL_isTold_43 rfl ?_
          refine x_icmp_gt (tgt := 80) dL_isTold_44 (by decide) (by first | exact hz _ _ | exact hw.1 _ _ | exact zR_of _ | exact bI_z _ | assumption | exact ⟨by omega, by omega⟩) (by first | exact hz _ _ | exact hw.1 _ _ | exact zR_of _ | exact bI_z _ | assumption | exact ⟨by omega, by omega⟩) (fun c44 => ?_) (fun c44 => ?_)
          · refine x_iinc (L' := [xR (50, 0, 0), xI 0, xI (n : Int), xI t, xI x, xI (((i : Int) - 1) + (-1)), xI (100 + 6 * ((i : Int) - 1))]) dL_isTold_80 rfl rfl ?_
            refine x_goto (tgt := 5) dL_isTold_83 (by decide) ?_
            refine X.loc (L' := [xR (50, 0, 0), xI 0, xI (n : Int), xI t, xI x, xI (((i : Int) - 1) + (-1)), none]) ⟨rfl, ⟨rfl, ⟨rfl, ⟨rfl, ⟨rfl, ⟨rfl, trivial⟩⟩⟩⟩⟩⟩ ?_
            have kk := ih (i - 1) (by omega) (by omega)
            rw [show ((i - 1 : Nat) : Int) - 1 = (i : Int) - 1 + (-1) by omega, ← bI_c (tb.trans (by rw [if_neg (by omega)]))] at kk
            exact kk
          · refine x_iload_n dL_isTold_47 rfl ?_
            refine x_aload_n dL_isTold_48 rfl ?_
            refine x_iload dL_isTold_49 rfl ?_
            refine x_iconst dL_isTold_51 ?_
            refine x_iadd dL_isTold_52 ?_
            refine x_aldi (f := S.1 (50, 0, 0)) dL_isTold_53 (hp50 S) (show (50 : Nat) ≠ 99 by decide) (by omega) (by omega) (by decide) ?_
            refine x_icmp_gt (tgt := 80) dL_isTold_54 (by decide) (by first | exact hz _ _ | exact hw.1 _ _ | exact zR_of _ | exact bI_z _ | assumption | exact ⟨by omega, by omega⟩) (by first | exact hz _ _ | exact hw.1 _ _ | exact zR_of _ | exact bI_z _ | assumption | exact ⟨by omega, by omega⟩) (fun c54 => ?_) (fun c54 => ?_)
            · refine x_iinc (L' := [xR (50, 0, 0), xI 0, xI (n : Int), xI t, xI x, xI (((i : Int) - 1) + (-1)), xI (100 + 6 * ((i : Int) - 1))]) dL_isTold_80 rfl rfl ?_
              refine x_goto (tgt := 5) dL_isTold_83 (by decide) ?_
              refine X.loc (L' := [xR (50, 0, 0), xI 0, xI (n : Int), xI t, xI x, xI (((i : Int) - 1) + (-1)), none]) ⟨rfl, ⟨rfl, ⟨rfl, ⟨rfl, ⟨rfl, ⟨rfl, trivial⟩⟩⟩⟩⟩⟩ ?_
              have kk := ih (i - 1) (by omega) (by omega)
              rw [show ((i - 1 : Nat) : Int) - 1 = (i : Int) - 1 + (-1) by omega, ← bI_c (tb.trans (by rw [if_neg (by omega)]))] at kk
              exact kk
            · refine x_aload_n dL_isTold_57 rfl ?_
              refine x_iload dL_isTold_58 rfl ?_
              refine x_iconst dL_isTold_60 ?_
              refine x_iadd dL_isTold_61 ?_
              refine x_aldi (f := S.1 (50, 0, 0)) dL_isTold_62 (hp50 S) (show (50 : Nat) ≠ 99 by decide) (by omega) (by omega) (by decide) ?_
              refine x_if_ne (tgt := 80) dL_isTold_63 (by decide) (by first | exact hz _ _ | exact hw.1 _ _ | exact zR_of _ | exact bI_z _ | assumption | exact ⟨by omega, by omega⟩) (fun c63 => ?_) (fun c63 => ?_)
              · refine x_iinc (L' := [xR (50, 0, 0), xI 0, xI (n : Int), xI t, xI x, xI (((i : Int) - 1) + (-1)), xI (100 + 6 * ((i : Int) - 1))]) dL_isTold_80 rfl rfl ?_
                refine x_goto (tgt := 5) dL_isTold_83 (by decide) ?_
                refine X.loc (L' := [xR (50, 0, 0), xI 0, xI (n : Int), xI t, xI x, xI (((i : Int) - 1) + (-1)), none]) ⟨rfl, ⟨rfl, ⟨rfl, ⟨rfl, ⟨rfl, ⟨rfl, trivial⟩⟩⟩⟩⟩⟩ ?_
                have kk := ih (i - 1) (by omega) (by omega)
                rw [show ((i - 1 : Nat) : Int) - 1 = (i : Int) - 1 + (-1) by omega, ← bI_c (tb.trans (by rw [if_neg (by omega)]))] at kk
                exact kk
              · refine x_aload_n dL_isTold_66 rfl ?_
                refine x_iload dL_isTold_67 rfl ?_
                refine x_aldi (f := S.1 (50, 0, 0)) dL_isTold_69 (hp50 S) (show (50 : Nat) ≠ 99 by decide) (by omega) (by omega) (by decide) ?_
                refine x_iconst dL_isTold_70 ?_
                refine x_icmp_ne (tgt := 78) dL_isTold_71 (by decide) (by first | exact hz _ _ | exact hw.1 _ _ | exact zR_of _ | exact bI_z _ | assumption | exact ⟨by omega, by omega⟩) ⟨by decide, by decide⟩ (fun c71 => ?_) (fun c71 => ?_)
                · refine x_iconst dL_isTold_78 ?_
                  exact x_zret dL_isTold_79 rfl (Or.inl rfl) (pRI (bI_f (by rw [tb, if_pos (by omega)]; omega)).symm)
                · refine x_iconst dL_isTold_74 ?_
                  refine x_goto (tgt := 79) dL_isTold_75 (by decide) ?_
                  exact x_zret dL_isTold_79 rfl (Or.inr rfl) (pRI (bI_t (by rw [tb, if_pos (by omega)]; omega)).symm)
set_option maxHeartbeats 4000000 in
set_option maxRecDepth 100000 in
theorem c_isToldN (C S : XS) (hC : WI C) (hw : WI S) (ht : NT C S) (n : Nat) (hn : (n : Int) ≤ C.1 (9, 0, 0) 3) (t x : Int) (zt : zR t) (x0 : 0 ≤ x) (x1 : x < 384) : X mL_isTold 0 (xEnt mL_isTold [xR (50, 0, 0), xI 0, xI (n : Int), xI t, xI x]) [] (hp S) 0 0 (pRet (xI (bI (sB (toldN C.1 0 t n) x))) (hp S)) := by
  show X mL_isTold 0 [xR (50, 0, 0), xI 0, xI (n : Int), xI t, xI x, none, none] [] (hp S) 0 0 _
  refine x_iload_n dL_isTold_0 rfl ?_
  refine x_iconst dL_isTold_1 ?_
  refine x_isub dL_isTold_2 ?_
  refine x_istore (L' := [xR (50, 0, 0), xI 0, xI (n : Int), xI t, xI x, xI ((n : Int) - 1), none]) dL_isTold_3 (by decide) rfl ?_
  exact l_isToldN C S hC hw ht n hn t x zt x0 x1 (n + 1) n (by omega) (Nat.le_refl _)
set_option maxHeartbeats 4000000 in
set_option maxRecDepth 100000 in
theorem l_isRuledN (C S : XS) (hC : CB C) (hw : WI S) (ht : NT C S) (n : Nat) (hn : (n : Int) ≤ C.1 (9, 0, 0) 3) (r : Nat) (hr : r < 10) : ∀ (nn : Nat) (i : Nat), (i : Int) < (nn : Int) → (i ≤ n) → X mL_isRuled 5 [xR (50, 0, 0), xI 0, xI (n : Int), xI (r : Int), xI ((i : Int) - 1), none] [] (hp S) 0 0 (pRet (xI (bI (bitI (onN C.1 0 i) (r : Int)))) (hp S)) := by
  intro nn
  induction nn with
  | zero => intro i hm hi; exfalso; omega
  | succ nn ih =>
    intro i hm hi
    have hz := hw.1
    have c9 := wf9_3 hC.1 (b := 0) (by omega) (by omega)
    refine x_iload dL_isRuled_5 rfl ?_
    refine x_if_lt (tgt := 56) dL_isRuled_7 (by decide) (by first | exact hz _ _ | exact hw.1 _ _ | exact zR_of _ | exact bI_z _ | assumption | exact ⟨by omega, by omega⟩) (fun c7 => ?_) (fun c7 => ?_)
    · refine x_iconst dL_isRuled_56 ?_
      exact x_zret dL_isRuled_57 rfl (Or.inl rfl) (pRI (bI_f (by rw [show i = 0 by omega]; exact bitI_0 r (by omega))).symm)
    · have ti := ht.2 ((i : Int) - 1) (by omega) (by omega)
      have f0 := wf13_0 hC.1 (b := 0) (t := (i : Int) - 1) (by omega) (by omega) (by omega) (by omega)
      have f1 := wf13_1 hC.1 (b := 0) (t := (i : Int) - 1) (by omega) (by omega) (by omega) (by omega)
      have tb := on_back hC i (by omega) (by omega) r hr
      refine x_iload_n dL_isRuled_10 rfl ?_
      refine x_iload dL_isRuled_11 rfl ?_
      refine x_callS_r (a := 0) (b := 0) (as := [xI 0, xI ((i : Int) - 1)]) (rest := []) ok_L_at dL_isRuled_13 wd836 wd837 (c_at S ((i : Int) - 1)) rfl (Nat.le_of_ble_eq_true rfl) (Nat.le_of_ble_eq_true rfl) (by decide) (by omega) (by omega) ?_
      refine x_istore (L' := [xR (50, 0, 0), xI 0, xI (n : Int), xI (r : Int), xI ((i : Int) - 1), xI (100 + 6 * ((i : Int) - 1))]) dL_isRuled_16 (by decide) rfl ?_
      refine x_aload_n dL_isRuled_18 rfl ?_
      refine x_iload dL_isRuled_19 rfl ?_
      refine x_aldi (f := S.1 (50, 0, 0)) dL_isRuled_21 (hp50 S) (show (50 : Nat) ≠ 99 by decide) (by omega) (by omega) (by decide) ?_
      refine x_iconst dL_isRuled_22 ?_
      refine x_icmp_le (tgt := 50) dL_isRuled_23 (by decide) (by first | exact hz _ _ | exact hw.1 _ _ | exact zR_of _ | exact bI_z _ | assumption | exact ⟨by omega, by omega⟩) ⟨by decide, by decide⟩ (fun c23 => ?_) (fun c23 => ?_)
      · refine x_iinc (L' := [xR (50, 0, 0), xI 0, xI (n : Int), xI (r : Int), xI (((i : Int) - 1) + (-1)), xI (100 + 6 * ((i : Int) - 1))]) dL_isRuled_50 rfl rfl ?_
        refine x_goto (tgt := 5) dL_isRuled_53 (by decide) ?_
        refine X.loc (L' := [xR (50, 0, 0), xI 0, xI (n : Int), xI (r : Int), xI (((i : Int) - 1) + (-1)), none]) ⟨rfl, ⟨rfl, ⟨rfl, ⟨rfl, ⟨rfl, trivial⟩⟩⟩⟩⟩ ?_
        have kk := ih (i - 1) (by omega) (by omega)
        rw [show ((i - 1 : Nat) : Int) - 1 = (i : Int) - 1 + (-1) by omega, ← bI_c (tb.trans (by rw [if_neg (by omega)]))] at kk
        exact kk
      · refine x_aload_n dL_isRuled_26 rfl ?_
        refine x_iload dL_isRuled_27 rfl ?_
        refine x_iconst dL_isRuled_29 ?_
        refine x_iadd dL_isRuled_30 ?_
        refine x_aldi (f := S.1 (50, 0, 0)) dL_isRuled_31 (hp50 S) (show (50 : Nat) ≠ 99 by decide) (by omega) (by omega) (by decide) ?_
        refine x_iload_n dL_isRuled_32 rfl ?_
        refine x_icmp_ne (tgt := 50) dL_isRuled_33 (by decide) (by first | exact hz _ _ | exact hw.1 _ _ | exact zR_of _ | exact bI_z _ | assumption | exact ⟨by omega, by omega⟩) (by first | exact hz _ _ | exact hw.1 _ _ | exact zR_of _ | exact bI_z _ | assumption | exact ⟨by omega, by omega⟩) (fun c33 => ?_) (fun c33 => ?_)
        · refine x_iinc (L' := [xR (50, 0, 0), xI 0, xI (n : Int), xI (r : Int), xI (((i : Int) - 1) + (-1)), xI (100 + 6 * ((i : Int) - 1))]) dL_isRuled_50 rfl rfl ?_
          refine x_goto (tgt := 5) dL_isRuled_53 (by decide) ?_
          refine X.loc (L' := [xR (50, 0, 0), xI 0, xI (n : Int), xI (r : Int), xI (((i : Int) - 1) + (-1)), none]) ⟨rfl, ⟨rfl, ⟨rfl, ⟨rfl, ⟨rfl, trivial⟩⟩⟩⟩⟩ ?_
          have kk := ih (i - 1) (by omega) (by omega)
          rw [show ((i - 1 : Nat) : Int) - 1 = (i : Int) - 1 + (-1) by omega, ← bI_c (tb.trans (by rw [if_neg (by omega)]))] at kk
          exact kk
        · refine x_aload_n dL_isRuled_36 rfl ?_
          refine x_iload dL_isRuled_37 rfl ?_
          refine x_aldi (f := S.1 (50, 0, 0)) dL_isRuled_39 (hp50 S) (show (50 : Nat) ≠ 99 by decide) (by omega) (by omega) (by decide) ?_
          refine x_iconst dL_isRuled_40 ?_
          refine x_icmp_ne (tgt := 48) dL_isRuled_41 (by decide) (by first | exact hz _ _ | exact hw.1 _ _ | exact zR_of _ | exact bI_z _ | assumption | exact ⟨by omega, by omega⟩) ⟨by decide, by decide⟩ (fun c41 => ?_) (fun c41 => ?_)
          · refine x_iconst dL_isRuled_48 ?_
            exact x_zret dL_isRuled_49 rfl (Or.inl rfl) (pRI (bI_f (by rw [tb, if_pos (by omega)]; omega)).symm)
          · refine x_iconst dL_isRuled_44 ?_
            refine x_goto (tgt := 49) dL_isRuled_45 (by decide) ?_
            exact x_zret dL_isRuled_49 rfl (Or.inr rfl) (pRI (bI_t (by rw [tb, if_pos (by omega)]; omega)).symm)
set_option maxHeartbeats 4000000 in
set_option maxRecDepth 100000 in
theorem c_isRuledN (C S : XS) (hC : CB C) (hw : WI S) (ht : NT C S) (n : Nat) (hn : (n : Int) ≤ C.1 (9, 0, 0) 3) (r : Nat) (hr : r < 10) : X mL_isRuled 0 (xEnt mL_isRuled [xR (50, 0, 0), xI 0, xI (n : Int), xI (r : Int)]) [] (hp S) 0 0 (pRet (xI (bI (bitI (onN C.1 0 n) (r : Int)))) (hp S)) := by
  show X mL_isRuled 0 [xR (50, 0, 0), xI 0, xI (n : Int), xI (r : Int), none, none] [] (hp S) 0 0 _
  refine x_iload_n dL_isRuled_0 rfl ?_
  refine x_iconst dL_isRuled_1 ?_
  refine x_isub dL_isRuled_2 ?_
  refine x_istore (L' := [xR (50, 0, 0), xI 0, xI (n : Int), xI (r : Int), xI ((n : Int) - 1), none]) dL_isRuled_3 (by decide) rfl ?_
  exact l_isRuledN C S hC hw ht n hn r hr (n + 1) n (by omega) (Nat.le_refl _)
