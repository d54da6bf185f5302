/-! misfit, heads -/
set_option maxHeartbeats 4000000 in
set_option maxRecDepth 100000 in
theorem l_misfit26 (S : XS) (hw : WI S) (r : Int) (h1 : 0 ≤ r) (h2 : r < 10) (hr : RuleOk S.1 r) (w : Int) (g1 : 0 ≤ w) (g2 : w ≤ 511) (hz0 : zAnd w (S.1 (34, r, 0) 4) = 0) (n : Nat) (hn : S.1 (34, r, 0) 2 = n) : ∀ (nn : Nat) (i : Nat), (n : Int) - i < (nn : Int) → (i ≤ n) → (∀ j : Nat, j < i → condOk S.1 (S.2.1 (26, 0, 0)) (S.2.1 (26, 0, 0)) r j w) → X mX4_misfit 44 [xR (34, r, 0), xI w, xR (26, 0, 0), xR (26, 0, 0), xI (zAnd w (S.1 (34, r, 0) 4)), xI (i : Int), none, none, none, none] [] (hp S) 0 0 (pMis S.1 (S.2.1 (26, 0, 0)) (S.2.1 (26, 0, 0)) r w (hp S)) := by
  intro nn
  induction nn with
  | zero => intro i hm hi hj; exfalso; omega
  | succ nn ih =>
    intro i hm hi hj
    have hwz : zR w := ⟨by omega, by omega⟩
    refine x_iload dX4_misfit_44 rfl ?_
    refine x_aload_n dX4_misfit_46 rfl ?_
    refine x_get (v := xI (S.1 (34, r, 0) 2)) dX4_misfit_47 fl_RX4_22 (hp34 S (by omega) (by omega)) rfl ?_
    have f47_1 := wf34_2 hw (S := S) (b := r) (by omega) (by omega)
    refine x_icmp_ge (tgt := 134) dX4_misfit_50 (by decide) (by first | exact hz _ _ | exact hw.1 _ _ | exact zR_of _ | assumption | exact ⟨by omega, by omega⟩) (by first | exact hz _ _ | exact hw.1 _ _ | exact zR_of _ | assumption | exact ⟨by omega, by omega⟩) (fun c50 => ?_) (fun c50 => ?_)
    · refine x_iconst dX4_misfit_134 ?_
      exact x_iret dX4_misfit_135 rfl (mis_3 ⟨hz0, fun j q => hj j (by omega)⟩)
    · refine x_aload_n dX4_misfit_53 rfl ?_
      refine x_get (v := xR (35, r, 0)) dX4_misfit_54 fl_RX4_18 (hp34 S (by omega) (by omega)) rfl ?_
      refine x_iload dX4_misfit_57 rfl ?_
      refine x_alda (l2 := (36, r, (i : Int))) dX4_misfit_59 (hp35 S (by omega) (by omega)) (show (35 : Nat) ≠ 99 by decide) (by decide) (by decide) (by omega) (by omega) (by decide) rfl ?_
      refine x_astore (L' := [xR (34, r, 0), xI w, xR (26, 0, 0), xR (26, 0, 0), xI (zAnd w (S.1 (34, r, 0) 4)), xI (i : Int), xR (36, r, (i : Int)), none, none, none]) dX4_misfit_60 (by decide) rfl ?_
      refine x_aload dX4_misfit_62 rfl ?_
      refine x_get (v := xI (S.1 (36, r, (i : Int)) 1)) dX4_misfit_64 fl_RX4_44 (hp36 S (by omega) (by omega) (by omega) (by omega)) rfl ?_
      have f64_2 := wf36_1 hw (S := S) (b := r) (t := (i : Int)) (by omega) (by omega) (by omega) (by omega)
      refine x_if_eq (tgt := 80) dX4_misfit_67 (by decide) (by first | exact hz _ _ | exact hw.1 _ _ | exact zR_of _ | assumption | exact ⟨by omega, by omega⟩) (fun c67 => ?_) (fun c67 => ?_)
      · refine x_aload_n dX4_misfit_80 rfl ?_
        refine x_aload dX4_misfit_81 rfl ?_
        refine x_get (v := xI (S.1 (36, r, (i : Int)) 0)) dX4_misfit_83 fl_RX4_47 (hp36 S (by omega) (by omega) (by omega) (by omega)) rfl ?_
        have f83_3 := wf36_0 hw (S := S) (b := r) (t := (i : Int)) (by omega) (by omega) (by omega) (by omega)
        refine x_aldj (f := S.2.1 (26, 0, 0)) dX4_misfit_86 (hp26 S) (show (26 : Nat) ≠ 99 by decide) (by omega) (by omega) (by decide) ?_
        refine x_lstore (L' := [xR (34, r, 0), xI w, xR (26, 0, 0), xR (26, 0, 0), xI (zAnd w (S.1 (34, r, 0) 4)), xI (i : Int), xR (36, r, (i : Int)), xJ (S.2.1 (26, 0, 0) (S.1 (36, r, (i : Int)) 0)), none, none]) dX4_misfit_87 (by decide) rfl ?_
        refine x_lload dX4_misfit_89 rfl ?_
        refine x_aload dX4_misfit_91 rfl ?_
        refine x_iload_n dX4_misfit_93 rfl ?_
        refine x_callV_r (a := 0) (b := 0) (as := [xI w]) (rest := [xJ (S.2.1 (26, 0, 0) (S.1 (36, r, (i : Int)) 0))]) ok_X2_pairOf dX4_misfit_94 wd404 ⟨wd405, wd406⟩ (hp36 S (by omega) (by omega) (by omega) (by omega)) rfl rfl (c_pairOf36 S hw r (i : Int) (by omega) (by omega) (by omega) (by omega) w) rfl (Nat.le_of_ble_eq_true rfl) (Nat.le_of_ble_eq_true rfl) (by decide) (by omega) (by omega) ?_
        refine x_lushr dX4_misfit_97 ?_
        refine x_lconst (v := 1) dX4_misfit_98 (by decide) ?_
        refine x_land dX4_misfit_99 ?_
        refine x_lconst (v := 0) dX4_misfit_100 (by decide) ?_
        refine x_lcmp dX4_misfit_101 ?_
        refine x_if_eq (tgt := 109) dX4_misfit_102 (by decide) (by first | exact hz _ _ | exact hw.1 _ _ | exact zR_of _ | assumption | exact ⟨by omega, by omega⟩) (fun c102 => ?_) (fun c102 => ?_)
        · refine x_iconst dX4_misfit_109 ?_
          refine x_istore (L' := [xR (34, r, 0), xI w, xR (26, 0, 0), xR (26, 0, 0), xI (zAnd w (S.1 (34, r, 0) 4)), xI (i : Int), xR (36, r, (i : Int)), xJ (S.2.1 (26, 0, 0) (S.1 (36, r, (i : Int)) 0)), none, xI 0]) dX4_misfit_110 (by decide) rfl ?_
          refine x_iload dX4_misfit_112 rfl ?_
          refine x_aload dX4_misfit_114 rfl ?_
          refine x_get (v := xI (S.1 (36, r, (i : Int)) 1)) dX4_misfit_116 fl_RX4_44 (hp36 S (by omega) (by omega) (by omega) (by omega)) rfl ?_
          have f116_4 := wf36_1 hw (S := S) (b := r) (t := (i : Int)) (by omega) (by omega) (by omega) (by omega)
          refine x_icmp_ne (tgt := 128) dX4_misfit_119 (by decide) ⟨by decide, by decide⟩ (by first | exact hz _ _ | exact hw.1 _ _ | exact zR_of _ | assumption | exact ⟨by omega, by omega⟩) (fun c119 => ?_) (fun c119 => ?_)
          · refine x_iinc (L' := [xR (34, r, 0), xI w, xR (26, 0, 0), xR (26, 0, 0), xI (zAnd w (S.1 (34, r, 0) 4)), xI ((i : Int) + 1), xR (36, r, (i : Int)), xJ (S.2.1 (26, 0, 0) (S.1 (36, r, (i : Int)) 0)), none, xI 0]) dX4_misfit_128 rfl rfl ?_
            refine x_goto (tgt := 44) dX4_misfit_131 (by decide) ?_
            refine X.loc (L' := [xR (34, r, 0), xI w, xR (26, 0, 0), xR (26, 0, 0), xI (zAnd w (S.1 (34, r, 0) 4)), xI ((i : Int) + 1), none, none, none, none]) ⟨rfl, ⟨rfl, ⟨rfl, ⟨rfl, ⟨rfl, ⟨rfl, trivial⟩⟩⟩⟩⟩⟩ ?_
            refine ih (i + 1) (by omega) (by omega) (fun j j1 => ?_)
            rcases Nat.lt_or_eq_of_le (show j ≤ i by omega) with q | q
            · exact hj j q
            subst q
            unfold condOk
            first | rw [if_pos (by assumption)] | rw [if_neg (by assumption)]
            first | exact ⟨fun _ => by omega, fun _ => by assumption⟩ | exact ⟨fun y => absurd (by assumption) y, fun y => by omega⟩ | (exfalso; omega)
          · refine x_aload dX4_misfit_122 rfl ?_
            refine x_callV_r (a := 0) (b := 0) (as := []) (rest := []) ok_X2_freeDigits dX4_misfit_124 wd408 ⟨wd409, wd410⟩ (hp36 S (by omega) (by omega) (by omega) (by omega)) rfl rfl (c_freeDigits36 S hw r (i : Int) (by omega) (by omega) (by omega) (by omega)) rfl (Nat.le_of_ble_eq_true rfl) (Nat.le_of_ble_eq_true rfl) (by decide) (by omega) (by omega) ?_
            exact x_iret dX4_misfit_127 rfl (mis_2 hr g1 g2 (by omega) (fun z => by unfold condOk at z; (first | rw [if_pos (by assumption)] at z | rw [if_neg (by assumption)] at z); first | exact absurd (z.mp (by assumption)) (by omega) | exact absurd (z.mpr (by omega)) (fun y => y (by assumption)) | (exfalso; omega)))
        · refine x_iconst dX4_misfit_105 ?_
          refine x_goto (tgt := 110) dX4_misfit_106 (by decide) ?_
          refine x_istore (L' := [xR (34, r, 0), xI w, xR (26, 0, 0), xR (26, 0, 0), xI (zAnd w (S.1 (34, r, 0) 4)), xI (i : Int), xR (36, r, (i : Int)), xJ (S.2.1 (26, 0, 0) (S.1 (36, r, (i : Int)) 0)), none, xI 1]) dX4_misfit_110 (by decide) rfl ?_
          refine x_iload dX4_misfit_112 rfl ?_
          refine x_aload dX4_misfit_114 rfl ?_
          refine x_get (v := xI (S.1 (36, r, (i : Int)) 1)) dX4_misfit_116 fl_RX4_44 (hp36 S (by omega) (by omega) (by omega) (by omega)) rfl ?_
          have f116_5 := wf36_1 hw (S := S) (b := r) (t := (i : Int)) (by omega) (by omega) (by omega) (by omega)
          refine x_icmp_ne (tgt := 128) dX4_misfit_119 (by decide) ⟨by decide, by decide⟩ (by first | exact hz _ _ | exact hw.1 _ _ | exact zR_of _ | assumption | exact ⟨by omega, by omega⟩) (fun c119 => ?_) (fun c119 => ?_)
          · refine x_iinc (L' := [xR (34, r, 0), xI w, xR (26, 0, 0), xR (26, 0, 0), xI (zAnd w (S.1 (34, r, 0) 4)), xI ((i : Int) + 1), xR (36, r, (i : Int)), xJ (S.2.1 (26, 0, 0) (S.1 (36, r, (i : Int)) 0)), none, xI 1]) dX4_misfit_128 rfl rfl ?_
            refine x_goto (tgt := 44) dX4_misfit_131 (by decide) ?_
            refine X.loc (L' := [xR (34, r, 0), xI w, xR (26, 0, 0), xR (26, 0, 0), xI (zAnd w (S.1 (34, r, 0) 4)), xI ((i : Int) + 1), none, none, none, none]) ⟨rfl, ⟨rfl, ⟨rfl, ⟨rfl, ⟨rfl, ⟨rfl, trivial⟩⟩⟩⟩⟩⟩ ?_
            refine ih (i + 1) (by omega) (by omega) (fun j j1 => ?_)
            rcases Nat.lt_or_eq_of_le (show j ≤ i by omega) with q | q
            · exact hj j q
            subst q
            unfold condOk
            first | rw [if_pos (by assumption)] | rw [if_neg (by assumption)]
            first | exact ⟨fun _ => by omega, fun _ => by assumption⟩ | exact ⟨fun y => absurd (by assumption) y, fun y => by omega⟩ | (exfalso; omega)
          · refine x_aload dX4_misfit_122 rfl ?_
            refine x_callV_r (a := 0) (b := 0) (as := []) (rest := []) ok_X2_freeDigits dX4_misfit_124 wd408 ⟨wd409, wd410⟩ (hp36 S (by omega) (by omega) (by omega) (by omega)) rfl rfl (c_freeDigits36 S hw r (i : Int) (by omega) (by omega) (by omega) (by omega)) rfl (Nat.le_of_ble_eq_true rfl) (Nat.le_of_ble_eq_true rfl) (by decide) (by omega) (by omega) ?_
            exact x_iret dX4_misfit_127 rfl (mis_2 hr g1 g2 (by omega) (fun z => by unfold condOk at z; (first | rw [if_pos (by assumption)] at z | rw [if_neg (by assumption)] at z); first | exact absurd (z.mp (by assumption)) (by omega) | exact absurd (z.mpr (by omega)) (fun y => y (by assumption)) | (exfalso; omega)))
      · refine x_aload_n dX4_misfit_70 rfl ?_
        refine x_aload dX4_misfit_71 rfl ?_
        refine x_get (v := xI (S.1 (36, r, (i : Int)) 0)) dX4_misfit_73 fl_RX4_47 (hp36 S (by omega) (by omega) (by omega) (by omega)) rfl ?_
        have f73_6 := wf36_0 hw (S := S) (b := r) (t := (i : Int)) (by omega) (by omega) (by omega) (by omega)
        refine x_aldj (f := S.2.1 (26, 0, 0)) dX4_misfit_76 (hp26 S) (show (26 : Nat) ≠ 99 by decide) (by omega) (by omega) (by decide) ?_
        refine x_goto (tgt := 87) dX4_misfit_77 (by decide) ?_
        refine x_lstore (L' := [xR (34, r, 0), xI w, xR (26, 0, 0), xR (26, 0, 0), xI (zAnd w (S.1 (34, r, 0) 4)), xI (i : Int), xR (36, r, (i : Int)), xJ (S.2.1 (26, 0, 0) (S.1 (36, r, (i : Int)) 0)), none, none]) dX4_misfit_87 (by decide) rfl ?_
        refine x_lload dX4_misfit_89 rfl ?_
        refine x_aload dX4_misfit_91 rfl ?_
        refine x_iload_n dX4_misfit_93 rfl ?_
        refine x_callV_r (a := 0) (b := 0) (as := [xI w]) (rest := [xJ (S.2.1 (26, 0, 0) (S.1 (36, r, (i : Int)) 0))]) ok_X2_pairOf dX4_misfit_94 wd404 ⟨wd405, wd406⟩ (hp36 S (by omega) (by omega) (by omega) (by omega)) rfl rfl (c_pairOf36 S hw r (i : Int) (by omega) (by omega) (by omega) (by omega) w) rfl (Nat.le_of_ble_eq_true rfl) (Nat.le_of_ble_eq_true rfl) (by decide) (by omega) (by omega) ?_
        refine x_lushr dX4_misfit_97 ?_
        refine x_lconst (v := 1) dX4_misfit_98 (by decide) ?_
        refine x_land dX4_misfit_99 ?_
        refine x_lconst (v := 0) dX4_misfit_100 (by decide) ?_
        refine x_lcmp dX4_misfit_101 ?_
        refine x_if_eq (tgt := 109) dX4_misfit_102 (by decide) (by first | exact hz _ _ | exact hw.1 _ _ | exact zR_of _ | assumption | exact ⟨by omega, by omega⟩) (fun c102 => ?_) (fun c102 => ?_)
        · refine x_iconst dX4_misfit_109 ?_
          refine x_istore (L' := [xR (34, r, 0), xI w, xR (26, 0, 0), xR (26, 0, 0), xI (zAnd w (S.1 (34, r, 0) 4)), xI (i : Int), xR (36, r, (i : Int)), xJ (S.2.1 (26, 0, 0) (S.1 (36, r, (i : Int)) 0)), none, xI 0]) dX4_misfit_110 (by decide) rfl ?_
          refine x_iload dX4_misfit_112 rfl ?_
          refine x_aload dX4_misfit_114 rfl ?_
          refine x_get (v := xI (S.1 (36, r, (i : Int)) 1)) dX4_misfit_116 fl_RX4_44 (hp36 S (by omega) (by omega) (by omega) (by omega)) rfl ?_
          have f116_7 := wf36_1 hw (S := S) (b := r) (t := (i : Int)) (by omega) (by omega) (by omega) (by omega)
          refine x_icmp_ne (tgt := 128) dX4_misfit_119 (by decide) ⟨by decide, by decide⟩ (by first | exact hz _ _ | exact hw.1 _ _ | exact zR_of _ | assumption | exact ⟨by omega, by omega⟩) (fun c119 => ?_) (fun c119 => ?_)
          · refine x_iinc (L' := [xR (34, r, 0), xI w, xR (26, 0, 0), xR (26, 0, 0), xI (zAnd w (S.1 (34, r, 0) 4)), xI ((i : Int) + 1), xR (36, r, (i : Int)), xJ (S.2.1 (26, 0, 0) (S.1 (36, r, (i : Int)) 0)), none, xI 0]) dX4_misfit_128 rfl rfl ?_
            refine x_goto (tgt := 44) dX4_misfit_131 (by decide) ?_
            refine X.loc (L' := [xR (34, r, 0), xI w, xR (26, 0, 0), xR (26, 0, 0), xI (zAnd w (S.1 (34, r, 0) 4)), xI ((i : Int) + 1), none, none, none, none]) ⟨rfl, ⟨rfl, ⟨rfl, ⟨rfl, ⟨rfl, ⟨rfl, trivial⟩⟩⟩⟩⟩⟩ ?_
            refine ih (i + 1) (by omega) (by omega) (fun j j1 => ?_)
            rcases Nat.lt_or_eq_of_le (show j ≤ i by omega) with q | q
            · exact hj j q
            subst q
            unfold condOk
            first | rw [if_pos (by assumption)] | rw [if_neg (by assumption)]
            first | exact ⟨fun _ => by omega, fun _ => by assumption⟩ | exact ⟨fun y => absurd (by assumption) y, fun y => by omega⟩ | (exfalso; omega)
          · refine x_aload dX4_misfit_122 rfl ?_
            refine x_callV_r (a := 0) (b := 0) (as := []) (rest := []) ok_X2_freeDigits dX4_misfit_124 wd408 ⟨wd409, wd410⟩ (hp36 S (by omega) (by omega) (by omega) (by omega)) rfl rfl (c_freeDigits36 S hw r (i : Int) (by omega) (by omega) (by omega) (by omega)) rfl (Nat.le_of_ble_eq_true rfl) (Nat.le_of_ble_eq_true rfl) (by decide) (by omega) (by omega) ?_
            exact x_iret dX4_misfit_127 rfl (mis_2 hr g1 g2 (by omega) (fun z => by unfold condOk at z; (first | rw [if_pos (by assumption)] at z | rw [if_neg (by assumption)] at z); first | exact absurd (z.mp (by assumption)) (by omega) | exact absurd (z.mpr (by omega)) (fun y => y (by assumption)) | (exfalso; omega)))
        · refine x_iconst dX4_misfit_105 ?_
          refine x_goto (tgt := 110) dX4_misfit_106 (by decide) ?_
          refine x_istore (L' := [xR (34, r, 0), xI w, xR (26, 0, 0), xR (26, 0, 0), xI (zAnd w (S.1 (34, r, 0) 4)), xI (i : Int), xR (36, r, (i : Int)), xJ (S.2.1 (26, 0, 0) (S.1 (36, r, (i : Int)) 0)), none, xI 1]) dX4_misfit_110 (by decide) rfl ?_
          refine x_iload dX4_misfit_112 rfl ?_
          refine x_aload dX4_misfit_114 rfl ?_
          refine x_get (v := xI (S.1 (36, r, (i : Int)) 1)) dX4_misfit_116 fl_RX4_44 (hp36 S (by omega) (by omega) (by omega) (by omega)) rfl ?_
          have f116_8 := wf36_1 hw (S := S) (b := r) (t := (i : Int)) (by omega) (by omega) (by omega) (by omega)
          refine x_icmp_ne (tgt := 128) dX4_misfit_119 (by decide) ⟨by decide, by decide⟩ (by first | exact hz _ _ | exact hw.1 _ _ | exact zR_of _ | assumption | exact ⟨by omega, by omega⟩) (fun c119 => ?_) (fun c119 => ?_)
          · refine x_iinc (L' := [xR (34, r, 0), xI w, xR (26, 0, 0), xR (26, 0, 0), xI (zAnd w (S.1 (34, r, 0) 4)), xI ((i : Int) + 1), xR (36, r, (i : Int)), xJ (S.2.1 (26, 0, 0) (S.1 (36, r, (i : Int)) 0)), none, xI 1]) dX4_misfit_128 rfl rfl ?_
            refine x_goto (tgt := 44) dX4_misfit_131 (by decide) ?_
            refine X.loc (L' := [xR (34, r, 0), xI w, xR (26, 0, 0), xR (26, 0, 0), xI (zAnd w (S.1 (34, r, 0) 4)), xI ((i : Int) + 1), none, none, none, none]) ⟨rfl, ⟨rfl, ⟨rfl, ⟨rfl, ⟨rfl, ⟨rfl, trivial⟩⟩⟩⟩⟩⟩ ?_
            refine ih (i + 1) (by omega) (by omega) (fun j j1 => ?_)
            rcases Nat.lt_or_eq_of_le (show j ≤ i by omega) with q | q
            · exact hj j q
            subst q
            unfold condOk
            first | rw [if_pos (by assumption)] | rw [if_neg (by assumption)]
            first | exact ⟨fun _ => by omega, fun _ => by assumption⟩ | exact ⟨fun y => absurd (by assumption) y, fun y => by omega⟩ | (exfalso; omega)
          · refine x_aload dX4_misfit_122 rfl ?_
            refine x_callV_r (a := 0) (b := 0) (as := []) (rest := []) ok_X2_freeDigits dX4_misfit_124 wd408 ⟨wd409, wd410⟩ (hp36 S (by omega) (by omega) (by omega) (by omega)) rfl rfl (c_freeDigits36 S hw r (i : Int) (by omega) (by omega) (by omega) (by omega)) rfl (Nat.le_of_ble_eq_true rfl) (Nat.le_of_ble_eq_true rfl) (by decide) (by omega) (by omega) ?_
            exact x_iret dX4_misfit_127 rfl (mis_2 hr g1 g2 (by omega) (fun z => by unfold condOk at z; (first | rw [if_pos (by assumption)] at z | rw [if_neg (by assumption)] at z); first | exact absurd (z.mp (by assumption)) (by omega) | exact absurd (z.mpr (by omega)) (fun y => y (by assumption)) | (exfalso; omega)))
set_option maxHeartbeats 4000000 in
set_option maxRecDepth 100000 in
theorem c_misfit26 (S : XS) (hw : WI S) (r : Int) (h1 : 0 ≤ r) (h2 : r < 10) (hr : RuleOk S.1 r) (w : Int) (g1 : 0 ≤ w) (g2 : w ≤ 511) : X mX4_misfit 0 (xEnt mX4_misfit [xR (34, r, 0), xI w, xR (26, 0, 0), xR (26, 0, 0)]) [] (hp S) 0 0 (pMis S.1 (S.2.1 (26, 0, 0)) (S.2.1 (26, 0, 0)) r w (hp S)) := by
  show X mX4_misfit 0 [xR (34, r, 0), xI w, xR (26, 0, 0), xR (26, 0, 0), none, none, none, none, none, none] [] (hp S) 0 0 _
  refine x_iload_n dX4_misfit_0 rfl ?_
  refine x_aload_n dX4_misfit_1 rfl ?_
  refine x_get (v := xI (S.1 (34, r, 0) 4)) dX4_misfit_2 fl_RX4_29 (hp34 S (by omega) (by omega)) rfl ?_
  have f2_1 := wf34_4 hw (S := S) (b := r) (by omega) (by omega)
  refine x_iand dX4_misfit_5 ?_
  refine x_istore (L' := [xR (34, r, 0), xI w, xR (26, 0, 0), xR (26, 0, 0), xI (zAnd w (S.1 (34, r, 0) 4)), none, none, none, none, none]) dX4_misfit_6 (by decide) rfl ?_
  refine x_iload dX4_misfit_8 rfl ?_
  refine x_if_eq (tgt := 41) dX4_misfit_10 (by decide) (by first | exact hz _ _ | exact hw.1 _ _ | exact zR_of _ | assumption | exact ⟨by omega, by omega⟩) (fun c10 => ?_) (fun c10 => ?_)
  · refine x_iconst dX4_misfit_41 ?_
    refine x_istore (L' := [xR (34, r, 0), xI w, xR (26, 0, 0), xR (26, 0, 0), xI (zAnd w (S.1 (34, r, 0) 4)), xI 0, none, none, none, none]) dX4_misfit_42 (by decide) rfl ?_
    have hsz := wf34_2 hw h1 h2
    obtain ⟨n, hn⟩ := Int.eq_ofNat_of_zero_le hsz.1
    exact l_misfit26 S hw r h1 h2 hr w g1 g2 (by assumption) n hn 10 0 (by omega) (by omega) (fun j q => by omega)
  · refine x_iload dX4_misfit_13 rfl ?_
    refine x_bipush (v := 64) dX4_misfit_15 (by decide) ?_
    refine x_icmp_lt (tgt := 26) dX4_misfit_17 (by decide) (by first | exact hz _ _ | exact hw.1 _ _ | exact zR_of _ | assumption | exact ⟨by omega, by omega⟩) ⟨by decide, by decide⟩ (fun c17 => ?_) (fun c17 => ?_)
    · refine x_iload dX4_misfit_26 rfl ?_
      refine x_bipush (v := 8) dX4_misfit_28 (by decide) ?_
      refine x_icmp_lt (tgt := 38) dX4_misfit_30 (by decide) (by first | exact hz _ _ | exact hw.1 _ _ | exact zR_of _ | assumption | exact ⟨by omega, by omega⟩) ⟨by decide, by decide⟩ (fun c30 => ?_) (fun c30 => ?_)
      · refine x_bipush (v := 7) dX4_misfit_38 (by decide) ?_
        exact x_iret dX4_misfit_40 rfl (mis_1 hr g1 g2 (by assumption) (by (repeat' split) <;> first | rfl | (exfalso; omega)))
      · refine x_bipush (v := 63) dX4_misfit_33 (by decide) ?_
        refine x_goto (tgt := 40) dX4_misfit_35 (by decide) ?_
        exact x_iret dX4_misfit_40 rfl (mis_1 hr g1 g2 (by assumption) (by (repeat' split) <;> first | rfl | (exfalso; omega)))
    · refine x_sipush (v := 511) dX4_misfit_20 (by decide) ?_
      refine x_goto (tgt := 40) dX4_misfit_23 (by decide) ?_
      exact x_iret dX4_misfit_40 rfl (mis_1 hr g1 g2 (by assumption) (by (repeat' split) <;> first | rfl | (exfalso; omega)))
set_option maxHeartbeats 4000000 in
set_option maxRecDepth 100000 in
theorem l_misfit43 (S : XS) (hw : WI S) (r : Int) (h1 : 0 ≤ r) (h2 : r < 10) (hr : RuleOk S.1 r) (w : Int) (g1 : 0 ≤ w) (g2 : w ≤ 511) (hz0 : zAnd w (S.1 (34, r, 0) 4) = 0) (n : Nat) (hn : S.1 (34, r, 0) 2 = n) : ∀ (nn : Nat) (i : Nat), (n : Int) - i < (nn : Int) → (i ≤ n) → (∀ j : Nat, j < i → condOk S.1 (S.2.1 (43, 0, 0)) (S.2.1 (27, 0, 0)) r j w) → X mX4_misfit 44 [xR (34, r, 0), xI w, xR (43, 0, 0), xR (27, 0, 0), xI (zAnd w (S.1 (34, r, 0) 4)), xI (i : Int), none, none, none, none] [] (hp S) 0 0 (pMis S.1 (S.2.1 (43, 0, 0)) (S.2.1 (27, 0, 0)) r w (hp S)) := by
  intro nn
  induction nn with
  | zero => intro i hm hi hj; exfalso; omega
  | succ nn ih =>
    intro i hm hi hj
    have hwz : zR w := ⟨by omega, by omega⟩
    refine x_iload dX4_misfit_44 rfl ?_
    refine x_aload_n dX4_misfit_46 rfl ?_
    refine x_get (v := xI (S.1 (34, r, 0) 2)) dX4_misfit_47 fl_RX4_22 (hp34 S (by omega) (by omega)) rfl ?_
    have f47_1 := wf34_2 hw (S := S) (b := r) (by omega) (by omega)
    refine x_icmp_ge (tgt := 134) dX4_misfit_50 (by decide) (by first | exact hz _ _ | exact hw.1 _ _ | exact zR_of _ | assumption | exact ⟨by omega, by omega⟩) (by first | exact hz _ _ | exact hw.1 _ _ | exact zR_of _ | assumption | exact ⟨by omega, by omega⟩) (fun c50 => ?_) (fun c50 => ?_)
    · refine x_iconst dX4_misfit_134 ?_
      exact x_iret dX4_misfit_135 rfl (mis_3 ⟨hz0, fun j q => hj j (by omega)⟩)
    · refine x_aload_n dX4_misfit_53 rfl ?_
      refine x_get (v := xR (35, r, 0)) dX4_misfit_54 fl_RX4_18 (hp34 S (by omega) (by omega)) rfl ?_
      refine x_iload dX4_misfit_57 rfl ?_
      refine x_alda (l2 := (36, r, (i : Int))) dX4_misfit_59 (hp35 S (by omega) (by omega)) (show (35 : Nat) ≠ 99 by decide) (by decide) (by decide) (by omega) (by omega) (by decide) rfl ?_
      refine x_astore (L' := [xR (34, r, 0), xI w, xR (43, 0, 0), xR (27, 0, 0), xI (zAnd w (S.1 (34, r, 0) 4)), xI (i : Int), xR (36, r, (i : Int)), none, none, none]) dX4_misfit_60 (by decide) rfl ?_
      refine x_aload dX4_misfit_62 rfl ?_
      refine x_get (v := xI (S.1 (36, r, (i : Int)) 1)) dX4_misfit_64 fl_RX4_44 (hp36 S (by omega) (by omega) (by omega) (by omega)) rfl ?_
      have f64_2 := wf36_1 hw (S := S) (b := r) (t := (i : Int)) (by omega) (by omega) (by omega) (by omega)
      refine x_if_eq (tgt := 80) dX4_misfit_67 (by decide) (by first | exact hz _ _ | exact hw.1 _ _ | exact zR_of _ | assumption | exact ⟨by omega, by omega⟩) (fun c67 => ?_) (fun c67 => ?_)
      · refine x_aload_n dX4_misfit_80 rfl ?_
        refine x_aload dX4_misfit_81 rfl ?_
        refine x_get (v := xI (S.1 (36, r, (i : Int)) 0)) dX4_misfit_83 fl_RX4_47 (hp36 S (by omega) (by omega) (by omega) (by omega)) rfl ?_
        have f83_3 := wf36_0 hw (S := S) (b := r) (t := (i : Int)) (by omega) (by omega) (by omega) (by omega)
        refine x_aldj (f := S.2.1 (43, 0, 0)) dX4_misfit_86 (hp43 S) (show (43 : Nat) ≠ 99 by decide) (by omega) (by omega) (by decide) ?_
        refine x_lstore (L' := [xR (34, r, 0), xI w, xR (43, 0, 0), xR (27, 0, 0), xI (zAnd w (S.1 (34, r, 0) 4)), xI (i : Int), xR (36, r, (i : Int)), xJ (S.2.1 (43, 0, 0) (S.1 (36, r, (i : Int)) 0)), none, none]) dX4_misfit_87 (by decide) rfl ?_
        refine x_lload dX4_misfit_89 rfl ?_
        refine x_aload dX4_misfit_91 rfl ?_
        refine x_iload_n dX4_misfit_93 rfl ?_
        refine x_callV_r (a := 0) (b := 0) (as := [xI w]) (rest := [xJ (S.2.1 (43, 0, 0) (S.1 (36, r, (i : Int)) 0))]) ok_X2_pairOf dX4_misfit_94 wd404 ⟨wd405, wd406⟩ (hp36 S (by omega) (by omega) (by omega) (by omega)) rfl rfl (c_pairOf36 S hw r (i : Int) (by omega) (by omega) (by omega) (by omega) w) rfl (Nat.le_of_ble_eq_true rfl) (Nat.le_of_ble_eq_true rfl) (by decide) (by omega) (by omega) ?_
        refine x_lushr dX4_misfit_97 ?_
        refine x_lconst (v := 1) dX4_misfit_98 (by decide) ?_
        refine x_land dX4_misfit_99 ?_
        refine x_lconst (v := 0) dX4_misfit_100 (by decide) ?_
        refine x_lcmp dX4_misfit_101 ?_
        refine x_if_eq (tgt := 109) dX4_misfit_102 (by decide) (by first | exact hz _ _ | exact hw.1 _ _ | exact zR_of _ | assumption | exact ⟨by omega, by omega⟩) (fun c102 => ?_) (fun c102 => ?_)
        · refine x_iconst dX4_misfit_109 ?_
          refine x_istore (L' := [xR (34, r, 0), xI w, xR (43, 0, 0), xR (27, 0, 0), xI (zAnd w (S.1 (34, r, 0) 4)), xI (i : Int), xR (36, r, (i : Int)), xJ (S.2.1 (43, 0, 0) (S.1 (36, r, (i : Int)) 0)), none, xI 0]) dX4_misfit_110 (by decide) rfl ?_
          refine x_iload dX4_misfit_112 rfl ?_
          refine x_aload dX4_misfit_114 rfl ?_
          refine x_get (v := xI (S.1 (36, r, (i : Int)) 1)) dX4_misfit_116 fl_RX4_44 (hp36 S (by omega) (by omega) (by omega) (by omega)) rfl ?_
          have f116_4 := wf36_1 hw (S := S) (b := r) (t := (i : Int)) (by omega) (by omega) (by omega) (by omega)
          refine x_icmp_ne (tgt := 128) dX4_misfit_119 (by decide) ⟨by decide, by decide⟩ (by first | exact hz _ _ | exact hw.1 _ _ | exact zR_of _ | assumption | exact ⟨by omega, by omega⟩) (fun c119 => ?_) (fun c119 => ?_)
          · refine x_iinc (L' := [xR (34, r, 0), xI w, xR (43, 0, 0), xR (27, 0, 0), xI (zAnd w (S.1 (34, r, 0) 4)), xI ((i : Int) + 1), xR (36, r, (i : Int)), xJ (S.2.1 (43, 0, 0) (S.1 (36, r, (i : Int)) 0)), none, xI 0]) dX4_misfit_128 rfl rfl ?_
            refine x_goto (tgt := 44) dX4_misfit_131 (by decide) ?_
            refine X.loc (L' := [xR (34, r, 0), xI w, xR (43, 0, 0), xR (27, 0, 0), xI (zAnd w (S.1 (34, r, 0) 4)), xI ((i : Int) + 1), none, none, none, none]) ⟨rfl, ⟨rfl, ⟨rfl, ⟨rfl, ⟨rfl, ⟨rfl, trivial⟩⟩⟩⟩⟩⟩ ?_
            refine ih (i + 1) (by omega) (by omega) (fun j j1 => ?_)
            rcases Nat.lt_or_eq_of_le (show j ≤ i by omega) with q | q
            · exact hj j q
            subst q
            unfold condOk
            first | rw [if_pos (by assumption)] | rw [if_neg (by assumption)]
            first | exact ⟨fun _ => by omega, fun _ => by assumption⟩ | exact ⟨fun y => absurd (by assumption) y, fun y => by omega⟩ | (exfalso; omega)
          · refine x_aload dX4_misfit_122 rfl ?_
            refine x_callV_r (a := 0) (b := 0) (as := []) (rest := []) ok_X2_freeDigits dX4_misfit_124 wd408 ⟨wd409, wd410⟩ (hp36 S (by omega) (by omega) (by omega) (by omega)) rfl rfl (c_freeDigits36 S hw r (i : Int) (by omega) (by omega) (by omega) (by omega)) rfl (Nat.le_of_ble_eq_true rfl) (Nat.le_of_ble_eq_true rfl) (by decide) (by omega) (by omega) ?_
            exact x_iret dX4_misfit_127 rfl (mis_2 hr g1 g2 (by omega) (fun z => by unfold condOk at z; (first | rw [if_pos (by assumption)] at z | rw [if_neg (by assumption)] at z); first | exact absurd (z.mp (by assumption)) (by omega) | exact absurd (z.mpr (by omega)) (fun y => y (by assumption)) | (exfalso; omega)))
        · refine x_iconst dX4_misfit_105 ?_
          refine x_goto (tgt := 110) dX4_misfit_106 (by decide) ?_
          refine x_istore (L' := [xR (34, r, 0), xI w, xR (43, 0, 0), xR (27, 0, 0), xI (zAnd w (S.1 (34, r, 0) 4)), xI (i : Int), xR (36, r, (i : Int)), xJ (S.2.1 (43, 0, 0) (S.1 (36, r, (i : Int)) 0)), none, xI 1]) dX4_misfit_110 (by decide) rfl ?_
          refine x_iload dX4_misfit_112 rfl ?_
          refine x_aload dX4_misfit_114 rfl ?_
          refine x_get (v := xI (S.1 (36, r, (i : Int)) 1)) dX4_misfit_116 fl_RX4_44 (hp36 S (by omega) (by omega) (by omega) (by omega)) rfl ?_
          have f116_5 := wf36_1 hw (S := S) (b := r) (t := (i : Int)) (by omega) (by omega) (by omega) (by omega)
          refine x_icmp_ne (tgt := 128) dX4_misfit_119 (by decide) ⟨by decide, by decide⟩ (by first | exact hz _ _ | exact hw.1 _ _ | exact zR_of _ | assumption | exact ⟨by omega, by omega⟩) (fun c119 => ?_) (fun c119 => ?_)
          · refine x_iinc (L' := [xR (34, r, 0), xI w, xR (43, 0, 0), xR (27, 0, 0), xI (zAnd w (S.1 (34, r, 0) 4)), xI ((i : Int) + 1), xR (36, r, (i : Int)), xJ (S.2.1 (43, 0, 0) (S.1 (36, r, (i : Int)) 0)), none, xI 1]) dX4_misfit_128 rfl rfl ?_
            refine x_goto (tgt := 44) dX4_misfit_131 (by decide) ?_
            refine X.loc (L' := [xR (34, r, 0), xI w, xR (43, 0, 0), xR (27, 0, 0), xI (zAnd w (S.1 (34, r, 0) 4)), xI ((i : Int) + 1), none, none, none, none]) ⟨rfl, ⟨rfl, ⟨rfl, ⟨rfl, ⟨rfl, ⟨rfl, trivial⟩⟩⟩⟩⟩⟩ ?_
            refine ih (i + 1) (by omega) (by omega) (fun j j1 => ?_)
            rcases Nat.lt_or_eq_of_le (show j ≤ i by omega) with q | q
            · exact hj j q
            subst q
            unfold condOk
            first | rw [if_pos (by assumption)] | rw [if_neg (by assumption)]
            first | exact ⟨fun _ => by omega, fun _ => by assumption⟩ | exact ⟨fun y => absurd (by assumption) y, fun y => by omega⟩ | (exfalso; omega)
          · refine x_aload dX4_misfit_122 rfl ?_
            refine x_callV_r (a := 0) (b := 0) (as := []) (rest := []) ok_X2_freeDigits dX4_misfit_124 wd408 ⟨wd409, wd410⟩ (hp36 S (by omega) (by omega) (by omega) (by omega)) rfl rfl (c_freeDigits36 S hw r (i : Int) (by omega) (by omega) (by omega) (by omega)) rfl (Nat.le_of_ble_eq_true rfl) (Nat.le_of_ble_eq_true rfl) (by decide) (by omega) (by omega) ?_
            exact x_iret dX4_misfit_127 rfl (mis_2 hr g1 g2 (by omega) (fun z => by unfold condOk at z; (first | rw [if_pos (by assumption)] at z | rw [if_neg (by assumption)] at z); first | exact absurd (z.mp (by assumption)) (by omega) | exact absurd (z.mpr (by omega)) (fun y => y (by assumption)) | (exfalso; omega)))
      · refine x_aload_n dX4_misfit_70 rfl ?_
        refine x_aload dX4_misfit_71 rfl ?_
        refine x_get (v := xI (S.1 (36, r, (i : Int)) 0)) dX4_misfit_73 fl_RX4_47 (hp36 S (by omega) (by omega) (by omega) (by omega)) rfl ?_
        have f73_6 := wf36_0 hw (S := S) (b := r) (t := (i : Int)) (by omega) (by omega) (by omega) (by omega)
        refine x_aldj (f := S.2.1 (27, 0, 0)) dX4_misfit_76 (hp27 S) (show (27 : Nat) ≠ 99 by decide) (by omega) (by omega) (by decide) ?_
        refine x_goto (tgt := 87) dX4_misfit_77 (by decide) ?_
        refine x_lstore (L' := [xR (34, r, 0), xI w, xR (43, 0, 0), xR (27, 0, 0), xI (zAnd w (S.1 (34, r, 0) 4)), xI (i : Int), xR (36, r, (i : Int)), xJ (S.2.1 (27, 0, 0) (S.1 (36, r, (i : Int)) 0)), none, none]) dX4_misfit_87 (by decide) rfl ?_
        refine x_lload dX4_misfit_89 rfl ?_
        refine x_aload dX4_misfit_91 rfl ?_
        refine x_iload_n dX4_misfit_93 rfl ?_
        refine x_callV_r (a := 0) (b := 0) (as := [xI w]) (rest := [xJ (S.2.1 (27, 0, 0) (S.1 (36, r, (i : Int)) 0))]) ok_X2_pairOf dX4_misfit_94 wd404 ⟨wd405, wd406⟩ (hp36 S (by omega) (by omega) (by omega) (by omega)) rfl rfl (c_pairOf36 S hw r (i : Int) (by omega) (by omega) (by omega) (by omega) w) rfl (Nat.le_of_ble_eq_true rfl) (Nat.le_of_ble_eq_true rfl) (by decide) (by omega) (by omega) ?_
        refine x_lushr dX4_misfit_97 ?_
        refine x_lconst (v := 1) dX4_misfit_98 (by decide) ?_
        refine x_land dX4_misfit_99 ?_
        refine x_lconst (v := 0) dX4_misfit_100 (by decide) ?_
        refine x_lcmp dX4_misfit_101 ?_
        refine x_if_eq (tgt := 109) dX4_misfit_102 (by decide) (by first | exact hz _ _ | exact hw.1 _ _ | exact zR_of _ | assumption | exact ⟨by omega, by omega⟩) (fun c102 => ?_) (fun c102 => ?_)
        · refine x_iconst dX4_misfit_109 ?_
          refine x_istore (L' := [xR (34, r, 0), xI w, xR (43, 0, 0), xR (27, 0, 0), xI (zAnd w (S.1 (34, r, 0) 4)), xI (i : Int), xR (36, r, (i : Int)), xJ (S.2.1 (27, 0, 0) (S.1 (36, r, (i : Int)) 0)), none, xI 0]) dX4_misfit_110 (by decide) rfl ?_
          refine x_iload dX4_misfit_112 rfl ?_
          refine x_aload dX4_misfit_114 rfl ?_
          refine x_get (v := xI (S.1 (36, r, (i : Int)) 1)) dX4_misfit_116 fl_RX4_44 (hp36 S (by omega) (by omega) (by omega) (by omega)) rfl ?_
          have f116_7 := wf36_1 hw (S := S) (b := r) (t := (i : Int)) (by omega) (by omega) (by omega) (by omega)
          refine x_icmp_ne (tgt := 128) dX4_misfit_119 (by decide) ⟨by decide, by decide⟩ (by first | exact hz _ _ | exact hw.1 _ _ | exact zR_of _ | assumption | exact ⟨by omega, by omega⟩) (fun c119 => ?_) (fun c119 => ?_)
          · refine x_iinc (L' := [xR (34, r, 0), xI w, xR (43, 0, 0), xR (27, 0, 0), xI (zAnd w (S.1 (34, r, 0) 4)), xI ((i : Int) + 1), xR (36, r, (i : Int)), xJ (S.2.1 (27, 0, 0) (S.1 (36, r, (i : Int)) 0)), none, xI 0]) dX4_misfit_128 rfl rfl ?_
            refine x_goto (tgt := 44) dX4_misfit_131 (by decide) ?_
            refine X.loc (L' := [xR (34, r, 0), xI w, xR (43, 0, 0), xR (27, 0, 0), xI (zAnd w (S.1 (34, r, 0) 4)), xI ((i : Int) + 1), none, none, none, none]) ⟨rfl, ⟨rfl, ⟨rfl, ⟨rfl, ⟨rfl, ⟨rfl, trivial⟩⟩⟩⟩⟩⟩ ?_
            refine ih (i + 1) (by omega) (by omega) (fun j j1 => ?_)
            rcases Nat.lt_or_eq_of_le (show j ≤ i by omega) with q | q
            · exact hj j q
            subst q
            unfold condOk
            first | rw [if_pos (by assumption)] | rw [if_neg (by assumption)]
            first | exact ⟨fun _ => by omega, fun _ => by assumption⟩ | exact ⟨fun y => absurd (by assumption) y, fun y => by omega⟩ | (exfalso; omega)
          · refine x_aload dX4_misfit_122 rfl ?_
            refine x_callV_r (a := 0) (b := 0) (as := []) (rest := []) ok_X2_freeDigits dX4_misfit_124 wd408 ⟨wd409, wd410⟩ (hp36 S (by omega) (by omega) (by omega) (by omega)) rfl rfl (c_freeDigits36 S hw r (i : Int) (by omega) (by omega) (by omega) (by omega)) rfl (Nat.le_of_ble_eq_true rfl) (Nat.le_of_ble_eq_true rfl) (by decide) (by omega) (by omega) ?_
            exact x_iret dX4_misfit_127 rfl (mis_2 hr g1 g2 (by omega) (fun z => by unfold condOk at z; (first | rw [if_pos (by assumption)] at z | rw [if_neg (by assumption)] at z); first | exact absurd (z.mp (by assumption)) (by omega) | exact absurd (z.mpr (by omega)) (fun y => y (by assumption)) | (exfalso; omega)))
        · refine x_iconst dX4_misfit_105 ?_
          refine x_goto (tgt := 110) dX4_misfit_106 (by decide) ?_
          refine x_istore (L' := [xR (34, r, 0), xI w, xR (43, 0, 0), xR (27, 0, 0), xI (zAnd w (S.1 (34, r, 0) 4)), xI (i : Int), xR (36, r, (i : Int)), xJ (S.2.1 (27, 0, 0) (S.1 (36, r, (i : Int)) 0)), none, xI 1]) dX4_misfit_110 (by decide) rfl ?_
          refine x_iload dX4_misfit_112 rfl ?_
          refine x_aload dX4_misfit_114 rfl ?_
          refine x_get (v := xI (S.1 (36, r, (i : Int)) 1)) dX4_misfit_116 fl_RX4_44 (hp36 S (by omega) (by omega) (by omega) (by omega)) rfl ?_
          have f116_8 := wf36_1 hw (S := S) (b := r) (t := (i : Int)) (by omega) (by omega) (by omega) (by omega)
          refine x_icmp_ne (tgt := 128) dX4_misfit_119 (by decide) ⟨by decide, by decide⟩ (by first | exact hz _ _ | exact hw.1 _ _ | exact zR_of _ | assumption | exact ⟨by omega, by omega⟩) (fun c119 => ?_) (fun c119 => ?_)
          · refine x_iinc (L' := [xR (34, r, 0), xI w, xR (43, 0, 0), xR (27, 0, 0), xI (zAnd w (S.1 (34, r, 0) 4)), xI ((i : Int) + 1), xR (36, r, (i : Int)), xJ (S.2.1 (27, 0, 0) (S.1 (36, r, (i : Int)) 0)), none, xI 1]) dX4_misfit_128 rfl rfl ?_
            refine x_goto (tgt := 44) dX4_misfit_131 (by decide) ?_
            refine X.loc (L' := [xR (34, r, 0), xI w, xR (43, 0, 0), xR (27, 0, 0), xI (zAnd w (S.1 (34, r, 0) 4)), xI ((i : Int) + 1), none, none, none, none]) ⟨rfl, ⟨rfl, ⟨rfl, ⟨rfl, ⟨rfl, ⟨rfl, trivial⟩⟩⟩⟩⟩⟩ ?_
            refine ih (i + 1) (by omega) (by omega) (fun j j1 => ?_)
            rcases Nat.lt_or_eq_of_le (show j ≤ i by omega) with q | q
            · exact hj j q
            subst q
            unfold condOk
            first | rw [if_pos (by assumption)] | rw [if_neg (by assumption)]
            first | exact ⟨fun _ => by omega, fun _ => by assumption⟩ | exact ⟨fun y => absurd (by assumption) y, fun y => by omega⟩ | (exfalso; omega)
          · refine x_aload dX4_misfit_122 rfl ?_
            refine x_callV_r (a := 0) (b := 0) (as := []) (rest := []) ok_X2_freeDigits dX4_misfit_124 wd408 ⟨wd409, wd410⟩ (hp36 S (by omega) (by omega) (by omega) (by omega)) rfl rfl (c_freeDigits36 S hw r (i : Int) (by omega) (by omega) (by omega) (by omega)) rfl (Nat.le_of_ble_eq_true rfl) (Nat.le_of_ble_eq_true rfl) (by decide) (by omega) (by omega) ?_
            exact x_iret dX4_misfit_127 rfl (mis_2 hr g1 g2 (by omega) (fun z => by unfold condOk at z; (first | rw [if_pos (by assumption)] at z | rw [if_neg (by assumption)] at z); first | exact absurd (z.mp (by assumption)) (by omega) | exact absurd (z.mpr (by omega)) (fun y => y (by assumption)) | (exfalso; omega)))
set_option maxHeartbeats 4000000 in
set_option maxRecDepth 100000 in
theorem c_misfit43 (S : XS) (hw : WI S) (r : Int) (h1 : 0 ≤ r) (h2 : r < 10) (hr : RuleOk S.1 r) (w : Int) (g1 : 0 ≤ w) (g2 : w ≤ 511) : X mX4_misfit 0 (xEnt mX4_misfit [xR (34, r, 0), xI w, xR (43, 0, 0), xR (27, 0, 0)]) [] (hp S) 0 0 (pMis S.1 (S.2.1 (43, 0, 0)) (S.2.1 (27, 0, 0)) r w (hp S)) := by
  show X mX4_misfit 0 [xR (34, r, 0), xI w, xR (43, 0, 0), xR (27, 0, 0), none, none, none, none, none, none] [] (hp S) 0 0 _
  refine x_iload_n dX4_misfit_0 rfl ?_
  refine x_aload_n dX4_misfit_1 rfl ?_
  refine x_get (v := xI (S.1 (34, r, 0) 4)) dX4_misfit_2 fl_RX4_29 (hp34 S (by omega) (by omega)) rfl ?_
  have f2_1 := wf34_4 hw (S := S) (b := r) (by omega) (by omega)
  refine x_iand dX4_misfit_5 ?_
  refine x_istore (L' := [xR (34, r, 0), xI w, xR (43, 0, 0), xR (27, 0, 0), xI (zAnd w (S.1 (34, r, 0) 4)), none, none, none, none, none]) dX4_misfit_6 (by decide) rfl ?_
  refine x_iload dX4_misfit_8 rfl ?_
  refine x_if_eq (tgt := 41) dX4_misfit_10 (by decide) (by first | exact hz _ _ | exact hw.1 _ _ | exact zR_of _ | assumption | exact ⟨by omega, by omega⟩) (fun c10 => ?_) (fun c10 => ?_)
  · refine x_iconst dX4_misfit_41 ?_
    refine x_istore (L' := [xR (34, r, 0), xI w, xR (43, 0, 0), xR (27, 0, 0), xI (zAnd w (S.1 (34, r, 0) 4)), xI 0, none, none, none, none]) dX4_misfit_42 (by decide) rfl ?_
    have hsz := wf34_2 hw h1 h2
    obtain ⟨n, hn⟩ := Int.eq_ofNat_of_zero_le hsz.1
    exact l_misfit43 S hw r h1 h2 hr w g1 g2 (by assumption) n hn 10 0 (by omega) (by omega) (fun j q => by omega)
  · refine x_iload dX4_misfit_13 rfl ?_
    refine x_bipush (v := 64) dX4_misfit_15 (by decide) ?_
    refine x_icmp_lt (tgt := 26) dX4_misfit_17 (by decide) (by first | exact hz _ _ | exact hw.1 _ _ | exact zR_of _ | assumption | exact ⟨by omega, by omega⟩) ⟨by decide, by decide⟩ (fun c17 => ?_) (fun c17 => ?_)
    · refine x_iload dX4_misfit_26 rfl ?_
      refine x_bipush (v := 8) dX4_misfit_28 (by decide) ?_
      refine x_icmp_lt (tgt := 38) dX4_misfit_30 (by decide) (by first | exact hz _ _ | exact hw.1 _ _ | exact zR_of _ | assumption | exact ⟨by omega, by omega⟩) ⟨by decide, by decide⟩ (fun c30 => ?_) (fun c30 => ?_)
      · refine x_bipush (v := 7) dX4_misfit_38 (by decide) ?_
        exact x_iret dX4_misfit_40 rfl (mis_1 hr g1 g2 (by assumption) (by (repeat' split) <;> first | rfl | (exfalso; omega)))
      · refine x_bipush (v := 63) dX4_misfit_33 (by decide) ?_
        refine x_goto (tgt := 40) dX4_misfit_35 (by decide) ?_
        exact x_iret dX4_misfit_40 rfl (mis_1 hr g1 g2 (by assumption) (by (repeat' split) <;> first | rfl | (exfalso; omega)))
    · refine x_sipush (v := 511) dX4_misfit_20 (by decide) ?_
      refine x_goto (tgt := 40) dX4_misfit_23 (by decide) ?_
      exact x_iret dX4_misfit_40 rfl (mis_1 hr g1 g2 (by assumption) (by (repeat' split) <;> first | rfl | (exfalso; omega)))
set_option maxHeartbeats 4000000 in
set_option maxRecDepth 100000 in
theorem l_headsFrom (S : XS) (hw : WI S) (r : Int) (h1 : 0 ≤ r) (h2 : r < 10) (hr : RuleOk S.1 r) : ∀ (nn : Nat) (H : Int64) (sk way : Int), 512 - way < (nn : Int) → (0 ≤ way) → (way ≤ 512) → (∀ p : Nat, p < 64 → (bitJ H p ↔ upto S.1 (S.2.1 (26, 0, 0)) (S.2.1 (26, 0, 0)) r way p)) → X mX4_headsFrom 8 [xR (34, r, 0), xR (26, 0, 0), xJ H, none, xI sk, xI way] [] (hp S) 0 0 (pRet (xJ (headsF S.1 (S.2.1 (26, 0, 0)) (S.2.1 (26, 0, 0)) r)) (hp S)) := by
  intro nn
  induction nn with
  | zero => intro H sk way hm hw0 hw1 hH; exfalso; omega
  | succ nn ih =>
    intro H sk way hm hw0 hw1 hH
    refine x_iload dX4_headsFrom_8 rfl ?_
    refine x_sipush (v := 512) dX4_headsFrom_10 (by decide) ?_
    refine x_icmp_ge (tgt := 61) dX4_headsFrom_13 (by decide) (by first | exact hz _ _ | exact hw.1 _ _ | exact zR_of _ | assumption | exact ⟨by omega, by omega⟩) ⟨by decide, by decide⟩ (fun c13 => ?_) (fun c13 => ?_)
    · refine x_lload_n dX4_headsFrom_61 rfl ?_
      exact x_lret dX4_headsFrom_62 rfl (by obtain rfl : way = 512 := (by omega); exact pRJ (jOf_eq hH))
    · refine x_aload_n dX4_headsFrom_16 rfl ?_
      refine x_iload dX4_headsFrom_17 rfl ?_
      refine x_aload_n dX4_headsFrom_19 rfl ?_
      refine x_aload_n dX4_headsFrom_20 rfl ?_
      refine x_callV (a := 0) (b := 0) (as := [xI way, xR (26, 0, 0), xR (26, 0, 0)]) (rest := []) ok_X4_misfit dX4_headsFrom_21 wd400 ⟨wd401, wd402⟩ (hp34 S (by omega) (by omega)) rfl rfl (c_misfit26 S hw r (by omega) (by omega) hr way (by omega) (by omega)) rfl (Nat.le_of_ble_eq_true rfl) (Nat.le_of_ble_eq_true rfl) (by decide) (by omega) (by omega) (fun _ q => by obtain ⟨-, v, q1, -⟩ := q; cases q1) (fun _ _ q => ?_) (fun _ _ q => by obtain ⟨-, v, q1, -⟩ := q; cases q1)
      obtain ⟨rfl, v, q1, q2⟩ := q
      cases q1
      rcases q2 with ⟨rfl, q2⟩ | ⟨v0, v1, q2⟩
      · refine x_istore (L' := [xR (34, r, 0), xR (26, 0, 0), xJ H, none, xI (-1), xI way]) dX4_headsFrom_24 (by decide) rfl ?_
        refine x_iload dX4_headsFrom_26 rfl ?_
        refine x_iconst dX4_headsFrom_28 ?_
        refine x_icmp_ne (tgt := 49) dX4_headsFrom_29 (by decide) ⟨by decide, by decide⟩ ⟨by decide, by decide⟩ (fun z => absurd z (by decide)) (fun _ => ?_)
        refine x_lload_n dX4_headsFrom_32 rfl ?_
        refine x_lconst (v := 1) dX4_headsFrom_33 (by decide) ?_
        refine x_aload_n dX4_headsFrom_34 rfl ?_
        refine x_get (v := xR (37, r, 0)) dX4_headsFrom_35 fl_RX4_12 (hp34 S (by omega) (by omega)) rfl ?_
        refine x_iload dX4_headsFrom_38 rfl ?_
        refine x_callV_r (a := 0) (b := 0) (as := [xI way]) (rest := [xJ 1, xJ H]) ok_X2_pairOf dX4_headsFrom_40 wd404 ⟨wd405, wd406⟩ (hp37 S (by omega) (by omega)) rfl rfl (c_pairOf37 S hw r (by omega) (by omega) way) rfl (Nat.le_of_ble_eq_true rfl) (Nat.le_of_ble_eq_true rfl) (by decide) (by omega) (by omega) ?_
        refine x_lshl dX4_headsFrom_43 ?_
        refine x_lor dX4_headsFrom_44 ?_
        refine x_lstore_n (L' := [xR (34, r, 0), xR (26, 0, 0), xJ (H ||| (jShl 1 (fPair S (37, r, 0) way))), none, xI (-1), xI way]) dX4_headsFrom_45 (by decide) rfl ?_
        refine x_iconst dX4_headsFrom_46 ?_
        refine x_istore (L' := [xR (34, r, 0), xR (26, 0, 0), xJ (H ||| (jShl 1 (fPair S (37, r, 0) way))), none, xI 0, xI way]) dX4_headsFrom_47 (by decide) rfl ?_
        refine x_iload dX4_headsFrom_49 rfl ?_
        refine x_iload dX4_headsFrom_51 rfl ?_
        refine x_ior dX4_headsFrom_53 ?_
        refine x_iconst dX4_headsFrom_54 ?_
        refine x_iadd dX4_headsFrom_55 ?_
        refine x_istore (L' := [xR (34, r, 0), xR (26, 0, 0), xJ (H ||| (jShl 1 (fPair S (37, r, 0) way))), none, xI 0, xI ((zOr way 0) + 1)]) dX4_headsFrom_56 (by decide) rfl ?_
        refine x_goto (tgt := 8) dX4_headsFrom_58 (by decide) ?_
        have e := zOr_way hw0 (by omega) (show (0 : Int) ≤ 0 by decide) (by decide)
        exact ih _ _ _ (by omega) (by omega) (by omega) (upto_fit hr hw0 (by omega) hH q2)
      · refine x_istore (L' := [xR (34, r, 0), xR (26, 0, 0), xJ H, none, xI v, xI way]) dX4_headsFrom_24 (by decide) rfl ?_
        refine x_iload dX4_headsFrom_26 rfl ?_
        refine x_iconst dX4_headsFrom_28 ?_
        refine x_icmp_ne (tgt := 49) dX4_headsFrom_29 (by decide) (by first | exact hz _ _ | exact hw.1 _ _ | exact zR_of _ | assumption | exact ⟨by omega, by omega⟩) ⟨by decide, by decide⟩ (fun c29 => ?_) (fun c29 => by exfalso; omega)
        refine x_iload dX4_headsFrom_49 rfl ?_
        refine x_iload dX4_headsFrom_51 rfl ?_
        refine x_ior dX4_headsFrom_53 ?_
        refine x_iconst dX4_headsFrom_54 ?_
        refine x_iadd dX4_headsFrom_55 ?_
        refine x_istore (L' := [xR (34, r, 0), xR (26, 0, 0), xJ H, none, xI v, xI ((zOr way v) + 1)]) dX4_headsFrom_56 (by decide) rfl ?_
        refine x_goto (tgt := 8) dX4_headsFrom_58 (by decide) ?_
        have e := zOr_way hw0 (by omega) v0 v1
        exact ih _ _ _ (by omega) (by omega) (by omega) (upto_skip hw0 (by omega) v0 v1 hH q2)
set_option maxHeartbeats 4000000 in
set_option maxRecDepth 100000 in
theorem c_headsFrom (S : XS) (hw : WI S) (r : Int) (h1 : 0 ≤ r) (h2 : r < 10) (hr : RuleOk S.1 r) : X mX4_headsFrom 0 (xEnt mX4_headsFrom [xR (34, r, 0), xR (26, 0, 0)]) [] (hp S) 0 0 (pRet (xJ (headsF S.1 (S.2.1 (26, 0, 0)) (S.2.1 (26, 0, 0)) r)) (hp S)) := by
  show X mX4_headsFrom 0 [xR (34, r, 0), xR (26, 0, 0), none, none, none, none] [] (hp S) 0 0 _
  refine x_lconst (v := 0) dX4_headsFrom_0 (by decide) ?_
  refine x_lstore_n (L' := [xR (34, r, 0), xR (26, 0, 0), xJ 0, none, none, none]) dX4_headsFrom_1 (by decide) rfl ?_
  refine x_iconst dX4_headsFrom_2 ?_
  refine x_istore (L' := [xR (34, r, 0), xR (26, 0, 0), xJ 0, none, xI 0, none]) dX4_headsFrom_3 (by decide) rfl ?_
  refine x_iconst dX4_headsFrom_5 ?_
  refine x_istore (L' := [xR (34, r, 0), xR (26, 0, 0), xJ 0, none, xI 0, xI 0]) dX4_headsFrom_6 (by decide) rfl ?_
  refine l_headsFrom S hw r h1 h2 hr 513 0 0 0 (by omega) (by omega) (by omega) (fun p hp => ⟨fun z => absurd z (bitJ_0 p hp), fun z => ?_⟩)
  obtain ⟨x, x1, x2, -⟩ := z
  omega
