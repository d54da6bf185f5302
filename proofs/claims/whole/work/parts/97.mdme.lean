/-! the reference: forget, as a whole -/
set_option maxHeartbeats 4000000 in
set_option maxRecDepth 100000 in
theorem l_forg2 (C U : XS) (hC : CB C) (x : Int) (x0 : 0 ≤ x) (x1 : x < 8) (nb c : Nat) (hnb : C.1 (0, 0, 0) 6 = nb) (hc : C.1 (0, 0, 0) 7 = c) (h25 : U.1 (50, 0, 0) 25 = 0) (hM : MR C U) (hml : MRl C U) (hE : ∀ i : Nat, i < nb → EndOk (sFgA C x nb) i) (b : Nat) (hb : b < nb) (KKb : ∀ T : XS, FgE U T → MR (sFgA C x (b + 1)) T → X mX9_forget 16 [xR (50, 0, 0), xI x, xI (fgA C x (b + 1)), xI ((b : Int) + 1), none, none] [] (hp T) 20 (fgCost (sFgA C x nb) U c nb) (pTz U (sInA (sFgA C x nb) c nb) (fgA C x nb) (fgCost (sFgA C x nb) U c nb))) : ∀ (nn : Nat) (T : XS) (k : Nat), C.1 (9, b, 0) 3 - (k : Int) + 1 < (nn : Int) → (FgE U T) → (MR (sForgN (sFgA C x b) b x k) T) → ((k : Int) ≤ C.1 (9, b, 0) 3) → X mX9_forget 30 [xR (50, 0, 0), xI x, xI (fgA C x b + forgN (sFgA C x b) b x k), xI (b : Int), xI (60 * (b : Int) + (k : Int)), none] [] (hp T) 20 (fgCost (sFgA C x nb) U c nb) (pTz U (sInA (sFgA C x nb) c nb) (fgA C x nb) (fgCost (sFgA C x nb) U c nb)) := by
  intro nn
  induction nn with
  | zero => intro T k hm hF hD hk; exfalso; omega
  | succ nn ih =>
    intro T k hm hF hD hk
    have wT := hF.1
    have hz := wT.1
    have c6 := wf0_6 hC.1
    have c9 := wf9_3 hC.1 (b := (b : Int)) (by omega) (by omega)
    have o9 : ∀ b2 : Int, (sForgN (sFgA C x b) b x k).1 (9, b2, 0) = C.1 (9, b2, 0) := fun b2 => (sForgN_o _ _ _ _ (show (9 : Nat) ≠ 13 by decide)).trans (fgA_o C x b (show (9 : Nat) ≠ 13 by decide))
    have mb := (hD.2.2.2.1 (b : Int) (by omega) (by omega)).1
    rw [o9] at mb
    refine x_iload dX9_forget_30 rfl ?_
    refine x_iload_n dX9_forget_32 rfl ?_
    refine x_bipush (v := 60) dX9_forget_33 (by decide) ?_
    refine x_imul dX9_forget_35 ?_
    refine x_aload_n dX9_forget_36 rfl ?_
    refine x_get (v := xR (58, 0, 0)) dX9_forget_37 fl_RX9_33 (hp50 T) rfl ?_
    refine x_iload_n dX9_forget_40 rfl ?_
    refine x_aldi (f := T.1 (58, 0, 0)) dX9_forget_41 (hp58 T) (show (58 : Nat) ≠ 99 by decide) (by omega) (by omega) (by decide) ?_
    have f41_1 := wfa58 wT (S := T) (b : Int)
    refine x_iadd dX9_forget_42 ?_
    refine x_top (show ((b : Int) * 60) + (T.1 (58, 0, 0) (b : Int)) = 60 * (b : Int) + C.1 (9, b, 0) 3 from by omega) ?_
    refine x_icmp_ge (tgt := 138) dX9_forget_43 (by decide) (by first | exact hz _ _ | exact hw.1 _ _ | exact zR_of _ | exact bI_z _ | assumption | exact ⟨by omega, by omega⟩) (by first | exact hz _ _ | exact hw.1 _ _ | exact zR_of _ | exact bI_z _ | assumption | exact ⟨by omega, by omega⟩) (fun c43 => ?_) (fun c43 => ?_)
    · refine x_iinc (L' := [xR (50, 0, 0), xI x, xI (fgA C x b + forgN (sFgA C x b) b x k), xI ((b : Int) + 1), xI (60 * (b : Int) + (k : Int)), none]) dX9_forget_138 rfl rfl ?_
      refine x_goto (tgt := 16) dX9_forget_141 (by decide) ?_
      refine X.loc (L' := [xR (50, 0, 0), xI x, xI (fgA C x b + forgN (sFgA C x b) b x k), xI ((b : Int) + 1), none, none]) ⟨rfl, ⟨rfl, ⟨rfl, ⟨rfl, trivial⟩⟩⟩⟩ ?_
      have ek : k = (C.1 (9, b, 0) 3).toNat := by omega
      subst ek
      exact KKb T hF hD
    · have hkn : (k : Int) < C.1 (9, b, 0) 3 := by omega
      obtain ⟨t1, t2, -, -, -, t6⟩ := hD.1 (b : Int) (k : Int) (by omega) (by omega) (by omega) (by rw [o9]; exact hkn)
      have fi0 := kd_fact ((sForgN (sFgA C x b) b x k).1 (13, b, k) 0) ((sForgN (sFgA C x b) b x k).1 (13, b, k) 1)
      rw [← t1] at fi0
      have fa := wfa52 wT (60 * (b : Int) + (k : Int))
      have ff := wfa56 wT (60 * (b : Int) + (k : Int))
      refine x_aload_n dX9_forget_46 rfl ?_
      refine x_get (v := xR (51, 0, 0)) dX9_forget_47 fl_RX9_9 (hp50 T) rfl ?_
      refine x_iload dX9_forget_50 rfl ?_
      refine x_aldc (f := T.1 (51, 0, 0)) dX9_forget_52 (hp51 T) (show (51 : Nat) ≠ 99 by decide) (by omega) (by omega) (by decide) ?_
      have f52_2 := wfa51 wT (S := T) (60 * (b : Int) + (k : Int))
      refine x_callS_r (a := 0) (b := 0) (as := [xI (T.1 (51, 0, 0) (60 * (b : Int) + (k : Int)))]) (rest := []) ok_X9_isOfFact dX9_forget_53 wd1230 wd1231 (m_isOfFact T (T.1 (51, 0, 0) (60 * (b : Int) + (k : Int))) (by first | exact hz _ _ | exact hw.1 _ _ | exact zR_of _ | exact bI_z _ | assumption | exact ⟨by omega, by omega⟩)) rfl (Nat.le_of_ble_eq_true rfl) (Nat.le_of_ble_eq_true rfl) (by decide) (by omega) (by omega) ?_
      by_cases b53 : (T.1 (51, 0, 0) (60 * (b : Int) + (k : Int))) = 104 ∨ (T.1 (51, 0, 0) (60 * (b : Int) + (k : Int))) = 117
      · refine x_top (bI_t b53) ?_
        refine x_if_eq (tgt := 104) dX9_forget_56 (by decide) ⟨by decide, by decide⟩ (fun z => absurd z (by decide)) (fun _ => ?_)
        refine x_aload_n dX9_forget_59 rfl ?_
        refine x_get (v := xR (52, 0, 0)) dX9_forget_60 fl_RX9_13 (hp50 T) rfl ?_
        refine x_iload dX9_forget_63 rfl ?_
        refine x_aldi (f := T.1 (52, 0, 0)) dX9_forget_65 (hp52 T) (show (52 : Nat) ≠ 99 by decide) (by omega) (by omega) (by decide) ?_
        have f65_3 := wfa52 wT (S := T) (60 * (b : Int) + (k : Int))
        refine x_bipush (v := 8) dX9_forget_66 (by decide) ?_
        refine x_idiv dX9_forget_68 (by omega) (by omega) (by omega) (by omega) ?_
        refine x_bipush (v := 8) dX9_forget_69 (by decide) ?_
        refine x_irem dX9_forget_71 (by omega) (by omega) (by omega) (by omega) ?_
        refine x_iload_n dX9_forget_72 rfl ?_
        refine x_icmp_eq (tgt := 90) dX9_forget_73 (by decide) (by first | exact hz _ _ | exact hw.1 _ _ | exact zR_of _ | exact bI_z _ | assumption | exact ⟨by omega, by omega⟩) (by first | exact hz _ _ | exact hw.1 _ _ | exact zR_of _ | exact bI_z _ | assumption | exact ⟨by omega, by omega⟩) (fun c73 => ?_) (fun c73 => ?_)
        · refine x_aload_n dX9_forget_90 rfl ?_
          refine x_get (v := xR (56, 0, 0)) dX9_forget_91 fl_RX9_26 (hp50 T) rfl ?_
          refine x_iload dX9_forget_94 rfl ?_
          refine x_aldz (f := T.1 (56, 0, 0)) dX9_forget_96 (hp56 T) (show (56 : Nat) ≠ 99 by decide) (by omega) (by omega) (by decide) ?_
          have f96_4 := wfa56 wT (S := T) (60 * (b : Int) + (k : Int))
          refine x_if_ne (tgt := 104) dX9_forget_97 (by decide) (by first | exact hz _ _ | exact hw.1 _ _ | exact zR_of _ | exact bI_z _ | assumption | exact ⟨by omega, by omega⟩) (fun c97 => ?_) (fun c97 => ?_)
          · refine x_iconst dX9_forget_104 ?_
            have st := sForgN_f (sFgA C x b) b x k (fun z => by obtain ⟨z1, z2⟩ := z; unfold fConcerns at z2; omega)
            refine x_istore (L' := [xR (50, 0, 0), xI x, xI (fgA C x b + forgN (sFgA C x b) b x k), xI (b : Int), xI (60 * (b : Int) + (k : Int)), xI 0]) dX9_forget_105 (by decide) rfl ?_
            refine x_iload_n dX9_forget_107 rfl ?_
            refine x_iload dX9_forget_108 rfl ?_
            refine x_if_eq (tgt := 117) dX9_forget_110 (by decide) ⟨by decide, by decide⟩ (fun _ => ?_) (fun z => absurd z (by decide))
            refine x_iconst dX9_forget_117 ?_
            refine x_iadd dX9_forget_118 ?_
            refine x_istore_n (L' := [xR (50, 0, 0), xI x, xI ((fgA C x b + forgN (sFgA C x b) b x k) + 0), xI (b : Int), xI (60 * (b : Int) + (k : Int)), xI 0]) dX9_forget_119 (by decide) rfl ?_
            refine x_aload_n dX9_forget_120 rfl ?_
            refine x_get (v := xR (56, 0, 0)) dX9_forget_121 fl_RX9_26 (hp50 T) rfl ?_
            refine x_iload dX9_forget_124 rfl ?_
            refine x_dup2 dX9_forget_126 rfl rfl ?_
            refine x_aldz (f := T.1 (56, 0, 0)) dX9_forget_127 (hp56 T) (show (56 : Nat) ≠ 99 by decide) (by omega) (by omega) (by decide) ?_
            have f127_5 := wfa56 wT (S := T) (60 * (b : Int) + (k : Int))
            refine x_iload dX9_forget_128 rfl ?_
            refine x_ior dX9_forget_130 ?_
            refine x_top (show zOr (T.1 (56, 0, 0) (60 * (b : Int) + (k : Int))) 0 = T.1 (56, 0, 0) (60 * (b : Int) + (k : Int)) from zOr_0 (wfa56 wT _)) ?_
            refine x_astz dX9_forget_131 (hp56 T) (show (56 : Nat) ≠ 99 by decide) (by omega) (by omega) (by decide) (by first | exact Or.inr rfl | exact wfa56 wT _) ?_
            refine x_heq (pa56 T (60 * (b : Int) + (k : Int)) (T.1 (56, 0, 0) (60 * (b : Int) + (k : Int)))) ?_
            have hw131_6 : WI (putI T (56, 0, 0) (60 * (b : Int) + (k : Int)) (T.1 (56, 0, 0) (60 * (b : Int) + (k : Int)))) := wpa56 wT (by first | exact Or.inr rfl | exact wfa56 wT _)
            refine x_iinc (L' := [xR (50, 0, 0), xI x, xI ((fgA C x b + forgN (sFgA C x b) b x k) + 0), xI (b : Int), xI ((60 * (b : Int) + (k : Int)) + 1), xI 0]) dX9_forget_132 rfl rfl ?_
            refine x_goto (tgt := 30) dX9_forget_135 (by decide) ?_
            refine X.loc (L' := [xR (50, 0, 0), xI x, xI ((fgA C x b + forgN (sFgA C x b) b x k) + 0), xI (b : Int), xI ((60 * (b : Int) + (k : Int)) + 1), none]) ⟨rfl, ⟨rfl, ⟨rfl, ⟨rfl, ⟨rfl, trivial⟩⟩⟩⟩⟩ ?_
            rw [putI_same]
            have kz := ih T (k + 1) (by omega) hF (by rw [st.1]; exact hD) (by omega)
            rw [show fgA C x b + forgN (sFgA C x b) b x (k + 1) = (fgA C x b + forgN (sFgA C x b) b x k) + 0 from by rw [st.2]; omega, show 60 * (b : Int) + ((k + 1 : Nat) : Int) = 60 * (b : Int) + (k : Int) + 1 by omega] at kz
            exact kz
          · refine x_iconst dX9_forget_100 ?_
            refine x_goto (tgt := 105) dX9_forget_101 (by decide) ?_
            have st := sForgN_t (sFgA C x b) b x k ⟨by omega, by unfold fConcerns; omega⟩
            refine x_istore (L' := [xR (50, 0, 0), xI x, xI (fgA C x b + forgN (sFgA C x b) b x k), xI (b : Int), xI (60 * (b : Int) + (k : Int)), xI 1]) dX9_forget_105 (by decide) rfl ?_
            refine x_iload_n dX9_forget_107 rfl ?_
            refine x_iload dX9_forget_108 rfl ?_
            refine x_if_eq (tgt := 117) dX9_forget_110 (by decide) ⟨by decide, by decide⟩ (fun z => absurd z (by decide)) (fun _ => ?_)
            refine x_iconst dX9_forget_113 ?_
            refine x_goto (tgt := 118) dX9_forget_114 (by decide) ?_
            refine x_iadd dX9_forget_118 ?_
            refine x_istore_n (L' := [xR (50, 0, 0), xI x, xI ((fgA C x b + forgN (sFgA C x b) b x k) + 1), xI (b : Int), xI (60 * (b : Int) + (k : Int)), xI 1]) dX9_forget_119 (by decide) rfl ?_
            refine x_aload_n dX9_forget_120 rfl ?_
            refine x_get (v := xR (56, 0, 0)) dX9_forget_121 fl_RX9_26 (hp50 T) rfl ?_
            refine x_iload dX9_forget_124 rfl ?_
            refine x_dup2 dX9_forget_126 rfl rfl ?_
            refine x_aldz (f := T.1 (56, 0, 0)) dX9_forget_127 (hp56 T) (show (56 : Nat) ≠ 99 by decide) (by omega) (by omega) (by decide) ?_
            have f127_7 := wfa56 wT (S := T) (60 * (b : Int) + (k : Int))
            refine x_iload dX9_forget_128 rfl ?_
            refine x_ior dX9_forget_130 ?_
            refine x_top (show zOr (T.1 (56, 0, 0) (60 * (b : Int) + (k : Int))) 1 = 1 from by rw [show T.1 (56, 0, 0) (60 * (b : Int) + (k : Int)) = 0 by omega]; decide) ?_
            refine x_astz dX9_forget_131 (hp56 T) (show (56 : Nat) ≠ 99 by decide) (by omega) (by omega) (by decide) (Or.inr rfl) ?_
            refine x_heq (pa56 T (60 * (b : Int) + (k : Int)) 1) ?_
            have hw131_8 : WI (putI T (56, 0, 0) (60 * (b : Int) + (k : Int)) 1) := wpa56 wT (Or.inr rfl)
            refine x_iinc (L' := [xR (50, 0, 0), xI x, xI ((fgA C x b + forgN (sFgA C x b) b x k) + 1), xI (b : Int), xI ((60 * (b : Int) + (k : Int)) + 1), xI 1]) dX9_forget_132 rfl rfl ?_
            refine x_goto (tgt := 30) dX9_forget_135 (by decide) ?_
            refine X.loc (L' := [xR (50, 0, 0), xI x, xI ((fgA C x b + forgN (sFgA C x b) b x k) + 1), xI (b : Int), xI ((60 * (b : Int) + (k : Int)) + 1), none]) ⟨rfl, ⟨rfl, ⟨rfl, ⟨rfl, ⟨rfl, trivial⟩⟩⟩⟩⟩ ?_
            have kz := ih (putI T (56, 0, 0) (60 * (b : Int) + (k : Int)) 1) (k + 1) (by omega) (hF.put _ (Or.inr rfl)) (by rw [st.1]; exact mr_put6 hD (fun b2 x2 y2 => by rw [o9]; exact (wf9_3 hC.1 x2 y2).2) (by omega) (by omega) (by omega) (by omega)) (by omega)
            rw [show fgA C x b + forgN (sFgA C x b) b x (k + 1) = (fgA C x b + forgN (sFgA C x b) b x k) + 1 from by rw [st.2]; omega, show 60 * (b : Int) + ((k + 1 : Nat) : Int) = 60 * (b : Int) + (k : Int) + 1 by omega] at kz
            exact kz
        · refine x_aload_n dX9_forget_76 rfl ?_
          refine x_get (v := xR (52, 0, 0)) dX9_forget_77 fl_RX9_13 (hp50 T) rfl ?_
          refine x_iload dX9_forget_80 rfl ?_
          refine x_aldi (f := T.1 (52, 0, 0)) dX9_forget_82 (hp52 T) (show (52 : Nat) ≠ 99 by decide) (by omega) (by omega) (by decide) ?_
          have f82_9 := wfa52 wT (S := T) (60 * (b : Int) + (k : Int))
          refine x_bipush (v := 8) dX9_forget_83 (by decide) ?_
          refine x_irem dX9_forget_85 (by omega) (by omega) (by omega) (by omega) ?_
          refine x_iload_n dX9_forget_86 rfl ?_
          refine x_icmp_ne (tgt := 104) dX9_forget_87 (by decide) (by first | exact hz _ _ | exact hw.1 _ _ | exact zR_of _ | exact bI_z _ | assumption | exact ⟨by omega, by omega⟩) (by first | exact hz _ _ | exact hw.1 _ _ | exact zR_of _ | exact bI_z _ | assumption | exact ⟨by omega, by omega⟩) (fun c87 => ?_) (fun c87 => ?_)
          · refine x_iconst dX9_forget_104 ?_
            have st := sForgN_f (sFgA C x b) b x k (fun z => by obtain ⟨z1, z2⟩ := z; unfold fConcerns at z2; omega)
            refine x_istore (L' := [xR (50, 0, 0), xI x, xI (fgA C x b + forgN (sFgA C x b) b x k), xI (b : Int), xI (60 * (b : Int) + (k : Int)), xI 0]) dX9_forget_105 (by decide) rfl ?_
            refine x_iload_n dX9_forget_107 rfl ?_
            refine x_iload dX9_forget_108 rfl ?_
            refine x_if_eq (tgt := 117) dX9_forget_110 (by decide) ⟨by decide, by decide⟩ (fun _ => ?_) (fun z => absurd z (by decide))
            refine x_iconst dX9_forget_117 ?_
            refine x_iadd dX9_forget_118 ?_
            refine x_istore_n (L' := [xR (50, 0, 0), xI x, xI ((fgA C x b + forgN (sFgA C x b) b x k) + 0), xI (b : Int), xI (60 * (b : Int) + (k : Int)), xI 0]) dX9_forget_119 (by decide) rfl ?_
            refine x_aload_n dX9_forget_120 rfl ?_
            refine x_get (v := xR (56, 0, 0)) dX9_forget_121 fl_RX9_26 (hp50 T) rfl ?_
            refine x_iload dX9_forget_124 rfl ?_
            refine x_dup2 dX9_forget_126 rfl rfl ?_
            refine x_aldz (f := T.1 (56, 0, 0)) dX9_forget_127 (hp56 T) (show (56 : Nat) ≠ 99 by decide) (by omega) (by omega) (by decide) ?_
            have f127_10 := wfa56 wT (S := T) (60 * (b : Int) + (k : Int))
            refine x_iload dX9_forget_128 rfl ?_
            refine x_ior dX9_forget_130 ?_
            refine x_top (show zOr (T.1 (56, 0, 0) (60 * (b : Int) + (k : Int))) 0 = T.1 (56, 0, 0) (60 * (b : Int) + (k : Int)) from zOr_0 (wfa56 wT _)) ?_
            refine x_astz dX9_forget_131 (hp56 T) (show (56 : Nat) ≠ 99 by decide) (by omega) (by omega) (by decide) (by first | exact Or.inr rfl | exact wfa56 wT _) ?_
            refine x_heq (pa56 T (60 * (b : Int) + (k : Int)) (T.1 (56, 0, 0) (60 * (b : Int) + (k : Int)))) ?_
            have hw131_11 : WI (putI T (56, 0, 0) (60 * (b : Int) + (k : Int)) (T.1 (56, 0, 0) (60 * (b : Int) + (k : Int)))) := wpa56 wT (by first | exact Or.inr rfl | exact wfa56 wT _)
            refine x_iinc (L' := [xR (50, 0, 0), xI x, xI ((fgA C x b + forgN (sFgA C x b) b x k) + 0), xI (b : Int), xI ((60 * (b : Int) + (k : Int)) + 1), xI 0]) dX9_forget_132 rfl rfl ?_
            refine x_goto (tgt := 30) dX9_forget_135 (by decide) ?_
            refine X.loc (L' := [xR (50, 0, 0), xI x, xI ((fgA C x b + forgN (sFgA C x b) b x k) + 0), xI (b : Int), xI ((60 * (b : Int) + (k : Int)) + 1), none]) ⟨rfl, ⟨rfl, ⟨rfl, ⟨rfl, ⟨rfl, trivial⟩⟩⟩⟩⟩ ?_
            rw [putI_same]
            have kz := ih T (k + 1) (by omega) hF (by rw [st.1]; exact hD) (by omega)
            rw [show fgA C x b + forgN (sFgA C x b) b x (k + 1) = (fgA C x b + forgN (sFgA C x b) b x k) + 0 from by rw [st.2]; omega, show 60 * (b : Int) + ((k + 1 : Nat) : Int) = 60 * (b : Int) + (k : Int) + 1 by omega] at kz
            exact kz
          · refine x_aload_n dX9_forget_90 rfl ?_
            refine x_get (v := xR (56, 0, 0)) dX9_forget_91 fl_RX9_26 (hp50 T) rfl ?_
            refine x_iload dX9_forget_94 rfl ?_
            refine x_aldz (f := T.1 (56, 0, 0)) dX9_forget_96 (hp56 T) (show (56 : Nat) ≠ 99 by decide) (by omega) (by omega) (by decide) ?_
            have f96_12 := wfa56 wT (S := T) (60 * (b : Int) + (k : Int))
            refine x_if_ne (tgt := 104) dX9_forget_97 (by decide) (by first | exact hz _ _ | exact hw.1 _ _ | exact zR_of _ | exact bI_z _ | assumption | exact ⟨by omega, by omega⟩) (fun c97 => ?_) (fun c97 => ?_)
            · refine x_iconst dX9_forget_104 ?_
              have st := sForgN_f (sFgA C x b) b x k (fun z => by obtain ⟨z1, z2⟩ := z; unfold fConcerns at z2; omega)
              refine x_istore (L' := [xR (50, 0, 0), xI x, xI (fgA C x b + forgN (sFgA C x b) b x k), xI (b : Int), xI (60 * (b : Int) + (k : Int)), xI 0]) dX9_forget_105 (by decide) rfl ?_
              refine x_iload_n dX9_forget_107 rfl ?_
              refine x_iload dX9_forget_108 rfl ?_
              refine x_if_eq (tgt := 117) dX9_forget_110 (by decide) ⟨by decide, by decide⟩ (fun _ => ?_) (fun z => absurd z (by decide))
              refine x_iconst dX9_forget_117 ?_
              refine x_iadd dX9_forget_118 ?_
              refine x_istore_n (L' := [xR (50, 0, 0), xI x, xI ((fgA C x b + forgN (sFgA C x b) b x k) + 0), xI (b : Int), xI (60 * (b : Int) + (k : Int)), xI 0]) dX9_forget_119 (by decide) rfl ?_
              refine x_aload_n dX9_forget_120 rfl ?_
              refine x_get (v := xR (56, 0, 0)) dX9_forget_121 fl_RX9_26 (hp50 T) rfl ?_
              refine x_iload dX9_forget_124 rfl ?_
              refine x_dup2 dX9_forget_126 rfl rfl ?_
              refine x_aldz (f := T.1 (56, 0, 0)) dX9_forget_127 (hp56 T) (show (56 : Nat) ≠ 99 by decide) (by omega) (by omega) (by decide) ?_
              have f127_13 := wfa56 wT (S := T) (60 * (b : Int) + (k : Int))
              refine x_iload dX9_forget_128 rfl ?_
              refine x_ior dX9_forget_130 ?_
              refine x_top (show zOr (T.1 (56, 0, 0) (60 * (b : Int) + (k : Int))) 0 = T.1 (56, 0, 0) (60 * (b : Int) + (k : Int)) from zOr_0 (wfa56 wT _)) ?_
              refine x_astz dX9_forget_131 (hp56 T) (show (56 : Nat) ≠ 99 by decide) (by omega) (by omega) (by decide) (by first | exact Or.inr rfl | exact wfa56 wT _) ?_
              refine x_heq (pa56 T (60 * (b : Int) + (k : Int)) (T.1 (56, 0, 0) (60 * (b : Int) + (k : Int)))) ?_
              have hw131_14 : WI (putI T (56, 0, 0) (60 * (b : Int) + (k : Int)) (T.1 (56, 0, 0) (60 * (b : Int) + (k : Int)))) := wpa56 wT (by first | exact Or.inr rfl | exact wfa56 wT _)
              refine x_iinc (L' := [xR (50, 0, 0), xI x, xI ((fgA C x b + forgN (sFgA C x b) b x k) + 0), xI (b : Int), xI ((60 * (b : Int) + (k : Int)) + 1), xI 0]) dX9_forget_132 rfl rfl ?_
              refine x_goto (tgt := 30) dX9_forget_135 (by decide) ?_
              refine X.loc (L' := [xR (50, 0, 0), xI x, xI ((fgA C x b + forgN (sFgA C x b) b x k) + 0), xI (b : Int), xI ((60 * (b : Int) + (k : Int)) + 1), none]) ⟨rfl, ⟨rfl, ⟨rfl, ⟨rfl, ⟨rfl, trivial⟩⟩⟩⟩⟩ ?_
              rw [putI_same]
              have kz := ih T (k + 1) (by omega) hF (by rw [st.1]; exact hD) (by omega)
              rw [show fgA C x b + forgN (sFgA C x b) b x (k + 1) = (fgA C x b + forgN (sFgA C x b) b x k) + 0 from by rw [st.2]; omega, show 60 * (b : Int) + ((k + 1 : Nat) : Int) = 60 * (b : Int) + (k : Int) + 1 by omega] at kz
              exact kz
            · refine x_iconst dX9_forget_100 ?_
              refine x_goto (tgt := 105) dX9_forget_101 (by decide) ?_
              have st := sForgN_t (sFgA C x b) b x k ⟨by omega, by unfold fConcerns; omega⟩
              refine x_istore (L' := [xR (50, 0, 0), xI x, xI (fgA C x b + forgN (sFgA C x b) b x k), xI (b : Int), xI (60 * (b : Int) + (k : Int)), xI 1]) dX9_forget_105 (by decide) rfl ?_
              refine x_iload_n dX9_forget_107 rfl ?_
              refine x_iload dX9_forget_108 rfl ?_
              refine x_if_eq (tgt := 117) dX9_forget_110 (by decide) ⟨by decide, by decide⟩ (fun z => absurd z (by decide)) (fun _ => ?_)
              refine x_iconst dX9_forget_113 ?_
              refine x_goto (tgt := 118) dX9_forget_114 (by decide) ?_
              refine x_iadd dX9_forget_118 ?_
              refine x_istore_n (L' := [xR (50, 0, 0), xI x, xI ((fgA C x b + forgN (sFgA C x b) b x k) + 1), xI (b : Int), xI (60 * (b : Int) + (k : Int)), xI 1]) dX9_forget_119 (by decide) rfl ?_
              refine x_aload_n dX9_forget_120 rfl ?_
              refine x_get (v := xR (56, 0, 0)) dX9_forget_121 fl_RX9_26 (hp50 T) rfl ?_
              refine x_iload dX9_forget_124 rfl ?_
              refine x_dup2 dX9_forget_126 rfl rfl ?_
              refine x_aldz (f := T.1 (56, 0, 0)) dX9_forget_127 (hp56 T) (show (56 : Nat) ≠ 99 by decide) (by omega) (by omega) (by decide) ?_
              have f127_15 := wfa56 wT (S := T) (60 * (b : Int) + (k : Int))
              refine x_iload dX9_forget_128 rfl ?_
              refine x_ior dX9_forget_130 ?_
              refine x_top (show zOr (T.1 (56, 0, 0) (60 * (b : Int) + (k : Int))) 1 = 1 from by rw [show T.1 (56, 0, 0) (60 * (b : Int) + (k : Int)) = 0 by omega]; decide) ?_
              refine x_astz dX9_forget_131 (hp56 T) (show (56 : Nat) ≠ 99 by decide) (by omega) (by omega) (by decide) (Or.inr rfl) ?_
              refine x_heq (pa56 T (60 * (b : Int) + (k : Int)) 1) ?_
              have hw131_16 : WI (putI T (56, 0, 0) (60 * (b : Int) + (k : Int)) 1) := wpa56 wT (Or.inr rfl)
              refine x_iinc (L' := [xR (50, 0, 0), xI x, xI ((fgA C x b + forgN (sFgA C x b) b x k) + 1), xI (b : Int), xI ((60 * (b : Int) + (k : Int)) + 1), xI 1]) dX9_forget_132 rfl rfl ?_
              refine x_goto (tgt := 30) dX9_forget_135 (by decide) ?_
              refine X.loc (L' := [xR (50, 0, 0), xI x, xI ((fgA C x b + forgN (sFgA C x b) b x k) + 1), xI (b : Int), xI ((60 * (b : Int) + (k : Int)) + 1), none]) ⟨rfl, ⟨rfl, ⟨rfl, ⟨rfl, ⟨rfl, trivial⟩⟩⟩⟩⟩ ?_
              have kz := ih (putI T (56, 0, 0) (60 * (b : Int) + (k : Int)) 1) (k + 1) (by omega) (hF.put _ (Or.inr rfl)) (by rw [st.1]; exact mr_put6 hD (fun b2 x2 y2 => by rw [o9]; exact (wf9_3 hC.1 x2 y2).2) (by omega) (by omega) (by omega) (by omega)) (by omega)
              rw [show fgA C x b + forgN (sFgA C x b) b x (k + 1) = (fgA C x b + forgN (sFgA C x b) b x k) + 1 from by rw [st.2]; omega, show 60 * (b : Int) + ((k + 1 : Nat) : Int) = 60 * (b : Int) + (k : Int) + 1 by omega] at kz
              exact kz
      · refine x_top (bI_f b53) ?_
        refine x_if_eq (tgt := 104) dX9_forget_56 (by decide) ⟨by decide, by decide⟩ (fun _ => ?_) (fun z => absurd z (by decide))
        refine x_iconst dX9_forget_104 ?_
        have st := sForgN_f (sFgA C x b) b x k (fun z => by obtain ⟨z1, z2⟩ := z; unfold fConcerns at z2; omega)
        refine x_istore (L' := [xR (50, 0, 0), xI x, xI (fgA C x b + forgN (sFgA C x b) b x k), xI (b : Int), xI (60 * (b : Int) + (k : Int)), xI 0]) dX9_forget_105 (by decide) rfl ?_
        refine x_iload_n dX9_forget_107 rfl ?_
        refine x_iload dX9_forget_108 rfl ?_
        refine x_if_eq (tgt := 117) dX9_forget_110 (by decide) ⟨by decide, by decide⟩ (fun _ => ?_) (fun z => absurd z (by decide))
        refine x_iconst dX9_forget_117 ?_
        refine x_iadd dX9_forget_118 ?_
        refine x_istore_n (L' := [xR (50, 0, 0), xI x, xI ((fgA C x b + forgN (sFgA C x b) b x k) + 0), xI (b : Int), xI (60 * (b : Int) + (k : Int)), xI 0]) dX9_forget_119 (by decide) rfl ?_
        refine x_aload_n dX9_forget_120 rfl ?_
        refine x_get (v := xR (56, 0, 0)) dX9_forget_121 fl_RX9_26 (hp50 T) rfl ?_
        refine x_iload dX9_forget_124 rfl ?_
        refine x_dup2 dX9_forget_126 rfl rfl ?_
        refine x_aldz (f := T.1 (56, 0, 0)) dX9_forget_127 (hp56 T) (show (56 : Nat) ≠ 99 by decide) (by omega) (by omega) (by decide) ?_
        have f127_17 := wfa56 wT (S := T) (60 * (b : Int) + (k : Int))
        refine x_iload dX9_forget_128 rfl ?_
        refine x_ior dX9_forget_130 ?_
        refine x_top (show zOr (T.1 (56, 0, 0) (60 * (b : Int) + (k : Int))) 0 = T.1 (56, 0, 0) (60 * (b : Int) + (k : Int)) from zOr_0 (wfa56 wT _)) ?_
        refine x_astz dX9_forget_131 (hp56 T) (show (56 : Nat) ≠ 99 by decide) (by omega) (by omega) (by decide) (by first | exact Or.inr rfl | exact wfa56 wT _) ?_
        refine x_heq (pa56 T (60 * (b : Int) + (k : Int)) (T.1 (56, 0, 0) (60 * (b : Int) + (k : Int)))) ?_
        have hw131_18 : WI (putI T (56, 0, 0) (60 * (b : Int) + (k : Int)) (T.1 (56, 0, 0) (60 * (b : Int) + (k : Int)))) := wpa56 wT (by first | exact Or.inr rfl | exact wfa56 wT _)
        refine x_iinc (L' := [xR (50, 0, 0), xI x, xI ((fgA C x b + forgN (sFgA C x b) b x k) + 0), xI (b : Int), xI ((60 * (b : Int) + (k : Int)) + 1), xI 0]) dX9_forget_132 rfl rfl ?_
        refine x_goto (tgt := 30) dX9_forget_135 (by decide) ?_
        refine X.loc (L' := [xR (50, 0, 0), xI x, xI ((fgA C x b + forgN (sFgA C x b) b x k) + 0), xI (b : Int), xI ((60 * (b : Int) + (k : Int)) + 1), none]) ⟨rfl, ⟨rfl, ⟨rfl, ⟨rfl, ⟨rfl, trivial⟩⟩⟩⟩⟩ ?_
        rw [putI_same]
        have kz := ih T (k + 1) (by omega) hF (by rw [st.1]; exact hD) (by omega)
        rw [show fgA C x b + forgN (sFgA C x b) b x (k + 1) = (fgA C x b + forgN (sFgA C x b) b x k) + 0 from by rw [st.2]; omega, show 60 * (b : Int) + ((k + 1 : Nat) : Int) = 60 * (b : Int) + (k : Int) + 1 by omega] at kz
        exact kz
set_option maxHeartbeats 4000000 in
set_option maxRecDepth 100000 in
theorem l_forg1 (C U : XS) (hC : CB C) (x : Int) (x0 : 0 ≤ x) (x1 : x < 8) (nb c : Nat) (hnb : C.1 (0, 0, 0) 6 = nb) (hc : C.1 (0, 0, 0) 7 = c) (h25 : U.1 (50, 0, 0) 25 = 0) (hM : MR C U) (hml : MRl C U) (hE : ∀ i : Nat, i < nb → EndOk (sFgA C x nb) i) : ∀ (nn : Nat) (T : XS) (b : Nat), (nb : Int) - (b : Int) + 1 < (nn : Int) → (FgE U T) → (MR (sFgA C x b) T) → (b ≤ nb) → X mX9_forget 16 [xR (50, 0, 0), xI x, xI (fgA C x b), xI (b : Int), none, none] [] (hp T) 20 (fgCost (sFgA C x nb) U c nb) (pTz U (sInA (sFgA C x nb) c nb) (fgA C x nb) (fgCost (sFgA C x nb) U c nb)) := by
  intro nn
  induction nn with
  | zero => intro T b hm hF hD hb; exfalso; omega
  | succ nn ih =>
    intro T b hm hF hD hb
    have wT := hF.1
    have hz := wT.1
    have c6 := wf0_6 hC.1
    have n11T := hD.2.1.1
    rw [fgA_o C x b (l := (0, 0, 0)) (by decide), hnb] at n11T
    have c9 : (b : Int) < nb → 0 ≤ C.1 (9, b, 0) 3 ∧ C.1 (9, b, 0) 3 ≤ 60 := fun h => wf9_3 hC.1 (by omega) (by omega)
    refine x_iload_n dX9_forget_16 rfl ?_
    refine x_aload_n dX9_forget_17 rfl ?_
    refine x_get (v := xI (T.1 (50, 0, 0) 11)) dX9_forget_18 fl_RX9_45 (hp50 T) rfl ?_
    have f18_1 := wf50_11 wT (S := T)
    refine x_icmp_ge (tgt := 144) dX9_forget_21 (by decide) (by first | exact hz _ _ | exact hw.1 _ _ | exact zR_of _ | exact bI_z _ | assumption | exact ⟨by omega, by omega⟩) (by first | exact hz _ _ | exact hw.1 _ _ | exact zR_of _ | exact bI_z _ | assumption | exact ⟨by omega, by omega⟩) (fun c21 => ?_) (fun c21 => ?_)
    · refine x_iconst dX9_forget_144 ?_
      refine x_istore_n (L' := [xR (50, 0, 0), xI x, xI (fgA C x b), xI 0, none, none]) dX9_forget_145 (by decide) rfl ?_
      have e : b = nb := by omega
      subst e
      have cbD := hC.fgA x b (by omega)
      have mDl : MRl (sFgA C x b) T := hml.to (fun l => ⟨fgA_o C x b (l := (14, l, 0)) (show (14 : Nat) ≠ 13 by decide), by rw [fgA_j], by rw [fgA_j], by rw [fgA_j]⟩) (by rw [fgA_o C x b (by decide)]) (fun k a1 a2 => hF.2.2 _ (nK (by omega) _ _ _ _)) (by rw [hF.2.1]) (fun l u => hF.2.2 _ (nK (by decide) _ _ _ _))
      exact l_forg3 C U hC x x0 x1 b c hnb hc h25 hM hml hE T hF hD (b + 2) T 0 20 _ (by omega) (by omega) (HsE.rf T) hF.1 mDl (usum_eq 5 (fun l _ => by rw [hF.2.1])) (fun l _ _ _ => ⟨by rw [hF.2.1], by rw [hF.2.2 _ (by decide)]⟩) cbD (by omega) (by rw [fgCost]; omega)
    · have c9 := c9 (by omega)
      refine x_iload_n dX9_forget_24 rfl ?_
      refine x_bipush (v := 60) dX9_forget_25 (by decide) ?_
      refine x_imul dX9_forget_27 ?_
      refine x_istore (L' := [xR (50, 0, 0), xI x, xI (fgA C x b), xI (b : Int), xI ((b : Int) * 60), none]) dX9_forget_28 (by decide) rfl ?_
      have hbn : b < nb := by omega
      have kz := l_forg2 C U hC x x0 x1 nb c hnb hc h25 hM hml hE b hbn (fun V e1 e2 => by have q := ih V (b + 1) (by omega) e1 e2 (by omega); rw [show ((b + 1 : Nat) : Int) = (b : Int) + 1 by omega] at q; exact q) 62 T 0 (by omega) hF hD (by omega)
      rw [show fgA C x b + forgN (sFgA C x b) b x 0 = fgA C x b from Int.add_zero _, show 60 * (b : Int) + ((0 : Nat) : Int) = (b : Int) * 60 by omega] at kz
      exact kz
theorem fgCost_q {D S T : XS} (q : MdQ S T) (c n : Nat) : fgCost D T c n = fgCost D S c n := by
  induction n with
  | zero => rfl
  | succ n ih => rw [fgCost, fgCost, ih, ndS_q c q]
set_option maxHeartbeats 4000000 in
set_option maxRecDepth 100000 in
theorem m_forget (C S : XS) (hC : CB C) (hw : WI S) (hM : MR C S) (x : Int) (zx : zR x) (hml : MRl C S) (nb c : Nat) (hnb : C.1 (0, 0, 0) 6 = nb) (hc : C.1 (0, 0, 0) 7 = c) (hE : ∀ i : Nat, i < nb → EndOk (sFgA C x nb) i) (kb : Nat) (hkb : 0 ≤ x ∧ x < 8 → fgCost (sFgA C x nb) S c nb ≤ kb) : X mX9_forget 0 (xEnt mX9_forget [xR (50, 0, 0), xI x]) [] (hp S) 20 kb (pMz S (fun k z => z = 0 ∧ k = 1 ∧ ¬ (0 ≤ x ∧ x < 8)) (0 ≤ x ∧ x < 8) (fgA C x nb) (sInA (sFgA C x nb) c nb) (fgCost (sFgA C x nb) S c nb)) := by
  have c6 := wf0_6 hC.1
  have c4 := wf4_2 hC.1
  obtain ⟨n11, n12, n13, n24⟩ := hM.2.1
  have hz := hw.1
  show X mX9_forget 0 [xR (50, 0, 0), xI x, none, none, none, none] [] (hp S) 20 kb _
  refine x_aload_n dX9_forget_0 rfl ?_
  refine x_iload_n dX9_forget_1 rfl ?_
  refine x_bipush (v := 8) dX9_forget_2 (by decide) ?_
  refine x_callV (a := 0) (b := 0) (as := [xI x, xI 8]) (rest := []) ok_X9_isNo dX9_forget_4 wd1208 ⟨wd1210, wd19⟩ (hp50 S) rfl rfl (m_isNoR S hw x 8 (by first | exact hz _ _ | exact hw.1 _ _ | exact zR_of _ | exact bI_z _ | assumption | exact ⟨by omega, by omega⟩) ⟨by decide, by decide⟩ (by omega) (by omega)) rfl (Nat.le_of_ble_eq_true rfl) (Nat.le_of_ble_eq_true rfl) (by decide) (by omega) (by omega) (fun _ q => by obtain ⟨_, _, _, y, _⟩ := q; cases y) (fun _ _ q => ?_) (fun _ _ q => by obtain ⟨_, _, _, y, _⟩ := q; cases y)
  obtain ⟨U1, z1, rfl, y1, qU1, wU1, hU1⟩ := q
  cases y1
  have sU1 := (MdQ.rf S).tr qU1
  rcases hU1 with ⟨rfl, hU1⟩ | ⟨rfl, hU1⟩
  · refine x_if_eq (tgt := 12) dX9_forget_7 (by decide) ⟨by decide, by decide⟩ (fun z => absurd z (by decide)) (fun _ => ?_)
    refine x_iconst dX9_forget_10 ?_
    exact x_iret dX9_forget_11 rfl (Or.inl (pM_of sU1 wU1 (by omega)))
  · refine x_if_eq (tgt := 12) dX9_forget_7 (by decide) ⟨by decide, by decide⟩ (fun _ => ?_) (fun z => absurd z (by decide))
    refine x_iconst dX9_forget_12 ?_
    refine x_istore_n (L' := [xR (50, 0, 0), xI x, xI 0, none, none, none]) dX9_forget_13 (by decide) rfl ?_
    refine x_iconst dX9_forget_14 ?_
    refine x_istore_n (L' := [xR (50, 0, 0), xI x, xI 0, xI 0, none, none]) dX9_forget_15 (by decide) rfl ?_
    have ndq : fgCost (sFgA C x nb) U1 c nb = fgCost (sFgA C x nb) S c nb := fgCost_q sU1 c nb
    refine X.weak (l_forg1 C U1 hC x (by omega) (by omega) nb c hnb hc (by omega) (hM.q sU1) (hml.q sU1) hE (nb + 2) U1 0 (by omega) ⟨wU1, rfl, fun _ _ => rfl⟩ (hM.q sU1) (by omega)) (Nat.le_refl _) (Nat.le_trans (Nat.le_of_eq ndq) (hkb (by omega))) (fun o h' z => Or.inr ⟨by omega, by rw [ndq] at z; exact z.of sU1⟩)
