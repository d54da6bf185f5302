/-! the reference: canTurn, adds, setUnique -/
theorem OnRow.turn {U : XS} {on : Int} (h0 : 0 ≤ on) (h1 : on ≤ 1023) (h : OnRow U on) {r : Int} (r0 : 0 ≤ r) (r1 : r < 10) : OnRow (putI U (71, 0, 0) r 1) (zOr on (zShl 1 r)) := fun k hk => by
  rw [putI_at, bI_c (bitI_orI on r k h0 h1 r0 r1 (by omega) (by omega))]
  by_cases e : (k : Int) = r
  · rw [if_pos e, bI_t (Or.inr e)]
  · rw [if_neg e, h k hk]
    exact bI_c ⟨Or.inl, fun z => z.elim id (fun y => absurd y e)⟩
theorem zAnd_b1 (P : Prop) : zAnd (bI P) 1 = bI P := by
  by_cases p : P
  · rw [bI_t p]; decide
  · rw [bI_f p]; decide
theorem zAnd_b0 (P : Prop) : zAnd (bI P) 0 = 0 := by
  by_cases p : P
  · rw [bI_t p]; decide
  · rw [bI_f p]; decide
set_option maxHeartbeats 4000000 in
set_option maxRecDepth 100000 in
theorem l9_canTurn (C S : XS) (hC : CB C) (hw : WI S) (hM : MR C S) (b r : Int) (b0 : 0 ≤ b) (b1 : b < C.1 (0, 0, 0) 6) (r0 : 0 ≤ r) (r1 : r < C.1 (4, 0, 0) 2) (n : Nat) (hn : C.1 (34, r, 0) 2 = n) : ∀ (nn : Nat) (c : Nat), (n : Int) - c + 1 < (nn : Int) → (c ≤ n) → X mX9_canTurn 45 [xR (50, 0, 0), xI b, xI r, xI (bI (BdA C.1 r n c)), xI (c : Int), none] [] (hp S) 0 0 (pM S (fun k z _T => k = S.1 (50, 0, 0) 25 ∧ z = bI (CanOn C r (onN C.1 b (C.1 (9, b, 0) 3).toNat)))) := by
  intro nn
  induction nn with
  | zero => intro c hm hc; exfalso; omega
  | succ nn ih =>
    intro c hm hc
    have c6 := wf0_6 hC.1
    have c9 := wf9_3 hC.1 b0 (show b < 4 by omega)
    have c4 := wf4_2 hC.1
    have c34 := wf34_2 hC.1 r0 (show r < 10 by omega)
    obtain ⟨-, q2, q3, q4, -, q6, -⟩ := hM.2.2.1 r r0 r1
    have mb := (hM.2.2.2.1 b b0 (by omega)).1
    have hz := hw.1
    have ba := bound_all hC hM.2.2.1 r0 r1
    have hN : (C.1 (34, r, 0) 2).toNat = n := by omega
    rw [hN] at ba
    obtain ⟨oc, oe, o10, -⟩ := onN_nat hC.1 hC.2.2.2.2.2.2 b b0 (by omega) (C.1 (9, b, 0) 3).toNat (by omega)
    refine x_iload dX9_canTurn_45 rfl ?_
    refine x_aload_n dX9_canTurn_47 rfl ?_
    refine x_get (v := xR (64, 0, 0)) dX9_canTurn_48 fl_RX9_55 (hp50 S) rfl ?_
    refine x_iload_n dX9_canTurn_51 rfl ?_
    refine x_aldi (f := S.1 (64, 0, 0)) dX9_canTurn_52 (hp64 S) (show (64 : Nat) ≠ 99 by decide) (by omega) (by omega) (by decide) ?_
    have f52_1 := wfa64 hw (S := S) r
    refine x_icmp_ge (tgt := 129) dX9_canTurn_53 (by decide) (by first | exact hz _ _ | exact hw.1 _ _ | exact zR_of _ | exact bI_z _ | assumption | exact ⟨by omega, by omega⟩) (by first | exact hz _ _ | exact hw.1 _ _ | exact zR_of _ | exact bI_z _ | assumption | exact ⟨by omega, by omega⟩) (fun c53 => ?_) (fun c53 => ?_)
    · refine x_aload_n dX9_canTurn_129 rfl ?_
      refine x_iload_n dX9_canTurn_130 rfl ?_
      refine x_aload_n dX9_canTurn_131 rfl ?_
      refine x_get (v := xR (58, 0, 0)) dX9_canTurn_132 fl_RX9_33 (hp50 S) rfl ?_
      refine x_iload_n dX9_canTurn_135 rfl ?_
      refine x_aldi (f := S.1 (58, 0, 0)) dX9_canTurn_136 (hp58 S) (show (58 : Nat) ≠ 99 by decide) (by omega) (by omega) (by decide) ?_
      have f136_2 := wfa58 hw (S := S) b
      refine x_top (show S.1 (58, 0, 0) b = C.1 (9, b, 0) 3 from mb) ?_
      refine x_callV (a := 0) (b := 0) (as := [xI b, xI (C.1 (9, b, 0) 3)]) (rest := []) ok_X9_turnsOn dX9_canTurn_137 wd1249 ⟨wd1251, wd27⟩ (hp50 S) rfl rfl (m_turnsOnZ C S hC hw (hM.q (MdQ.rf S)).1 b (by omega) (by omega) (C.1 (9, b, 0) 3) (by omega) (by omega)) rfl (Nat.le_of_ble_eq_true rfl) (Nat.le_of_ble_eq_true rfl) (by decide) (by omega) (by omega) (fun _ q => ?_) (fun _ _ q => by cases q.1) (fun _ _ q => by cases q.1)
      obtain ⟨-, U1, rfl, eU1, wU1, oU1⟩ := q
      have sU1 := (MdQ.rf S).tr (eU1.md rfl)
      have kU1 := congrFun (eU1.1 (50, 0, 0) (by decide)) 25
      refine x_aload_n dX9_canTurn_140 rfl ?_
      refine x_get (v := xR (71, 0, 0)) dX9_canTurn_141 fl_RX9_81 (hp50 U1) rfl ?_
      refine x_iload_n dX9_canTurn_144 rfl ?_
      refine x_iconst dX9_canTurn_145 ?_
      refine x_astz dX9_canTurn_146 (hp71 U1) (show (71 : Nat) ≠ 99 by decide) (by omega) (by omega) (by decide) (Or.inr rfl) ?_
      refine x_heq (pa71 U1 r 1) ?_
      have hw146_3 : WI (putI U1 (71, 0, 0) r 1) := wpa71 wU1 (Or.inr rfl)
      refine x_iload_n dX9_canTurn_147 rfl ?_
      refine x_if_eq (tgt := 162) dX9_canTurn_148 (by decide) (by first | exact hz _ _ | exact hw.1 _ _ | exact zR_of _ | exact bI_z _ | assumption | exact ⟨by omega, by omega⟩) (fun c148 => ?_) (fun c148 => ?_)
      · refine x_iconst dX9_canTurn_162 ?_
        exact x_zret dX9_canTurn_163 rfl (Or.inl rfl) (pM_of (sU1.put rfl r 1) hw146_3 ⟨by rw [putI_o (by decide)]; exact kU1, (bI_f (fun z => by have y := ba.mp (by rw [← hN]; exact z.1); rw [bI_t (by rw [show c = n by omega]; exact y)] at c148; omega)).symm⟩)
      · refine x_aload_n dX9_canTurn_151 rfl ?_
        refine x_callV (a := 0) (b := 0) (as := []) (rest := []) ok_X9_layers dX9_canTurn_152 wd1253 ⟨wd1255, wd28⟩ (hp50 (putI U1 (71, 0, 0) r 1)) rfl rfl (m_layers C (putI U1 (71, 0, 0) r 1) hC.1 hw146_3 (hM.q (sU1.put rfl r 1)).2.1 (hM.q (sU1.put rfl r 1)).2.2.1 _ (OnRow.turn (by omega) (by omega) oU1 r0 (by omega))) rfl (Nat.le_of_ble_eq_true rfl) (Nat.le_of_ble_eq_true rfl) (by decide) (by omega) (by omega) (fun _ q => by obtain ⟨_, _, _, _, ⟨q, _⟩ | ⟨q, _⟩⟩ := q <;> cases q) (fun _ _ q => ?_) (fun _ _ q => by obtain ⟨_, _, _, _, ⟨q, _⟩ | ⟨q, _⟩⟩ := q <;> cases q)
        obtain ⟨U2, rfl, eU2, wU2, lU2⟩ := q
        have sU2 := (sU1.put rfl r 1).tr (eU2.md rfl)
        have kU2 := congrFun (eU2.1 (50, 0, 0) (by decide)) 25
        rcases lU2 with ⟨yU2, lU2⟩ | ⟨yU2, lU2⟩
        · cases yU2
          refine x_if_eq (tgt := 162) dX9_canTurn_155 (by decide) ⟨by decide, by decide⟩ (fun z => absurd z (by decide)) (fun _ => ?_)
          refine x_iconst dX9_canTurn_158 ?_
          refine x_goto (tgt := 163) dX9_canTurn_159 (by decide) ?_
          exact x_zret dX9_canTurn_163 rfl (Or.inr rfl) (pM_of sU2 wU2 ⟨by rw [kU2, putI_o (by decide)]; exact kU1, (bI_t ⟨by rw [hN]; exact ba.mpr (by have y := bI_1.mp (show bI (BdA C.1 r n c) = 1 by have := bI_01 (BdA C.1 r n c); omega); rw [show c = n by omega] at y; exact y), U2.1 (72, 0, 0), lU2.1, lU2.2.1⟩).symm⟩)
        · cases yU2
          refine x_if_eq (tgt := 162) dX9_canTurn_155 (by decide) ⟨by decide, by decide⟩ (fun _ => ?_) (fun z => absurd z (by decide))
          refine x_iconst dX9_canTurn_162 ?_
          exact x_zret dX9_canTurn_163 rfl (Or.inl rfl) (pM_of sU2 wU2 ⟨by rw [kU2, putI_o (by decide)]; exact kU1, (bI_f (fun z => by obtain ⟨g, g1, g2⟩ := z.2; exact lU2 g g1 g2)).symm⟩)
    · obtain ⟨u1, u2, u3, u4⟩ := q6 (c : Int) (by omega) (by omega)
      refine x_bipush (v := 9) dX9_canTurn_56 (by decide) ?_
      refine x_iload_n dX9_canTurn_58 rfl ?_
      refine x_imul dX9_canTurn_59 ?_
      refine x_iconst dX9_canTurn_60 ?_
      refine x_iload dX9_canTurn_61 rfl ?_
      refine x_imul dX9_canTurn_63 ?_
      refine x_iadd dX9_canTurn_64 ?_
      refine x_istore (L' := [xR (50, 0, 0), xI b, xI r, xI (bI (BdA C.1 r n c)), xI (c : Int), xI ((9 * r) + (3 * (c : Int)))]) dX9_canTurn_65 (by decide) rfl ?_
      refine x_iload_n dX9_canTurn_67 rfl ?_
      refine x_aload_n dX9_canTurn_68 rfl ?_
      refine x_get (v := xR (65, 0, 0)) dX9_canTurn_69 fl_RX9_58 (hp50 S) rfl ?_
      refine x_iconst dX9_canTurn_72 ?_
      refine x_iload_n dX9_canTurn_73 rfl ?_
      refine x_imul dX9_canTurn_74 ?_
      refine x_iload dX9_canTurn_75 rfl ?_
      refine x_iadd dX9_canTurn_77 ?_
      refine x_aldz (f := S.1 (65, 0, 0)) dX9_canTurn_78 (hp65 S) (show (65 : Nat) ≠ 99 by decide) (by omega) (by omega) (by decide) ?_
      have f78_4 := wfa65 hw (S := S) ((3 * r) + (c : Int))
      refine x_if_eq (tgt := 116) dX9_canTurn_79 (by decide) (by first | exact hz _ _ | exact hw.1 _ _ | exact zR_of _ | exact bI_z _ | assumption | exact ⟨by omega, by omega⟩) (fun c79 => ?_) (fun c79 => ?_)
      · refine x_iconst dX9_canTurn_116 ?_
        refine x_goto (tgt := 121) dX9_canTurn_117 (by decide) ?_
        refine x_iand dX9_canTurn_121 ?_
        refine x_istore_n (L' := [xR (50, 0, 0), xI b, xI r, xI (zAnd (bI (BdA C.1 r n c)) 1), xI (c : Int), xI ((9 * r) + (3 * (c : Int)))]) dX9_canTurn_122 (by decide) rfl ?_
        refine x_iinc (L' := [xR (50, 0, 0), xI b, xI r, xI (zAnd (bI (BdA C.1 r n c)) 1), xI ((c : Int) + 1), xI ((9 * r) + (3 * (c : Int)))]) dX9_canTurn_123 rfl rfl ?_
        refine x_goto (tgt := 45) dX9_canTurn_126 (by decide) ?_
        refine X.loc (L' := [xR (50, 0, 0), xI b, xI r, xI (zAnd (bI (BdA C.1 r n c)) 1), xI ((c : Int) + 1), none]) ⟨rfl, ⟨rfl, ⟨rfl, ⟨rfl, ⟨rfl, trivial⟩⟩⟩⟩⟩ ?_
        have kk := ih (c + 1) (by omega) (by omega)
        rw [show bI (BdA C.1 r n (c + 1)) = zAnd (bI (BdA C.1 r n c)) 1 from by rw [zAnd_b1]; exact bI_c (BdA.s.trans ⟨fun z => z.1, fun z => ⟨z, fun y => by first | (exfalso; omega) | (rw [u2.1, u3.1]; exact ⟨by assumption, by assumption⟩)⟩⟩)] at kk
        exact kk
      · refine x_aload_n dX9_canTurn_82 rfl ?_
        refine x_iload_n dX9_canTurn_83 rfl ?_
        refine x_aload_n dX9_canTurn_84 rfl ?_
        refine x_get (v := xR (63, 0, 0)) dX9_canTurn_85 fl_RX9_52 (hp50 S) rfl ?_
        refine x_iload dX9_canTurn_88 rfl ?_
        refine x_iconst dX9_canTurn_90 ?_
        refine x_iadd dX9_canTurn_91 ?_
        refine x_aldi (f := S.1 (63, 0, 0)) dX9_canTurn_92 (hp63 S) (show (63 : Nat) ≠ 99 by decide) (by omega) (by omega) (by decide) ?_
        have f92_5 := wfa63 hw (S := S) (((9 * r) + (3 * (c : Int))) + 1)
        refine x_callV_r (a := 0) (b := 0) (as := [xI r, xI (S.1 (63, 0, 0) (((9 * r) + (3 * (c : Int))) + 1))]) (rest := [xI (bI (BdA C.1 r n c))]) ok_X9_isBound dX9_canTurn_93 wd1323 ⟨wd1325, wd38⟩ (hp50 S) rfl rfl (m_isBound C S hC.1 hw (hM.q (MdQ.rf S)).2.2.1 r (S.1 (63, 0, 0) (((9 * r) + (3 * (c : Int))) + 1)) (by omega) (by omega) (by omega) (by omega) n hn) rfl (Nat.le_of_ble_eq_true rfl) (Nat.le_of_ble_eq_true rfl) (by decide) (by omega) (by omega) ?_
        by_cases b93 : BdS C.1 r (3 * (2 - (S.1 (63, 0, 0) (((9 * r) + (3 * (c : Int))) + 1)))) n
        · refine x_top (bI_t b93) ?_
          refine x_if_eq (tgt := 120) dX9_canTurn_96 (by decide) ⟨by decide, by decide⟩ (fun z => absurd z (by decide)) (fun _ => ?_)
          refine x_aload_n dX9_canTurn_99 rfl ?_
          refine x_iload_n dX9_canTurn_100 rfl ?_
          refine x_aload_n dX9_canTurn_101 rfl ?_
          refine x_get (v := xR (63, 0, 0)) dX9_canTurn_102 fl_RX9_52 (hp50 S) rfl ?_
          refine x_iload dX9_canTurn_105 rfl ?_
          refine x_iconst dX9_canTurn_107 ?_
          refine x_iadd dX9_canTurn_108 ?_
          refine x_aldi (f := S.1 (63, 0, 0)) dX9_canTurn_109 (hp63 S) (show (63 : Nat) ≠ 99 by decide) (by omega) (by omega) (by decide) ?_
          have f109_6 := wfa63 hw (S := S) (((9 * r) + (3 * (c : Int))) + 2)
          refine x_callV_r (a := 0) (b := 0) (as := [xI r, xI (S.1 (63, 0, 0) (((9 * r) + (3 * (c : Int))) + 2))]) (rest := [xI (bI (BdA C.1 r n c))]) ok_X9_isBound dX9_canTurn_110 wd1323 ⟨wd1325, wd38⟩ (hp50 S) rfl rfl (m_isBound C S hC.1 hw (hM.q (MdQ.rf S)).2.2.1 r (S.1 (63, 0, 0) (((9 * r) + (3 * (c : Int))) + 2)) (by omega) (by omega) (by omega) (by omega) n hn) rfl (Nat.le_of_ble_eq_true rfl) (Nat.le_of_ble_eq_true rfl) (by decide) (by omega) (by omega) ?_
          by_cases b110 : BdS C.1 r (3 * (2 - (S.1 (63, 0, 0) (((9 * r) + (3 * (c : Int))) + 2)))) n
          · refine x_top (bI_t b110) ?_
            refine x_if_eq (tgt := 120) dX9_canTurn_113 (by decide) ⟨by decide, by decide⟩ (fun z => absurd z (by decide)) (fun _ => ?_)
            refine x_iconst dX9_canTurn_116 ?_
            refine x_goto (tgt := 121) dX9_canTurn_117 (by decide) ?_
            refine x_iand dX9_canTurn_121 ?_
            refine x_istore_n (L' := [xR (50, 0, 0), xI b, xI r, xI (zAnd (bI (BdA C.1 r n c)) 1), xI (c : Int), xI ((9 * r) + (3 * (c : Int)))]) dX9_canTurn_122 (by decide) rfl ?_
            refine x_iinc (L' := [xR (50, 0, 0), xI b, xI r, xI (zAnd (bI (BdA C.1 r n c)) 1), xI ((c : Int) + 1), xI ((9 * r) + (3 * (c : Int)))]) dX9_canTurn_123 rfl rfl ?_
            refine x_goto (tgt := 45) dX9_canTurn_126 (by decide) ?_
            refine X.loc (L' := [xR (50, 0, 0), xI b, xI r, xI (zAnd (bI (BdA C.1 r n c)) 1), xI ((c : Int) + 1), none]) ⟨rfl, ⟨rfl, ⟨rfl, ⟨rfl, ⟨rfl, trivial⟩⟩⟩⟩⟩ ?_
            have kk := ih (c + 1) (by omega) (by omega)
            rw [show bI (BdA C.1 r n (c + 1)) = zAnd (bI (BdA C.1 r n c)) 1 from by rw [zAnd_b1]; exact bI_c (BdA.s.trans ⟨fun z => z.1, fun z => ⟨z, fun y => by first | (exfalso; omega) | (rw [u2.1, u3.1]; exact ⟨by assumption, by assumption⟩)⟩⟩)] at kk
            exact kk
          · refine x_top (bI_f b110) ?_
            refine x_if_eq (tgt := 120) dX9_canTurn_113 (by decide) ⟨by decide, by decide⟩ (fun _ => ?_) (fun z => absurd z (by decide))
            refine x_iconst dX9_canTurn_120 ?_
            refine x_iand dX9_canTurn_121 ?_
            refine x_istore_n (L' := [xR (50, 0, 0), xI b, xI r, xI (zAnd (bI (BdA C.1 r n c)) 0), xI (c : Int), xI ((9 * r) + (3 * (c : Int)))]) dX9_canTurn_122 (by decide) rfl ?_
            refine x_iinc (L' := [xR (50, 0, 0), xI b, xI r, xI (zAnd (bI (BdA C.1 r n c)) 0), xI ((c : Int) + 1), xI ((9 * r) + (3 * (c : Int)))]) dX9_canTurn_123 rfl rfl ?_
            refine x_goto (tgt := 45) dX9_canTurn_126 (by decide) ?_
            refine X.loc (L' := [xR (50, 0, 0), xI b, xI r, xI (zAnd (bI (BdA C.1 r n c)) 0), xI ((c : Int) + 1), none]) ⟨rfl, ⟨rfl, ⟨rfl, ⟨rfl, ⟨rfl, trivial⟩⟩⟩⟩⟩ ?_
            have kk := ih (c + 1) (by omega) (by omega)
            rw [show bI (BdA C.1 r n (c + 1)) = zAnd (bI (BdA C.1 r n c)) 0 from by rw [zAnd_b0]; exact bI_f (fun z => by have z2 := (BdA.s.mp z).2 (by omega); rw [u2.1, u3.1] at z2; first | exact absurd z2.1 (by assumption) | exact absurd z2.2 (by assumption))] at kk
            exact kk
        · refine x_top (bI_f b93) ?_
          refine x_if_eq (tgt := 120) dX9_canTurn_96 (by decide) ⟨by decide, by decide⟩ (fun _ => ?_) (fun z => absurd z (by decide))
          refine x_iconst dX9_canTurn_120 ?_
          refine x_iand dX9_canTurn_121 ?_
          refine x_istore_n (L' := [xR (50, 0, 0), xI b, xI r, xI (zAnd (bI (BdA C.1 r n c)) 0), xI (c : Int), xI ((9 * r) + (3 * (c : Int)))]) dX9_canTurn_122 (by decide) rfl ?_
          refine x_iinc (L' := [xR (50, 0, 0), xI b, xI r, xI (zAnd (bI (BdA C.1 r n c)) 0), xI ((c : Int) + 1), xI ((9 * r) + (3 * (c : Int)))]) dX9_canTurn_123 rfl rfl ?_
          refine x_goto (tgt := 45) dX9_canTurn_126 (by decide) ?_
          refine X.loc (L' := [xR (50, 0, 0), xI b, xI r, xI (zAnd (bI (BdA C.1 r n c)) 0), xI ((c : Int) + 1), none]) ⟨rfl, ⟨rfl, ⟨rfl, ⟨rfl, ⟨rfl, trivial⟩⟩⟩⟩⟩ ?_
          have kk := ih (c + 1) (by omega) (by omega)
          rw [show bI (BdA C.1 r n (c + 1)) = zAnd (bI (BdA C.1 r n c)) 0 from by rw [zAnd_b0]; exact bI_f (fun z => by have z2 := (BdA.s.mp z).2 (by omega); rw [u2.1, u3.1] at z2; first | exact absurd z2.1 (by assumption) | exact absurd z2.2 (by assumption))] at kk
          exact kk
set_option maxHeartbeats 4000000 in
set_option maxRecDepth 100000 in
theorem m_canTurn (C S : XS) (hC : CB C) (hw : WI S) (hM : MR C S) (b r : Int) (b0 : 0 ≤ b) (b1 : b < C.1 (0, 0, 0) 6) (r0 : 0 ≤ r) (r1 : r < C.1 (4, 0, 0) 2) (n : Nat) (hn : C.1 (34, r, 0) 2 = n) : X mX9_canTurn 0 (xEnt mX9_canTurn [xR (50, 0, 0), xI b, xI r]) [] (hp S) 0 0 (pM S (fun k z _T => k = S.1 (50, 0, 0) 25 ∧ z = bI (CanOn C r (onN C.1 b (C.1 (9, b, 0) 3).toNat)))) := by
  have c6 := wf0_6 hC.1
  have c9 := wf9_3 hC.1 b0 (show b < 4 by omega)
  have c4 := wf4_2 hC.1
  have c34 := wf34_2 hC.1 r0 (show r < 10 by omega)
  obtain ⟨-, q2, q3, q4, -, q6, -⟩ := hM.2.2.1 r r0 r1
  have mb := (hM.2.2.2.1 b b0 (by omega)).1
  have hz := hw.1
  have ba := bound_all hC hM.2.2.1 r0 r1
  have hN : (C.1 (34, r, 0) 2).toNat = n := by omega
  rw [hN] at ba
  obtain ⟨oc, oe, o10, -⟩ := onN_nat hC.1 hC.2.2.2.2.2.2 b b0 (by omega) (C.1 (9, b, 0) 3).toNat (by omega)
  show X mX9_canTurn 0 [xR (50, 0, 0), xI b, xI r, none, none, none] [] (hp S) 0 0 _
  refine x_aload_n dX9_canTurn_0 rfl ?_
  refine x_iload_n dX9_canTurn_1 rfl ?_
  refine x_aload_n dX9_canTurn_2 rfl ?_
  refine x_get (v := xR (62, 0, 0)) dX9_canTurn_3 fl_RX9_49 (hp50 S) rfl ?_
  refine x_iconst dX9_canTurn_6 ?_
  refine x_iload_n dX9_canTurn_7 rfl ?_
  refine x_imul dX9_canTurn_8 ?_
  refine x_iconst dX9_canTurn_9 ?_
  refine x_iadd dX9_canTurn_10 ?_
  refine x_aldi (f := S.1 (62, 0, 0)) dX9_canTurn_11 (hp62 S) (show (62 : Nat) ≠ 99 by decide) (by omega) (by omega) (by decide) ?_
  have f11_1 := wfa62 hw (S := S) ((3 * r) + 1)
  refine x_callV_r (a := 0) (b := 0) (as := [xI r, xI (S.1 (62, 0, 0) ((3 * r) + 1))]) (rest := []) ok_X9_isBound dX9_canTurn_12 wd1323 ⟨wd1325, wd38⟩ (hp50 S) rfl rfl (m_isBound C S hC.1 hw (hM.q (MdQ.rf S)).2.2.1 r (S.1 (62, 0, 0) ((3 * r) + 1)) (by omega) (by omega) (by omega) (by omega) n hn) rfl (Nat.le_of_ble_eq_true rfl) (Nat.le_of_ble_eq_true rfl) (by decide) (by omega) (by omega) ?_
  by_cases b12 : BdS C.1 r (3 * (2 - (S.1 (62, 0, 0) ((3 * r) + 1)))) n
  · refine x_top (bI_t b12) ?_
    refine x_if_eq (tgt := 40) dX9_canTurn_15 (by decide) ⟨by decide, by decide⟩ (fun z => absurd z (by decide)) (fun _ => ?_)
    refine x_aload_n dX9_canTurn_18 rfl ?_
    refine x_iload_n dX9_canTurn_19 rfl ?_
    refine x_aload_n dX9_canTurn_20 rfl ?_
    refine x_get (v := xR (62, 0, 0)) dX9_canTurn_21 fl_RX9_49 (hp50 S) rfl ?_
    refine x_iconst dX9_canTurn_24 ?_
    refine x_iload_n dX9_canTurn_25 rfl ?_
    refine x_imul dX9_canTurn_26 ?_
    refine x_iconst dX9_canTurn_27 ?_
    refine x_iadd dX9_canTurn_28 ?_
    refine x_aldi (f := S.1 (62, 0, 0)) dX9_canTurn_29 (hp62 S) (show (62 : Nat) ≠ 99 by decide) (by omega) (by omega) (by decide) ?_
    have f29_2 := wfa62 hw (S := S) ((3 * r) + 2)
    refine x_callV_r (a := 0) (b := 0) (as := [xI r, xI (S.1 (62, 0, 0) ((3 * r) + 2))]) (rest := []) ok_X9_isBound dX9_canTurn_30 wd1323 ⟨wd1325, wd38⟩ (hp50 S) rfl rfl (m_isBound C S hC.1 hw (hM.q (MdQ.rf S)).2.2.1 r (S.1 (62, 0, 0) ((3 * r) + 2)) (by omega) (by omega) (by omega) (by omega) n hn) rfl (Nat.le_of_ble_eq_true rfl) (Nat.le_of_ble_eq_true rfl) (by decide) (by omega) (by omega) ?_
    by_cases b30 : BdS C.1 r (3 * (2 - (S.1 (62, 0, 0) ((3 * r) + 2)))) n
    · refine x_top (bI_t b30) ?_
      refine x_if_eq (tgt := 40) dX9_canTurn_33 (by decide) ⟨by decide, by decide⟩ (fun z => absurd z (by decide)) (fun _ => ?_)
      refine x_iconst dX9_canTurn_36 ?_
      refine x_goto (tgt := 41) dX9_canTurn_37 (by decide) ?_
      refine x_istore_n (L' := [xR (50, 0, 0), xI b, xI r, xI 1, none, none]) dX9_canTurn_41 (by decide) rfl ?_
      refine x_iconst dX9_canTurn_42 ?_
      refine x_istore (L' := [xR (50, 0, 0), xI b, xI r, xI 1, xI 0, none]) dX9_canTurn_43 (by decide) rfl ?_
      have kk := l9_canTurn C S hC hw hM b r b0 b1 r0 r1 n hn (n + 2) 0 (by omega) (by omega)
      rw [show bI (BdA C.1 r n 0) = 1 from bI_t ⟨by rw [q2.1, q3.1]; exact ⟨by assumption, by assumption⟩, fun c hc => by omega⟩] at kk
      exact kk
    · refine x_top (bI_f b30) ?_
      refine x_if_eq (tgt := 40) dX9_canTurn_33 (by decide) ⟨by decide, by decide⟩ (fun _ => ?_) (fun z => absurd z (by decide))
      refine x_iconst dX9_canTurn_40 ?_
      refine x_istore_n (L' := [xR (50, 0, 0), xI b, xI r, xI 0, none, none]) dX9_canTurn_41 (by decide) rfl ?_
      refine x_iconst dX9_canTurn_42 ?_
      refine x_istore (L' := [xR (50, 0, 0), xI b, xI r, xI 0, xI 0, none]) dX9_canTurn_43 (by decide) rfl ?_
      have kk := l9_canTurn C S hC hw hM b r b0 b1 r0 r1 n hn (n + 2) 0 (by omega) (by omega)
      rw [show bI (BdA C.1 r n 0) = 0 from bI_f (fun z => by have z2 := z.1; rw [q2.1, q3.1] at z2; first | exact absurd z2.1 (by assumption) | exact absurd z2.2 (by assumption))] at kk
      exact kk
  · refine x_top (bI_f b12) ?_
    refine x_if_eq (tgt := 40) dX9_canTurn_15 (by decide) ⟨by decide, by decide⟩ (fun _ => ?_) (fun z => absurd z (by decide))
    refine x_iconst dX9_canTurn_40 ?_
    refine x_istore_n (L' := [xR (50, 0, 0), xI b, xI r, xI 0, none, none]) dX9_canTurn_41 (by decide) rfl ?_
    refine x_iconst dX9_canTurn_42 ?_
    refine x_istore (L' := [xR (50, 0, 0), xI b, xI r, xI 0, xI 0, none]) dX9_canTurn_43 (by decide) rfl ?_
    have kk := l9_canTurn C S hC hw hM b r b0 b1 r0 r1 n hn (n + 2) 0 (by omega) (by omega)
    rw [show bI (BdA C.1 r n 0) = 0 from bI_f (fun z => by have z2 := z.1; rw [q2.1, q3.1] at z2; first | exact absurd z2.1 (by assumption) | exact absurd z2.2 (by assumption))] at kk
    exact kk
/-- a condition more -/
def sAdd (S : XS) (r n x y z c : Int) : XS := putI (putI (putI (putI (putI S (63, 0, 0) (9 * r + 3 * n) x) (63, 0, 0) (9 * r + 3 * n + 1) y) (63, 0, 0) (9 * r + 3 * n + 2) z) (65, 0, 0) (3 * r + n) c) (64, 0, 0) r (n + 1)
theorem sAdd_wi {S : XS} (hw : WI S) {r n x y z c : Int} (hn : 0 ≤ n ∧ n < 3) (hx : 0 ≤ x ∧ x < 6) (hy : 0 ≤ y ∧ y ≤ 2) (hz : 0 ≤ z ∧ z ≤ 2) (hc : c = 0 ∨ c = 1) : WI (sAdd S r n x y z c) := wpa64 (wpa65 (wpa63 (wpa63 (wpa63 hw (by omega)) (by omega)) (by omega)) hc) (by omega)
set_option maxHeartbeats 4000000 in
set_option maxRecDepth 100000 in
theorem m_adds (S : XS) (hw : WI S) (r n x y z c : Int) (r0 : 0 ≤ r) (r1 : r < 10) (hn : S.1 (64, 0, 0) r = n) (n0 : 0 ≤ n) (n1 : n < 3) (hx : 0 ≤ x ∧ x < 6) (hy : 0 ≤ y ∧ y ≤ 2) (hzz : 0 ≤ z ∧ z ≤ 2) (hc : c = 0 ∨ c = 1) : X mX9_adds 0 (xEnt mX9_adds [xR (50, 0, 0), xI r, xI x, xI y, xI z, xI c]) [] (hp S) 0 0 (pRet (xI (n + 1)) (hp (sAdd S r n x y z c))) := by
  have hz := hw.1
  show X mX9_adds 0 [xR (50, 0, 0), xI r, xI x, xI y, xI z, xI c, none] [] (hp S) 0 0 _
  refine x_bipush (v := 9) dX9_adds_0 (by decide) ?_
  refine x_iload_n dX9_adds_2 rfl ?_
  refine x_imul dX9_adds_3 ?_
  refine x_iconst dX9_adds_4 ?_
  refine x_aload_n dX9_adds_5 rfl ?_
  refine x_get (v := xR (64, 0, 0)) dX9_adds_6 fl_RX9_55 (hp50 S) rfl ?_
  refine x_iload_n dX9_adds_9 rfl ?_
  refine x_aldi (f := S.1 (64, 0, 0)) dX9_adds_10 (hp64 S) (show (64 : Nat) ≠ 99 by decide) (by omega) (by omega) (by decide) ?_
  refine x_imul dX9_adds_11 ?_
  refine x_iadd dX9_adds_12 ?_
  refine x_top (show (9 * r) + (3 * (S.1 (64, 0, 0) r)) = 9 * r + 3 * n from by omega) ?_
  refine x_istore (L' := [xR (50, 0, 0), xI r, xI x, xI y, xI z, xI c, xI (9 * r + 3 * n)]) dX9_adds_13 (by decide) rfl ?_
  refine x_aload_n dX9_adds_15 rfl ?_
  refine x_get (v := xR (63, 0, 0)) dX9_adds_16 fl_RX9_52 (hp50 S) rfl ?_
  refine x_iload dX9_adds_19 rfl ?_
  refine x_iload_n dX9_adds_21 rfl ?_
  refine x_asti dX9_adds_22 (hp63 S) (show (63 : Nat) ≠ 99 by decide) (by omega) (by omega) (by decide) ?_
  refine x_heq (pa63 S (9 * r + 3 * n) x) ?_
  refine x_aload_n dX9_adds_23 rfl ?_
  refine x_get (v := xR (63, 0, 0)) dX9_adds_24 fl_RX9_52 (hp50 (putI S (63, 0, 0) (9 * r + 3 * n) x)) rfl ?_
  refine x_iload dX9_adds_27 rfl ?_
  refine x_iconst dX9_adds_29 ?_
  refine x_iadd dX9_adds_30 ?_
  refine x_iload_n dX9_adds_31 rfl ?_
  refine x_asti dX9_adds_32 (hp63 (putI S (63, 0, 0) (9 * r + 3 * n) x)) (show (63 : Nat) ≠ 99 by decide) (by omega) (by omega) (by decide) ?_
  refine x_heq (pa63 (putI S (63, 0, 0) (9 * r + 3 * n) x) ((9 * r + 3 * n) + 1) y) ?_
  refine x_aload_n dX9_adds_33 rfl ?_
  refine x_get (v := xR (63, 0, 0)) dX9_adds_34 fl_RX9_52 (hp50 (putI (putI S (63, 0, 0) (9 * r + 3 * n) x) (63, 0, 0) ((9 * r + 3 * n) + 1) y)) rfl ?_
  refine x_iload dX9_adds_37 rfl ?_
  refine x_iconst dX9_adds_39 ?_
  refine x_iadd dX9_adds_40 ?_
  refine x_iload dX9_adds_41 rfl ?_
  refine x_asti dX9_adds_43 (hp63 (putI (putI S (63, 0, 0) (9 * r + 3 * n) x) (63, 0, 0) ((9 * r + 3 * n) + 1) y)) (show (63 : Nat) ≠ 99 by decide) (by omega) (by omega) (by decide) ?_
  refine x_heq (pa63 (putI (putI S (63, 0, 0) (9 * r + 3 * n) x) (63, 0, 0) ((9 * r + 3 * n) + 1) y) ((9 * r + 3 * n) + 2) z) ?_
  refine x_aload_n dX9_adds_44 rfl ?_
  refine x_get (v := xR (65, 0, 0)) dX9_adds_45 fl_RX9_58 (hp50 (putI (putI (putI S (63, 0, 0) (9 * r + 3 * n) x) (63, 0, 0) ((9 * r + 3 * n) + 1) y) (63, 0, 0) ((9 * r + 3 * n) + 2) z)) rfl ?_
  refine x_iconst dX9_adds_48 ?_
  refine x_iload_n dX9_adds_49 rfl ?_
  refine x_imul dX9_adds_50 ?_
  refine x_aload_n dX9_adds_51 rfl ?_
  refine x_get (v := xR (64, 0, 0)) dX9_adds_52 fl_RX9_55 (hp50 (putI (putI (putI S (63, 0, 0) (9 * r + 3 * n) x) (63, 0, 0) ((9 * r + 3 * n) + 1) y) (63, 0, 0) ((9 * r + 3 * n) + 2) z)) rfl ?_
  refine x_iload_n dX9_adds_55 rfl ?_
  refine x_aldi (f := S.1 (64, 0, 0)) dX9_adds_56 (hp64 (putI (putI (putI S (63, 0, 0) (9 * r + 3 * n) x) (63, 0, 0) ((9 * r + 3 * n) + 1) y) (63, 0, 0) ((9 * r + 3 * n) + 2) z)) (show (64 : Nat) ≠ 99 by decide) (by omega) (by omega) (by decide) ?_
  refine x_iadd dX9_adds_57 ?_
  refine x_top (show (3 * r) + (S.1 (64, 0, 0) r) = 3 * r + n from by omega) ?_
  refine x_iload dX9_adds_58 rfl ?_
  refine x_astz dX9_adds_60 (hp65 (putI (putI (putI S (63, 0, 0) (9 * r + 3 * n) x) (63, 0, 0) ((9 * r + 3 * n) + 1) y) (63, 0, 0) ((9 * r + 3 * n) + 2) z)) (show (65 : Nat) ≠ 99 by decide) (by omega) (by omega) (by decide) hc ?_
  refine x_heq (pa65 (putI (putI (putI S (63, 0, 0) (9 * r + 3 * n) x) (63, 0, 0) ((9 * r + 3 * n) + 1) y) (63, 0, 0) ((9 * r + 3 * n) + 2) z) (3 * r + n) c) ?_
  refine x_aload_n dX9_adds_61 rfl ?_
  refine x_get (v := xR (64, 0, 0)) dX9_adds_62 fl_RX9_55 (hp50 (putI (putI (putI (putI S (63, 0, 0) (9 * r + 3 * n) x) (63, 0, 0) ((9 * r + 3 * n) + 1) y) (63, 0, 0) ((9 * r + 3 * n) + 2) z) (65, 0, 0) (3 * r + n) c)) rfl ?_
  refine x_iload_n dX9_adds_65 rfl ?_
  refine x_dup2 dX9_adds_66 rfl rfl ?_
  refine x_aldi (f := S.1 (64, 0, 0)) dX9_adds_67 (hp64 (putI (putI (putI (putI S (63, 0, 0) (9 * r + 3 * n) x) (63, 0, 0) ((9 * r + 3 * n) + 1) y) (63, 0, 0) ((9 * r + 3 * n) + 2) z) (65, 0, 0) (3 * r + n) c)) (show (64 : Nat) ≠ 99 by decide) (by omega) (by omega) (by decide) ?_
  refine x_iconst dX9_adds_68 ?_
  refine x_iadd dX9_adds_69 ?_
  refine x_top (show (S.1 (64, 0, 0) r) + 1 = n + 1 from by omega) ?_
  refine x_asti dX9_adds_70 (hp64 (putI (putI (putI (putI S (63, 0, 0) (9 * r + 3 * n) x) (63, 0, 0) ((9 * r + 3 * n) + 1) y) (63, 0, 0) ((9 * r + 3 * n) + 2) z) (65, 0, 0) (3 * r + n) c)) (show (64 : Nat) ≠ 99 by decide) (by omega) (by omega) (by decide) ?_
  refine x_heq (pa64 (putI (putI (putI (putI S (63, 0, 0) (9 * r + 3 * n) x) (63, 0, 0) ((9 * r + 3 * n) + 1) y) (63, 0, 0) ((9 * r + 3 * n) + 2) z) (65, 0, 0) (3 * r + n) c) r (n + 1)) ?_
  refine x_aload_n dX9_adds_71 rfl ?_
  refine x_get (v := xR (64, 0, 0)) dX9_adds_72 fl_RX9_55 (hp50 (putI (putI (putI (putI (putI S (63, 0, 0) (9 * r + 3 * n) x) (63, 0, 0) ((9 * r + 3 * n) + 1) y) (63, 0, 0) ((9 * r + 3 * n) + 2) z) (65, 0, 0) (3 * r + n) c) (64, 0, 0) r (n + 1))) rfl ?_
  refine x_iload_n dX9_adds_75 rfl ?_
  refine x_aldi (f := (putI (putI (putI (putI (putI S (63, 0, 0) (9 * r + 3 * n) x) (63, 0, 0) ((9 * r + 3 * n) + 1) y) (63, 0, 0) ((9 * r + 3 * n) + 2) z) (65, 0, 0) (3 * r + n) c) (64, 0, 0) r (n + 1)).1 (64, 0, 0)) dX9_adds_76 (hp64 (putI (putI (putI (putI (putI S (63, 0, 0) (9 * r + 3 * n) x) (63, 0, 0) ((9 * r + 3 * n) + 1) y) (63, 0, 0) ((9 * r + 3 * n) + 2) z) (65, 0, 0) (3 * r + n) c) (64, 0, 0) r (n + 1))) (show (64 : Nat) ≠ 99 by decide) (by omega) (by omega) (by decide) ?_
  refine x_top (show (putI (putI (putI (putI (putI S (63, 0, 0) (9 * r + 3 * n) x) (63, 0, 0) ((9 * r + 3 * n) + 1) y) (63, 0, 0) ((9 * r + 3 * n) + 2) z) (65, 0, 0) (3 * r + n) c) (64, 0, 0) r (n + 1)).1 (64, 0, 0) r = n + 1 from by rw [putI_self]) ?_
  exact x_iret dX9_adds_77 rfl (pRI rfl)
/-- a call that changes rows: it fails, with Pf; or F is done -/
def pMu (S : XS) (Pf : Int → Int → Prop) (Pk : Prop) (v : Int) (F : XS → XS) : XO → XH → Prop := fun o h' => pM S (fun k z _ => Pf k z) o h' ∨ (Pk ∧ o = .inl (some (xI v)) ∧ ∃ U, MdQ S U ∧ WI U ∧ U.1 (50, 0, 0) 25 = 0 ∧ WI (F U) ∧ h' = hp (F U))
set_option maxHeartbeats 4000000 in
set_option maxRecDepth 100000 in
theorem m_setUnique (C S : XS) (hC : CB C) (hw : WI S) (hM : MR C S) (i : Int) (zi : zR i) (v : Int) (hv : v = 0 ∨ v = 1) : X mX9_setUnique 0 (xEnt mX9_setUnique [xR (50, 0, 0), xI i, xI v]) [] (hp S) 0 0 (pMu S (fun k z => z = 0 ∧ k = 1 ∧ ¬ (0 ≤ i ∧ i < 6)) (0 ≤ i ∧ i < 6) (C.1 (3, 0, 0) i) (fun U => putI U (57, 0, 0) i v)) := by
  have c6 := wf0_6 hC.1
  have c4 := wf4_2 hC.1
  have h93 : 0 ≤ i → i < C.1 (0, 0, 0) 6 → 0 ≤ C.1 (9, i, 0) 3 ∧ C.1 (9, i, 0) 3 ≤ 60 := fun a b => wf9_3 hC.1 a (by omega)
  obtain ⟨n11, n12, n13, n24⟩ := hM.2.1
  have hz := hw.1
  show X mX9_setUnique 0 [xR (50, 0, 0), xI i, xI v, none] [] (hp S) 0 0 _
  refine x_aload_n dX9_setUnique_0 rfl ?_
  refine x_iload_n dX9_setUnique_1 rfl ?_
  refine x_bipush (v := 6) dX9_setUnique_2 (by decide) ?_
  refine x_callV (a := 0) (b := 0) (as := [xI i, xI 6]) (rest := []) ok_X9_isNo dX9_setUnique_4 wd1208 ⟨wd1210, wd19⟩ (hp50 S) rfl rfl (m_isNoR S hw i 6 (by first | exact hz _ _ | exact hw.1 _ _ | exact zR_of _ | exact bI_z _ | assumption | exact ⟨by omega, by omega⟩) ⟨by decide, by decide⟩ (by omega) (by omega)) rfl (Nat.le_of_ble_eq_true rfl) (Nat.le_of_ble_eq_true rfl) (by decide) (by omega) (by omega) (fun _ q => by obtain ⟨_, _, _, y, _⟩ := q; cases y) (fun _ _ q => ?_) (fun _ _ q => by obtain ⟨_, _, _, y, _⟩ := q; cases y)
  obtain ⟨U1, z1, rfl, y1, qU1, wU1, hU1⟩ := q
  cases y1
  have sU1 := (MdQ.rf S).tr qU1
  rcases hU1 with ⟨rfl, hU1⟩ | ⟨rfl, hU1⟩
  · refine x_if_eq (tgt := 12) dX9_setUnique_7 (by decide) ⟨by decide, by decide⟩ (fun z => absurd z (by decide)) (fun _ => ?_)
    refine x_iconst dX9_setUnique_10 ?_
    exact x_zret dX9_setUnique_11 rfl (Or.inl rfl) (Or.inl (pM_of sU1 wU1 (by omega)))
  · refine x_if_eq (tgt := 12) dX9_setUnique_7 (by decide) ⟨by decide, by decide⟩ (fun _ => ?_) (fun z => absurd z (by decide))
    refine x_aload_n dX9_setUnique_12 rfl ?_
    refine x_get (v := xR (57, 0, 0)) dX9_setUnique_13 fl_RX9_30 (hp50 U1) rfl ?_
    refine x_iload_n dX9_setUnique_16 rfl ?_
    refine x_aldz (f := U1.1 (57, 0, 0)) dX9_setUnique_17 (hp57 U1) (show (57 : Nat) ≠ 99 by decide) (by omega) (by omega) (by decide) ?_
    have f17_1 := wfa57 wU1 (S := U1) i
    refine x_istore_n (L' := [xR (50, 0, 0), xI i, xI v, xI (U1.1 (57, 0, 0) i)]) dX9_setUnique_18 (by decide) rfl ?_
    refine x_aload_n dX9_setUnique_19 rfl ?_
    refine x_get (v := xR (57, 0, 0)) dX9_setUnique_20 fl_RX9_30 (hp50 U1) rfl ?_
    refine x_iload_n dX9_setUnique_23 rfl ?_
    refine x_iload_n dX9_setUnique_24 rfl ?_
    refine x_astz dX9_setUnique_25 (hp57 U1) (show (57 : Nat) ≠ 99 by decide) (by omega) (by omega) (by decide) hv ?_
    refine x_heq (pa57 U1 i v) ?_
    have hw25_2 : WI (putI U1 (57, 0, 0) i v) := wpa57 wU1 hv
    refine x_iload_n dX9_setUnique_26 rfl ?_
    exact x_zret dX9_setUnique_27 rfl (by first | omega | (have := wfa57 wU1 i; omega)) (Or.inr ⟨by omega, by rw [(hM.q sU1).2.2.2.2 i (by omega) (by omega)], U1, sU1, wU1, by omega, by assumption, rfl⟩)
