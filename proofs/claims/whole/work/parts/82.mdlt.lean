/-! the reference: isMeant, canTake -/
/-- a telling of the branch b may be taken over into its origin p -/
def TkA (C : XS) (b k p : Int) (j : Int) : Prop := C.1 (13, b, k) 6 = 0 ∧ ∀ j' : Int, C.1 (9, b, 0) 5 ≤ j' → j' < j → C.1 (13, p, j') 7 = b ∨ ¬ Ctr C.1 b k p j'
def Tk (C : XS) (b k p : Int) : Prop := (TkA C b k p (C.1 (9, p, 0) 3) ∧ C.1 (9, p, 0) 3 < 60 ∧ ¬ ((C.1 (13, b, k) 0 = 0 ∧ C.1 (13, b, k) 1 ≠ 0) ∧ Riv C.1 p (C.1 (13, b, k) 2) (C.1 (13, b, k) 3) (C.1 (13, b, k) 4))) ∧ (C.1 (13, b, k) 0 ≠ 0 ∧ C.1 (13, b, k) 1 ≠ 0 → CanOn C (C.1 (13, b, k) 2) (onN C.1 p (C.1 (9, p, 0) 3).toNat))
theorem tk_l {C : XS} {b k p j : Int} (hj : j = C.1 (9, p, 0) 3) : bI (Tk C b k p) = 1 ↔ (bI (TkA C b k p j) = 1 ∧ C.1 (9, p, 0) 3 < 60 ∧ ¬ ((C.1 (13, b, k) 0 = 0 ∧ C.1 (13, b, k) 1 ≠ 0) ∧ bI (Riv C.1 p (C.1 (13, b, k) 2) (C.1 (13, b, k) 3) (C.1 (13, b, k) 4)) = 1)) ∧ (C.1 (13, b, k) 0 ≠ 0 ∧ C.1 (13, b, k) 1 ≠ 0 → bI (CanOn C (C.1 (13, b, k) 2) (onN C.1 p (C.1 (9, p, 0) 3).toNat)) = 1) := by
  rw [bI_1, bI_1, bI_1, bI_1, hj]
  exact Iff.rfl
theorem TkA.s {C : XS} {b k p j : Int} (h : C.1 (9, b, 0) 5 ≤ j) : TkA C b k p (j + 1) ↔ TkA C b k p j ∧ (C.1 (13, p, j) 7 = b ∨ ¬ Ctr C.1 b k p j) := by
  constructor
  · rintro ⟨a, c⟩
    exact ⟨⟨a, fun j' h1 h2 => c j' h1 (by omega)⟩, c j h (by omega)⟩
  · rintro ⟨⟨a, c⟩, d⟩
    refine ⟨a, fun j' h1 h2 => ?_⟩
    by_cases e : j' = j
    · subst e; exact d
    · exact c j' h1 (by omega)
set_option maxHeartbeats 4000000 in
set_option maxRecDepth 100000 in
theorem m_isMeant (S : XS) (hw : WI S) (l q : Int) (l0 : 0 ≤ l) (l1 : l < 5) (q0 : 0 ≤ q) (q1 : q < 384) : X mX9_isMeant 0 (xEnt mX9_isMeant [xR (50, 0, 0), xI l, xI q]) [] (hp S) 0 0 (pRet (xI (bI ((S.1 (67, 0, 0) (5 * l + 2) < 0 ∨ q / 8 % 8 = S.1 (67, 0, 0) (5 * l + 2)) ∧ (S.1 (67, 0, 0) (5 * l + 3) < 0 ∨ q % 8 = S.1 (67, 0, 0) (5 * l + 3))))) (hp S)) := by
  have hz := hw.1
  show X mX9_isMeant 0 [xR (50, 0, 0), xI l, xI q, none] [] (hp S) 0 0 _
  refine x_aload_n dX9_isMeant_0 rfl ?_
  refine x_get (v := xR (67, 0, 0)) dX9_isMeant_1 fl_RX9_64 (hp50 S) rfl ?_
  refine x_iconst dX9_isMeant_4 ?_
  refine x_iload_n dX9_isMeant_5 rfl ?_
  refine x_imul dX9_isMeant_6 ?_
  refine x_iconst dX9_isMeant_7 ?_
  refine x_iadd dX9_isMeant_8 ?_
  refine x_aldi (f := S.1 (67, 0, 0)) dX9_isMeant_9 (hp67 S) (show (67 : Nat) ≠ 99 by decide) (by omega) (by omega) (by decide) ?_
  have f9_1 := wfa67 hw (S := S) ((5 * l) + 2)
  refine x_if_lt (tgt := 33) dX9_isMeant_10 (by decide) (by first | exact hz _ _ | exact hw.1 _ _ | exact zR_of _ | exact bI_z _ | assumption | exact ⟨by omega, by omega⟩) (fun c10 => ?_) (fun c10 => ?_)
  · refine x_iconst dX9_isMeant_33 ?_
    refine x_goto (tgt := 38) dX9_isMeant_34 (by decide) ?_
    refine x_istore_n (L' := [xR (50, 0, 0), xI l, xI q, xI 1]) dX9_isMeant_38 (by decide) rfl ?_
    refine x_iload_n dX9_isMeant_39 rfl ?_
    refine x_if_eq (tgt := 77) dX9_isMeant_40 (by decide) ⟨by decide, by decide⟩ (fun z => absurd z (by decide)) (fun _ => ?_)
    refine x_aload_n dX9_isMeant_43 rfl ?_
    refine x_get (v := xR (67, 0, 0)) dX9_isMeant_44 fl_RX9_64 (hp50 S) rfl ?_
    refine x_iconst dX9_isMeant_47 ?_
    refine x_iload_n dX9_isMeant_48 rfl ?_
    refine x_imul dX9_isMeant_49 ?_
    refine x_iconst dX9_isMeant_50 ?_
    refine x_iadd dX9_isMeant_51 ?_
    refine x_aldi (f := S.1 (67, 0, 0)) dX9_isMeant_52 (hp67 S) (show (67 : Nat) ≠ 99 by decide) (by omega) (by omega) (by decide) ?_
    have f52_2 := wfa67 hw (S := S) ((5 * l) + 3)
    refine x_if_lt (tgt := 73) dX9_isMeant_53 (by decide) (by first | exact hz _ _ | exact hw.1 _ _ | exact zR_of _ | exact bI_z _ | assumption | exact ⟨by omega, by omega⟩) (fun c53 => ?_) (fun c53 => ?_)
    · refine x_iconst dX9_isMeant_73 ?_
      refine x_goto (tgt := 78) dX9_isMeant_74 (by decide) ?_
      exact x_zret dX9_isMeant_78 rfl (Or.inr rfl) (pRI (bI_t (by omega)).symm)
    · refine x_iload_n dX9_isMeant_56 rfl ?_
      refine x_bipush (v := 8) dX9_isMeant_57 (by decide) ?_
      refine x_irem dX9_isMeant_59 (by omega) (by omega) (by omega) (by omega) ?_
      refine x_aload_n dX9_isMeant_60 rfl ?_
      refine x_get (v := xR (67, 0, 0)) dX9_isMeant_61 fl_RX9_64 (hp50 S) rfl ?_
      refine x_iconst dX9_isMeant_64 ?_
      refine x_iload_n dX9_isMeant_65 rfl ?_
      refine x_imul dX9_isMeant_66 ?_
      refine x_iconst dX9_isMeant_67 ?_
      refine x_iadd dX9_isMeant_68 ?_
      refine x_aldi (f := S.1 (67, 0, 0)) dX9_isMeant_69 (hp67 S) (show (67 : Nat) ≠ 99 by decide) (by omega) (by omega) (by decide) ?_
      have f69_3 := wfa67 hw (S := S) ((5 * l) + 3)
      refine x_icmp_ne (tgt := 77) dX9_isMeant_70 (by decide) (by first | exact hz _ _ | exact hw.1 _ _ | exact zR_of _ | exact bI_z _ | assumption | exact ⟨by omega, by omega⟩) (by first | exact hz _ _ | exact hw.1 _ _ | exact zR_of _ | exact bI_z _ | assumption | exact ⟨by omega, by omega⟩) (fun c70 => ?_) (fun c70 => ?_)
      · refine x_iconst dX9_isMeant_77 ?_
        exact x_zret dX9_isMeant_78 rfl (Or.inl rfl) (pRI (bI_f (by omega)).symm)
      · refine x_iconst dX9_isMeant_73 ?_
        refine x_goto (tgt := 78) dX9_isMeant_74 (by decide) ?_
        exact x_zret dX9_isMeant_78 rfl (Or.inr rfl) (pRI (bI_t (by omega)).symm)
  · refine x_iload_n dX9_isMeant_13 rfl ?_
    refine x_bipush (v := 8) dX9_isMeant_14 (by decide) ?_
    refine x_idiv dX9_isMeant_16 (by omega) (by omega) (by omega) (by omega) ?_
    refine x_bipush (v := 8) dX9_isMeant_17 (by decide) ?_
    refine x_irem dX9_isMeant_19 (by omega) (by omega) (by omega) (by omega) ?_
    refine x_aload_n dX9_isMeant_20 rfl ?_
    refine x_get (v := xR (67, 0, 0)) dX9_isMeant_21 fl_RX9_64 (hp50 S) rfl ?_
    refine x_iconst dX9_isMeant_24 ?_
    refine x_iload_n dX9_isMeant_25 rfl ?_
    refine x_imul dX9_isMeant_26 ?_
    refine x_iconst dX9_isMeant_27 ?_
    refine x_iadd dX9_isMeant_28 ?_
    refine x_aldi (f := S.1 (67, 0, 0)) dX9_isMeant_29 (hp67 S) (show (67 : Nat) ≠ 99 by decide) (by omega) (by omega) (by decide) ?_
    have f29_4 := wfa67 hw (S := S) ((5 * l) + 2)
    refine x_icmp_ne (tgt := 37) dX9_isMeant_30 (by decide) (by first | exact hz _ _ | exact hw.1 _ _ | exact zR_of _ | exact bI_z _ | assumption | exact ⟨by omega, by omega⟩) (by first | exact hz _ _ | exact hw.1 _ _ | exact zR_of _ | exact bI_z _ | assumption | exact ⟨by omega, by omega⟩) (fun c30 => ?_) (fun c30 => ?_)
    · refine x_iconst dX9_isMeant_37 ?_
      refine x_istore_n (L' := [xR (50, 0, 0), xI l, xI q, xI 0]) dX9_isMeant_38 (by decide) rfl ?_
      refine x_iload_n dX9_isMeant_39 rfl ?_
      refine x_if_eq (tgt := 77) dX9_isMeant_40 (by decide) ⟨by decide, by decide⟩ (fun _ => ?_) (fun z => absurd z (by decide))
      refine x_iconst dX9_isMeant_77 ?_
      exact x_zret dX9_isMeant_78 rfl (Or.inl rfl) (pRI (bI_f (by omega)).symm)
    · refine x_iconst dX9_isMeant_33 ?_
      refine x_goto (tgt := 38) dX9_isMeant_34 (by decide) ?_
      refine x_istore_n (L' := [xR (50, 0, 0), xI l, xI q, xI 1]) dX9_isMeant_38 (by decide) rfl ?_
      refine x_iload_n dX9_isMeant_39 rfl ?_
      refine x_if_eq (tgt := 77) dX9_isMeant_40 (by decide) ⟨by decide, by decide⟩ (fun z => absurd z (by decide)) (fun _ => ?_)
      refine x_aload_n dX9_isMeant_43 rfl ?_
      refine x_get (v := xR (67, 0, 0)) dX9_isMeant_44 fl_RX9_64 (hp50 S) rfl ?_
      refine x_iconst dX9_isMeant_47 ?_
      refine x_iload_n dX9_isMeant_48 rfl ?_
      refine x_imul dX9_isMeant_49 ?_
      refine x_iconst dX9_isMeant_50 ?_
      refine x_iadd dX9_isMeant_51 ?_
      refine x_aldi (f := S.1 (67, 0, 0)) dX9_isMeant_52 (hp67 S) (show (67 : Nat) ≠ 99 by decide) (by omega) (by omega) (by decide) ?_
      have f52_5 := wfa67 hw (S := S) ((5 * l) + 3)
      refine x_if_lt (tgt := 73) dX9_isMeant_53 (by decide) (by first | exact hz _ _ | exact hw.1 _ _ | exact zR_of _ | exact bI_z _ | assumption | exact ⟨by omega, by omega⟩) (fun c53 => ?_) (fun c53 => ?_)
      · refine x_iconst dX9_isMeant_73 ?_
        refine x_goto (tgt := 78) dX9_isMeant_74 (by decide) ?_
        exact x_zret dX9_isMeant_78 rfl (Or.inr rfl) (pRI (bI_t (by omega)).symm)
      · refine x_iload_n dX9_isMeant_56 rfl ?_
        refine x_bipush (v := 8) dX9_isMeant_57 (by decide) ?_
        refine x_irem dX9_isMeant_59 (by omega) (by omega) (by omega) (by omega) ?_
        refine x_aload_n dX9_isMeant_60 rfl ?_
        refine x_get (v := xR (67, 0, 0)) dX9_isMeant_61 fl_RX9_64 (hp50 S) rfl ?_
        refine x_iconst dX9_isMeant_64 ?_
        refine x_iload_n dX9_isMeant_65 rfl ?_
        refine x_imul dX9_isMeant_66 ?_
        refine x_iconst dX9_isMeant_67 ?_
        refine x_iadd dX9_isMeant_68 ?_
        refine x_aldi (f := S.1 (67, 0, 0)) dX9_isMeant_69 (hp67 S) (show (67 : Nat) ≠ 99 by decide) (by omega) (by omega) (by decide) ?_
        have f69_6 := wfa67 hw (S := S) ((5 * l) + 3)
        refine x_icmp_ne (tgt := 77) dX9_isMeant_70 (by decide) (by first | exact hz _ _ | exact hw.1 _ _ | exact zR_of _ | exact bI_z _ | assumption | exact ⟨by omega, by omega⟩) (by first | exact hz _ _ | exact hw.1 _ _ | exact zR_of _ | exact bI_z _ | assumption | exact ⟨by omega, by omega⟩) (fun c70 => ?_) (fun c70 => ?_)
        · refine x_iconst dX9_isMeant_77 ?_
          exact x_zret dX9_isMeant_78 rfl (Or.inl rfl) (pRI (bI_f (by omega)).symm)
        · refine x_iconst dX9_isMeant_73 ?_
          refine x_goto (tgt := 78) dX9_isMeant_74 (by decide) ?_
          exact x_zret dX9_isMeant_78 rfl (Or.inr rfl) (pRI (bI_t (by omega)).symm)
set_option maxHeartbeats 4000000 in
set_option maxRecDepth 100000 in
theorem l_canTake (C S : XS) (hC : CB C) (hw : WI S) (hM : MR C S) (b k p : Int) (b0 : 0 ≤ b) (b1 : b < 4) (k0 : 0 ≤ k) (k1 : k < C.1 (9, b, 0) 3) (hp4 : C.1 (9, b, 0) 4 = p) (p0 : 0 ≤ p) (p1 : p < C.1 (0, 0, 0) 6) (hf : C.1 (9, b, 0) 5 ≤ C.1 (9, p, 0) 3) (hsp : C.1 (13, b, k) 0 = 0 → C.1 (13, b, k) 3 ≤ C.1 (13, b, k) 4) : ∀ (nn : Nat) (j : Int), C.1 (9, p, 0) 3 - j + 1 < (nn : Int) → (C.1 (9, b, 0) 5 ≤ j) → (j ≤ C.1 (9, p, 0) 3) → X mX9_canTake 36 [xR (50, 0, 0), xI b, xI (60 * b + k), xI p, xI (bI (TkA C b k p j)), xI (60 * p + j)] [] (hp S) 0 0 (pM S (fun kk z _T => kk = S.1 (50, 0, 0) 25 ∧ z = bI (Tk C b k p))) := by
  intro nn
  induction nn with
  | zero => intro j hm hj0 hj; exfalso; omega
  | succ nn ih =>
    intro j hm hj0 hj
    have c6 := wf0_6 hC.1
    have c9 := wf9_3 hC.1 b0 b1
    have d9 := wf9_3 hC.1 p0 (show p < 4 by omega)
    have d5 := wf9_5 hC.1 b0 b1
    have mb := hM.2.2.2.1 b b0 b1
    have mp := (hM.2.2.2.1 p p0 (by omega)).1
    obtain ⟨t1, t2, t3, t4, t5, t6⟩ := hM.1 b k b0 b1 k0 k1
    have g2 := wf13_2 hC.1 b0 b1 k0 (show k < 60 by omega)
    have g3 := wf13_3 hC.1 b0 b1 k0 (show k < 60 by omega)
    have g4 := wf13_4 hC.1 b0 b1 k0 (show k < 60 by omega)
    have fi0 := kd_tell (C.1 (13, b, k) 0) (C.1 (13, b, k) 1)
    have fi2 := kd_on (C.1 (13, b, k) 0) (C.1 (13, b, k) 1)
    have hz := hw.1
    have to := hC.2.2.2.2.2.2 b b0 b1 k.toNat (by omega)
    rw [show ((k.toNat : Nat) : Int) = k by omega] at to
    have va := bI_01 (TkA C b k p j)
    have va1 := bI_1 (P := TkA C b k p j)
    refine x_iload dX9_canTake_36 rfl ?_
    refine x_iload_n dX9_canTake_38 rfl ?_
    refine x_bipush (v := 60) dX9_canTake_39 (by decide) ?_
    refine x_imul dX9_canTake_41 ?_
    refine x_aload_n dX9_canTake_42 rfl ?_
    refine x_get (v := xR (58, 0, 0)) dX9_canTake_43 fl_RX9_33 (hp50 S) rfl ?_
    refine x_iload_n dX9_canTake_46 rfl ?_
    refine x_aldi (f := S.1 (58, 0, 0)) dX9_canTake_47 (hp58 S) (show (58 : Nat) ≠ 99 by decide) (by omega) (by omega) (by decide) ?_
    have f47_1 := wfa58 hw (S := S) p
    refine x_iadd dX9_canTake_48 ?_
    refine x_icmp_ge (tgt := 89) dX9_canTake_49 (by decide) (by first | exact hz _ _ | exact hw.1 _ _ | exact zR_of _ | exact bI_z _ | assumption | exact ⟨by omega, by omega⟩) (by first | exact hz _ _ | exact hw.1 _ _ | exact zR_of _ | exact bI_z _ | assumption | exact ⟨by omega, by omega⟩) (fun c49 => ?_) (fun c49 => ?_)
    · have hje : j = C.1 (9, p, 0) 3 := by omega
      have zz0 := zAnd_b0 (TkA C b k p j)
      have zz1 := zAnd_b1 (TkA C b k p j)
      have tk := tk_l (C := C) (b := b) (k := k) (p := p) hje
      rw [← t2, ← t3, ← t4] at tk
      have vt := bI_01 (Tk C b k p)
      have vr := bI_01 (Riv C.1 p (S.1 (52, 0, 0) (60 * b + k)) (S.1 (53, 0, 0) (60 * b + k)) (S.1 (54, 0, 0) (60 * b + k)))
      have vc := bI_01 (CanOn C (S.1 (52, 0, 0) (60 * b + k)) (onN C.1 p (C.1 (9, p, 0) 3).toNat))
      clear ih
      refine x_iload dX9_canTake_89 rfl ?_
      refine x_aload_n dX9_canTake_91 rfl ?_
      refine x_get (v := xR (58, 0, 0)) dX9_canTake_92 fl_RX9_33 (hp50 S) rfl ?_
      refine x_iload_n dX9_canTake_95 rfl ?_
      refine x_aldi (f := S.1 (58, 0, 0)) dX9_canTake_96 (hp58 S) (show (58 : Nat) ≠ 99 by decide) (by omega) (by omega) (by decide) ?_
      have f96_2 := wfa58 hw (S := S) p
      refine x_bipush (v := 60) dX9_canTake_97 (by decide) ?_
      refine x_icmp_ge (tgt := 143) dX9_canTake_99 (by decide) (by first | exact hz _ _ | exact hw.1 _ _ | exact zR_of _ | exact bI_z _ | assumption | exact ⟨by omega, by omega⟩) ⟨by decide, by decide⟩ (fun c99 => ?_) (fun c99 => ?_)
      · refine x_iconst dX9_canTake_143 ?_
        refine x_iand dX9_canTake_144 ?_
        refine x_istore (L' := [xR (50, 0, 0), xI b, xI (60 * b + k), xI p, xI (zAnd (bI (TkA C b k p j)) 0), xI (60 * p + j)]) dX9_canTake_145 (by decide) rfl ?_
        refine x_iload dX9_canTake_147 rfl ?_
        refine x_if_eq (tgt := 181) dX9_canTake_149 (by decide) (by first | exact hz _ _ | exact hw.1 _ _ | exact zR_of _ | exact bI_z _ | assumption | exact ⟨by omega, by omega⟩) (fun c149 => ?_) (fun c149 => ?_)
        · refine x_iconst dX9_canTake_181 ?_
          exact x_zret dX9_canTake_182 rfl (Or.inl rfl) (pM_of (MdQ.rf S) hw ⟨by first | rfl | assumption, by first | (have rb := bI_t b133; omega) | (have rb := bI_f b133; omega) | omega⟩)
        · refine x_aload_n dX9_canTake_152 rfl ?_
          refine x_get (v := xR (51, 0, 0)) dX9_canTake_153 fl_RX9_9 (hp50 S) rfl ?_
          refine x_iload_n dX9_canTake_156 rfl ?_
          refine x_aldc (f := S.1 (51, 0, 0)) dX9_canTake_157 (hp51 S) (show (51 : Nat) ≠ 99 by decide) (by omega) (by omega) (by decide) ?_
          have f157_3 := wfa51 hw (S := S) (60 * b + k)
          refine x_bipush (v := 110) dX9_canTake_158 (by decide) ?_
          refine x_icmp_ne (tgt := 177) dX9_canTake_160 (by decide) (by first | exact hz _ _ | exact hw.1 _ _ | exact zR_of _ | exact bI_z _ | assumption | exact ⟨by omega, by omega⟩) ⟨by decide, by decide⟩ (fun c160 => ?_) (fun c160 => ?_)
          · refine x_iconst dX9_canTake_177 ?_
            refine x_goto (tgt := 182) dX9_canTake_178 (by decide) ?_
            exact x_zret dX9_canTake_182 rfl (Or.inr rfl) (pM_of (MdQ.rf S) hw ⟨by first | rfl | assumption, by first | (have rb := bI_t b133; omega) | (have rb := bI_f b133; omega) | omega⟩)
          · refine x_aload_n dX9_canTake_163 rfl ?_
            refine x_iload_n dX9_canTake_164 rfl ?_
            refine x_aload_n dX9_canTake_165 rfl ?_
            refine x_get (v := xR (52, 0, 0)) dX9_canTake_166 fl_RX9_13 (hp50 S) rfl ?_
            refine x_iload_n dX9_canTake_169 rfl ?_
            refine x_aldi (f := S.1 (52, 0, 0)) dX9_canTake_170 (hp52 S) (show (52 : Nat) ≠ 99 by decide) (by omega) (by omega) (by decide) ?_
            have f170_4 := wfa52 hw (S := S) (60 * b + k)
            refine x_callV (a := 0) (b := 0) (as := [xI p, xI (S.1 (52, 0, 0) (60 * b + k))]) (rest := []) ok_X9_canTurn dX9_canTake_171 wd1319 ⟨wd1321, wd37⟩ (hp50 S) rfl rfl (m_canTurn C S hC hw hM p (S.1 (52, 0, 0) (60 * b + k)) p0 p1 (by omega) (by omega) (C.1 (34, (S.1 (52, 0, 0) (60 * b + k)), 0) 2).toNat (by have := wf34_2 hC.1 (b := (S.1 (52, 0, 0) (60 * b + k))) (by omega) (by have := wf4_2 hC.1; omega); omega)) rfl (Nat.le_of_ble_eq_true rfl) (Nat.le_of_ble_eq_true rfl) (by decide) (by omega) (by omega) (fun _ q => by obtain ⟨_, _, _, y, _⟩ := q; cases y) (fun _ _ q => ?_) (fun _ _ q => by obtain ⟨_, _, _, y, _⟩ := q; cases y)
            obtain ⟨U1, z1, rfl, y1, qU1, wU1, hU1⟩ := q
            cases y1
            have sU1 := (MdQ.rf S).tr qU1
            obtain ⟨kU1, rfl⟩ := hU1
            have vU101 := bI_01 (CanOn C (S.1 (52, 0, 0) (60 * b + k)) (onN C.1 p (C.1 (9, p, 0) 3).toNat))
            have vU11 := bI_1 (P := CanOn C (S.1 (52, 0, 0) (60 * b + k)) (onN C.1 p (C.1 (9, p, 0) 3).toNat))
            refine x_if_eq (tgt := 181) dX9_canTake_174 (by decide) (by first | exact hz _ _ | exact hw.1 _ _ | exact zR_of _ | exact bI_z _ | assumption | exact ⟨by omega, by omega⟩) (fun c174 => ?_) (fun c174 => ?_)
            · refine x_iconst dX9_canTake_181 ?_
              exact x_zret dX9_canTake_182 rfl (Or.inl rfl) (pM_of sU1 wU1 ⟨by first | rfl | assumption, by first | (have rb := bI_t b133; omega) | (have rb := bI_f b133; omega) | omega⟩)
            · refine x_iconst dX9_canTake_177 ?_
              refine x_goto (tgt := 182) dX9_canTake_178 (by decide) ?_
              exact x_zret dX9_canTake_182 rfl (Or.inr rfl) (pM_of sU1 wU1 ⟨by first | rfl | assumption, by first | (have rb := bI_t b133; omega) | (have rb := bI_f b133; omega) | omega⟩)
      · refine x_aload_n dX9_canTake_102 rfl ?_
        refine x_get (v := xR (51, 0, 0)) dX9_canTake_103 fl_RX9_9 (hp50 S) rfl ?_
        refine x_iload_n dX9_canTake_106 rfl ?_
        refine x_aldc (f := S.1 (51, 0, 0)) dX9_canTake_107 (hp51 S) (show (51 : Nat) ≠ 99 by decide) (by omega) (by omega) (by decide) ?_
        have f107_5 := wfa51 hw (S := S) (60 * b + k)
        refine x_bipush (v := 104) dX9_canTake_108 (by decide) ?_
        refine x_icmp_ne (tgt := 139) dX9_canTake_110 (by decide) (by first | exact hz _ _ | exact hw.1 _ _ | exact zR_of _ | exact bI_z _ | assumption | exact ⟨by omega, by omega⟩) ⟨by decide, by decide⟩ (fun c110 => ?_) (fun c110 => ?_)
        · refine x_iconst dX9_canTake_139 ?_
          refine x_goto (tgt := 144) dX9_canTake_140 (by decide) ?_
          refine x_iand dX9_canTake_144 ?_
          refine x_istore (L' := [xR (50, 0, 0), xI b, xI (60 * b + k), xI p, xI (zAnd (bI (TkA C b k p j)) 1), xI (60 * p + j)]) dX9_canTake_145 (by decide) rfl ?_
          refine x_iload dX9_canTake_147 rfl ?_
          refine x_if_eq (tgt := 181) dX9_canTake_149 (by decide) (by first | exact hz _ _ | exact hw.1 _ _ | exact zR_of _ | exact bI_z _ | assumption | exact ⟨by omega, by omega⟩) (fun c149 => ?_) (fun c149 => ?_)
          · refine x_iconst dX9_canTake_181 ?_
            exact x_zret dX9_canTake_182 rfl (Or.inl rfl) (pM_of (MdQ.rf S) hw ⟨by first | rfl | assumption, by first | (have rb := bI_t b133; omega) | (have rb := bI_f b133; omega) | omega⟩)
          · refine x_aload_n dX9_canTake_152 rfl ?_
            refine x_get (v := xR (51, 0, 0)) dX9_canTake_153 fl_RX9_9 (hp50 S) rfl ?_
            refine x_iload_n dX9_canTake_156 rfl ?_
            refine x_aldc (f := S.1 (51, 0, 0)) dX9_canTake_157 (hp51 S) (show (51 : Nat) ≠ 99 by decide) (by omega) (by omega) (by decide) ?_
            have f157_6 := wfa51 hw (S := S) (60 * b + k)
            refine x_bipush (v := 110) dX9_canTake_158 (by decide) ?_
            refine x_icmp_ne (tgt := 177) dX9_canTake_160 (by decide) (by first | exact hz _ _ | exact hw.1 _ _ | exact zR_of _ | exact bI_z _ | assumption | exact ⟨by omega, by omega⟩) ⟨by decide, by decide⟩ (fun c160 => ?_) (fun c160 => ?_)
            · refine x_iconst dX9_canTake_177 ?_
              refine x_goto (tgt := 182) dX9_canTake_178 (by decide) ?_
              exact x_zret dX9_canTake_182 rfl (Or.inr rfl) (pM_of (MdQ.rf S) hw ⟨by first | rfl | assumption, by first | (have rb := bI_t b133; omega) | (have rb := bI_f b133; omega) | omega⟩)
            · refine x_aload_n dX9_canTake_163 rfl ?_
              refine x_iload_n dX9_canTake_164 rfl ?_
              refine x_aload_n dX9_canTake_165 rfl ?_
              refine x_get (v := xR (52, 0, 0)) dX9_canTake_166 fl_RX9_13 (hp50 S) rfl ?_
              refine x_iload_n dX9_canTake_169 rfl ?_
              refine x_aldi (f := S.1 (52, 0, 0)) dX9_canTake_170 (hp52 S) (show (52 : Nat) ≠ 99 by decide) (by omega) (by omega) (by decide) ?_
              have f170_7 := wfa52 hw (S := S) (60 * b + k)
              refine x_callV (a := 0) (b := 0) (as := [xI p, xI (S.1 (52, 0, 0) (60 * b + k))]) (rest := []) ok_X9_canTurn dX9_canTake_171 wd1319 ⟨wd1321, wd37⟩ (hp50 S) rfl rfl (m_canTurn C S hC hw hM p (S.1 (52, 0, 0) (60 * b + k)) p0 p1 (by omega) (by omega) (C.1 (34, (S.1 (52, 0, 0) (60 * b + k)), 0) 2).toNat (by have := wf34_2 hC.1 (b := (S.1 (52, 0, 0) (60 * b + k))) (by omega) (by have := wf4_2 hC.1; omega); omega)) rfl (Nat.le_of_ble_eq_true rfl) (Nat.le_of_ble_eq_true rfl) (by decide) (by omega) (by omega) (fun _ q => by obtain ⟨_, _, _, y, _⟩ := q; cases y) (fun _ _ q => ?_) (fun _ _ q => by obtain ⟨_, _, _, y, _⟩ := q; cases y)
              obtain ⟨U2, z2, rfl, y2, qU2, wU2, hU2⟩ := q
              cases y2
              have sU2 := (MdQ.rf S).tr qU2
              obtain ⟨kU2, rfl⟩ := hU2
              have vU201 := bI_01 (CanOn C (S.1 (52, 0, 0) (60 * b + k)) (onN C.1 p (C.1 (9, p, 0) 3).toNat))
              have vU21 := bI_1 (P := CanOn C (S.1 (52, 0, 0) (60 * b + k)) (onN C.1 p (C.1 (9, p, 0) 3).toNat))
              refine x_if_eq (tgt := 181) dX9_canTake_174 (by decide) (by first | exact hz _ _ | exact hw.1 _ _ | exact zR_of _ | exact bI_z _ | assumption | exact ⟨by omega, by omega⟩) (fun c174 => ?_) (fun c174 => ?_)
              · refine x_iconst dX9_canTake_181 ?_
                exact x_zret dX9_canTake_182 rfl (Or.inl rfl) (pM_of sU2 wU2 ⟨by first | rfl | assumption, by first | (have rb := bI_t b133; omega) | (have rb := bI_f b133; omega) | omega⟩)
              · refine x_iconst dX9_canTake_177 ?_
                refine x_goto (tgt := 182) dX9_canTake_178 (by decide) ?_
                exact x_zret dX9_canTake_182 rfl (Or.inr rfl) (pM_of sU2 wU2 ⟨by first | rfl | assumption, by first | (have rb := bI_t b133; omega) | (have rb := bI_f b133; omega) | omega⟩)
        · refine x_aload_n dX9_canTake_113 rfl ?_
          refine x_iload_n dX9_canTake_114 rfl ?_
          refine x_aload_n dX9_canTake_115 rfl ?_
          refine x_get (v := xR (52, 0, 0)) dX9_canTake_116 fl_RX9_13 (hp50 S) rfl ?_
          refine x_iload_n dX9_canTake_119 rfl ?_
          refine x_aldi (f := S.1 (52, 0, 0)) dX9_canTake_120 (hp52 S) (show (52 : Nat) ≠ 99 by decide) (by omega) (by omega) (by decide) ?_
          have f120_8 := wfa52 hw (S := S) (60 * b + k)
          refine x_aload_n dX9_canTake_121 rfl ?_
          refine x_get (v := xR (53, 0, 0)) dX9_canTake_122 fl_RX9_17 (hp50 S) rfl ?_
          refine x_iload_n dX9_canTake_125 rfl ?_
          refine x_aldi (f := S.1 (53, 0, 0)) dX9_canTake_126 (hp53 S) (show (53 : Nat) ≠ 99 by decide) (by omega) (by omega) (by decide) ?_
          have f126_9 := wfa53 hw (S := S) (60 * b + k)
          refine x_aload_n dX9_canTake_127 rfl ?_
          refine x_get (v := xR (54, 0, 0)) dX9_canTake_128 fl_RX9_20 (hp50 S) rfl ?_
          refine x_iload_n dX9_canTake_131 rfl ?_
          refine x_aldi (f := S.1 (54, 0, 0)) dX9_canTake_132 (hp54 S) (show (54 : Nat) ≠ 99 by decide) (by omega) (by omega) (by decide) ?_
          have f132_10 := wfa54 hw (S := S) (60 * b + k)
          refine x_callV_r (a := 0) (b := 0) (as := [xI p, xI (S.1 (52, 0, 0) (60 * b + k)), xI (S.1 (53, 0, 0) (60 * b + k)), xI (S.1 (54, 0, 0) (60 * b + k))]) (rest := [xI (bI (TkA C b k p j))]) ok_X9_isAgainst dX9_canTake_133 wd1222 ⟨wd1224, wd21⟩ (hp50 S) rfl rfl (m_isAgainst C S hC.1 hw hM p p0 (by omega) (C.1 (9, p, 0) 3).toNat (by omega) (S.1 (52, 0, 0) (60 * b + k)) (S.1 (53, 0, 0) (60 * b + k)) (S.1 (54, 0, 0) (60 * b + k)) (by omega) (by omega) (by omega) (by have := hsp (by omega); omega) (by omega)) rfl (Nat.le_of_ble_eq_true rfl) (Nat.le_of_ble_eq_true rfl) (by decide) (by omega) (by omega) ?_
          by_cases b133 : Riv C.1 p (S.1 (52, 0, 0) (60 * b + k)) (S.1 (53, 0, 0) (60 * b + k)) (S.1 (54, 0, 0) (60 * b + k))
          · refine x_top (bI_t b133) ?_
            refine x_if_ne (tgt := 143) dX9_canTake_136 (by decide) ⟨by decide, by decide⟩ (fun _ => ?_) (fun z => absurd z (by decide))
            refine x_iconst dX9_canTake_143 ?_
            refine x_iand dX9_canTake_144 ?_
            refine x_istore (L' := [xR (50, 0, 0), xI b, xI (60 * b + k), xI p, xI (zAnd (bI (TkA C b k p j)) 0), xI (60 * p + j)]) dX9_canTake_145 (by decide) rfl ?_
            refine x_iload dX9_canTake_147 rfl ?_
            refine x_if_eq (tgt := 181) dX9_canTake_149 (by decide) (by first | exact hz _ _ | exact hw.1 _ _ | exact zR_of _ | exact bI_z _ | assumption | exact ⟨by omega, by omega⟩) (fun c149 => ?_) (fun c149 => ?_)
            · refine x_iconst dX9_canTake_181 ?_
              exact x_zret dX9_canTake_182 rfl (Or.inl rfl) (pM_of (MdQ.rf S) hw ⟨by first | rfl | assumption, by first | (have rb := bI_t b133; omega) | (have rb := bI_f b133; omega) | omega⟩)
            · refine x_aload_n dX9_canTake_152 rfl ?_
              refine x_get (v := xR (51, 0, 0)) dX9_canTake_153 fl_RX9_9 (hp50 S) rfl ?_
              refine x_iload_n dX9_canTake_156 rfl ?_
              refine x_aldc (f := S.1 (51, 0, 0)) dX9_canTake_157 (hp51 S) (show (51 : Nat) ≠ 99 by decide) (by omega) (by omega) (by decide) ?_
              have f157_11 := wfa51 hw (S := S) (60 * b + k)
              refine x_bipush (v := 110) dX9_canTake_158 (by decide) ?_
              refine x_icmp_ne (tgt := 177) dX9_canTake_160 (by decide) (by first | exact hz _ _ | exact hw.1 _ _ | exact zR_of _ | exact bI_z _ | assumption | exact ⟨by omega, by omega⟩) ⟨by decide, by decide⟩ (fun c160 => ?_) (fun c160 => ?_)
              · refine x_iconst dX9_canTake_177 ?_
                refine x_goto (tgt := 182) dX9_canTake_178 (by decide) ?_
                exact x_zret dX9_canTake_182 rfl (Or.inr rfl) (pM_of (MdQ.rf S) hw ⟨by first | rfl | assumption, by first | (have rb := bI_t b133; omega) | (have rb := bI_f b133; omega) | omega⟩)
              · refine x_aload_n dX9_canTake_163 rfl ?_
                refine x_iload_n dX9_canTake_164 rfl ?_
                refine x_aload_n dX9_canTake_165 rfl ?_
                refine x_get (v := xR (52, 0, 0)) dX9_canTake_166 fl_RX9_13 (hp50 S) rfl ?_
                refine x_iload_n dX9_canTake_169 rfl ?_
                refine x_aldi (f := S.1 (52, 0, 0)) dX9_canTake_170 (hp52 S) (show (52 : Nat) ≠ 99 by decide) (by omega) (by omega) (by decide) ?_
                have f170_12 := wfa52 hw (S := S) (60 * b + k)
                refine x_callV (a := 0) (b := 0) (as := [xI p, xI (S.1 (52, 0, 0) (60 * b + k))]) (rest := []) ok_X9_canTurn dX9_canTake_171 wd1319 ⟨wd1321, wd37⟩ (hp50 S) rfl rfl (m_canTurn C S hC hw hM p (S.1 (52, 0, 0) (60 * b + k)) p0 p1 (by omega) (by omega) (C.1 (34, (S.1 (52, 0, 0) (60 * b + k)), 0) 2).toNat (by have := wf34_2 hC.1 (b := (S.1 (52, 0, 0) (60 * b + k))) (by omega) (by have := wf4_2 hC.1; omega); omega)) rfl (Nat.le_of_ble_eq_true rfl) (Nat.le_of_ble_eq_true rfl) (by decide) (by omega) (by omega) (fun _ q => by obtain ⟨_, _, _, y, _⟩ := q; cases y) (fun _ _ q => ?_) (fun _ _ q => by obtain ⟨_, _, _, y, _⟩ := q; cases y)
                obtain ⟨U3, z3, rfl, y3, qU3, wU3, hU3⟩ := q
                cases y3
                have sU3 := (MdQ.rf S).tr qU3
                obtain ⟨kU3, rfl⟩ := hU3
                have vU301 := bI_01 (CanOn C (S.1 (52, 0, 0) (60 * b + k)) (onN C.1 p (C.1 (9, p, 0) 3).toNat))
                have vU31 := bI_1 (P := CanOn C (S.1 (52, 0, 0) (60 * b + k)) (onN C.1 p (C.1 (9, p, 0) 3).toNat))
                refine x_if_eq (tgt := 181) dX9_canTake_174 (by decide) (by first | exact hz _ _ | exact hw.1 _ _ | exact zR_of _ | exact bI_z _ | assumption | exact ⟨by omega, by omega⟩) (fun c174 => ?_) (fun c174 => ?_)
                · refine x_iconst dX9_canTake_181 ?_
                  exact x_zret dX9_canTake_182 rfl (Or.inl rfl) (pM_of sU3 wU3 ⟨by first | rfl | assumption, by first | (have rb := bI_t b133; omega) | (have rb := bI_f b133; omega) | omega⟩)
                · refine x_iconst dX9_canTake_177 ?_
                  refine x_goto (tgt := 182) dX9_canTake_178 (by decide) ?_
                  exact x_zret dX9_canTake_182 rfl (Or.inr rfl) (pM_of sU3 wU3 ⟨by first | rfl | assumption, by first | (have rb := bI_t b133; omega) | (have rb := bI_f b133; omega) | omega⟩)
          · refine x_top (bI_f b133) ?_
            refine x_if_ne (tgt := 143) dX9_canTake_136 (by decide) ⟨by decide, by decide⟩ (fun z => absurd z (by decide)) (fun _ => ?_)
            refine x_iconst dX9_canTake_139 ?_
            refine x_goto (tgt := 144) dX9_canTake_140 (by decide) ?_
            refine x_iand dX9_canTake_144 ?_
            refine x_istore (L' := [xR (50, 0, 0), xI b, xI (60 * b + k), xI p, xI (zAnd (bI (TkA C b k p j)) 1), xI (60 * p + j)]) dX9_canTake_145 (by decide) rfl ?_
            refine x_iload dX9_canTake_147 rfl ?_
            refine x_if_eq (tgt := 181) dX9_canTake_149 (by decide) (by first | exact hz _ _ | exact hw.1 _ _ | exact zR_of _ | exact bI_z _ | assumption | exact ⟨by omega, by omega⟩) (fun c149 => ?_) (fun c149 => ?_)
            · refine x_iconst dX9_canTake_181 ?_
              exact x_zret dX9_canTake_182 rfl (Or.inl rfl) (pM_of (MdQ.rf S) hw ⟨by first | rfl | assumption, by first | (have rb := bI_t b133; omega) | (have rb := bI_f b133; omega) | omega⟩)
            · refine x_aload_n dX9_canTake_152 rfl ?_
              refine x_get (v := xR (51, 0, 0)) dX9_canTake_153 fl_RX9_9 (hp50 S) rfl ?_
              refine x_iload_n dX9_canTake_156 rfl ?_
              refine x_aldc (f := S.1 (51, 0, 0)) dX9_canTake_157 (hp51 S) (show (51 : Nat) ≠ 99 by decide) (by omega) (by omega) (by decide) ?_
              have f157_13 := wfa51 hw (S := S) (60 * b + k)
              refine x_bipush (v := 110) dX9_canTake_158 (by decide) ?_
              refine x_icmp_ne (tgt := 177) dX9_canTake_160 (by decide) (by first | exact hz _ _ | exact hw.1 _ _ | exact zR_of _ | exact bI_z _ | assumption | exact ⟨by omega, by omega⟩) ⟨by decide, by decide⟩ (fun c160 => ?_) (fun c160 => ?_)
              · refine x_iconst dX9_canTake_177 ?_
                refine x_goto (tgt := 182) dX9_canTake_178 (by decide) ?_
                exact x_zret dX9_canTake_182 rfl (Or.inr rfl) (pM_of (MdQ.rf S) hw ⟨by first | rfl | assumption, by first | (have rb := bI_t b133; omega) | (have rb := bI_f b133; omega) | omega⟩)
              · refine x_aload_n dX9_canTake_163 rfl ?_
                refine x_iload_n dX9_canTake_164 rfl ?_
                refine x_aload_n dX9_canTake_165 rfl ?_
                refine x_get (v := xR (52, 0, 0)) dX9_canTake_166 fl_RX9_13 (hp50 S) rfl ?_
                refine x_iload_n dX9_canTake_169 rfl ?_
                refine x_aldi (f := S.1 (52, 0, 0)) dX9_canTake_170 (hp52 S) (show (52 : Nat) ≠ 99 by decide) (by omega) (by omega) (by decide) ?_
                have f170_14 := wfa52 hw (S := S) (60 * b + k)
                refine x_callV (a := 0) (b := 0) (as := [xI p, xI (S.1 (52, 0, 0) (60 * b + k))]) (rest := []) ok_X9_canTurn dX9_canTake_171 wd1319 ⟨wd1321, wd37⟩ (hp50 S) rfl rfl (m_canTurn C S hC hw hM p (S.1 (52, 0, 0) (60 * b + k)) p0 p1 (by omega) (by omega) (C.1 (34, (S.1 (52, 0, 0) (60 * b + k)), 0) 2).toNat (by have := wf34_2 hC.1 (b := (S.1 (52, 0, 0) (60 * b + k))) (by omega) (by have := wf4_2 hC.1; omega); omega)) rfl (Nat.le_of_ble_eq_true rfl) (Nat.le_of_ble_eq_true rfl) (by decide) (by omega) (by omega) (fun _ q => by obtain ⟨_, _, _, y, _⟩ := q; cases y) (fun _ _ q => ?_) (fun _ _ q => by obtain ⟨_, _, _, y, _⟩ := q; cases y)
                obtain ⟨U4, z4, rfl, y4, qU4, wU4, hU4⟩ := q
                cases y4
                have sU4 := (MdQ.rf S).tr qU4
                obtain ⟨kU4, rfl⟩ := hU4
                have vU401 := bI_01 (CanOn C (S.1 (52, 0, 0) (60 * b + k)) (onN C.1 p (C.1 (9, p, 0) 3).toNat))
                have vU41 := bI_1 (P := CanOn C (S.1 (52, 0, 0) (60 * b + k)) (onN C.1 p (C.1 (9, p, 0) 3).toNat))
                refine x_if_eq (tgt := 181) dX9_canTake_174 (by decide) (by first | exact hz _ _ | exact hw.1 _ _ | exact zR_of _ | exact bI_z _ | assumption | exact ⟨by omega, by omega⟩) (fun c174 => ?_) (fun c174 => ?_)
                · refine x_iconst dX9_canTake_181 ?_
                  exact x_zret dX9_canTake_182 rfl (Or.inl rfl) (pM_of sU4 wU4 ⟨by first | rfl | assumption, by first | (have rb := bI_t b133; omega) | (have rb := bI_f b133; omega) | omega⟩)
                · refine x_iconst dX9_canTake_177 ?_
                  refine x_goto (tgt := 182) dX9_canTake_178 (by decide) ?_
                  exact x_zret dX9_canTake_182 rfl (Or.inr rfl) (pM_of sU4 wU4 ⟨by first | rfl | assumption, by first | (have rb := bI_t b133; omega) | (have rb := bI_f b133; omega) | omega⟩)
    · have mj := (hM.1 p j p0 (by omega) (by omega) (by omega)).2.2.2.2.1
      refine x_iload dX9_canTake_52 rfl ?_
      refine x_aload_n dX9_canTake_54 rfl ?_
      refine x_get (v := xR (55, 0, 0)) dX9_canTake_55 fl_RX9_23 (hp50 S) rfl ?_
      refine x_iload dX9_canTake_58 rfl ?_
      refine x_aldi (f := S.1 (55, 0, 0)) dX9_canTake_60 (hp55 S) (show (55 : Nat) ≠ 99 by decide) (by omega) (by omega) (by decide) ?_
      have f60_15 := wfa55 hw (S := S) (60 * p + j)
      refine x_iload_n dX9_canTake_61 rfl ?_
      refine x_icmp_eq (tgt := 75) dX9_canTake_62 (by decide) (by first | exact hz _ _ | exact hw.1 _ _ | exact zR_of _ | exact bI_z _ | assumption | exact ⟨by omega, by omega⟩) (by first | exact hz _ _ | exact hw.1 _ _ | exact zR_of _ | exact bI_z _ | assumption | exact ⟨by omega, by omega⟩) (fun c62 => ?_) (fun c62 => ?_)
      · refine x_iconst dX9_canTake_75 ?_
        refine x_goto (tgt := 80) dX9_canTake_76 (by decide) ?_
        refine x_iand dX9_canTake_80 ?_
        refine x_istore (L' := [xR (50, 0, 0), xI b, xI (60 * b + k), xI p, xI (zAnd (bI (TkA C b k p j)) 1), xI (60 * p + j)]) dX9_canTake_81 (by decide) rfl ?_
        refine x_iinc (L' := [xR (50, 0, 0), xI b, xI (60 * b + k), xI p, xI (zAnd (bI (TkA C b k p j)) 1), xI ((60 * p + j) + 1)]) dX9_canTake_83 rfl rfl ?_
        refine x_goto (tgt := 36) dX9_canTake_86 (by decide) ?_
        have kk := ih (j + 1) (by omega) (by omega) (by omega)
        rw [show 60 * p + (j + 1) = 60 * p + j + 1 by omega, show bI (TkA C b k p (j + 1)) = zAnd (bI (TkA C b k p j)) 1 from by rw [zAnd_b1]; exact bI_c ((TkA.s (by omega)).trans ⟨fun z => z.1, fun z => ⟨z, by first | exact Or.inl (by omega) | exact Or.inr (by assumption)⟩⟩)] at kk
        exact kk
      · refine x_aload_n dX9_canTake_65 rfl ?_
        refine x_iload_n dX9_canTake_66 rfl ?_
        refine x_iload dX9_canTake_67 rfl ?_
        refine x_callV_r (a := 0) (b := 0) (as := [xI (60 * b + k), xI (60 * p + j)]) (rest := [xI (bI (TkA C b k p j))]) ok_X9_isContrary dX9_canTake_69 wd1434 ⟨wd1436, wd46⟩ (hp50 S) rfl rfl (m_isContrary C S hC.1 hw hM.1 b k p j b0 b1 k0 k1 p0 (by omega) (by omega) (by omega)) rfl (Nat.le_of_ble_eq_true rfl) (Nat.le_of_ble_eq_true rfl) (by decide) (by omega) (by omega) ?_
        by_cases b69 : Ctr C.1 b k p j
        · refine x_top (bI_t b69) ?_
          refine x_if_ne (tgt := 79) dX9_canTake_72 (by decide) ⟨by decide, by decide⟩ (fun _ => ?_) (fun z => absurd z (by decide))
          refine x_iconst dX9_canTake_79 ?_
          refine x_iand dX9_canTake_80 ?_
          refine x_istore (L' := [xR (50, 0, 0), xI b, xI (60 * b + k), xI p, xI (zAnd (bI (TkA C b k p j)) 0), xI (60 * p + j)]) dX9_canTake_81 (by decide) rfl ?_
          refine x_iinc (L' := [xR (50, 0, 0), xI b, xI (60 * b + k), xI p, xI (zAnd (bI (TkA C b k p j)) 0), xI ((60 * p + j) + 1)]) dX9_canTake_83 rfl rfl ?_
          refine x_goto (tgt := 36) dX9_canTake_86 (by decide) ?_
          have kk := ih (j + 1) (by omega) (by omega) (by omega)
          rw [show 60 * p + (j + 1) = 60 * p + j + 1 by omega, show bI (TkA C b k p (j + 1)) = zAnd (bI (TkA C b k p j)) 0 from by rw [zAnd_b0]; exact bI_f (fun z => (((TkA.s (by omega)).mp z).2).elim (fun y => by omega) (fun y => y (by assumption)))] at kk
          exact kk
        · refine x_top (bI_f b69) ?_
          refine x_if_ne (tgt := 79) dX9_canTake_72 (by decide) ⟨by decide, by decide⟩ (fun z => absurd z (by decide)) (fun _ => ?_)
          refine x_iconst dX9_canTake_75 ?_
          refine x_goto (tgt := 80) dX9_canTake_76 (by decide) ?_
          refine x_iand dX9_canTake_80 ?_
          refine x_istore (L' := [xR (50, 0, 0), xI b, xI (60 * b + k), xI p, xI (zAnd (bI (TkA C b k p j)) 1), xI (60 * p + j)]) dX9_canTake_81 (by decide) rfl ?_
          refine x_iinc (L' := [xR (50, 0, 0), xI b, xI (60 * b + k), xI p, xI (zAnd (bI (TkA C b k p j)) 1), xI ((60 * p + j) + 1)]) dX9_canTake_83 rfl rfl ?_
          refine x_goto (tgt := 36) dX9_canTake_86 (by decide) ?_
          have kk := ih (j + 1) (by omega) (by omega) (by omega)
          rw [show 60 * p + (j + 1) = 60 * p + j + 1 by omega, show bI (TkA C b k p (j + 1)) = zAnd (bI (TkA C b k p j)) 1 from by rw [zAnd_b1]; exact bI_c ((TkA.s (by omega)).trans ⟨fun z => z.1, fun z => ⟨z, by first | exact Or.inl (by omega) | exact Or.inr (by assumption)⟩⟩)] at kk
          exact kk
set_option maxHeartbeats 4000000 in
set_option maxRecDepth 100000 in
theorem m_canTake (C S : XS) (hC : CB C) (hw : WI S) (hM : MR C S) (b k p : Int) (b0 : 0 ≤ b) (b1 : b < 4) (k0 : 0 ≤ k) (k1 : k < C.1 (9, b, 0) 3) (hp4 : C.1 (9, b, 0) 4 = p) (p0 : 0 ≤ p) (p1 : p < C.1 (0, 0, 0) 6) (hf : C.1 (9, b, 0) 5 ≤ C.1 (9, p, 0) 3) (hsp : C.1 (13, b, k) 0 = 0 → C.1 (13, b, k) 3 ≤ C.1 (13, b, k) 4) : X mX9_canTake 0 (xEnt mX9_canTake [xR (50, 0, 0), xI b, xI (60 * b + k)]) [] (hp S) 0 0 (pM S (fun kk z _T => kk = S.1 (50, 0, 0) 25 ∧ z = bI (Tk C b k p))) := by
  have c6 := wf0_6 hC.1
  have c9 := wf9_3 hC.1 b0 b1
  have d9 := wf9_3 hC.1 p0 (show p < 4 by omega)
  have d5 := wf9_5 hC.1 b0 b1
  have mb := hM.2.2.2.1 b b0 b1
  have mp := (hM.2.2.2.1 p p0 (by omega)).1
  obtain ⟨t1, t2, t3, t4, t5, t6⟩ := hM.1 b k b0 b1 k0 k1
  have g2 := wf13_2 hC.1 b0 b1 k0 (show k < 60 by omega)
  have g3 := wf13_3 hC.1 b0 b1 k0 (show k < 60 by omega)
  have g4 := wf13_4 hC.1 b0 b1 k0 (show k < 60 by omega)
  have fi0 := kd_tell (C.1 (13, b, k) 0) (C.1 (13, b, k) 1)
  have fi2 := kd_on (C.1 (13, b, k) 0) (C.1 (13, b, k) 1)
  have hz := hw.1
  have to := hC.2.2.2.2.2.2 b b0 b1 k.toNat (by omega)
  rw [show ((k.toNat : Nat) : Int) = k by omega] at to
  show X mX9_canTake 0 [xR (50, 0, 0), xI b, xI (60 * b + k), none, none, none] [] (hp S) 0 0 _
  refine x_aload_n dX9_canTake_0 rfl ?_
  refine x_get (v := xR (59, 0, 0)) dX9_canTake_1 fl_RX9_36 (hp50 S) rfl ?_
  refine x_iload_n dX9_canTake_4 rfl ?_
  refine x_aldi (f := S.1 (59, 0, 0)) dX9_canTake_5 (hp59 S) (show (59 : Nat) ≠ 99 by decide) (by omega) (by omega) (by decide) ?_
  have f5_1 := wfa59 hw (S := S) b
  refine x_top (show S.1 (59, 0, 0) b = p from by omega) ?_
  refine x_istore_n (L' := [xR (50, 0, 0), xI b, xI (60 * b + k), xI p, none, none]) dX9_canTake_6 (by decide) rfl ?_
  refine x_aload_n dX9_canTake_7 rfl ?_
  refine x_get (v := xR (56, 0, 0)) dX9_canTake_8 fl_RX9_26 (hp50 S) rfl ?_
  refine x_iload_n dX9_canTake_11 rfl ?_
  refine x_aldz (f := S.1 (56, 0, 0)) dX9_canTake_12 (hp56 S) (show (56 : Nat) ≠ 99 by decide) (by omega) (by omega) (by decide) ?_
  have f12_2 := wfa56 hw (S := S) (60 * b + k)
  refine x_if_ne (tgt := 20) dX9_canTake_13 (by decide) (by first | exact hz _ _ | exact hw.1 _ _ | exact zR_of _ | exact bI_z _ | assumption | exact ⟨by omega, by omega⟩) (fun c13 => ?_) (fun c13 => ?_)
  · refine x_iconst dX9_canTake_20 ?_
    refine x_istore (L' := [xR (50, 0, 0), xI b, xI (60 * b + k), xI p, xI 0, none]) dX9_canTake_21 (by decide) rfl ?_
    refine x_iload_n dX9_canTake_23 rfl ?_
    refine x_bipush (v := 60) dX9_canTake_24 (by decide) ?_
    refine x_imul dX9_canTake_26 ?_
    refine x_aload_n dX9_canTake_27 rfl ?_
    refine x_get (v := xR (60, 0, 0)) dX9_canTake_28 fl_RX9_39 (hp50 S) rfl ?_
    refine x_iload_n dX9_canTake_31 rfl ?_
    refine x_aldi (f := S.1 (60, 0, 0)) dX9_canTake_32 (hp60 S) (show (60 : Nat) ≠ 99 by decide) (by omega) (by omega) (by decide) ?_
    have f32_3 := wfa60 hw (S := S) b
    refine x_iadd dX9_canTake_33 ?_
    refine x_top (show (p * 60) + (S.1 (60, 0, 0) b) = 60 * p + C.1 (9, b, 0) 5 from by omega) ?_
    refine x_istore (L' := [xR (50, 0, 0), xI b, xI (60 * b + k), xI p, xI 0, xI (60 * p + C.1 (9, b, 0) 5)]) dX9_canTake_34 (by decide) rfl ?_
    have kk := l_canTake C S hC hw hM b k p b0 b1 k0 k1 hp4 p0 p1 hf hsp 62 (C.1 (9, b, 0) 5) (by omega) (by omega) (by omega)
    rw [show bI (TkA C b k p (C.1 (9, b, 0) 5)) = 0 from bI_f (fun z => by have := z.1; omega)] at kk
    exact kk
  · refine x_iconst dX9_canTake_16 ?_
    refine x_goto (tgt := 21) dX9_canTake_17 (by decide) ?_
    refine x_istore (L' := [xR (50, 0, 0), xI b, xI (60 * b + k), xI p, xI 1, none]) dX9_canTake_21 (by decide) rfl ?_
    refine x_iload_n dX9_canTake_23 rfl ?_
    refine x_bipush (v := 60) dX9_canTake_24 (by decide) ?_
    refine x_imul dX9_canTake_26 ?_
    refine x_aload_n dX9_canTake_27 rfl ?_
    refine x_get (v := xR (60, 0, 0)) dX9_canTake_28 fl_RX9_39 (hp50 S) rfl ?_
    refine x_iload_n dX9_canTake_31 rfl ?_
    refine x_aldi (f := S.1 (60, 0, 0)) dX9_canTake_32 (hp60 S) (show (60 : Nat) ≠ 99 by decide) (by omega) (by omega) (by decide) ?_
    have f32_4 := wfa60 hw (S := S) b
    refine x_iadd dX9_canTake_33 ?_
    refine x_top (show (p * 60) + (S.1 (60, 0, 0) b) = 60 * p + C.1 (9, b, 0) 5 from by omega) ?_
    refine x_istore (L' := [xR (50, 0, 0), xI b, xI (60 * b + k), xI p, xI 1, xI (60 * p + C.1 (9, b, 0) 5)]) dX9_canTake_34 (by decide) rfl ?_
    have kk := l_canTake C S hC hw hM b k p b0 b1 k0 k1 hp4 p0 p1 hf hsp 62 (C.1 (9, b, 0) 5) (by omega) (by omega) (by omega)
    rw [show bI (TkA C b k p (C.1 (9, b, 0) 5)) = 1 from bI_t ⟨by omega, fun j a c => by omega⟩] at kk
    exact kk
