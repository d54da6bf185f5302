/-! the reference: what is against a fact; a telling more -/
def Ag (C : XS) (b : Int) (n : Nat) (q o h : Int) : Prop := o ≠ q ∧ sB (toldN C.1 b h n) o
def AgO (C : XS) (b : Int) (n : Nat) (q x y : Int) (j : Int) : Prop := ∃ o h : Int, q / 8 * 8 ≤ o ∧ o < q / 8 * 8 + j ∧ x ≤ h ∧ h ≤ y ∧ Ag C b n q o h
def AgI (C : XS) (b : Int) (n : Nat) (q x y : Int) (j h1 : Int) : Prop := AgO C b n q x y j ∨ ∃ h : Int, x ≤ h ∧ h < h1 ∧ Ag C b n q (q / 8 * 8 + j) h
theorem AgI.first {C : XS} {b : Int} {n : Nat} {q x y j : Int} : AgI C b n q x y j x ↔ AgO C b n q x y j := ⟨fun z => z.elim id (fun ⟨h, a, c, _⟩ => by omega), Or.inl⟩
theorem AgI.last {C : XS} {b : Int} {n : Nat} {q x y j h : Int} (j0 : 0 ≤ j) (hh : h = y + 1) : AgI C b n q x y j h ↔ AgO C b n q x y (j + 1) := by
  subst hh
  constructor
  · rintro (⟨o, h, a, c, d, e, f⟩ | ⟨h, a, c, d⟩)
    · exact ⟨o, h, a, by omega, d, e, f⟩
    · exact ⟨q / 8 * 8 + j, h, by omega, by omega, a, by omega, d⟩
  · rintro ⟨o, h, a, c, d, e, f⟩
    by_cases z : o = q / 8 * 8 + j
    · subst z; exact Or.inr ⟨h, d, by omega, f⟩
    · exact Or.inl ⟨o, h, a, by omega, d, e, f⟩
theorem AgI.step {C : XS} {b : Int} {n : Nat} {q x y j h : Int} (hx : x ≤ h) : AgI C b n q x y j (h + 1) ↔ AgI C b n q x y j h ∨ Ag C b n q (q / 8 * 8 + j) h := by
  constructor
  · rintro (z | ⟨h', a, c, d⟩)
    · exact Or.inl (Or.inl z)
    · by_cases e : h' = h
      · subst e; exact Or.inr d
      · exact Or.inl (Or.inr ⟨h', a, by omega, d⟩)
  · rintro ((z | ⟨h', a, c, d⟩) | z)
    · exact Or.inl z
    · exact Or.inr ⟨h', a, by omega, d⟩
    · exact Or.inr ⟨h, hx, by omega, z⟩
theorem AgO.riv {C : XS} {b : Int} {q x y : Int} (q0 : 0 ≤ q) (hu : C.1 (3, 0, 0) (q / 64) ≠ 0) : AgO C b (C.1 (9, b, 0) 3).toNat q x y 8 ↔ Riv C.1 b q x y := by
  constructor
  · rintro ⟨o, h, a, c, d, e, f, g⟩
    refine ⟨hu, h, d, e, (o % 64).toNat, by omega, by omega, by omega, ?_⟩
    unfold sB at g
    rw [show ((o % 64).toNat : Int) = o % 64 by omega, show q / 64 = o / 64 by omega]
    exact g
  · rintro ⟨-, h, d, e, p, p1, p2, p3, p4⟩
    refine ⟨64 * (q / 64) + p, h, by omega, by omega, d, e, by omega, ?_⟩
    unfold sB
    rw [show (64 * (q / 64) + (p : Int)) / 64 = q / 64 by omega, show (64 * (q / 64) + (p : Int)) % 64 = p by omega]
    exact p4
set_option maxHeartbeats 4000000 in
set_option maxRecDepth 100000 in
theorem l_against2 (C S : XS) (hC : WI C) (hw : WI S) (hM : MR C S) (b : Int) (b0 : 0 ≤ b) (b1 : b < 4) (n : Nat) (hn : C.1 (9, b, 0) 3 = n) (q x y : Int) (q0 : 0 ≤ q) (q1 : q < 384) (x0 : 0 ≤ x) (xy : x ≤ y) (y1 : y < 24) (j : Nat) (hj : j < 8) (KKo : X mX9_isAgainst 12 [xR (50, 0, 0), xI b, xI q, xI x, xI y, xI (bI (AgO C b n q x y ((j : Int) + 1))), xI (q / 8 * 8 + (j : Int) + 1), none] [] (hp S) 0 0 (pRet (xI (bI (Riv C.1 b q x y))) (hp S))) : ∀ (nn : Nat) (h : Int), y + 1 - h < (nn : Int) → (x ≤ h) → (h ≤ y + 1) → X mX9_isAgainst 42 [xR (50, 0, 0), xI b, xI q, xI x, xI y, xI (bI (AgI C b n q x y (j : Int) h)), xI (q / 8 * 8 + (j : Int)), xI h] [] (hp S) 0 0 (pRet (xI (bI (Riv C.1 b q x y))) (hp S)) := by
  intro nn
  induction nn with
  | zero => intro h hm h0 h1; exfalso; omega
  | succ nn ih =>
    intro h hm h0 h1
    have c9 := wf9_3 hC b0 b1
    have mb := (hM.2.2.2.1 b b0 b1).1
    have mu := hM.2.2.2.2 (q / 64) (by omega) (by omega)
    have hz := hw.1
    refine x_iload dX9_isAgainst_42 rfl ?_
    refine x_iload dX9_isAgainst_44 rfl ?_
    refine x_icmp_gt (tgt := 89) dX9_isAgainst_46 (by decide) (by first | exact hz _ _ | exact hw.1 _ _ | exact zR_of _ | exact bI_z _ | assumption | exact ⟨by omega, by omega⟩) (by first | exact hz _ _ | exact hw.1 _ _ | exact zR_of _ | exact bI_z _ | assumption | exact ⟨by omega, by omega⟩) (fun c46 => ?_) (fun c46 => ?_)
    · refine x_iinc (L' := [xR (50, 0, 0), xI b, xI q, xI x, xI y, xI (bI (AgI C b n q x y (j : Int) h)), xI ((q / 8 * 8 + (j : Int)) + 1), xI h]) dX9_isAgainst_89 rfl rfl ?_
      refine x_goto (tgt := 12) dX9_isAgainst_92 (by decide) ?_
      refine X.loc (L' := [xR (50, 0, 0), xI b, xI q, xI x, xI y, xI (bI (AgI C b n q x y (j : Int) h)), xI ((q / 8 * 8 + (j : Int)) + 1), none]) ⟨rfl, ⟨rfl, ⟨rfl, ⟨rfl, ⟨rfl, ⟨rfl, ⟨rfl, trivial⟩⟩⟩⟩⟩⟩⟩ ?_
      rw [show bI (AgI C b n q x y (j : Int) h) = bI (AgO C b n q x y ((j : Int) + 1)) from bI_c (AgI.last (by omega) (by omega))]
      exact KKo
    · refine x_iload dX9_isAgainst_49 rfl ?_
      refine x_iload dX9_isAgainst_51 rfl ?_
      refine x_iload_n dX9_isAgainst_53 rfl ?_
      refine x_icmp_eq (tgt := 79) dX9_isAgainst_54 (by decide) (by first | exact hz _ _ | exact hw.1 _ _ | exact zR_of _ | exact bI_z _ | assumption | exact ⟨by omega, by omega⟩) (by first | exact hz _ _ | exact hw.1 _ _ | exact zR_of _ | exact bI_z _ | assumption | exact ⟨by omega, by omega⟩) (fun c54 => ?_) (fun c54 => ?_)
      · refine x_iconst dX9_isAgainst_79 ?_
        refine x_ior dX9_isAgainst_80 ?_
        refine x_istore (L' := [xR (50, 0, 0), xI b, xI q, xI x, xI y, xI (zOr (bI (AgI C b n q x y (j : Int) h)) 0), xI (q / 8 * 8 + (j : Int)), xI h]) dX9_isAgainst_81 (by decide) rfl ?_
        refine x_iinc (L' := [xR (50, 0, 0), xI b, xI q, xI x, xI y, xI (zOr (bI (AgI C b n q x y (j : Int) h)) 0), xI (q / 8 * 8 + (j : Int)), xI (h + 1)]) dX9_isAgainst_83 rfl rfl ?_
        refine x_goto (tgt := 42) dX9_isAgainst_86 (by decide) ?_
        have kk := ih (h + 1) (by omega) (by omega) (by omega)
        rw [show bI (AgI C b n q x y (j : Int) (h + 1)) = zOr (bI (AgI C b n q x y (j : Int) h)) 0 from by rw [zOr_b0]; exact bI_c ((AgI.step (by omega)).trans ⟨fun z => z.elim id (fun z => absurd z (fun y => by have y1 := y.1; have y2 := y.2; first | omega | exact absurd y2 (by assumption))), Or.inl⟩)] at kk
        exact kk
      · refine x_aload_n dX9_isAgainst_57 rfl ?_
        refine x_iload_n dX9_isAgainst_58 rfl ?_
        refine x_aload_n dX9_isAgainst_59 rfl ?_
        refine x_get (v := xR (58, 0, 0)) dX9_isAgainst_60 fl_RX9_33 (hp50 S) rfl ?_
        refine x_iload_n dX9_isAgainst_63 rfl ?_
        refine x_aldi (f := S.1 (58, 0, 0)) dX9_isAgainst_64 (hp58 S) (show (58 : Nat) ≠ 99 by decide) (by omega) (by omega) (by decide) ?_
        have f64_1 := wfa58 hw (S := S) b
        refine x_top (show S.1 (58, 0, 0) b = (n : Int) from by omega) ?_
        refine x_iload dX9_isAgainst_65 rfl ?_
        refine x_iload dX9_isAgainst_67 rfl ?_
        refine x_callV_r (a := 0) (b := 0) (as := [xI b, xI (n : Int), xI h, xI (q / 8 * 8 + (j : Int))]) (rest := [xI (bI (AgI C b n q x y (j : Int) h))]) ok_X9_isTold dX9_isAgainst_69 wd1226 ⟨wd1228, wd22⟩ (hp50 S) rfl rfl (m_isTold C S hC hw hM.1 b b0 b1 n (by omega) h (q / 8 * 8 + (j : Int)) (by omega) (by omega) (by omega) (by omega)) rfl (Nat.le_of_ble_eq_true rfl) (Nat.le_of_ble_eq_true rfl) (by decide) (by omega) (by omega) ?_
        by_cases b69 : sB (toldN C.1 b h n) (q / 8 * 8 + (j : Int))
        · refine x_top (bI_t b69) ?_
          refine x_if_eq (tgt := 79) dX9_isAgainst_72 (by decide) ⟨by decide, by decide⟩ (fun z => absurd z (by decide)) (fun _ => ?_)
          refine x_iconst dX9_isAgainst_75 ?_
          refine x_goto (tgt := 80) dX9_isAgainst_76 (by decide) ?_
          refine x_ior dX9_isAgainst_80 ?_
          refine x_istore (L' := [xR (50, 0, 0), xI b, xI q, xI x, xI y, xI (zOr (bI (AgI C b n q x y (j : Int) h)) 1), xI (q / 8 * 8 + (j : Int)), xI h]) dX9_isAgainst_81 (by decide) rfl ?_
          refine x_iinc (L' := [xR (50, 0, 0), xI b, xI q, xI x, xI y, xI (zOr (bI (AgI C b n q x y (j : Int) h)) 1), xI (q / 8 * 8 + (j : Int)), xI (h + 1)]) dX9_isAgainst_83 rfl rfl ?_
          refine x_goto (tgt := 42) dX9_isAgainst_86 (by decide) ?_
          have kk := ih (h + 1) (by omega) (by omega) (by omega)
          rw [show bI (AgI C b n q x y (j : Int) (h + 1)) = zOr (bI (AgI C b n q x y (j : Int) h)) 1 from by rw [zOr_b1]; exact bI_t ((AgI.step (by omega)).mpr (Or.inr ⟨by omega, by assumption⟩))] at kk
          exact kk
        · refine x_top (bI_f b69) ?_
          refine x_if_eq (tgt := 79) dX9_isAgainst_72 (by decide) ⟨by decide, by decide⟩ (fun _ => ?_) (fun z => absurd z (by decide))
          refine x_iconst dX9_isAgainst_79 ?_
          refine x_ior dX9_isAgainst_80 ?_
          refine x_istore (L' := [xR (50, 0, 0), xI b, xI q, xI x, xI y, xI (zOr (bI (AgI C b n q x y (j : Int) h)) 0), xI (q / 8 * 8 + (j : Int)), xI h]) dX9_isAgainst_81 (by decide) rfl ?_
          refine x_iinc (L' := [xR (50, 0, 0), xI b, xI q, xI x, xI y, xI (zOr (bI (AgI C b n q x y (j : Int) h)) 0), xI (q / 8 * 8 + (j : Int)), xI (h + 1)]) dX9_isAgainst_83 rfl rfl ?_
          refine x_goto (tgt := 42) dX9_isAgainst_86 (by decide) ?_
          have kk := ih (h + 1) (by omega) (by omega) (by omega)
          rw [show bI (AgI C b n q x y (j : Int) (h + 1)) = zOr (bI (AgI C b n q x y (j : Int) h)) 0 from by rw [zOr_b0]; exact bI_c ((AgI.step (by omega)).trans ⟨fun z => z.elim id (fun z => absurd z (fun y => by have y1 := y.1; have y2 := y.2; first | omega | exact absurd y2 (by assumption))), Or.inl⟩)] at kk
          exact kk
set_option maxHeartbeats 4000000 in
set_option maxRecDepth 100000 in
theorem l_against1 (C S : XS) (hC : WI C) (hw : WI S) (hM : MR C S) (b : Int) (b0 : 0 ≤ b) (b1 : b < 4) (n : Nat) (hn : C.1 (9, b, 0) 3 = n) (q x y : Int) (q0 : 0 ≤ q) (q1 : q < 384) (x0 : 0 ≤ x) (xy : x ≤ y) (y1 : y < 24) (hu : C.1 (3, 0, 0) (q / 64) ≠ 0) : ∀ (nn : Nat) (j : Nat), 9 - (j : Int) < (nn : Int) → (j ≤ 8) → X mX9_isAgainst 12 [xR (50, 0, 0), xI b, xI q, xI x, xI y, xI (bI (AgO C b n q x y (j : Int))), xI (q / 8 * 8 + (j : Int)), none] [] (hp S) 0 0 (pRet (xI (bI (Riv C.1 b q x y))) (hp S)) := by
  intro nn
  induction nn with
  | zero => intro j hm hj; exfalso; omega
  | succ nn ih =>
    intro j hm hj
    have c9 := wf9_3 hC b0 b1
    have mb := (hM.2.2.2.1 b b0 b1).1
    have mu := hM.2.2.2.2 (q / 64) (by omega) (by omega)
    have hz := hw.1
    refine x_iload dX9_isAgainst_12 rfl ?_
    refine x_iload_n dX9_isAgainst_14 rfl ?_
    refine x_bipush (v := 8) dX9_isAgainst_15 (by decide) ?_
    refine x_idiv dX9_isAgainst_17 (by omega) (by omega) (by omega) (by omega) ?_
    refine x_bipush (v := 8) dX9_isAgainst_18 (by decide) ?_
    refine x_imul dX9_isAgainst_20 ?_
    refine x_bipush (v := 8) dX9_isAgainst_21 (by decide) ?_
    refine x_iadd dX9_isAgainst_23 ?_
    refine x_icmp_ge (tgt := 95) dX9_isAgainst_24 (by decide) (by first | exact hz _ _ | exact hw.1 _ _ | exact zR_of _ | exact bI_z _ | assumption | exact ⟨by omega, by omega⟩) (by first | exact hz _ _ | exact hw.1 _ _ | exact zR_of _ | exact bI_z _ | assumption | exact ⟨by omega, by omega⟩) (fun c24 => ?_) (fun c24 => ?_)
    · refine x_iload dX9_isAgainst_95 rfl ?_
      exact x_zret dX9_isAgainst_97 rfl (bI_01 _) (pRI (bI_c (by obtain rfl : j = 8 := (by omega); obtain rfl : n = (C.1 (9, b, 0) 3).toNat := (by omega); exact AgO.riv q0 hu)))
    · refine x_aload_n dX9_isAgainst_27 rfl ?_
      refine x_get (v := xR (57, 0, 0)) dX9_isAgainst_28 fl_RX9_30 (hp50 S) rfl ?_
      refine x_iload_n dX9_isAgainst_31 rfl ?_
      refine x_bipush (v := 64) dX9_isAgainst_32 (by decide) ?_
      refine x_idiv dX9_isAgainst_34 (by omega) (by omega) (by omega) (by omega) ?_
      refine x_aldz (f := S.1 (57, 0, 0)) dX9_isAgainst_35 (hp57 S) (show (57 : Nat) ≠ 99 by decide) (by omega) (by omega) (by decide) ?_
      have f35_1 := wfa57 hw (S := S) (q / 64)
      refine x_if_eq (tgt := 95) dX9_isAgainst_36 (by decide) (by first | exact hz _ _ | exact hw.1 _ _ | exact zR_of _ | exact bI_z _ | assumption | exact ⟨by omega, by omega⟩) (fun c36 => ?_) (fun c36 => ?_)
      · refine x_iload dX9_isAgainst_95 rfl ?_
        exact x_zret dX9_isAgainst_97 rfl (bI_01 _) (pRI (bI_c (by obtain rfl : j = 8 := (by omega); obtain rfl : n = (C.1 (9, b, 0) 3).toNat := (by omega); exact AgO.riv q0 hu)))
      · refine x_iload_n dX9_isAgainst_39 rfl ?_
        refine x_istore (L' := [xR (50, 0, 0), xI b, xI q, xI x, xI y, xI (bI (AgO C b n q x y (j : Int))), xI (q / 8 * 8 + (j : Int)), xI x]) dX9_isAgainst_40 (by decide) rfl ?_
        have kk := l_against2 C S hC hw hM b b0 b1 n hn q x y q0 q1 x0 xy y1 j (by omega) (by have k := ih (j + 1) (by omega) (by omega); exact (show q / 8 * 8 + ((j + 1 : Nat) : Int) = q / 8 * 8 + (j : Int) + 1 by omega) ▸ k) 30 x (by omega) (by omega) (by omega)
        rw [show bI (AgI C b n q x y (j : Int) x) = bI (AgO C b n q x y (j : Int)) from bI_c AgI.first] at kk
        exact kk
set_option maxHeartbeats 4000000 in
set_option maxRecDepth 100000 in
theorem l_against0 (C S : XS) (hC : WI C) (hw : WI S) (hM : MR C S) (b : Int) (b0 : 0 ≤ b) (b1 : b < 4) (n : Nat) (hn : C.1 (9, b, 0) 3 = n) (q x y : Int) (q0 : 0 ≤ q) (q1 : q < 384) (x0 : 0 ≤ x) (xy : x ≤ y) (y1 : y < 24) (hu : C.1 (3, 0, 0) (q / 64) = 0) : X mX9_isAgainst 12 [xR (50, 0, 0), xI b, xI q, xI x, xI y, xI 0, xI (q / 8 * 8), none] [] (hp S) 0 0 (pRet (xI (bI (Riv C.1 b q x y))) (hp S)) := by
  have c9 := wf9_3 hC b0 b1
  have mb := (hM.2.2.2.1 b b0 b1).1
  have mu := hM.2.2.2.2 (q / 64) (by omega) (by omega)
  have hz := hw.1
  refine x_iload dX9_isAgainst_12 rfl ?_
  refine x_iload_n dX9_isAgainst_14 rfl ?_
  refine x_bipush (v := 8) dX9_isAgainst_15 (by decide) ?_
  refine x_idiv dX9_isAgainst_17 (by omega) (by omega) (by omega) (by omega) ?_
  refine x_bipush (v := 8) dX9_isAgainst_18 (by decide) ?_
  refine x_imul dX9_isAgainst_20 ?_
  refine x_bipush (v := 8) dX9_isAgainst_21 (by decide) ?_
  refine x_iadd dX9_isAgainst_23 ?_
  refine x_icmp_ge (tgt := 95) dX9_isAgainst_24 (by decide) (by first | exact hz _ _ | exact hw.1 _ _ | exact zR_of _ | exact bI_z _ | assumption | exact ⟨by omega, by omega⟩) (by first | exact hz _ _ | exact hw.1 _ _ | exact zR_of _ | exact bI_z _ | assumption | exact ⟨by omega, by omega⟩) (fun c24 => by exfalso; omega) (fun c24 => ?_)
  refine x_aload_n dX9_isAgainst_27 rfl ?_
  refine x_get (v := xR (57, 0, 0)) dX9_isAgainst_28 fl_RX9_30 (hp50 S) rfl ?_
  refine x_iload_n dX9_isAgainst_31 rfl ?_
  refine x_bipush (v := 64) dX9_isAgainst_32 (by decide) ?_
  refine x_idiv dX9_isAgainst_34 (by omega) (by omega) (by omega) (by omega) ?_
  refine x_aldz (f := S.1 (57, 0, 0)) dX9_isAgainst_35 (hp57 S) (show (57 : Nat) ≠ 99 by decide) (by omega) (by omega) (by decide) ?_
  have f35_1 := wfa57 hw (S := S) (q / 64)
  refine x_if_eq (tgt := 95) dX9_isAgainst_36 (by decide) (by first | exact hz _ _ | exact hw.1 _ _ | exact zR_of _ | exact bI_z _ | assumption | exact ⟨by omega, by omega⟩) (fun c36 => ?_) (fun c36 => by exfalso; omega)
  refine x_iload dX9_isAgainst_95 rfl ?_
  exact x_zret dX9_isAgainst_97 rfl (Or.inl rfl) (pRI (bI_f (fun z => z.1 hu)).symm)
set_option maxHeartbeats 4000000 in
set_option maxRecDepth 100000 in
theorem m_isAgainst (C S : XS) (hC : WI C) (hw : WI S) (hM : MR C S) (b : Int) (b0 : 0 ≤ b) (b1 : b < 4) (n : Nat) (hn : C.1 (9, b, 0) 3 = n) (q x y : Int) (q0 : 0 ≤ q) (q1 : q < 384) (x0 : 0 ≤ x) (xy : x ≤ y) (y1 : y < 24) : X mX9_isAgainst 0 (xEnt mX9_isAgainst [xR (50, 0, 0), xI b, xI q, xI x, xI y]) [] (hp S) 0 0 (pRet (xI (bI (Riv C.1 b q x y))) (hp S)) := by
  have c9 := wf9_3 hC b0 b1
  have mb := (hM.2.2.2.1 b b0 b1).1
  have mu := hM.2.2.2.2 (q / 64) (by omega) (by omega)
  have hz := hw.1
  show X mX9_isAgainst 0 [xR (50, 0, 0), xI b, xI q, xI x, xI y, none, none, none] [] (hp S) 0 0 _
  refine x_iconst dX9_isAgainst_0 ?_
  refine x_istore (L' := [xR (50, 0, 0), xI b, xI q, xI x, xI y, xI 0, none, none]) dX9_isAgainst_1 (by decide) rfl ?_
  refine x_iload_n dX9_isAgainst_3 rfl ?_
  refine x_bipush (v := 8) dX9_isAgainst_4 (by decide) ?_
  refine x_idiv dX9_isAgainst_6 (by omega) (by omega) (by omega) (by omega) ?_
  refine x_bipush (v := 8) dX9_isAgainst_7 (by decide) ?_
  refine x_imul dX9_isAgainst_9 ?_
  refine x_istore (L' := [xR (50, 0, 0), xI b, xI q, xI x, xI y, xI 0, xI ((q / 8) * 8), none]) dX9_isAgainst_10 (by decide) rfl ?_
  by_cases hu : C.1 (3, 0, 0) (q / 64) = 0
  · exact l_against0 C S hC hw hM b b0 b1 n hn q x y q0 q1 x0 xy y1 hu
  · have kk := l_against1 C S hC hw hM b b0 b1 n hn q x y q0 q1 x0 xy y1 hu 10 0 (by omega) (by omega)
    rw [show bI (AgO C b n q x y ((0 : Nat) : Int)) = 0 from bI_f (fun ⟨o, h, a, c, _⟩ => by omega), show q / 8 * 8 + ((0 : Nat) : Int) = q / 8 * 8 by omega] at kk
    exact kk
/-- a telling more -/
def sTel (S : XS) (b n k a x y o : Int) : XS := putI (putI (putI (putI (putI (putI (putI S (51, 0, 0) (60 * b + n) k) (52, 0, 0) (60 * b + n) a) (53, 0, 0) (60 * b + n) x) (54, 0, 0) (60 * b + n) y) (55, 0, 0) (60 * b + n) o) (56, 0, 0) (60 * b + n) 0) (58, 0, 0) b (n + 1)
theorem sTel_wi {S : XS} (hw : WI S) {b n k a x y o : Int} (hn : 0 ≤ n ∧ n < 60) (hk : 0 ≤ k ∧ k ≤ 200) (ha : 0 ≤ a ∧ a < 384) (hx : 0 ≤ x ∧ x < 24) (hy : 0 ≤ y ∧ y < 24) (ho : -1 ≤ o ∧ o ≤ 3) : WI (sTel S b n k a x y o) := wpa58 (wpa56 (wpa55 (wpa54 (wpa53 (wpa52 (wpa51 hw (by omega)) (by omega)) (by omega)) (by omega)) (by omega)) (Or.inl rfl)) (by omega)
set_option maxHeartbeats 4000000 in
set_option maxRecDepth 100000 in
theorem m_tells (S : XS) (hw : WI S) (b n k a x y o : Int) (b0 : 0 ≤ b) (b1 : b < 4) (hn : S.1 (58, 0, 0) b = n) (n0 : 0 ≤ n) (n1 : n < 60) (hk : 0 ≤ k ∧ k ≤ 200) (ha : 0 ≤ a ∧ a < 384) (hx : 0 ≤ x ∧ x < 24) (hy : 0 ≤ y ∧ y < 24) (ho : -1 ≤ o ∧ o ≤ 3) : X mX9_tells 0 (xEnt mX9_tells [xR (50, 0, 0), xI b, xI k, xI a, xI x, xI y, xI o]) [] (hp S) 0 0 (pRet (xI (n + 1)) (hp (sTel S b n k a x y o))) := by
  have hz := hw.1
  show X mX9_tells 0 [xR (50, 0, 0), xI b, xI k, xI a, xI x, xI y, xI o, none] [] (hp S) 0 0 _
  refine x_iload_n dX9_tells_0 rfl ?_
  refine x_bipush (v := 60) dX9_tells_1 (by decide) ?_
  refine x_imul dX9_tells_3 ?_
  refine x_aload_n dX9_tells_4 rfl ?_
  refine x_get (v := xR (58, 0, 0)) dX9_tells_5 fl_RX9_33 (hp50 S) rfl ?_
  refine x_iload_n dX9_tells_8 rfl ?_
  refine x_aldi (f := S.1 (58, 0, 0)) dX9_tells_9 (hp58 S) (show (58 : Nat) ≠ 99 by decide) (by omega) (by omega) (by decide) ?_
  refine x_iadd dX9_tells_10 ?_
  refine x_top (show (b * 60) + (S.1 (58, 0, 0) b) = 60 * b + n from by omega) ?_
  refine x_istore (L' := [xR (50, 0, 0), xI b, xI k, xI a, xI x, xI y, xI o, xI (60 * b + n)]) dX9_tells_11 (by decide) rfl ?_
  refine x_aload_n dX9_tells_13 rfl ?_
  refine x_get (v := xR (51, 0, 0)) dX9_tells_14 fl_RX9_9 (hp50 S) rfl ?_
  refine x_iload dX9_tells_17 rfl ?_
  refine x_iload_n dX9_tells_19 rfl ?_
  refine x_astc dX9_tells_20 (hp51 S) (show (51 : Nat) ≠ 99 by decide) (by omega) (by omega) (by decide) ⟨by omega, by omega⟩ ?_
  refine x_heq (pa51 S (60 * b + n) k) ?_
  refine x_aload_n dX9_tells_21 rfl ?_
  refine x_get (v := xR (52, 0, 0)) dX9_tells_22 fl_RX9_13 (hp50 (putI S (51, 0, 0) (60 * b + n) k)) rfl ?_
  refine x_iload dX9_tells_25 rfl ?_
  refine x_iload_n dX9_tells_27 rfl ?_
  refine x_asti dX9_tells_28 (hp52 (putI S (51, 0, 0) (60 * b + n) k)) (show (52 : Nat) ≠ 99 by decide) (by omega) (by omega) (by decide) ?_
  refine x_heq (pa52 (putI S (51, 0, 0) (60 * b + n) k) (60 * b + n) a) ?_
  refine x_aload_n dX9_tells_29 rfl ?_
  refine x_get (v := xR (53, 0, 0)) dX9_tells_30 fl_RX9_17 (hp50 (putI (putI S (51, 0, 0) (60 * b + n) k) (52, 0, 0) (60 * b + n) a)) rfl ?_
  refine x_iload dX9_tells_33 rfl ?_
  refine x_iload dX9_tells_35 rfl ?_
  refine x_asti dX9_tells_37 (hp53 (putI (putI S (51, 0, 0) (60 * b + n) k) (52, 0, 0) (60 * b + n) a)) (show (53 : Nat) ≠ 99 by decide) (by omega) (by omega) (by decide) ?_
  refine x_heq (pa53 (putI (putI S (51, 0, 0) (60 * b + n) k) (52, 0, 0) (60 * b + n) a) (60 * b + n) x) ?_
  refine x_aload_n dX9_tells_38 rfl ?_
  refine x_get (v := xR (54, 0, 0)) dX9_tells_39 fl_RX9_20 (hp50 (putI (putI (putI S (51, 0, 0) (60 * b + n) k) (52, 0, 0) (60 * b + n) a) (53, 0, 0) (60 * b + n) x)) rfl ?_
  refine x_iload dX9_tells_42 rfl ?_
  refine x_iload dX9_tells_44 rfl ?_
  refine x_asti dX9_tells_46 (hp54 (putI (putI (putI S (51, 0, 0) (60 * b + n) k) (52, 0, 0) (60 * b + n) a) (53, 0, 0) (60 * b + n) x)) (show (54 : Nat) ≠ 99 by decide) (by omega) (by omega) (by decide) ?_
  refine x_heq (pa54 (putI (putI (putI S (51, 0, 0) (60 * b + n) k) (52, 0, 0) (60 * b + n) a) (53, 0, 0) (60 * b + n) x) (60 * b + n) y) ?_
  refine x_aload_n dX9_tells_47 rfl ?_
  refine x_get (v := xR (55, 0, 0)) dX9_tells_48 fl_RX9_23 (hp50 (putI (putI (putI (putI S (51, 0, 0) (60 * b + n) k) (52, 0, 0) (60 * b + n) a) (53, 0, 0) (60 * b + n) x) (54, 0, 0) (60 * b + n) y)) rfl ?_
  refine x_iload dX9_tells_51 rfl ?_
  refine x_iload dX9_tells_53 rfl ?_
  refine x_asti dX9_tells_55 (hp55 (putI (putI (putI (putI S (51, 0, 0) (60 * b + n) k) (52, 0, 0) (60 * b + n) a) (53, 0, 0) (60 * b + n) x) (54, 0, 0) (60 * b + n) y)) (show (55 : Nat) ≠ 99 by decide) (by omega) (by omega) (by decide) ?_
  refine x_heq (pa55 (putI (putI (putI (putI S (51, 0, 0) (60 * b + n) k) (52, 0, 0) (60 * b + n) a) (53, 0, 0) (60 * b + n) x) (54, 0, 0) (60 * b + n) y) (60 * b + n) o) ?_
  refine x_aload_n dX9_tells_56 rfl ?_
  refine x_get (v := xR (56, 0, 0)) dX9_tells_57 fl_RX9_26 (hp50 (putI (putI (putI (putI (putI S (51, 0, 0) (60 * b + n) k) (52, 0, 0) (60 * b + n) a) (53, 0, 0) (60 * b + n) x) (54, 0, 0) (60 * b + n) y) (55, 0, 0) (60 * b + n) o)) rfl ?_
  refine x_iload dX9_tells_60 rfl ?_
  refine x_iconst dX9_tells_62 ?_
  refine x_astz dX9_tells_63 (hp56 (putI (putI (putI (putI (putI S (51, 0, 0) (60 * b + n) k) (52, 0, 0) (60 * b + n) a) (53, 0, 0) (60 * b + n) x) (54, 0, 0) (60 * b + n) y) (55, 0, 0) (60 * b + n) o)) (show (56 : Nat) ≠ 99 by decide) (by omega) (by omega) (by decide) (Or.inl rfl) ?_
  refine x_heq (pa56 (putI (putI (putI (putI (putI S (51, 0, 0) (60 * b + n) k) (52, 0, 0) (60 * b + n) a) (53, 0, 0) (60 * b + n) x) (54, 0, 0) (60 * b + n) y) (55, 0, 0) (60 * b + n) o) (60 * b + n) 0) ?_
  refine x_aload_n dX9_tells_64 rfl ?_
  refine x_get (v := xR (58, 0, 0)) dX9_tells_65 fl_RX9_33 (hp50 (putI (putI (putI (putI (putI (putI S (51, 0, 0) (60 * b + n) k) (52, 0, 0) (60 * b + n) a) (53, 0, 0) (60 * b + n) x) (54, 0, 0) (60 * b + n) y) (55, 0, 0) (60 * b + n) o) (56, 0, 0) (60 * b + n) 0)) rfl ?_
  refine x_iload_n dX9_tells_68 rfl ?_
  refine x_dup2 dX9_tells_69 rfl rfl ?_
  refine x_aldi (f := S.1 (58, 0, 0)) dX9_tells_70 (hp58 (putI (putI (putI (putI (putI (putI S (51, 0, 0) (60 * b + n) k) (52, 0, 0) (60 * b + n) a) (53, 0, 0) (60 * b + n) x) (54, 0, 0) (60 * b + n) y) (55, 0, 0) (60 * b + n) o) (56, 0, 0) (60 * b + n) 0)) (show (58 : Nat) ≠ 99 by decide) (by omega) (by omega) (by decide) ?_
  refine x_iconst dX9_tells_71 ?_
  refine x_iadd dX9_tells_72 ?_
  refine x_top (show (S.1 (58, 0, 0) b) + 1 = n + 1 from by omega) ?_
  refine x_asti dX9_tells_73 (hp58 (putI (putI (putI (putI (putI (putI S (51, 0, 0) (60 * b + n) k) (52, 0, 0) (60 * b + n) a) (53, 0, 0) (60 * b + n) x) (54, 0, 0) (60 * b + n) y) (55, 0, 0) (60 * b + n) o) (56, 0, 0) (60 * b + n) 0)) (show (58 : Nat) ≠ 99 by decide) (by omega) (by omega) (by decide) ?_
  refine x_heq (pa58 (putI (putI (putI (putI (putI (putI S (51, 0, 0) (60 * b + n) k) (52, 0, 0) (60 * b + n) a) (53, 0, 0) (60 * b + n) x) (54, 0, 0) (60 * b + n) y) (55, 0, 0) (60 * b + n) o) (56, 0, 0) (60 * b + n) 0) b (n + 1)) ?_
  refine x_aload_n dX9_tells_74 rfl ?_
  refine x_get (v := xR (58, 0, 0)) dX9_tells_75 fl_RX9_33 (hp50 (putI (putI (putI (putI (putI (putI (putI S (51, 0, 0) (60 * b + n) k) (52, 0, 0) (60 * b + n) a) (53, 0, 0) (60 * b + n) x) (54, 0, 0) (60 * b + n) y) (55, 0, 0) (60 * b + n) o) (56, 0, 0) (60 * b + n) 0) (58, 0, 0) b (n + 1))) rfl ?_
  refine x_iload_n dX9_tells_78 rfl ?_
  refine x_aldi (f := (putI (putI (putI (putI (putI (putI (putI S (51, 0, 0) (60 * b + n) k) (52, 0, 0) (60 * b + n) a) (53, 0, 0) (60 * b + n) x) (54, 0, 0) (60 * b + n) y) (55, 0, 0) (60 * b + n) o) (56, 0, 0) (60 * b + n) 0) (58, 0, 0) b (n + 1)).1 (58, 0, 0)) dX9_tells_79 (hp58 (putI (putI (putI (putI (putI (putI (putI S (51, 0, 0) (60 * b + n) k) (52, 0, 0) (60 * b + n) a) (53, 0, 0) (60 * b + n) x) (54, 0, 0) (60 * b + n) y) (55, 0, 0) (60 * b + n) o) (56, 0, 0) (60 * b + n) 0) (58, 0, 0) b (n + 1))) (show (58 : Nat) ≠ 99 by decide) (by omega) (by omega) (by decide) ?_
  refine x_top (show (putI (putI (putI (putI (putI (putI (putI S (51, 0, 0) (60 * b + n) k) (52, 0, 0) (60 * b + n) a) (53, 0, 0) (60 * b + n) x) (54, 0, 0) (60 * b + n) y) (55, 0, 0) (60 * b + n) o) (56, 0, 0) (60 * b + n) 0) (58, 0, 0) b (n + 1)).1 (58, 0, 0) b = n + 1 from by rw [putI_self]) ?_
  exact x_iret dX9_tells_80 rfl (pRI rfl)
