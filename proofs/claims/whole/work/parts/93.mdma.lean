/-! the reference: turn, next, listen -/
theorem mr_was {C U : XS} (hM : MR C U) (r v : Int) : MR (sWas C r v) (putI U (66, 0, 0) r v) := by
  obtain ⟨h1, h2, h3, h4, h5⟩ := hM
  have e : ∀ k : Nat, k ≠ 66 → (putI U (66, 0, 0) r v).1 (k, 0, 0) = U.1 (k, 0, 0) := fun k a => putI_o (nK a _ _ _ _)
  have c0 : ∀ (k : Nat) (x y : Int), k ≠ 34 → (sWas C r v).1 (k, x, y) = C.1 (k, x, y) := fun k x y a => was_9 C r v k x y a
  refine ⟨fun b k b0 b1 k0 k1 => ?_, ?_, fun x x0 x1 => ?_, fun b b0 b1 => ?_, fun x x0 x1 => ?_⟩
  · rw [c0 9 b 0 (by decide)] at k1
    rw [e 51 (by decide), e 52 (by decide), e 53 (by decide), e 54 (by decide), e 55 (by decide), e 56 (by decide), c0 13 b k (by decide)]
    exact h1 b k b0 b1 k0 k1
  · unfold MRn
    rw [e 50 (by decide), c0 0 0 0 (by decide), c0 4 0 0 (by decide)]
    exact h2
  · rw [c0 4 0 0 (by decide)] at x1
    obtain ⟨q1, q2, q3, q4, q5, q6, q7⟩ := h3 x x0 x1
    have w : ∀ j : Int, j ≠ 5 → (sWas C r v).1 (34, x, 0) j = C.1 (34, x, 0) j := fun j a => by
      by_cases y : x = r
      · subst y
        show (putI C (34, x, 0) 5 v).1 (34, x, 0) j = _
        rw [putI_at, if_neg a]
      · show (putI C (34, r, 0) 5 v).1 (34, x, 0) j = _
        rw [putI_o (nX y 0)]
    rw [w 2 (by decide), w 4 (by decide), e 62 (by decide), e 63 (by decide), e 64 (by decide), e 65 (by decide)]
    simp only [UsN_congr (e 62 (by decide)) (e 63 (by decide)), c0 37 x 0 (by decide), c0 36 x _ (by decide)]
    refine ⟨q1, q2, q3, q4, ?_, q6, q7⟩
    rw [putI_at]
    by_cases y : x = r
    · subst y
      show _ = (putI C (34, x, 0) 5 v).1 (34, x, 0) 5
      rw [if_pos rfl, putI_self]
    · show _ = (putI C (34, r, 0) 5 v).1 (34, x, 0) 5
      rw [if_neg y, putI_o (nX y 0)]
      exact q5
  · rw [e 58 (by decide), e 59 (by decide), e 60 (by decide), e 61 (by decide), c0 9 b 0 (by decide)]
    exact h4 b b0 b1
  · rw [e 57 (by decide), c0 3 0 0 (by decide)]
    exact h5 x x0 x1
theorem mrl_was {C U : XS} (h : MRl C U) (r v : Int) : MRl (sWas C r v) (putI U (66, 0, 0) r v) :=
  h.to (fun l => ⟨was_9 C r v 14 l 0 (by decide), rfl, rfl, rfl⟩) (by rw [was_9 C r v 0 0 0 (by decide)]) (fun k a1 a2 => putI_o (nK (by omega) _ _ _ _)) rfl (fun l u => putI_o (nK (by decide) _ _ _ _))
theorem or_was {a z : Int} (ha : a = 0 ∨ a = 1) (hz : z = 0 ∨ z = 1) : zOr a z = if a ≠ 0 ∨ z ≠ 0 then 1 else 0 := by
  rcases ha with rfl | rfl <;> rcases hz with rfl | rfl <;> decide
set_option maxHeartbeats 4000000 in
set_option maxRecDepth 100000 in
theorem t_turn (C U : XS) (hC : CB C) (hw : WI U) (hM : MR C U) (hl : MRl C U) (h25 : U.1 (50, 0, 0) 25 = 0) (n : Nat) (hn : C.1 (0, 0, 0) 7 = n) (i r z : Int) (i0 : 0 ≤ i) (i1 : i < C.1 (0, 0, 0) 6) (r0 : 0 ≤ r) (r1 : r < C.1 (4, 0, 0) 2) (hz1 : z = 0 ∨ z = 1) (hcan : z ≠ 0 → CanOn C r (onN C.1 i (C.1 (9, i, 0) 3).toNat)) (hs : C.1 (9, i, 0) 3 < 60) (hE : EndOk (sTurn C i r z) i) : X mX9_turn 93 [xR (50, 0, 0), xI i, xI r, xI z, none] [] (hp U) 5 (ndS (sTurn C i r z) U i n) (pTl U (sTurn C i r z) i n (C.1 (9, i, 0) 3 + 1)) := by
  have c6 := wf0_6 hC.1
  have c4 := wf4_2 hC.1
  have c9 := wf9_3 hC.1 i0 (show i < 4 by omega)
  have mb := (hM.2.2.2.1 i i0 (by omega)).1
  have hz := hw.1
  have h60 : ∀ b : Int, 0 ≤ b → b < 4 → C.1 (9, b, 0) 3 ≤ 60 := fun b x y => (wf9_3 hC.1 x y).2
  have hD := hC.turn i0 i1 r0 r1 hs hz1 hcan
  have d6 : (sTurn C i r z).1 (0, 0, 0) 6 = C.1 (0, 0, 0) 6 := by unfold sTurn; rw [sApp_k _ _ _ _ _ _ _ _ (by decide), was_9 _ _ _ 0 _ _ (by decide)]
  have d7 : (sTurn C i r z).1 (0, 0, 0) 7 = n := by unfold sTurn; rw [sApp_k _ _ _ _ _ _ _ _ (by decide), was_9 _ _ _ 0 _ _ (by decide)]; exact hn
  have q66 := (hM.2.2.1 r r0 r1).2.2.2.2.1
  have f5 := wf34_5 hC.1 r0 (show r < 10 by omega)
  have hwv : wasV C r z = 0 ∨ wasV C r z = 1 := by unfold wasV; split; exact Or.inr rfl; exact Or.inl rfl
  refine x_aload_n dX9_turn_93 rfl ?_
  refine x_get (v := xR (66, 0, 0)) dX9_turn_94 fl_RX9_61 (hp50 U) rfl ?_
  refine x_iload_n dX9_turn_97 rfl ?_
  refine x_dup2 dX9_turn_98 rfl rfl ?_
  refine x_aldz (f := U.1 (66, 0, 0)) dX9_turn_99 (hp66 U) (show (66 : Nat) ≠ 99 by decide) (by omega) (by omega) (by decide) ?_
  have f99_1 := wfa66 hw (S := U) r
  refine x_iload_n dX9_turn_100 rfl ?_
  refine x_ior dX9_turn_101 ?_
  refine x_top (show zOr (U.1 (66, 0, 0) r) z = wasV C r z from by rw [q66, or_was f5 hz1]; rfl) ?_
  refine x_astz dX9_turn_102 (hp66 U) (show (66 : Nat) ≠ 99 by decide) (by omega) (by omega) (by decide) hwv ?_
  refine x_heq (pa66 U r (wasV C r z)) ?_
  have hw102_2 : WI (putI U (66, 0, 0) r (wasV C r z)) := wpa66 hw hwv
  refine x_aload_n dX9_turn_103 rfl ?_
  refine x_iload_n dX9_turn_104 rfl ?_
  refine x_iload_n dX9_turn_105 rfl ?_
  refine x_if_eq (tgt := 114) dX9_turn_106 (by decide) (by first | exact hz _ _ | exact hw.1 _ _ | exact zR_of _ | exact bI_z _ | assumption | exact ⟨by omega, by omega⟩) (fun c106 => ?_) (fun c106 => ?_)
  · refine x_bipush (v := 102) dX9_turn_114 (by decide) ?_
    have hkd : kd 1 z = 102 := by unfold kd; rw [if_neg (by decide)]; first | (rw [if_pos (by omega)]) | (rw [if_neg (by omega)])
    have hM2 : MR (sTurn C i r z) (sTel (putI U (66, 0, 0) r (wasV C r z)) i (C.1 (9, i, 0) 3) 102 r 0 0 (-1)) := by have q := mr_app (mr_was hM r (wasV C r z)) i0 (by omega) (n := C.1 (9, i, 0) 3) (by rw [was_9 _ _ _ 9 _ _ (by decide)]) c9.1 hs (fun b x y => by rw [was_9 _ _ _ 9 _ _ (by decide)]; exact h60 b x y) 1 z r 0 0 (-1); rw [hkd] at q; exact q
    have hl2 : MRl (sTurn C i r z) (sTel (putI U (66, 0, 0) r (wasV C r z)) i (C.1 (9, i, 0) 3) 102 r 0 0 (-1)) := mrl_app (mrl_was hl r (wasV C r z)) _ _ _ _ _ _ _ _ _ _ _ _ _
    have ndu : ndS (sTurn C i r z) (sTel (putI U (66, 0, 0) r (wasV C r z)) i (C.1 (9, i, 0) 3) 102 r 0 0 (-1)) i n = ndS (sTurn C i r z) U i n := ndS_eq n rfl ((sTel_o _ _ _ _ _ _ _ _ (by decide) (by decide) (by decide) (by decide) (by decide) (by decide) (by decide)).trans (putI_o (nK (by decide) _ _ _ _)))
    have usu : usum (sTel (putI U (66, 0, 0) r (wasV C r z)) i (C.1 (9, i, 0) 3) 102 r 0 0 (-1)) 5 = usum U 5 := rfl
    have t25 : (sTel (putI U (66, 0, 0) r (wasV C r z)) i (C.1 (9, i, 0) 3) 102 r 0 0 (-1)).1 (50, 0, 0) 25 = 0 := by rw [sTel_o _ _ _ _ _ _ _ _ (by decide) (by decide) (by decide) (by decide) (by decide) (by decide) (by decide), putI_o (nK (by decide) _ _ _ _)]; exact h25
    refine x_iload_n dX9_turn_116 rfl ?_
    refine x_iconst dX9_turn_117 ?_
    refine x_iconst dX9_turn_118 ?_
    refine x_iconst dX9_turn_119 ?_
    refine x_callV_r (a := 0) (b := 0) (as := [xI i, xI 102, xI r, xI 0, xI 0, xI (-1)]) (rest := []) ok_X9_tells dX9_turn_120 wd1233 ⟨wd1235, wd23⟩ (hp50 (putI U (66, 0, 0) r (wasV C r z))) rfl rfl (m_tells (putI U (66, 0, 0) r (wasV C r z)) hw102_2 i (C.1 (9, i, 0) 3) 102 r 0 0 (-1) (by omega) (by omega) (by rw [putI_o (nK (by decide) _ _ _ _)]; exact mb) (by omega) (by omega) (by omega) (by omega) (by omega) (by omega) (by omega)) rfl (Nat.le_of_ble_eq_true rfl) (Nat.le_of_ble_eq_true rfl) (by decide) (by omega) (by omega) ?_
    refine x_istore (L' := [xR (50, 0, 0), xI i, xI r, xI z, xI ((C.1 (9, i, 0) 3) + 1)]) dX9_turn_123 (by decide) rfl ?_
    refine x_aload_n dX9_turn_125 rfl ?_
    refine x_iload_n dX9_turn_126 rfl ?_
    refine x_callV (a := 5) (b := (ndS (sTurn C i r z) (sTel (putI U (66, 0, 0) r (wasV C r z)) i (C.1 (9, i, 0) 3) 102 r 0 0 (-1)) i n)) (as := [xI i]) (rest := []) ok_X9_hears_ dX9_turn_127 wd1237 ⟨wd1239, wd24⟩ (hp50 (sTel (putI U (66, 0, 0) r (wasV C r z)) i (C.1 (9, i, 0) 3) 102 r 0 0 (-1))) rfl rfl (m_hears_ (sTurn C i r z) (sTel (putI U (66, 0, 0) r (wasV C r z)) i (C.1 (9, i, 0) 3) 102 r 0 0 (-1)) hD (sTel_wi hw102_2 (by omega) (by omega) (by omega) (by omega) (by omega) (by omega)) hM2 i (by omega) (by rw [d6]; omega) n d7 hE hl2) rfl (Nat.le_of_ble_eq_true rfl) (Nat.le_of_ble_eq_true rfl) (by decide) (by omega) (by omega) (fun _ q => ?_) (fun _ _ q => by cases q.1) (fun _ _ q => by cases q.1)
    obtain ⟨-, T, rfl, hT, wT, lT, uT, -⟩ := q
    refine x_iload dX9_turn_130 rfl ?_
    exact x_iret dX9_turn_132 rfl ⟨rfl, T, rfl, ((ClE.p66 (by rw [hM.2.1.2.1]; exact r1)).tr (sTel_c _ _ _ _ _ _ _ _)).tr hT.cl, wT, by rw [hT.2.2.2.2.2]; exact t25, hM2.hs hT, lT, by rw [uT, ndu, usu]⟩
  · refine x_bipush (v := 110) dX9_turn_109 (by decide) ?_
    refine x_goto (tgt := 116) dX9_turn_111 (by decide) ?_
    have hkd : kd 1 z = 110 := by unfold kd; rw [if_neg (by decide)]; first | (rw [if_pos (by omega)]) | (rw [if_neg (by omega)])
    have hM2 : MR (sTurn C i r z) (sTel (putI U (66, 0, 0) r (wasV C r z)) i (C.1 (9, i, 0) 3) 110 r 0 0 (-1)) := by have q := mr_app (mr_was hM r (wasV C r z)) i0 (by omega) (n := C.1 (9, i, 0) 3) (by rw [was_9 _ _ _ 9 _ _ (by decide)]) c9.1 hs (fun b x y => by rw [was_9 _ _ _ 9 _ _ (by decide)]; exact h60 b x y) 1 z r 0 0 (-1); rw [hkd] at q; exact q
    have hl2 : MRl (sTurn C i r z) (sTel (putI U (66, 0, 0) r (wasV C r z)) i (C.1 (9, i, 0) 3) 110 r 0 0 (-1)) := mrl_app (mrl_was hl r (wasV C r z)) _ _ _ _ _ _ _ _ _ _ _ _ _
    have ndu : ndS (sTurn C i r z) (sTel (putI U (66, 0, 0) r (wasV C r z)) i (C.1 (9, i, 0) 3) 110 r 0 0 (-1)) i n = ndS (sTurn C i r z) U i n := ndS_eq n rfl ((sTel_o _ _ _ _ _ _ _ _ (by decide) (by decide) (by decide) (by decide) (by decide) (by decide) (by decide)).trans (putI_o (nK (by decide) _ _ _ _)))
    have usu : usum (sTel (putI U (66, 0, 0) r (wasV C r z)) i (C.1 (9, i, 0) 3) 110 r 0 0 (-1)) 5 = usum U 5 := rfl
    have t25 : (sTel (putI U (66, 0, 0) r (wasV C r z)) i (C.1 (9, i, 0) 3) 110 r 0 0 (-1)).1 (50, 0, 0) 25 = 0 := by rw [sTel_o _ _ _ _ _ _ _ _ (by decide) (by decide) (by decide) (by decide) (by decide) (by decide) (by decide), putI_o (nK (by decide) _ _ _ _)]; exact h25
    refine x_iload_n dX9_turn_116 rfl ?_
    refine x_iconst dX9_turn_117 ?_
    refine x_iconst dX9_turn_118 ?_
    refine x_iconst dX9_turn_119 ?_
    refine x_callV_r (a := 0) (b := 0) (as := [xI i, xI 110, xI r, xI 0, xI 0, xI (-1)]) (rest := []) ok_X9_tells dX9_turn_120 wd1233 ⟨wd1235, wd23⟩ (hp50 (putI U (66, 0, 0) r (wasV C r z))) rfl rfl (m_tells (putI U (66, 0, 0) r (wasV C r z)) hw102_2 i (C.1 (9, i, 0) 3) 110 r 0 0 (-1) (by omega) (by omega) (by rw [putI_o (nK (by decide) _ _ _ _)]; exact mb) (by omega) (by omega) (by omega) (by omega) (by omega) (by omega) (by omega)) rfl (Nat.le_of_ble_eq_true rfl) (Nat.le_of_ble_eq_true rfl) (by decide) (by omega) (by omega) ?_
    refine x_istore (L' := [xR (50, 0, 0), xI i, xI r, xI z, xI ((C.1 (9, i, 0) 3) + 1)]) dX9_turn_123 (by decide) rfl ?_
    refine x_aload_n dX9_turn_125 rfl ?_
    refine x_iload_n dX9_turn_126 rfl ?_
    refine x_callV (a := 5) (b := (ndS (sTurn C i r z) (sTel (putI U (66, 0, 0) r (wasV C r z)) i (C.1 (9, i, 0) 3) 110 r 0 0 (-1)) i n)) (as := [xI i]) (rest := []) ok_X9_hears_ dX9_turn_127 wd1237 ⟨wd1239, wd24⟩ (hp50 (sTel (putI U (66, 0, 0) r (wasV C r z)) i (C.1 (9, i, 0) 3) 110 r 0 0 (-1))) rfl rfl (m_hears_ (sTurn C i r z) (sTel (putI U (66, 0, 0) r (wasV C r z)) i (C.1 (9, i, 0) 3) 110 r 0 0 (-1)) hD (sTel_wi hw102_2 (by omega) (by omega) (by omega) (by omega) (by omega) (by omega)) hM2 i (by omega) (by rw [d6]; omega) n d7 hE hl2) rfl (Nat.le_of_ble_eq_true rfl) (Nat.le_of_ble_eq_true rfl) (by decide) (by omega) (by omega) (fun _ q => ?_) (fun _ _ q => by cases q.1) (fun _ _ q => by cases q.1)
    obtain ⟨-, T, rfl, hT, wT, lT, uT, -⟩ := q
    refine x_iload dX9_turn_130 rfl ?_
    exact x_iret dX9_turn_132 rfl ⟨rfl, T, rfl, ((ClE.p66 (by rw [hM.2.1.2.1]; exact r1)).tr (sTel_c _ _ _ _ _ _ _ _)).tr hT.cl, wT, by rw [hT.2.2.2.2.2]; exact t25, hM2.hs hT, lT, by rw [uT, ndu, usu]⟩
set_option maxHeartbeats 4000000 in
set_option maxRecDepth 100000 in
theorem m_turn (C S : XS) (hC : CB C) (hw : WI S) (hM : MR C S) (i r : Int) (zi : zR i) (zr : zR r) (z : Int) (hz1 : z = 0 ∨ z = 1) (hl : MRl C S) (n : Nat) (hn : C.1 (0, 0, 0) 7 = n) (hE : C.1 (9, i, 0) 3 < 60 → EndOk (sTurn C i r z) i) (kb : Nat) (hkb : ((0 ≤ i ∧ i < C.1 (0, 0, 0) 6) ∧ 0 ≤ r ∧ r < C.1 (4, 0, 0) 2) ∧ (z = 0 ∨ bI (CanOn C r (onN C.1 i (C.1 (9, i, 0) 3).toNat)) = 1) ∧ (C.1 (9, i, 0) 3 < 60) → ndS (sTurn C i r z) S i n ≤ kb) : X mX9_turn 0 (xEnt mX9_turn [xR (50, 0, 0), xI i, xI r, xI z]) [] (hp S) 5 kb (pMt S (fun k zz => zz = 0 ∧ ((k = 1 ∧ ¬ ((0 ≤ i ∧ i < C.1 (0, 0, 0) 6) ∧ 0 ≤ r ∧ r < C.1 (4, 0, 0) 2)) ∨ (k = 2 ∧ ((0 ≤ i ∧ i < C.1 (0, 0, 0) 6) ∧ 0 ≤ r ∧ r < C.1 (4, 0, 0) 2) ∧ ¬ (z = 0 ∨ bI (CanOn C r (onN C.1 i (C.1 (9, i, 0) 3).toNat)) = 1)) ∨ (k = 3 ∧ ((0 ≤ i ∧ i < C.1 (0, 0, 0) 6) ∧ 0 ≤ r ∧ r < C.1 (4, 0, 0) 2) ∧ (z = 0 ∨ bI (CanOn C r (onN C.1 i (C.1 (9, i, 0) 3).toNat)) = 1) ∧ ¬ (C.1 (9, i, 0) 3 < 60)))) (((0 ≤ i ∧ i < C.1 (0, 0, 0) 6) ∧ 0 ≤ r ∧ r < C.1 (4, 0, 0) 2) ∧ (z = 0 ∨ bI (CanOn C r (onN C.1 i (C.1 (9, i, 0) 3).toNat)) = 1) ∧ (C.1 (9, i, 0) 3 < 60)) (C.1 (9, i, 0) 3 + 1) (sTurn C i r z) i n) := by
  have c6 := wf0_6 hC.1
  have c4 := wf4_2 hC.1
  have h93 : 0 ≤ i → i < C.1 (0, 0, 0) 6 → 0 ≤ C.1 (9, i, 0) 3 ∧ C.1 (9, i, 0) 3 ≤ 60 := fun a b => wf9_3 hC.1 a (by omega)
  obtain ⟨n11, n12, n13, n24⟩ := hM.2.1
  have hz := hw.1
  have vc := bI_01 (CanOn C r (onN C.1 i (C.1 (9, i, 0) 3).toNat))
  have vc1 := bI_1 (P := CanOn C r (onN C.1 i (C.1 (9, i, 0) 3).toNat))
  show X mX9_turn 0 [xR (50, 0, 0), xI i, xI r, xI z, none] [] (hp S) 5 kb _
  refine x_aload_n dX9_turn_0 rfl ?_
  refine x_iload_n dX9_turn_1 rfl ?_
  refine x_iconst dX9_turn_2 ?_
  refine x_aload_n dX9_turn_3 rfl ?_
  refine x_get (v := xI (S.1 (50, 0, 0) 11)) dX9_turn_4 fl_RX9_45 (hp50 S) rfl ?_
  have f4_1 := wf50_11 hw (S := S)
  refine x_iconst dX9_turn_7 ?_
  refine x_isub dX9_turn_8 ?_
  refine x_callS_r (a := 0) (b := 0) (as := [xI i, xI 0, xI ((S.1 (50, 0, 0) 11) - 1)]) (rest := [xR (50, 0, 0)]) ok_X9_isIn dX9_turn_9 wd1212 wd1213 (m_isIn S i 0 ((S.1 (50, 0, 0) 11) - 1) (by first | exact hz _ _ | exact hw.1 _ _ | exact zR_of _ | exact bI_z _ | assumption | exact ⟨by omega, by omega⟩) ⟨by decide, by decide⟩ (by first | exact hz _ _ | exact hw.1 _ _ | exact zR_of _ | exact bI_z _ | assumption | exact ⟨by omega, by omega⟩)) rfl (Nat.le_of_ble_eq_true rfl) (Nat.le_of_ble_eq_true rfl) (by decide) (by omega) (by omega) ?_
  by_cases b9 : 0 ≤ i ∧ i ≤ ((S.1 (50, 0, 0) 11) - 1)
  · refine x_top (bI_t b9) ?_
    refine x_if_eq (tgt := 29) dX9_turn_12 (by decide) ⟨by decide, by decide⟩ (fun z => absurd z (by decide)) (fun _ => ?_)
    refine x_iload_n dX9_turn_15 rfl ?_
    refine x_iconst dX9_turn_16 ?_
    refine x_aload_n dX9_turn_17 rfl ?_
    refine x_get (v := xI (S.1 (50, 0, 0) 12)) dX9_turn_18 fl_RX9_111 (hp50 S) rfl ?_
    have f18_2 := wf50_12 hw (S := S)
    refine x_iconst dX9_turn_21 ?_
    refine x_isub dX9_turn_22 ?_
    refine x_callS_r (a := 0) (b := 0) (as := [xI r, xI 0, xI ((S.1 (50, 0, 0) 12) - 1)]) (rest := [xR (50, 0, 0)]) ok_X9_isIn dX9_turn_23 wd1212 wd1213 (m_isIn S r 0 ((S.1 (50, 0, 0) 12) - 1) (by first | exact hz _ _ | exact hw.1 _ _ | exact zR_of _ | exact bI_z _ | assumption | exact ⟨by omega, by omega⟩) ⟨by decide, by decide⟩ (by first | exact hz _ _ | exact hw.1 _ _ | exact zR_of _ | exact bI_z _ | assumption | exact ⟨by omega, by omega⟩)) rfl (Nat.le_of_ble_eq_true rfl) (Nat.le_of_ble_eq_true rfl) (by decide) (by omega) (by omega) ?_
    by_cases b23 : 0 ≤ r ∧ r ≤ ((S.1 (50, 0, 0) 12) - 1)
    · refine x_top (bI_t b23) ?_
      refine x_if_ne (tgt := 33) dX9_turn_26 (by decide) ⟨by decide, by decide⟩ (fun _ => ?_) (fun z => absurd z (by decide))
      refine x_iconst dX9_turn_33 ?_
      refine x_iconst dX9_turn_34 ?_
      refine x_callV_r (a := 0) (b := 0) (as := [xI 0, xI 1]) (rest := []) ok_X9_isThrown dX9_turn_35 wd1215 ⟨wd1217, wd20⟩ (hp50 S) rfl rfl ((show X mX9_isThrown 0 (xEnt mX9_isThrown [xR (50, 0, 0), xI 0, xI 1]) [] (hp S) 0 0 (pRet (xI 0) (hp (putI S (50, 0, 0) 25 0))) from by have q := m_isThrown S hw 0 1 (by omega) (by omega); rw [if_pos rfl] at q; exact q)) rfl (Nat.le_of_ble_eq_true rfl) (Nat.le_of_ble_eq_true rfl) (by decide) (by omega) (by omega) ?_
      refine x_if_ne (tgt := 91) dX9_turn_38 (by decide) ⟨by decide, by decide⟩ (fun z => absurd z (by decide)) (fun _ => ?_)
      refine x_aload_n dX9_turn_41 rfl ?_
      refine x_iload_n dX9_turn_42 rfl ?_
      refine x_if_eq (tgt := 59) dX9_turn_43 (by decide) (by first | exact hz _ _ | exact hw.1 _ _ | exact zR_of _ | exact bI_z _ | assumption | exact ⟨by omega, by omega⟩) (fun c43 => ?_) (fun c43 => ?_)
      · refine x_iconst dX9_turn_59 ?_
        refine x_iconst dX9_turn_60 ?_
        refine x_callV_r (a := 0) (b := 0) (as := [xI 0, xI 2]) (rest := []) ok_X9_isThrown dX9_turn_61 wd1215 ⟨wd1217, wd20⟩ (hp50 (putI S (50, 0, 0) 25 0)) rfl rfl ((show X mX9_isThrown 0 (xEnt mX9_isThrown [xR (50, 0, 0), xI 0, xI 2]) [] (hp (putI S (50, 0, 0) 25 0)) 0 0 (pRet (xI 0) (hp (putI (putI S (50, 0, 0) 25 0) (50, 0, 0) 25 0))) from by have q := m_isThrown (putI S (50, 0, 0) 25 0) (wp50_25 hw (by omega)) 0 2 (by omega) (by omega); rw [if_pos rfl] at q; exact q)) rfl (Nat.le_of_ble_eq_true rfl) (Nat.le_of_ble_eq_true rfl) (by decide) (by omega) (by omega) ?_
        refine x_if_ne (tgt := 91) dX9_turn_64 (by decide) ⟨by decide, by decide⟩ (fun z => absurd z (by decide)) (fun _ => ?_)
        refine x_aload_n dX9_turn_67 rfl ?_
        refine x_aload_n dX9_turn_68 rfl ?_
        refine x_get (v := xR (58, 0, 0)) dX9_turn_69 fl_RX9_33 (hp50 (putI (putI S (50, 0, 0) 25 0) (50, 0, 0) 25 0)) rfl ?_
        refine x_iload_n dX9_turn_72 rfl ?_
        refine x_aldi (f := S.1 (58, 0, 0)) dX9_turn_73 (hp58 (putI (putI S (50, 0, 0) 25 0) (50, 0, 0) 25 0)) (show (58 : Nat) ≠ 99 by decide) (by omega) (by omega) (by decide) ?_
        have f73_3 := wfa58 hw (S := S) i
        refine x_top (show S.1 (58, 0, 0) i = C.1 (9, i, 0) 3 from ((hM.q (MdQ.rf S)).2.2.2.1 i (by omega) (by omega)).1) ?_
        refine x_bipush (v := 60) dX9_turn_74 (by decide) ?_
        refine x_icmp_ne (tgt := 83) dX9_turn_76 (by decide) (by first | exact hz _ _ | exact hw.1 _ _ | exact zR_of _ | exact bI_z _ | assumption | exact ⟨by omega, by omega⟩) ⟨by decide, by decide⟩ (fun c76 => ?_) (fun c76 => ?_)
        · refine x_iconst dX9_turn_83 ?_
          refine x_iconst dX9_turn_84 ?_
          refine x_callV_r (a := 0) (b := 0) (as := [xI 0, xI 3]) (rest := []) ok_X9_isThrown dX9_turn_85 wd1215 ⟨wd1217, wd20⟩ (hp50 (putI (putI S (50, 0, 0) 25 0) (50, 0, 0) 25 0)) rfl rfl ((show X mX9_isThrown 0 (xEnt mX9_isThrown [xR (50, 0, 0), xI 0, xI 3]) [] (hp (putI (putI S (50, 0, 0) 25 0) (50, 0, 0) 25 0)) 0 0 (pRet (xI 0) (hp (putI (putI (putI S (50, 0, 0) 25 0) (50, 0, 0) 25 0) (50, 0, 0) 25 0))) from by have q := m_isThrown (putI (putI S (50, 0, 0) 25 0) (50, 0, 0) 25 0) (wp50_25 (wp50_25 hw (by omega)) (by omega)) 0 3 (by omega) (by omega); rw [if_pos rfl] at q; exact q)) rfl (Nat.le_of_ble_eq_true rfl) (Nat.le_of_ble_eq_true rfl) (by decide) (by omega) (by omega) ?_
          refine x_if_eq (tgt := 93) dX9_turn_88 (by decide) ⟨by decide, by decide⟩ (fun _ => ?_) (fun z => absurd z (by decide))
          refine X.weak (t_turn C (putI (putI (putI S (50, 0, 0) 25 0) (50, 0, 0) 25 0) (50, 0, 0) 25 0) hC (wp50_25 (wp50_25 (wp50_25 hw (by omega)) (by omega)) (by omega)) (hM.q ((((MdQ.rf S).thr 0).thr 0).thr 0)) (hl.q ((((MdQ.rf S).thr 0).thr 0).thr 0)) (putI_self _ _ _ _) n hn i r z (by omega) (by omega) (by omega) (by omega) hz1 (fun y => vc1.mp (by omega)) (by omega) (hE (by omega))) (Nat.le_refl _) (Nat.le_trans (Nat.le_of_eq (ndS_q n ((((MdQ.rf S).thr 0).thr 0).thr 0))) (hkb (by omega))) (fun o h' z => Or.inr ⟨by omega, z.of ((((MdQ.rf S).thr 0).thr 0).thr 0)⟩)
        · refine x_iconst dX9_turn_79 ?_
          refine x_goto (tgt := 84) dX9_turn_80 (by decide) ?_
          refine x_iconst dX9_turn_84 ?_
          refine x_callV_r (a := 0) (b := 0) (as := [xI 1, xI 3]) (rest := []) ok_X9_isThrown dX9_turn_85 wd1215 ⟨wd1217, wd20⟩ (hp50 (putI (putI S (50, 0, 0) 25 0) (50, 0, 0) 25 0)) rfl rfl ((show X mX9_isThrown 0 (xEnt mX9_isThrown [xR (50, 0, 0), xI 1, xI 3]) [] (hp (putI (putI S (50, 0, 0) 25 0) (50, 0, 0) 25 0)) 0 0 (pRet (xI 1) (hp (putI (putI (putI S (50, 0, 0) 25 0) (50, 0, 0) 25 0) (50, 0, 0) 25 3))) from by have q := m_isThrown (putI (putI S (50, 0, 0) 25 0) (50, 0, 0) 25 0) (wp50_25 (wp50_25 hw (by omega)) (by omega)) 1 3 (by omega) (by omega); rw [if_neg (by decide)] at q; exact q)) rfl (Nat.le_of_ble_eq_true rfl) (Nat.le_of_ble_eq_true rfl) (by decide) (by omega) (by omega) ?_
          refine x_if_eq (tgt := 93) dX9_turn_88 (by decide) ⟨by decide, by decide⟩ (fun z => absurd z (by decide)) (fun _ => ?_)
          refine x_iconst dX9_turn_91 ?_
          exact x_iret dX9_turn_92 rfl (Or.inl (pM_thr (((MdQ.rf S).thr 0).thr 0) (wp50_25 (wp50_25 hw (by omega)) (by omega)) (by omega) (by omega)))
      · refine x_aload_n dX9_turn_46 rfl ?_
        refine x_iload_n dX9_turn_47 rfl ?_
        refine x_iload_n dX9_turn_48 rfl ?_
        refine x_callV (a := 0) (b := 0) (as := [xI i, xI r]) (rest := [xR (50, 0, 0)]) ok_X9_canTurn dX9_turn_49 wd1319 ⟨wd1321, wd37⟩ (hp50 (putI S (50, 0, 0) 25 0)) rfl rfl (m_canTurn C (putI S (50, 0, 0) 25 0) hC (wp50_25 hw (by omega)) (hM.q ((MdQ.rf S).thr 0)) i r (by omega) (by omega) (by omega) (by omega) (C.1 (34, r, 0) 2).toNat (by have := wf34_2 hC.1 (b := r) (by omega) (by omega); omega)) rfl (Nat.le_of_ble_eq_true rfl) (Nat.le_of_ble_eq_true rfl) (by decide) (by omega) (by omega) (fun _ q => by obtain ⟨_, _, _, y, _⟩ := q; cases y) (fun _ _ q => ?_) (fun _ _ q => by obtain ⟨_, _, _, y, _⟩ := q; cases y)
        obtain ⟨U1, z1, rfl, y1, qU1, wU1, hU1⟩ := q
        cases y1
        have sU1 := ((MdQ.rf S).thr 0).tr qU1
        obtain ⟨kU1, rfl⟩ := hU1
        refine x_if_ne (tgt := 59) dX9_turn_52 (by decide) (by first | exact hz _ _ | exact hw.1 _ _ | exact zR_of _ | exact bI_z _ | assumption | exact ⟨by omega, by omega⟩) (fun c52 => ?_) (fun c52 => ?_)
        · refine x_iconst dX9_turn_59 ?_
          refine x_iconst dX9_turn_60 ?_
          refine x_callV_r (a := 0) (b := 0) (as := [xI 0, xI 2]) (rest := []) ok_X9_isThrown dX9_turn_61 wd1215 ⟨wd1217, wd20⟩ (hp50 U1) rfl rfl ((show X mX9_isThrown 0 (xEnt mX9_isThrown [xR (50, 0, 0), xI 0, xI 2]) [] (hp U1) 0 0 (pRet (xI 0) (hp (putI U1 (50, 0, 0) 25 0))) from by have q := m_isThrown U1 wU1 0 2 (by omega) (by omega); rw [if_pos rfl] at q; exact q)) rfl (Nat.le_of_ble_eq_true rfl) (Nat.le_of_ble_eq_true rfl) (by decide) (by omega) (by omega) ?_
          refine x_if_ne (tgt := 91) dX9_turn_64 (by decide) ⟨by decide, by decide⟩ (fun z => absurd z (by decide)) (fun _ => ?_)
          refine x_aload_n dX9_turn_67 rfl ?_
          refine x_aload_n dX9_turn_68 rfl ?_
          refine x_get (v := xR (58, 0, 0)) dX9_turn_69 fl_RX9_33 (hp50 (putI U1 (50, 0, 0) 25 0)) rfl ?_
          refine x_iload_n dX9_turn_72 rfl ?_
          refine x_aldi (f := U1.1 (58, 0, 0)) dX9_turn_73 (hp58 (putI U1 (50, 0, 0) 25 0)) (show (58 : Nat) ≠ 99 by decide) (by omega) (by omega) (by decide) ?_
          have f73_4 := wfa58 wU1 (S := U1) i
          refine x_top (show U1.1 (58, 0, 0) i = C.1 (9, i, 0) 3 from ((hM.q sU1).2.2.2.1 i (by omega) (by omega)).1) ?_
          refine x_bipush (v := 60) dX9_turn_74 (by decide) ?_
          refine x_icmp_ne (tgt := 83) dX9_turn_76 (by decide) (by first | exact hz _ _ | exact hw.1 _ _ | exact zR_of _ | exact bI_z _ | assumption | exact ⟨by omega, by omega⟩) ⟨by decide, by decide⟩ (fun c76 => ?_) (fun c76 => ?_)
          · refine x_iconst dX9_turn_83 ?_
            refine x_iconst dX9_turn_84 ?_
            refine x_callV_r (a := 0) (b := 0) (as := [xI 0, xI 3]) (rest := []) ok_X9_isThrown dX9_turn_85 wd1215 ⟨wd1217, wd20⟩ (hp50 (putI U1 (50, 0, 0) 25 0)) rfl rfl ((show X mX9_isThrown 0 (xEnt mX9_isThrown [xR (50, 0, 0), xI 0, xI 3]) [] (hp (putI U1 (50, 0, 0) 25 0)) 0 0 (pRet (xI 0) (hp (putI (putI U1 (50, 0, 0) 25 0) (50, 0, 0) 25 0))) from by have q := m_isThrown (putI U1 (50, 0, 0) 25 0) (wp50_25 wU1 (by omega)) 0 3 (by omega) (by omega); rw [if_pos rfl] at q; exact q)) rfl (Nat.le_of_ble_eq_true rfl) (Nat.le_of_ble_eq_true rfl) (by decide) (by omega) (by omega) ?_
            refine x_if_eq (tgt := 93) dX9_turn_88 (by decide) ⟨by decide, by decide⟩ (fun _ => ?_) (fun z => absurd z (by decide))
            refine X.weak (t_turn C (putI (putI U1 (50, 0, 0) 25 0) (50, 0, 0) 25 0) hC (wp50_25 (wp50_25 wU1 (by omega)) (by omega)) (hM.q ((sU1.thr 0).thr 0)) (hl.q ((sU1.thr 0).thr 0)) (putI_self _ _ _ _) n hn i r z (by omega) (by omega) (by omega) (by omega) hz1 (fun y => vc1.mp (by omega)) (by omega) (hE (by omega))) (Nat.le_refl _) (Nat.le_trans (Nat.le_of_eq (ndS_q n ((sU1.thr 0).thr 0))) (hkb (by omega))) (fun o h' z => Or.inr ⟨by omega, z.of ((sU1.thr 0).thr 0)⟩)
          · refine x_iconst dX9_turn_79 ?_
            refine x_goto (tgt := 84) dX9_turn_80 (by decide) ?_
            refine x_iconst dX9_turn_84 ?_
            refine x_callV_r (a := 0) (b := 0) (as := [xI 1, xI 3]) (rest := []) ok_X9_isThrown dX9_turn_85 wd1215 ⟨wd1217, wd20⟩ (hp50 (putI U1 (50, 0, 0) 25 0)) rfl rfl ((show X mX9_isThrown 0 (xEnt mX9_isThrown [xR (50, 0, 0), xI 1, xI 3]) [] (hp (putI U1 (50, 0, 0) 25 0)) 0 0 (pRet (xI 1) (hp (putI (putI U1 (50, 0, 0) 25 0) (50, 0, 0) 25 3))) from by have q := m_isThrown (putI U1 (50, 0, 0) 25 0) (wp50_25 wU1 (by omega)) 1 3 (by omega) (by omega); rw [if_neg (by decide)] at q; exact q)) rfl (Nat.le_of_ble_eq_true rfl) (Nat.le_of_ble_eq_true rfl) (by decide) (by omega) (by omega) ?_
            refine x_if_eq (tgt := 93) dX9_turn_88 (by decide) ⟨by decide, by decide⟩ (fun z => absurd z (by decide)) (fun _ => ?_)
            refine x_iconst dX9_turn_91 ?_
            exact x_iret dX9_turn_92 rfl (Or.inl (pM_thr (sU1.thr 0) (wp50_25 wU1 (by omega)) (by omega) (by omega)))
        · refine x_iconst dX9_turn_55 ?_
          refine x_goto (tgt := 60) dX9_turn_56 (by decide) ?_
          refine x_iconst dX9_turn_60 ?_
          refine x_callV_r (a := 0) (b := 0) (as := [xI 1, xI 2]) (rest := []) ok_X9_isThrown dX9_turn_61 wd1215 ⟨wd1217, wd20⟩ (hp50 U1) rfl rfl ((show X mX9_isThrown 0 (xEnt mX9_isThrown [xR (50, 0, 0), xI 1, xI 2]) [] (hp U1) 0 0 (pRet (xI 1) (hp (putI U1 (50, 0, 0) 25 2))) from by have q := m_isThrown U1 wU1 1 2 (by omega) (by omega); rw [if_neg (by decide)] at q; exact q)) rfl (Nat.le_of_ble_eq_true rfl) (Nat.le_of_ble_eq_true rfl) (by decide) (by omega) (by omega) ?_
          refine x_if_ne (tgt := 91) dX9_turn_64 (by decide) ⟨by decide, by decide⟩ (fun _ => ?_) (fun z => absurd z (by decide))
          refine x_iconst dX9_turn_91 ?_
          exact x_iret dX9_turn_92 rfl (Or.inl (pM_thr sU1 wU1 (by omega) (by omega)))
    · refine x_top (bI_f b23) ?_
      refine x_if_ne (tgt := 33) dX9_turn_26 (by decide) ⟨by decide, by decide⟩ (fun z => absurd z (by decide)) (fun _ => ?_)
      refine x_iconst dX9_turn_29 ?_
      refine x_goto (tgt := 34) dX9_turn_30 (by decide) ?_
      refine x_iconst dX9_turn_34 ?_
      refine x_callV_r (a := 0) (b := 0) (as := [xI 1, xI 1]) (rest := []) ok_X9_isThrown dX9_turn_35 wd1215 ⟨wd1217, wd20⟩ (hp50 S) rfl rfl ((show X mX9_isThrown 0 (xEnt mX9_isThrown [xR (50, 0, 0), xI 1, xI 1]) [] (hp S) 0 0 (pRet (xI 1) (hp (putI S (50, 0, 0) 25 1))) from by have q := m_isThrown S hw 1 1 (by omega) (by omega); rw [if_neg (by decide)] at q; exact q)) rfl (Nat.le_of_ble_eq_true rfl) (Nat.le_of_ble_eq_true rfl) (by decide) (by omega) (by omega) ?_
      refine x_if_ne (tgt := 91) dX9_turn_38 (by decide) ⟨by decide, by decide⟩ (fun _ => ?_) (fun z => absurd z (by decide))
      refine x_iconst dX9_turn_91 ?_
      exact x_iret dX9_turn_92 rfl (Or.inl (pM_thr (MdQ.rf S) hw (by omega) (by omega)))
  · refine x_top (bI_f b9) ?_
    refine x_if_eq (tgt := 29) dX9_turn_12 (by decide) ⟨by decide, by decide⟩ (fun _ => ?_) (fun z => absurd z (by decide))
    refine x_iconst dX9_turn_29 ?_
    refine x_goto (tgt := 34) dX9_turn_30 (by decide) ?_
    refine x_iconst dX9_turn_34 ?_
    refine x_callV_r (a := 0) (b := 0) (as := [xI 1, xI 1]) (rest := []) ok_X9_isThrown dX9_turn_35 wd1215 ⟨wd1217, wd20⟩ (hp50 S) rfl rfl ((show X mX9_isThrown 0 (xEnt mX9_isThrown [xR (50, 0, 0), xI 1, xI 1]) [] (hp S) 0 0 (pRet (xI 1) (hp (putI S (50, 0, 0) 25 1))) from by have q := m_isThrown S hw 1 1 (by omega) (by omega); rw [if_neg (by decide)] at q; exact q)) rfl (Nat.le_of_ble_eq_true rfl) (Nat.le_of_ble_eq_true rfl) (by decide) (by omega) (by omega) ?_
    refine x_if_ne (tgt := 91) dX9_turn_38 (by decide) ⟨by decide, by decide⟩ (fun _ => ?_) (fun z => absurd z (by decide))
    refine x_iconst dX9_turn_91 ?_
    exact x_iret dX9_turn_92 rfl (Or.inl (pM_thr (MdQ.rf S) hw (by omega) (by omega)))
set_option maxHeartbeats 4000000 in
set_option maxRecDepth 100000 in
theorem m_next (C S : XS) (hC : CB C) (hw : WI S) (hM : MR C S) (i : Int) (zi : zR i) (hl : MRl C S) : X mX9_next 0 (xEnt mX9_next [xR (50, 0, 0), xI i]) [] (hp S) 0 0 (pMu S (fun k z => z = 0 ∧ ((k = 1 ∧ ¬ (0 ≤ i ∧ i < C.1 (0, 0, 0) 7)) ∨ (k = 2 ∧ (0 ≤ i ∧ i < C.1 (0, 0, 0) 7) ∧ ¬ (S.1 (68, 0, 0) i ≠ S.1 (69, 0, 0) i)))) ((0 ≤ i ∧ i < C.1 (0, 0, 0) 7) ∧ (S.1 (68, 0, 0) i ≠ S.1 (69, 0, 0) i)) (S.1 (81, i, S.2.2.2.1 i) (S.1 (69, 0, 0) i)) (fun U => putI U (69, 0, 0) i (S.1 (69, 0, 0) i + 1))) := by
  have c6 := wf0_6 hC.1
  have c4 := wf4_2 hC.1
  obtain ⟨n11, n12, n13, n24⟩ := hM.2.1
  have hz := hw.1
  have c7 := wf0_7 hC.1
  show X mX9_next 0 [xR (50, 0, 0), xI i] [] (hp S) 0 0 _
  refine x_aload_n dX9_next_0 rfl ?_
  refine x_iload_n dX9_next_1 rfl ?_
  refine x_aload_n dX9_next_2 rfl ?_
  refine x_get (v := xI (S.1 (50, 0, 0) 24)) dX9_next_3 fl_RX9_241 (hp50 S) rfl ?_
  have f3_1 := wf50_24 hw (S := S)
  refine x_callV (a := 0) (b := 0) (as := [xI i, xI (S.1 (50, 0, 0) 24)]) (rest := []) ok_X9_isNo dX9_next_6 wd1208 ⟨wd1210, wd19⟩ (hp50 S) rfl rfl (m_isNoR S hw i (S.1 (50, 0, 0) 24) (by first | exact hz _ _ | exact hw.1 _ _ | exact zR_of _ | exact bI_z _ | assumption | exact ⟨by omega, by omega⟩) (by first | exact hz _ _ | exact hw.1 _ _ | exact zR_of _ | exact bI_z _ | assumption | exact ⟨by omega, by omega⟩) (by omega) (by omega)) rfl (Nat.le_of_ble_eq_true rfl) (Nat.le_of_ble_eq_true rfl) (by decide) (by omega) (by omega) (fun _ q => by obtain ⟨_, _, _, y, _⟩ := q; cases y) (fun _ _ q => ?_) (fun _ _ q => by obtain ⟨_, _, _, y, _⟩ := q; cases y)
  obtain ⟨U1, z1, rfl, y1, qU1, wU1, hU1⟩ := q
  cases y1
  have sU1 := (MdQ.rf S).tr qU1
  rcases hU1 with ⟨rfl, hU1⟩ | ⟨rfl, hU1⟩
  · refine x_if_ne (tgt := 40) dX9_next_9 (by decide) ⟨by decide, by decide⟩ (fun _ => ?_) (fun z => absurd z (by decide))
    refine x_iconst dX9_next_40 ?_
    exact x_iret dX9_next_41 rfl (Or.inl (pM_of sU1 wU1 (by omega)))
  · refine x_if_ne (tgt := 40) dX9_next_9 (by decide) ⟨by decide, by decide⟩ (fun z => absurd z (by decide)) (fun _ => ?_)
    have e68 : U1.1 (68, 0, 0) = S.1 (68, 0, 0) := sU1.1 (68, 0, 0) rfl (by decide)
    have e69 : U1.1 (69, 0, 0) = S.1 (69, 0, 0) := sU1.1 (69, 0, 0) rfl (by decide)
    have eg : U1.2.2.2.1 = S.2.2.2.1 := sU1.2.2.2.2.1
    have e81 : ∀ t : Int, U1.1 (81, i, t) = S.1 (81, i, t) := fun t => sU1.1 (81, i, t) rfl (by show (81 : Nat) ≠ 50; decide)
    have e68i := congrFun e68 i
    have e69i := congrFun e69 i
    have lr := ((hl i (by omega) (by omega)).1 (by omega)).2.2.2.1
    obtain ⟨p1, p2, p3, p4, p5, p6⟩ := lr
    have eg1 : 0 ≤ U1.2.2.2.1 i := by rw [eg]; exact p1
    have hch : chLen (U1.2.2.2.1 i) < 2147483648 := by rw [eg]; have := (chLen_7 p1 p2).1; omega
    have hlen : (chLen (U1.2.2.2.1 i) : Nat) = chLen (S.2.2.2.1 i) := by rw [eg]
    refine x_aload_n dX9_next_12 rfl ?_
    refine x_aload_n dX9_next_13 rfl ?_
    refine x_get (v := xR (68, 0, 0)) dX9_next_14 fl_RX9_67 (hp50 U1) rfl ?_
    refine x_iload_n dX9_next_17 rfl ?_
    refine x_aldi (f := U1.1 (68, 0, 0)) dX9_next_18 (hp68 U1) (show (68 : Nat) ≠ 99 by decide) (by omega) (by omega) (by decide) ?_
    have f18_2 := wfa68 wU1 (S := U1) i
    refine x_aload_n dX9_next_19 rfl ?_
    refine x_get (v := xR (69, 0, 0)) dX9_next_20 fl_RX9_70 (hp50 U1) rfl ?_
    refine x_iload_n dX9_next_23 rfl ?_
    refine x_aldi (f := U1.1 (69, 0, 0)) dX9_next_24 (hp69 U1) (show (69 : Nat) ≠ 99 by decide) (by omega) (by omega) (by decide) ?_
    have f24_3 := wfa69 wU1 (S := U1) i
    refine x_icmp_ne (tgt := 32) dX9_next_25 (by decide) (by first | exact hz _ _ | exact hw.1 _ _ | exact zR_of _ | exact bI_z _ | assumption | exact ⟨by omega, by omega⟩) (by first | exact hz _ _ | exact hw.1 _ _ | exact zR_of _ | exact bI_z _ | assumption | exact ⟨by omega, by omega⟩) (fun c25 => ?_) (fun c25 => ?_)
    · refine x_iconst dX9_next_32 ?_
      refine x_iconst dX9_next_33 ?_
      refine x_callV_r (a := 0) (b := 0) (as := [xI 0, xI 2]) (rest := []) ok_X9_isThrown dX9_next_34 wd1215 ⟨wd1217, wd20⟩ (hp50 U1) rfl rfl ((show X mX9_isThrown 0 (xEnt mX9_isThrown [xR (50, 0, 0), xI 0, xI 2]) [] (hp U1) 0 0 (pRet (xI 0) (hp (putI U1 (50, 0, 0) 25 0))) from by have q := m_isThrown U1 wU1 0 2 (by omega) (by omega); rw [if_pos rfl] at q; exact q)) rfl (Nat.le_of_ble_eq_true rfl) (Nat.le_of_ble_eq_true rfl) (by decide) (by omega) (by omega) ?_
      refine x_if_eq (tgt := 42) dX9_next_37 (by decide) ⟨by decide, by decide⟩ (fun _ => ?_) (fun z => absurd z (by decide))
      refine x_aload_n dX9_next_42 rfl ?_
      refine x_get (v := xR (69, 0, 0)) dX9_next_43 fl_RX9_70 (hp50 (putI U1 (50, 0, 0) 25 0)) rfl ?_
      refine x_iload_n dX9_next_46 rfl ?_
      refine x_dup2 dX9_next_47 rfl rfl ?_
      refine x_aldi (f := U1.1 (69, 0, 0)) dX9_next_48 (hp69 (putI U1 (50, 0, 0) 25 0)) (show (69 : Nat) ≠ 99 by decide) (by omega) (by omega) (by decide) ?_
      have f48_4 := wfa69 wU1 (S := U1) i
      refine x_iconst dX9_next_49 ?_
      refine x_iadd dX9_next_50 ?_
      refine x_asti dX9_next_51 (hp69 (putI U1 (50, 0, 0) 25 0)) (show (69 : Nat) ≠ 99 by decide) (by omega) (by omega) (by decide) ?_
      refine x_heq (pa69 (putI U1 (50, 0, 0) 25 0) i ((U1.1 (69, 0, 0) i) + 1)) ?_
      have hw51_5 : WI (putI (putI U1 (50, 0, 0) 25 0) (69, 0, 0) i ((U1.1 (69, 0, 0) i) + 1)) := wpa69 (wp50_25 wU1 (by omega)) (by omega)
      refine x_aload_n dX9_next_52 rfl ?_
      refine x_get (v := xR (80, 0, 0)) dX9_next_53 fl_RX9_75 (hp50 (putI (putI U1 (50, 0, 0) 25 0) (69, 0, 0) i ((U1.1 (69, 0, 0) i) + 1))) rfl ?_
      refine x_iload_n dX9_next_56 rfl ?_
      refine x_alda (l2 := (81, i, (U1.2.2.2.1 i))) dX9_next_57 (hp80 (putI (putI U1 (50, 0, 0) 25 0) (69, 0, 0) i ((U1.1 (69, 0, 0) i) + 1))) (show (80 : Nat) ≠ 99 by decide) (by decide) (by decide) (by omega) (by omega) (by decide) rfl ?_
      refine x_aload_n dX9_next_58 rfl ?_
      refine x_get (v := xR (69, 0, 0)) dX9_next_59 fl_RX9_70 (hp50 (putI (putI U1 (50, 0, 0) 25 0) (69, 0, 0) i ((U1.1 (69, 0, 0) i) + 1))) rfl ?_
      refine x_iload_n dX9_next_62 rfl ?_
      refine x_aldi (f := (putI (putI U1 (50, 0, 0) 25 0) (69, 0, 0) i ((U1.1 (69, 0, 0) i) + 1)).1 (69, 0, 0)) dX9_next_63 (hp69 (putI (putI U1 (50, 0, 0) 25 0) (69, 0, 0) i ((U1.1 (69, 0, 0) i) + 1))) (show (69 : Nat) ≠ 99 by decide) (by omega) (by omega) (by decide) ?_
      have f63_6 := wfa69 hw51_5 (S := putI (putI U1 (50, 0, 0) 25 0) (69, 0, 0) i ((U1.1 (69, 0, 0) i) + 1)) i
      refine x_iconst dX9_next_64 ?_
      refine x_isub dX9_next_65 ?_
      refine x_top (show ((putI (putI U1 (50, 0, 0) 25 0) (69, 0, 0) i ((U1.1 (69, 0, 0) i) + 1)).1 (69, 0, 0) i) - 1 = S.1 (69, 0, 0) i from by rw [putI_self]; omega) ?_
      refine x_aldi (f := U1.1 (81, i, (U1.2.2.2.1 i))) dX9_next_66 (hp81 (putI (putI U1 (50, 0, 0) 25 0) (69, 0, 0) i ((U1.1 (69, 0, 0) i) + 1)) (by omega) (by omega) (by omega) (Int.le_refl _)) (show (81 : Nat) ≠ 99 by decide) (by omega) (by omega) hch ?_
      exact x_iret dX9_next_67 rfl (Or.inr ⟨by omega, by rw [e81, eg], _, (sU1.thr 0), wp50_25 wU1 (by omega), putI_self _ _ _ _, wpa69 (wp50_25 wU1 (by omega)) (by omega), by rw [e69]⟩)
    · refine x_iconst dX9_next_28 ?_
      refine x_goto (tgt := 33) dX9_next_29 (by decide) ?_
      refine x_iconst dX9_next_33 ?_
      refine x_callV_r (a := 0) (b := 0) (as := [xI 1, xI 2]) (rest := []) ok_X9_isThrown dX9_next_34 wd1215 ⟨wd1217, wd20⟩ (hp50 U1) rfl rfl ((show X mX9_isThrown 0 (xEnt mX9_isThrown [xR (50, 0, 0), xI 1, xI 2]) [] (hp U1) 0 0 (pRet (xI 1) (hp (putI U1 (50, 0, 0) 25 2))) from by have q := m_isThrown U1 wU1 1 2 (by omega) (by omega); rw [if_neg (by decide)] at q; exact q)) rfl (Nat.le_of_ble_eq_true rfl) (Nat.le_of_ble_eq_true rfl) (by decide) (by omega) (by omega) ?_
      refine x_if_eq (tgt := 42) dX9_next_37 (by decide) ⟨by decide, by decide⟩ (fun z => absurd z (by decide)) (fun _ => ?_)
      refine x_iconst dX9_next_40 ?_
      exact x_iret dX9_next_41 rfl (Or.inl (pM_thr sU1 wU1 (by omega) (by omega)))
