/-! the reference: reason, reasonFact -/
noncomputable def pvN (f : XL → Int → Int) (r w k : Int) : Int := if 0 ≤ r then premN f r w k (f (34, r, 0) 2).toNat else -1
set_option maxHeartbeats 4000000 in
set_option maxRecDepth 100000 in
theorem m_reason (C S : XS) (hC : CB C) (hw : WI S) (hM : MR C S) (i n t q : Int) (zi : zR i) (zn : zR n) (zt : zR t) (zq : zR q) : X mX9_reason 0 (xEnt mX9_reason [xR (50, 0, 0), xI i, xI n, xI t, xI q]) [] (hp S) 0 0 (pM S (fun k z _T => (z = 0 ∧ ((k = 1 ∧ ¬ ((0 ≤ i ∧ i < C.1 (0, 0, 0) 6) ∧ 0 ≤ n ∧ n < C.1 (9, i, 0) 3 + 1)) ∨ (k = 2 ∧ ((0 ≤ i ∧ i < C.1 (0, 0, 0) 6) ∧ 0 ≤ n ∧ n < C.1 (9, i, 0) 3 + 1) ∧ ¬ ((0 ≤ t ∧ t < 24) ∧ 0 ≤ q ∧ q < 384)) ∨ (k = 3 ∧ ((0 ≤ i ∧ i < C.1 (0, 0, 0) 6) ∧ 0 ≤ n ∧ n < C.1 (9, i, 0) 3 + 1) ∧ ((0 ≤ t ∧ t < 24) ∧ 0 ≤ q ∧ q < 384) ∧ ¬ (bI (hB C.1 i n.toNat t q) = 1)))) ∨ (k = 0 ∧ ((0 ≤ i ∧ i < C.1 (0, 0, 0) 6) ∧ 0 ≤ n ∧ n < C.1 (9, i, 0) 3 + 1) ∧ ((0 ≤ t ∧ t < 24) ∧ 0 ≤ q ∧ q < 384) ∧ (bI (hB C.1 i n.toNat t q) = 1) ∧ FinR C i n.toNat t (_T.1 (73, 0, 0)) ∧ BeV C i n.toNat t (_T.1 (73, 0, 0)) q z (wG (_T.1 (74, 0, 0)))))) := by
  have c6 := wf0_6 hC.1
  have c4 := wf4_2 hC.1
  have h93 : 0 ≤ i → i < C.1 (0, 0, 0) 6 → 0 ≤ C.1 (9, i, 0) 3 ∧ C.1 (9, i, 0) 3 ≤ 60 := fun a b => wf9_3 hC.1 a (by omega)
  obtain ⟨n11, n12, n13, n24⟩ := hM.2.1
  have hz := hw.1
  show X mX9_reason 0 [xR (50, 0, 0), xI i, xI n, xI t, xI q] [] (hp S) 0 0 _
  refine x_aload_n dX9_reason_0 rfl ?_
  refine x_iload_n dX9_reason_1 rfl ?_
  refine x_iload_n dX9_reason_2 rfl ?_
  refine x_iload_n dX9_reason_3 rfl ?_
  refine x_iload dX9_reason_4 rfl ?_
  refine x_callV (a := 0) (b := 0) (as := [xI i, xI n, xI t, xI q]) (rest := []) ok_X9_isNot dX9_reason_6 wd1368 ⟨wd1370, wd42⟩ (hp50 S) rfl rfl (m_isNot C S hC hw (hM.q (MdQ.rf S)) i n t q (by first | exact hz _ _ | exact hw.1 _ _ | exact zR_of _ | exact bI_z _ | assumption | exact ⟨by omega, by omega⟩) (by first | exact hz _ _ | exact hw.1 _ _ | exact zR_of _ | exact bI_z _ | assumption | exact ⟨by omega, by omega⟩) (by first | exact hz _ _ | exact hw.1 _ _ | exact zR_of _ | exact bI_z _ | assumption | exact ⟨by omega, by omega⟩) (by first | exact hz _ _ | exact hw.1 _ _ | exact zR_of _ | exact bI_z _ | assumption | exact ⟨by omega, by omega⟩)) rfl (Nat.le_of_ble_eq_true rfl) (Nat.le_of_ble_eq_true rfl) (by decide) (by omega) (by omega) (fun _ q => by obtain ⟨_, _, _, y, _⟩ := q; cases y) (fun _ _ q => ?_) (fun _ _ q => by obtain ⟨_, _, _, y, _⟩ := q; cases y)
  obtain ⟨U1, z1, rfl, y1, qU1, wU1, hU1⟩ := q
  cases y1
  have sU1 := (MdQ.rf S).tr qU1
  rcases hU1 with ⟨rfl, hU1⟩ | ⟨rfl, kU1, bkU1, hfU1, hbU1, fU1, oU1⟩
  · refine x_if_eq (tgt := 16) dX9_reason_9 (by decide) ⟨by decide, by decide⟩ (fun z => absurd z (by decide)) (fun _ => ?_)
    refine x_iconst dX9_reason_12 ?_
    refine x_goto (tgt := 22) dX9_reason_13 (by decide) ?_
    exact x_iret dX9_reason_22 rfl (pM_of sU1 wU1 (Or.inl ⟨rfl, by omega⟩))
  · refine x_if_eq (tgt := 16) dX9_reason_9 (by decide) ⟨by decide, by decide⟩ (fun _ => ?_) (fun z => absurd z (by decide))
    have k93 := h93 (by omega) (by omega)
    refine x_aload_n dX9_reason_16 rfl ?_
    refine x_iload dX9_reason_17 rfl ?_
    refine x_callV (a := 0) (b := 0) (as := [xI q]) (rest := []) ok_X9_because dX9_reason_19 wd1388 ⟨wd1390, wd43⟩ (hp50 U1) rfl rfl (m_because C U1 hC wU1 (hM.q sU1).2.2.1 (hM.q sU1).2.1 i (by omega) (by omega) n.toNat (by omega) t fU1 oU1 q (by omega) (by omega) (by have := (fU1.hb hC (show 0 ≤ i by omega) (by omega) (show (n.toNat : Int) ≤ C.1 (9, i, 0) 3 by omega) (q := q) (by omega) (by omega)).1.mpr (bI_1.mp (by omega)); omega)) rfl (Nat.le_of_ble_eq_true rfl) (Nat.le_of_ble_eq_true rfl) (by decide) (by omega) (by omega) (fun _ q => by obtain ⟨_, _, _, y, _⟩ := q; cases y) (fun _ _ q => ?_) (fun _ _ q => by obtain ⟨_, _, _, y, _⟩ := q; cases y)
    obtain ⟨U2, z2, rfl, y2, rU2, eU2, wU2, vU2⟩ := q
    cases y2
    have sU2 := sU1.tr (eU2.md rfl)
    have kU2 := congrFun (eU2.1 (50, 0, 0) (by decide)) 25
    have gU2 := eU2.1 (73, 0, 0) (by decide)
    rw [← gU2] at vU2
    exact x_iret dX9_reason_22 rfl (pM_of sU2 wU2 (Or.inr ⟨by omega, by omega, by omega, by omega, by rw [gU2]; exact fU1, vU2⟩))
set_option maxHeartbeats 4000000 in
set_option maxRecDepth 100000 in
theorem l9_rf (C S : XS) (hC : CB C) (hw : WI S) (hM : MR C S) (i n t q k : Int) (zk : zR k) (r : Int) (r0 : 0 ≤ r) (r1 : r < C.1 (4, 0, 0) 2) (k0 : 0 ≤ k) : ∀ (nn : Nat) (c : Nat), (C.1 (34, r, 0) 2) - c + 1 < (nn : Int) → ((c : Int) ≤ (C.1 (34, r, 0) 2)) → (∀ j : Nat, j < c → ¬ (C.1 (36, r, j) 1 = 0 ∧ strN C.1 r j = k)) → X mX9_reasonFact 29 [xR (50, 0, 0), xI i, xI n, xI t, xI q, xI k, xI r, xI (k - strN C.1 r c), xI (c : Int)] [] (hp S) 0 0 (pM S (fun kk z _T => (kk = S.1 (50, 0, 0) 25 ∧ z = premN C.1 r (wG (S.1 (74, 0, 0))) k (C.1 (34, r, 0) 2).toNat ∧ z ≠ -1) ∨ (kk = 3 ∧ premN C.1 r (wG (S.1 (74, 0, 0))) k (C.1 (34, r, 0) 2).toNat = -1))) := by
  intro nn
  induction nn with
  | zero => intro c hm hc hno; exfalso; omega
  | succ nn ih =>
    intro c hm hc hno
    have c4 := wf4_2 hC.1
    have c34 := wf34_2 hC.1 r0 (show r < 10 by omega)
    have hR : RuleOk C.1 r := by obtain ⟨r2, rfl⟩ := Int.eq_ofNat_of_zero_le r0; exact (hC.2.1 r2 r1).1
    obtain ⟨-, -, -, q4, -, q6, -⟩ := hM.2.2.1 r r0 r1
    have hz := hw.1
    have zk2 := zk
    unfold zR at zk2
    have sl := strN_le C.1 r c
    have gw := wG_in (g := S.1 (74, 0, 0)) (fun k => wfa74 hw k)
    refine x_iload dX9_reasonFact_29 rfl ?_
    refine x_if_lt (tgt := 106) dX9_reasonFact_31 (by decide) (by first | exact hz _ _ | exact hw.1 _ _ | exact zR_of _ | exact bI_z _ | assumption | exact ⟨by omega, by omega⟩) (fun c31 => ?_) (fun c31 => ?_)
    · refine x_aload_n dX9_reasonFact_106 rfl ?_
      refine x_iconst dX9_reasonFact_107 ?_
      refine x_iconst dX9_reasonFact_108 ?_
      refine x_callV_r (a := 0) (b := 0) (as := [xI 1, xI 3]) (rest := []) ok_X9_isThrown dX9_reasonFact_109 wd1215 ⟨wd1217, wd20⟩ (hp50 S) rfl rfl ((show X mX9_isThrown 0 (xEnt mX9_isThrown [xR (50, 0, 0), xI 1, xI 3]) [] (hp S) 0 0 (pRet (xI 1) (hp (putI S (50, 0, 0) 25 3))) from by have q := m_isThrown S hw 1 3 (by omega) (by omega); rw [if_neg (by decide)] at q; exact q)) rfl (Nat.le_of_ble_eq_true rfl) (Nat.le_of_ble_eq_true rfl) (by decide) (by omega) (by omega) ?_
      refine x_pop dX9_reasonFact_112 rfl ?_
      refine x_iconst dX9_reasonFact_113 ?_
      exact x_iret dX9_reasonFact_114 rfl (pM_thr (MdQ.rf S) hw (by omega) (Or.inr ⟨rfl, premN_none C.1 r _ k _ (fun j hj => hno j (by omega))⟩))
    · refine x_iload dX9_reasonFact_34 rfl ?_
      refine x_aload_n dX9_reasonFact_36 rfl ?_
      refine x_get (v := xR (64, 0, 0)) dX9_reasonFact_37 fl_RX9_55 (hp50 S) rfl ?_
      refine x_iload dX9_reasonFact_40 rfl ?_
      refine x_aldi (f := S.1 (64, 0, 0)) dX9_reasonFact_42 (hp64 S) (show (64 : Nat) ≠ 99 by decide) (by omega) (by omega) (by decide) ?_
      have f42_1 := wfa64 hw (S := S) r
      refine x_icmp_ge (tgt := 106) dX9_reasonFact_43 (by decide) (by first | exact hz _ _ | exact hw.1 _ _ | exact zR_of _ | exact bI_z _ | assumption | exact ⟨by omega, by omega⟩) (by first | exact hz _ _ | exact hw.1 _ _ | exact zR_of _ | exact bI_z _ | assumption | exact ⟨by omega, by omega⟩) (fun c43 => ?_) (fun c43 => ?_)
      · refine x_aload_n dX9_reasonFact_106 rfl ?_
        refine x_iconst dX9_reasonFact_107 ?_
        refine x_iconst dX9_reasonFact_108 ?_
        refine x_callV_r (a := 0) (b := 0) (as := [xI 1, xI 3]) (rest := []) ok_X9_isThrown dX9_reasonFact_109 wd1215 ⟨wd1217, wd20⟩ (hp50 S) rfl rfl ((show X mX9_isThrown 0 (xEnt mX9_isThrown [xR (50, 0, 0), xI 1, xI 3]) [] (hp S) 0 0 (pRet (xI 1) (hp (putI S (50, 0, 0) 25 3))) from by have q := m_isThrown S hw 1 3 (by omega) (by omega); rw [if_neg (by decide)] at q; exact q)) rfl (Nat.le_of_ble_eq_true rfl) (Nat.le_of_ble_eq_true rfl) (by decide) (by omega) (by omega) ?_
        refine x_pop dX9_reasonFact_112 rfl ?_
        refine x_iconst dX9_reasonFact_113 ?_
        exact x_iret dX9_reasonFact_114 rfl (pM_thr (MdQ.rf S) hw (by omega) (Or.inr ⟨rfl, premN_none C.1 r _ k _ (fun j hj => hno j (by omega))⟩))
      · obtain ⟨u1, u2, u3, u4⟩ := q6 (c : Int) (by omega) (by omega)
        refine x_aload_n dX9_reasonFact_46 rfl ?_
        refine x_get (v := xR (65, 0, 0)) dX9_reasonFact_47 fl_RX9_58 (hp50 S) rfl ?_
        refine x_iconst dX9_reasonFact_50 ?_
        refine x_iload dX9_reasonFact_51 rfl ?_
        refine x_imul dX9_reasonFact_53 ?_
        refine x_iload dX9_reasonFact_54 rfl ?_
        refine x_iadd dX9_reasonFact_56 ?_
        refine x_aldz (f := S.1 (65, 0, 0)) dX9_reasonFact_57 (hp65 S) (show (65 : Nat) ≠ 99 by decide) (by omega) (by omega) (by decide) ?_
        have f57_2 := wfa65 hw (S := S) ((3 * r) + (c : Int))
        refine x_if_ne (tgt := 75) dX9_reasonFact_58 (by decide) (by first | exact hz _ _ | exact hw.1 _ _ | exact zR_of _ | exact bI_z _ | assumption | exact ⟨by omega, by omega⟩) (fun c58 => ?_) (fun c58 => ?_)
        · refine x_iload dX9_reasonFact_75 rfl ?_
          refine x_aload_n dX9_reasonFact_77 rfl ?_
          refine x_get (v := xR (65, 0, 0)) dX9_reasonFact_78 fl_RX9_58 (hp50 S) rfl ?_
          refine x_iconst dX9_reasonFact_81 ?_
          refine x_iload dX9_reasonFact_82 rfl ?_
          refine x_imul dX9_reasonFact_84 ?_
          refine x_iload dX9_reasonFact_85 rfl ?_
          refine x_iadd dX9_reasonFact_87 ?_
          refine x_aldz (f := S.1 (65, 0, 0)) dX9_reasonFact_88 (hp65 S) (show (65 : Nat) ≠ 99 by decide) (by omega) (by omega) (by decide) ?_
          have f88_3 := wfa65 hw (S := S) ((3 * r) + (c : Int))
          refine x_if_eq (tgt := 96) dX9_reasonFact_89 (by decide) (by first | exact hz _ _ | exact hw.1 _ _ | exact zR_of _ | exact bI_z _ | assumption | exact ⟨by omega, by omega⟩) (fun c89 => ?_) (fun c89 => ?_)
          · refine x_iconst dX9_reasonFact_96 ?_
            refine x_isub dX9_reasonFact_97 ?_
            refine x_istore (L' := [xR (50, 0, 0), xI i, xI n, xI t, xI q, xI k, xI r, xI ((k - strN C.1 r c) - 1), xI (c : Int)]) dX9_reasonFact_98 (by decide) rfl ?_
            refine x_iinc (L' := [xR (50, 0, 0), xI i, xI n, xI t, xI q, xI k, xI r, xI ((k - strN C.1 r c) - 1), xI ((c : Int) + 1)]) dX9_reasonFact_100 rfl rfl ?_
            refine x_goto (tgt := 29) dX9_reasonFact_103 (by decide) ?_
            first
              | (exfalso; omega)
              | (have kk := ih (c + 1) (by omega) (by omega) (fun j hj => by rcases Nat.lt_or_eq_of_le (show j ≤ c by omega) with y | y; exact hno j y; rw [y]; omega); rw [show k - strN C.1 r (c + 1) = (k - strN C.1 r c) - 1 from by simp only [strN]; split <;> omega] at kk; exact kk)
          · refine x_iconst dX9_reasonFact_92 ?_
            refine x_goto (tgt := 97) dX9_reasonFact_93 (by decide) ?_
            refine x_isub dX9_reasonFact_97 ?_
            refine x_istore (L' := [xR (50, 0, 0), xI i, xI n, xI t, xI q, xI k, xI r, xI ((k - strN C.1 r c) - 0), xI (c : Int)]) dX9_reasonFact_98 (by decide) rfl ?_
            refine x_iinc (L' := [xR (50, 0, 0), xI i, xI n, xI t, xI q, xI k, xI r, xI ((k - strN C.1 r c) - 0), xI ((c : Int) + 1)]) dX9_reasonFact_100 rfl rfl ?_
            refine x_goto (tgt := 29) dX9_reasonFact_103 (by decide) ?_
            first
              | (exfalso; omega)
              | (have kk := ih (c + 1) (by omega) (by omega) (fun j hj => by rcases Nat.lt_or_eq_of_le (show j ≤ c by omega) with y | y; exact hno j y; rw [y]; omega); rw [show k - strN C.1 r (c + 1) = (k - strN C.1 r c) - 0 from by simp only [strN]; split <;> omega] at kk; exact kk)
        · refine x_iload dX9_reasonFact_61 rfl ?_
          refine x_if_ne (tgt := 75) dX9_reasonFact_63 (by decide) (by first | exact hz _ _ | exact hw.1 _ _ | exact zR_of _ | exact bI_z _ | assumption | exact ⟨by omega, by omega⟩) (fun c63 => ?_) (fun c63 => ?_)
          · refine x_iload dX9_reasonFact_75 rfl ?_
            refine x_aload_n dX9_reasonFact_77 rfl ?_
            refine x_get (v := xR (65, 0, 0)) dX9_reasonFact_78 fl_RX9_58 (hp50 S) rfl ?_
            refine x_iconst dX9_reasonFact_81 ?_
            refine x_iload dX9_reasonFact_82 rfl ?_
            refine x_imul dX9_reasonFact_84 ?_
            refine x_iload dX9_reasonFact_85 rfl ?_
            refine x_iadd dX9_reasonFact_87 ?_
            refine x_aldz (f := S.1 (65, 0, 0)) dX9_reasonFact_88 (hp65 S) (show (65 : Nat) ≠ 99 by decide) (by omega) (by omega) (by decide) ?_
            have f88_4 := wfa65 hw (S := S) ((3 * r) + (c : Int))
            refine x_if_eq (tgt := 96) dX9_reasonFact_89 (by decide) (by first | exact hz _ _ | exact hw.1 _ _ | exact zR_of _ | exact bI_z _ | assumption | exact ⟨by omega, by omega⟩) (fun c89 => ?_) (fun c89 => ?_)
            · refine x_iconst dX9_reasonFact_96 ?_
              refine x_isub dX9_reasonFact_97 ?_
              refine x_istore (L' := [xR (50, 0, 0), xI i, xI n, xI t, xI q, xI k, xI r, xI ((k - strN C.1 r c) - 1), xI (c : Int)]) dX9_reasonFact_98 (by decide) rfl ?_
              refine x_iinc (L' := [xR (50, 0, 0), xI i, xI n, xI t, xI q, xI k, xI r, xI ((k - strN C.1 r c) - 1), xI ((c : Int) + 1)]) dX9_reasonFact_100 rfl rfl ?_
              refine x_goto (tgt := 29) dX9_reasonFact_103 (by decide) ?_
              first
                | (exfalso; omega)
                | (have kk := ih (c + 1) (by omega) (by omega) (fun j hj => by rcases Nat.lt_or_eq_of_le (show j ≤ c by omega) with y | y; exact hno j y; rw [y]; omega); rw [show k - strN C.1 r (c + 1) = (k - strN C.1 r c) - 1 from by simp only [strN]; split <;> omega] at kk; exact kk)
            · refine x_iconst dX9_reasonFact_92 ?_
              refine x_goto (tgt := 97) dX9_reasonFact_93 (by decide) ?_
              refine x_isub dX9_reasonFact_97 ?_
              refine x_istore (L' := [xR (50, 0, 0), xI i, xI n, xI t, xI q, xI k, xI r, xI ((k - strN C.1 r c) - 0), xI (c : Int)]) dX9_reasonFact_98 (by decide) rfl ?_
              refine x_iinc (L' := [xR (50, 0, 0), xI i, xI n, xI t, xI q, xI k, xI r, xI ((k - strN C.1 r c) - 0), xI ((c : Int) + 1)]) dX9_reasonFact_100 rfl rfl ?_
              refine x_goto (tgt := 29) dX9_reasonFact_103 (by decide) ?_
              first
                | (exfalso; omega)
                | (have kk := ih (c + 1) (by omega) (by omega) (fun j hj => by rcases Nat.lt_or_eq_of_le (show j ≤ c by omega) with y | y; exact hno j y; rw [y]; omega); rw [show k - strN C.1 r (c + 1) = (k - strN C.1 r c) - 0 from by simp only [strN]; split <;> omega] at kk; exact kk)
          · refine x_aload_n dX9_reasonFact_66 rfl ?_
            refine x_iload dX9_reasonFact_67 rfl ?_
            refine x_iload dX9_reasonFact_69 rfl ?_
            refine x_callV_r (a := 0) (b := 0) (as := [xI r, xI (c : Int)]) (rest := []) ok_X9_factAt dX9_reasonFact_71 wd1277 ⟨wd1279, wd33⟩ (hp50 S) rfl rfl (m_factAt C S hC.1 hw (hM.q (MdQ.rf S)).2.2.1 r (c : Int) (by omega) (by omega) (by omega) (by omega)) rfl (Nat.le_of_ble_eq_true rfl) (Nat.le_of_ble_eq_true rfl) (by decide) (by omega) (by omega) ?_
            exact x_iret dX9_reasonFact_74 rfl (pM_of (MdQ.rf S) hw (Or.inl ⟨rfl, (premN_at C.1 r _ k c _ (by omega) ⟨by omega, by omega⟩).symm, by have := cfact_in hC.1 r0 r1 hR (c := (c : Int)) (by omega) (by omega) gw.1 gw.2; omega⟩))
set_option maxHeartbeats 4000000 in
set_option maxRecDepth 100000 in
theorem l9_rfN (C S : XS) (hC : CB C) (hw : WI S) (hM : MR C S) (i n t q k : Int) (zk : zR k) (r : Int) (r0 : 0 ≤ r) (r1 : r < C.1 (4, 0, 0) 2) (kn : k < 0) : ∀ (nn : Nat) (c : Nat), (C.1 (34, r, 0) 2) - c + 1 < (nn : Int) → ((c : Int) ≤ (C.1 (34, r, 0) 2)) → (∀ j : Nat, j < c → ¬ (C.1 (36, r, j) 1 = 0 ∧ strN C.1 r j = k)) → X mX9_reasonFact 29 [xR (50, 0, 0), xI i, xI n, xI t, xI q, xI k, xI r, xI (k - strN C.1 r c), xI (c : Int)] [] (hp S) 0 0 (pM S (fun kk z _T => (kk = S.1 (50, 0, 0) 25 ∧ z = premN C.1 r (wG (S.1 (74, 0, 0))) k (C.1 (34, r, 0) 2).toNat ∧ z ≠ -1) ∨ (kk = 3 ∧ premN C.1 r (wG (S.1 (74, 0, 0))) k (C.1 (34, r, 0) 2).toNat = -1))) := by
  intro nn
  induction nn with
  | zero => intro c hm hc hno; exfalso; omega
  | succ nn ih =>
    intro c hm hc hno
    have c4 := wf4_2 hC.1
    have c34 := wf34_2 hC.1 r0 (show r < 10 by omega)
    have hR : RuleOk C.1 r := by obtain ⟨r2, rfl⟩ := Int.eq_ofNat_of_zero_le r0; exact (hC.2.1 r2 r1).1
    obtain ⟨-, -, -, q4, -, q6, -⟩ := hM.2.2.1 r r0 r1
    have hz := hw.1
    have zk2 := zk
    unfold zR at zk2
    have sl := strN_le C.1 r c
    have gw := wG_in (g := S.1 (74, 0, 0)) (fun k => wfa74 hw k)
    refine x_iload dX9_reasonFact_29 rfl ?_
    refine x_if_lt (tgt := 106) dX9_reasonFact_31 (by decide) (by first | exact hz _ _ | exact hw.1 _ _ | exact zR_of _ | exact bI_z _ | assumption | exact ⟨by omega, by omega⟩) (fun c31 => ?_) (fun c31 => ?_)
    · refine x_aload_n dX9_reasonFact_106 rfl ?_
      refine x_iconst dX9_reasonFact_107 ?_
      refine x_iconst dX9_reasonFact_108 ?_
      refine x_callV_r (a := 0) (b := 0) (as := [xI 1, xI 3]) (rest := []) ok_X9_isThrown dX9_reasonFact_109 wd1215 ⟨wd1217, wd20⟩ (hp50 S) rfl rfl ((show X mX9_isThrown 0 (xEnt mX9_isThrown [xR (50, 0, 0), xI 1, xI 3]) [] (hp S) 0 0 (pRet (xI 1) (hp (putI S (50, 0, 0) 25 3))) from by have q := m_isThrown S hw 1 3 (by omega) (by omega); rw [if_neg (by decide)] at q; exact q)) rfl (Nat.le_of_ble_eq_true rfl) (Nat.le_of_ble_eq_true rfl) (by decide) (by omega) (by omega) ?_
      refine x_pop dX9_reasonFact_112 rfl ?_
      refine x_iconst dX9_reasonFact_113 ?_
      exact x_iret dX9_reasonFact_114 rfl (pM_thr (MdQ.rf S) hw (by omega) (Or.inr ⟨rfl, premN_none C.1 r _ k _ (fun j hj => hno j (by omega))⟩))
    · refine x_iload dX9_reasonFact_34 rfl ?_
      refine x_aload_n dX9_reasonFact_36 rfl ?_
      refine x_get (v := xR (64, 0, 0)) dX9_reasonFact_37 fl_RX9_55 (hp50 S) rfl ?_
      refine x_iload dX9_reasonFact_40 rfl ?_
      refine x_aldi (f := S.1 (64, 0, 0)) dX9_reasonFact_42 (hp64 S) (show (64 : Nat) ≠ 99 by decide) (by omega) (by omega) (by decide) ?_
      have f42_1 := wfa64 hw (S := S) r
      refine x_icmp_ge (tgt := 106) dX9_reasonFact_43 (by decide) (by first | exact hz _ _ | exact hw.1 _ _ | exact zR_of _ | exact bI_z _ | assumption | exact ⟨by omega, by omega⟩) (by first | exact hz _ _ | exact hw.1 _ _ | exact zR_of _ | exact bI_z _ | assumption | exact ⟨by omega, by omega⟩) (fun c43 => ?_) (fun c43 => ?_)
      · refine x_aload_n dX9_reasonFact_106 rfl ?_
        refine x_iconst dX9_reasonFact_107 ?_
        refine x_iconst dX9_reasonFact_108 ?_
        refine x_callV_r (a := 0) (b := 0) (as := [xI 1, xI 3]) (rest := []) ok_X9_isThrown dX9_reasonFact_109 wd1215 ⟨wd1217, wd20⟩ (hp50 S) rfl rfl ((show X mX9_isThrown 0 (xEnt mX9_isThrown [xR (50, 0, 0), xI 1, xI 3]) [] (hp S) 0 0 (pRet (xI 1) (hp (putI S (50, 0, 0) 25 3))) from by have q := m_isThrown S hw 1 3 (by omega) (by omega); rw [if_neg (by decide)] at q; exact q)) rfl (Nat.le_of_ble_eq_true rfl) (Nat.le_of_ble_eq_true rfl) (by decide) (by omega) (by omega) ?_
        refine x_pop dX9_reasonFact_112 rfl ?_
        refine x_iconst dX9_reasonFact_113 ?_
        exact x_iret dX9_reasonFact_114 rfl (pM_thr (MdQ.rf S) hw (by omega) (Or.inr ⟨rfl, premN_none C.1 r _ k _ (fun j hj => hno j (by omega))⟩))
      · obtain ⟨u1, u2, u3, u4⟩ := q6 (c : Int) (by omega) (by omega)
        refine x_aload_n dX9_reasonFact_46 rfl ?_
        refine x_get (v := xR (65, 0, 0)) dX9_reasonFact_47 fl_RX9_58 (hp50 S) rfl ?_
        refine x_iconst dX9_reasonFact_50 ?_
        refine x_iload dX9_reasonFact_51 rfl ?_
        refine x_imul dX9_reasonFact_53 ?_
        refine x_iload dX9_reasonFact_54 rfl ?_
        refine x_iadd dX9_reasonFact_56 ?_
        refine x_aldz (f := S.1 (65, 0, 0)) dX9_reasonFact_57 (hp65 S) (show (65 : Nat) ≠ 99 by decide) (by omega) (by omega) (by decide) ?_
        have f57_2 := wfa65 hw (S := S) ((3 * r) + (c : Int))
        refine x_if_ne (tgt := 75) dX9_reasonFact_58 (by decide) (by first | exact hz _ _ | exact hw.1 _ _ | exact zR_of _ | exact bI_z _ | assumption | exact ⟨by omega, by omega⟩) (fun c58 => ?_) (fun c58 => ?_)
        · refine x_iload dX9_reasonFact_75 rfl ?_
          refine x_aload_n dX9_reasonFact_77 rfl ?_
          refine x_get (v := xR (65, 0, 0)) dX9_reasonFact_78 fl_RX9_58 (hp50 S) rfl ?_
          refine x_iconst dX9_reasonFact_81 ?_
          refine x_iload dX9_reasonFact_82 rfl ?_
          refine x_imul dX9_reasonFact_84 ?_
          refine x_iload dX9_reasonFact_85 rfl ?_
          refine x_iadd dX9_reasonFact_87 ?_
          refine x_aldz (f := S.1 (65, 0, 0)) dX9_reasonFact_88 (hp65 S) (show (65 : Nat) ≠ 99 by decide) (by omega) (by omega) (by decide) ?_
          have f88_3 := wfa65 hw (S := S) ((3 * r) + (c : Int))
          refine x_if_eq (tgt := 96) dX9_reasonFact_89 (by decide) (by first | exact hz _ _ | exact hw.1 _ _ | exact zR_of _ | exact bI_z _ | assumption | exact ⟨by omega, by omega⟩) (fun c89 => ?_) (fun c89 => ?_)
          · refine x_iconst dX9_reasonFact_96 ?_
            refine x_isub dX9_reasonFact_97 ?_
            refine x_istore (L' := [xR (50, 0, 0), xI i, xI n, xI t, xI q, xI k, xI r, xI ((k - strN C.1 r c) - 1), xI (c : Int)]) dX9_reasonFact_98 (by decide) rfl ?_
            refine x_iinc (L' := [xR (50, 0, 0), xI i, xI n, xI t, xI q, xI k, xI r, xI ((k - strN C.1 r c) - 1), xI ((c : Int) + 1)]) dX9_reasonFact_100 rfl rfl ?_
            refine x_goto (tgt := 29) dX9_reasonFact_103 (by decide) ?_
            first
              | (exfalso; omega)
              | (have kk := ih (c + 1) (by omega) (by omega) (fun j hj => by rcases Nat.lt_or_eq_of_le (show j ≤ c by omega) with y | y; exact hno j y; rw [y]; omega); rw [show k - strN C.1 r (c + 1) = (k - strN C.1 r c) - 1 from by simp only [strN]; split <;> omega] at kk; exact kk)
          · refine x_iconst dX9_reasonFact_92 ?_
            refine x_goto (tgt := 97) dX9_reasonFact_93 (by decide) ?_
            refine x_isub dX9_reasonFact_97 ?_
            refine x_istore (L' := [xR (50, 0, 0), xI i, xI n, xI t, xI q, xI k, xI r, xI ((k - strN C.1 r c) - 0), xI (c : Int)]) dX9_reasonFact_98 (by decide) rfl ?_
            refine x_iinc (L' := [xR (50, 0, 0), xI i, xI n, xI t, xI q, xI k, xI r, xI ((k - strN C.1 r c) - 0), xI ((c : Int) + 1)]) dX9_reasonFact_100 rfl rfl ?_
            refine x_goto (tgt := 29) dX9_reasonFact_103 (by decide) ?_
            first
              | (exfalso; omega)
              | (have kk := ih (c + 1) (by omega) (by omega) (fun j hj => by rcases Nat.lt_or_eq_of_le (show j ≤ c by omega) with y | y; exact hno j y; rw [y]; omega); rw [show k - strN C.1 r (c + 1) = (k - strN C.1 r c) - 0 from by simp only [strN]; split <;> omega] at kk; exact kk)
        · refine x_iload dX9_reasonFact_61 rfl ?_
          refine x_if_ne_nz (tgt := 75) dX9_reasonFact_63 (by decide) (zI_nz (by omega) (by omega)) ?_
          refine x_iload dX9_reasonFact_75 rfl ?_
          refine x_aload_n dX9_reasonFact_77 rfl ?_
          refine x_get (v := xR (65, 0, 0)) dX9_reasonFact_78 fl_RX9_58 (hp50 S) rfl ?_
          refine x_iconst dX9_reasonFact_81 ?_
          refine x_iload dX9_reasonFact_82 rfl ?_
          refine x_imul dX9_reasonFact_84 ?_
          refine x_iload dX9_reasonFact_85 rfl ?_
          refine x_iadd dX9_reasonFact_87 ?_
          refine x_aldz (f := S.1 (65, 0, 0)) dX9_reasonFact_88 (hp65 S) (show (65 : Nat) ≠ 99 by decide) (by omega) (by omega) (by decide) ?_
          have f88_4 := wfa65 hw (S := S) ((3 * r) + (c : Int))
          refine x_if_eq (tgt := 96) dX9_reasonFact_89 (by decide) (by first | exact hz _ _ | exact hw.1 _ _ | exact zR_of _ | exact bI_z _ | assumption | exact ⟨by omega, by omega⟩) (fun c89 => ?_) (fun c89 => ?_)
          · refine x_iconst dX9_reasonFact_96 ?_
            refine x_isub dX9_reasonFact_97 ?_
            refine x_istore (L' := [xR (50, 0, 0), xI i, xI n, xI t, xI q, xI k, xI r, xI ((k - strN C.1 r c) - 1), xI (c : Int)]) dX9_reasonFact_98 (by decide) rfl ?_
            refine x_iinc (L' := [xR (50, 0, 0), xI i, xI n, xI t, xI q, xI k, xI r, xI ((k - strN C.1 r c) - 1), xI ((c : Int) + 1)]) dX9_reasonFact_100 rfl rfl ?_
            refine x_goto (tgt := 29) dX9_reasonFact_103 (by decide) ?_
            first
              | (exfalso; omega)
              | (have kk := ih (c + 1) (by omega) (by omega) (fun j hj => by rcases Nat.lt_or_eq_of_le (show j ≤ c by omega) with y | y; exact hno j y; rw [y]; omega); rw [show k - strN C.1 r (c + 1) = (k - strN C.1 r c) - 1 from by simp only [strN]; split <;> omega] at kk; exact kk)
          · refine x_iconst dX9_reasonFact_92 ?_
            refine x_goto (tgt := 97) dX9_reasonFact_93 (by decide) ?_
            refine x_isub dX9_reasonFact_97 ?_
            refine x_istore (L' := [xR (50, 0, 0), xI i, xI n, xI t, xI q, xI k, xI r, xI ((k - strN C.1 r c) - 0), xI (c : Int)]) dX9_reasonFact_98 (by decide) rfl ?_
            refine x_iinc (L' := [xR (50, 0, 0), xI i, xI n, xI t, xI q, xI k, xI r, xI ((k - strN C.1 r c) - 0), xI ((c : Int) + 1)]) dX9_reasonFact_100 rfl rfl ?_
            refine x_goto (tgt := 29) dX9_reasonFact_103 (by decide) ?_
            first
              | (exfalso; omega)
              | (have kk := ih (c + 1) (by omega) (by omega) (fun j hj => by rcases Nat.lt_or_eq_of_le (show j ≤ c by omega) with y | y; exact hno j y; rw [y]; omega); rw [show k - strN C.1 r (c + 1) = (k - strN C.1 r c) - 0 from by simp only [strN]; split <;> omega] at kk; exact kk)
set_option maxHeartbeats 4000000 in
set_option maxRecDepth 100000 in
theorem l9_rf0 (C S : XS) (hC : CB C) (hw : WI S) (hM : MR C S) (i n t q k : Int) : X mX9_reasonFact 29 [xR (50, 0, 0), xI i, xI n, xI t, xI q, xI k, xI (-1), xI k, xI 0] [] (hp S) 0 0 (pM S (fun kk z _T => kk = 3 ∧ z = 0)) := by
  refine x_iload dX9_reasonFact_29 rfl ?_
  refine x_if_lt (tgt := 106) dX9_reasonFact_31 (by decide) ⟨by decide, by decide⟩ (fun _ => ?_) (fun z => absurd z (by decide))
  refine x_aload_n dX9_reasonFact_106 rfl ?_
  refine x_iconst dX9_reasonFact_107 ?_
  refine x_iconst dX9_reasonFact_108 ?_
  refine x_callV_r (a := 0) (b := 0) (as := [xI 1, xI 3]) (rest := []) ok_X9_isThrown dX9_reasonFact_109 wd1215 ⟨wd1217, wd20⟩ (hp50 S) rfl rfl ((show X mX9_isThrown 0 (xEnt mX9_isThrown [xR (50, 0, 0), xI 1, xI 3]) [] (hp S) 0 0 (pRet (xI 1) (hp (putI S (50, 0, 0) 25 3))) from by have q := m_isThrown S hw 1 3 (by omega) (by omega); rw [if_neg (by decide)] at q; exact q)) rfl (Nat.le_of_ble_eq_true rfl) (Nat.le_of_ble_eq_true rfl) (by decide) (by omega) (by omega) ?_
  refine x_pop dX9_reasonFact_112 rfl ?_
  refine x_iconst dX9_reasonFact_113 ?_
  exact x_iret dX9_reasonFact_114 rfl (pM_thr (MdQ.rf S) hw (by omega) ⟨rfl, rfl⟩)
set_option maxHeartbeats 4000000 in
set_option maxRecDepth 100000 in
theorem m_reasonFact (C S : XS) (hC : CB C) (hw : WI S) (hM : MR C S) (i n t q k : Int) (zi : zR i) (zn : zR n) (zt : zR t) (zq : zR q) (zk : zR k) : X mX9_reasonFact 0 (xEnt mX9_reasonFact [xR (50, 0, 0), xI i, xI n, xI t, xI q, xI k]) [] (hp S) 0 0 (pM S (fun kk z _T => (z = 0 ∧ ((kk = 1 ∧ ¬ ((0 ≤ i ∧ i < C.1 (0, 0, 0) 6) ∧ 0 ≤ n ∧ n < C.1 (9, i, 0) 3 + 1)) ∨ (kk = 2 ∧ ((0 ≤ i ∧ i < C.1 (0, 0, 0) 6) ∧ 0 ≤ n ∧ n < C.1 (9, i, 0) 3 + 1) ∧ ¬ ((0 ≤ t ∧ t < 24) ∧ 0 ≤ q ∧ q < 384)) ∨ (kk = 3 ∧ ((0 ≤ i ∧ i < C.1 (0, 0, 0) 6) ∧ 0 ≤ n ∧ n < C.1 (9, i, 0) 3 + 1) ∧ ((0 ≤ t ∧ t < 24) ∧ 0 ≤ q ∧ q < 384) ∧ ¬ (bI (hB C.1 i n.toNat t q) = 1)))) ∨ (((0 ≤ i ∧ i < C.1 (0, 0, 0) 6) ∧ 0 ≤ n ∧ n < C.1 (9, i, 0) 3 + 1) ∧ ((0 ≤ t ∧ t < 24) ∧ 0 ≤ q ∧ q < 384) ∧ (bI (hB C.1 i n.toNat t q) = 1) ∧ ∃ rk r w, FinR C i n.toNat t rk ∧ BeV C i n.toNat t rk q r w ∧ ((kk = 0 ∧ z = pvN C.1 r w k ∧ z ≠ -1) ∨ (kk = 3 ∧ pvN C.1 r w k = -1))))) := by
  have c6 := wf0_6 hC.1
  have c4 := wf4_2 hC.1
  have h93 : 0 ≤ i → i < C.1 (0, 0, 0) 6 → 0 ≤ C.1 (9, i, 0) 3 ∧ C.1 (9, i, 0) 3 ≤ 60 := fun a b => wf9_3 hC.1 a (by omega)
  obtain ⟨n11, n12, n13, n24⟩ := hM.2.1
  have hz := hw.1
  show X mX9_reasonFact 0 [xR (50, 0, 0), xI i, xI n, xI t, xI q, xI k, none, none, none] [] (hp S) 0 0 _
  refine x_aload_n dX9_reasonFact_0 rfl ?_
  refine x_iload_n dX9_reasonFact_1 rfl ?_
  refine x_iload_n dX9_reasonFact_2 rfl ?_
  refine x_iload_n dX9_reasonFact_3 rfl ?_
  refine x_iload dX9_reasonFact_4 rfl ?_
  refine x_callV (a := 0) (b := 0) (as := [xI i, xI n, xI t, xI q]) (rest := []) ok_X9_isNot dX9_reasonFact_6 wd1368 ⟨wd1370, wd42⟩ (hp50 S) rfl rfl (m_isNot C S hC hw (hM.q (MdQ.rf S)) i n t q (by first | exact hz _ _ | exact hw.1 _ _ | exact zR_of _ | exact bI_z _ | assumption | exact ⟨by omega, by omega⟩) (by first | exact hz _ _ | exact hw.1 _ _ | exact zR_of _ | exact bI_z _ | assumption | exact ⟨by omega, by omega⟩) (by first | exact hz _ _ | exact hw.1 _ _ | exact zR_of _ | exact bI_z _ | assumption | exact ⟨by omega, by omega⟩) (by first | exact hz _ _ | exact hw.1 _ _ | exact zR_of _ | exact bI_z _ | assumption | exact ⟨by omega, by omega⟩)) rfl (Nat.le_of_ble_eq_true rfl) (Nat.le_of_ble_eq_true rfl) (by decide) (by omega) (by omega) (fun _ q => by obtain ⟨_, _, _, y, _⟩ := q; cases y) (fun _ _ q => ?_) (fun _ _ q => by obtain ⟨_, _, _, y, _⟩ := q; cases y)
  obtain ⟨U1, z1, rfl, y1, qU1, wU1, hU1⟩ := q
  cases y1
  have sU1 := (MdQ.rf S).tr qU1
  rcases hU1 with ⟨rfl, hU1⟩ | ⟨rfl, kU1, bkU1, hfU1, hbU1, fU1, oU1⟩
  · refine x_if_eq (tgt := 14) dX9_reasonFact_9 (by decide) ⟨by decide, by decide⟩ (fun z => absurd z (by decide)) (fun _ => ?_)
    refine x_iconst dX9_reasonFact_12 ?_
    exact x_iret dX9_reasonFact_13 rfl (pM_of sU1 wU1 (Or.inl ⟨rfl, by omega⟩))
  · refine x_if_eq (tgt := 14) dX9_reasonFact_9 (by decide) ⟨by decide, by decide⟩ (fun _ => ?_) (fun z => absurd z (by decide))
    have k93 := h93 (by omega) (by omega)
    refine x_aload_n dX9_reasonFact_14 rfl ?_
    refine x_iload dX9_reasonFact_15 rfl ?_
    refine x_callV (a := 0) (b := 0) (as := [xI q]) (rest := []) ok_X9_because dX9_reasonFact_17 wd1388 ⟨wd1390, wd43⟩ (hp50 U1) rfl rfl (m_because C U1 hC wU1 (hM.q sU1).2.2.1 (hM.q sU1).2.1 i (by omega) (by omega) n.toNat (by omega) t fU1 oU1 q (by omega) (by omega) (by have := (fU1.hb hC (show 0 ≤ i by omega) (by omega) (show (n.toNat : Int) ≤ C.1 (9, i, 0) 3 by omega) (q := q) (by omega) (by omega)).1.mpr (bI_1.mp (by omega)); omega)) rfl (Nat.le_of_ble_eq_true rfl) (Nat.le_of_ble_eq_true rfl) (by decide) (by omega) (by omega) (fun _ q => by obtain ⟨_, _, _, y, _⟩ := q; cases y) (fun _ _ q => ?_) (fun _ _ q => by obtain ⟨_, _, _, y, _⟩ := q; cases y)
    obtain ⟨U2, z2, rfl, y2, rU2, eU2, wU2, vU2⟩ := q
    cases y2
    have sU2 := sU1.tr (eU2.md rfl)
    have kU2 := congrFun (eU2.1 (50, 0, 0) (by decide)) 25
    have gU2 := eU2.1 (73, 0, 0) (by decide)
    rw [← gU2] at vU2
    refine x_istore (L' := [xR (50, 0, 0), xI i, xI n, xI t, xI q, xI k, xI z2, none, none]) dX9_reasonFact_20 (by decide) rfl ?_
    refine x_iload dX9_reasonFact_22 rfl ?_
    refine x_istore (L' := [xR (50, 0, 0), xI i, xI n, xI t, xI q, xI k, xI z2, xI k, none]) dX9_reasonFact_24 (by decide) rfl ?_
    refine x_iconst dX9_reasonFact_26 ?_
    refine x_istore (L' := [xR (50, 0, 0), xI i, xI n, xI t, xI q, xI k, xI z2, xI k, xI 0]) dX9_reasonFact_27 (by decide) rfl ?_
    have e0 : ∀ x : Int, x - 0 = x := Int.sub_zero
    by_cases z0 : 0 ≤ z2
    · have pe : pvN C.1 z2 (wG (U2.1 (74, 0, 0))) k = premN C.1 z2 (wG (U2.1 (74, 0, 0))) k (C.1 (34, z2, 0) 2).toNat := if_pos z0
      have c4 := wf4_2 hC.1
      have c34 := wf34_2 hC.1 z0 (show z2 < 10 by omega)
      have kk : X mX9_reasonFact 29 [xR (50, 0, 0), xI i, xI n, xI t, xI q, xI k, xI z2, xI k, xI 0] [] (hp U2) 0 0 (pM U2 (fun kk z _T => (kk = U2.1 (50, 0, 0) 25 ∧ z = premN C.1 z2 (wG (U2.1 (74, 0, 0))) k (C.1 (34, z2, 0) 2).toNat ∧ z ≠ -1) ∨ (kk = 3 ∧ premN C.1 z2 (wG (U2.1 (74, 0, 0))) k (C.1 (34, z2, 0) 2).toNat = -1))) := by
        by_cases kz : 0 ≤ k
        · have y := l9_rf C U2 hC wU2 (hM.q sU2) i n t q k zk z2 z0 (by omega) kz 6 0 (by omega) (by omega) (fun j hj => by omega)
          rw [show k - strN C.1 z2 0 = k from Int.sub_zero k] at y
          exact y
        · have y := l9_rfN C U2 hC wU2 (hM.q sU2) i n t q k zk z2 z0 (by omega) (by omega) 6 0 (by omega) (by omega) (fun j hj => by omega)
          rw [show k - strN C.1 z2 0 = k from Int.sub_zero k] at y
          exact y
      refine X.weak kk (Nat.le_refl _) (Nat.le_refl _) (fun o h' q => ?_)
      obtain ⟨T, z, rfl, rfl, qT, wT, hT⟩ := q
      exact pM_of (sU2.tr qT) wT (Or.inr ⟨by omega, by omega, by omega, U2.1 (73, 0, 0), z2, wG (U2.1 (74, 0, 0)), by rw [gU2]; exact fU1, vU2, by rw [pe]; omega⟩)
    · have z1 : z2 = -1 := by omega
      rw [z1]
      have kk := l9_rf0 C U2 hC wU2 (hM.q sU2) i n t q k
      refine X.weak kk (Nat.le_refl _) (Nat.le_refl _) (fun o h' q => ?_)
      obtain ⟨T, z, rfl, rfl, qT, wT, hT⟩ := q
      exact pM_of (sU2.tr qT) wT (Or.inr ⟨by omega, by omega, by omega, U2.1 (73, 0, 0), z2, wG (U2.1 (74, 0, 0)), by rw [gU2]; exact fU1, vU2, by rw [show pvN C.1 z2 (wG (U2.1 (74, 0, 0))) k = -1 from if_neg z0]; omega⟩)
