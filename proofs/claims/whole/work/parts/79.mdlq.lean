/-! the reference: addCondition, shares, means -/
/-- as pM, of any value -/
def pMx (S : XS) (P : Int → XV → XS → Prop) : XO → XH → Prop := fun o h' => ∃ T v, h' = hp T ∧ o = .inl (some v) ∧ MdQ S T ∧ WI T ∧ P (T.1 (50, 0, 0) 25) v T
/-- the ranks of all facts that hold, together -/
def msN (rk : Int → Int) : Nat → Int
  | 0 => 0
  | k + 1 => if rk k < 9999 then msN rk k + rk k else msN rk k
theorem msN_t {rk : Int → Int} {k : Nat} (h : rk k < 9999) : msN rk (k + 1) = msN rk k + rk k := if_pos h
theorem msN_f {rk : Int → Int} {k : Nat} (h : ¬ rk k < 9999) : msN rk (k + 1) = msN rk k := if_neg h
set_option maxHeartbeats 4000000 in
set_option maxRecDepth 100000 in
theorem l9_addCond (S : XS) (hw : WI S) (r n c u v z : Int) (r0 : 0 ≤ r) (r1 : r < 10) (hn : S.1 (64, 0, 0) r = n) (n0 : 0 ≤ n) (n1 : n < 3) (hc : 0 ≤ c ∧ c < 6) (hu : 0 ≤ u ∧ u ≤ 2) (hv : 0 ≤ v ∧ v ≤ 2) (hz1 : z = 0 ∨ z = 1) : X mX9_addCondition 69 [xR (50, 0, 0), xI r, xI c, xI u, xI v, xI z] [] (hp S) 0 0 (pRet (xI (n + 1)) (hp (sAdd S r n c u v z))) := by
  have hz := hw.1
  refine x_aload_n dX9_addCondition_69 rfl ?_
  refine x_iload_n dX9_addCondition_70 rfl ?_
  refine x_iload_n dX9_addCondition_71 rfl ?_
  refine x_iload_n dX9_addCondition_72 rfl ?_
  refine x_iload dX9_addCondition_73 rfl ?_
  refine x_iload dX9_addCondition_75 rfl ?_
  refine x_callV_r (a := 0) (b := 0) (as := [xI r, xI c, xI u, xI v, xI z]) (rest := []) ok_X9_adds dX9_addCondition_77 wd1307 ⟨wd1309, wd36⟩ (hp50 S) rfl rfl (m_adds S hw r n c u v z (by omega) (by omega) hn (by omega) (by omega) (by omega) (by omega) (by omega) hz1) rfl (Nat.le_of_ble_eq_true rfl) (Nat.le_of_ble_eq_true rfl) (by decide) (by omega) (by omega) ?_
  exact x_iret dX9_addCondition_80 rfl (pRI rfl)
set_option maxHeartbeats 4000000 in
set_option maxRecDepth 100000 in
theorem m_addCondition (C S : XS) (hC : CB C) (hw : WI S) (hM : MR C S) (r c u v : Int) (zr : zR r) (zc : zR c) (zu : zR u) (zv : zR v) (z : Int) (hz1 : z = 0 ∨ z = 1) : X mX9_addCondition 0 (xEnt mX9_addCondition [xR (50, 0, 0), xI r, xI c, xI u, xI v, xI z]) [] (hp S) 0 0 (pMu S (fun k z => z = 0 ∧ ((k = 1 ∧ ¬ (0 ≤ r ∧ r < C.1 (4, 0, 0) 2)) ∨ (k = 2 ∧ (0 ≤ r ∧ r < C.1 (4, 0, 0) 2) ∧ ¬ ((0 ≤ c ∧ c < 6) ∧ (0 ≤ u ∧ u < 3) ∧ (0 ≤ v ∧ v < 3))) ∨ (k = 3 ∧ (0 ≤ r ∧ r < C.1 (4, 0, 0) 2) ∧ ((0 ≤ c ∧ c < 6) ∧ (0 ≤ u ∧ u < 3) ∧ (0 ≤ v ∧ v < 3)) ∧ ¬ (C.1 (34, r, 0) 5 = 0 ∧ C.1 (34, r, 0) 2 < 3)))) ((0 ≤ r ∧ r < C.1 (4, 0, 0) 2) ∧ ((0 ≤ c ∧ c < 6) ∧ (0 ≤ u ∧ u < 3) ∧ (0 ≤ v ∧ v < 3)) ∧ (C.1 (34, r, 0) 5 = 0 ∧ C.1 (34, r, 0) 2 < 3)) (C.1 (34, r, 0) 2 + 1) (fun U => sAdd U r (C.1 (34, r, 0) 2) c u v z)) := by
  have c6 := wf0_6 hC.1
  have c4 := wf4_2 hC.1
  obtain ⟨n11, n12, n13, n24⟩ := hM.2.1
  have hz := hw.1
  show X mX9_addCondition 0 [xR (50, 0, 0), xI r, xI c, xI u, xI v, xI z] [] (hp S) 0 0 _
  refine x_aload_n dX9_addCondition_0 rfl ?_
  refine x_iload_n dX9_addCondition_1 rfl ?_
  refine x_aload_n dX9_addCondition_2 rfl ?_
  refine x_get (v := xI (S.1 (50, 0, 0) 12)) dX9_addCondition_3 fl_RX9_111 (hp50 S) rfl ?_
  have f3_1 := wf50_12 hw (S := S)
  refine x_callV (a := 0) (b := 0) (as := [xI r, xI (S.1 (50, 0, 0) 12)]) (rest := []) ok_X9_isNo dX9_addCondition_6 wd1208 ⟨wd1210, wd19⟩ (hp50 S) rfl rfl (m_isNoR S hw r (S.1 (50, 0, 0) 12) (by first | exact hz _ _ | exact hw.1 _ _ | exact zR_of _ | exact bI_z _ | assumption | exact ⟨by omega, by omega⟩) (by first | exact hz _ _ | exact hw.1 _ _ | exact zR_of _ | exact bI_z _ | assumption | exact ⟨by omega, by omega⟩) (by omega) (by omega)) rfl (Nat.le_of_ble_eq_true rfl) (Nat.le_of_ble_eq_true rfl) (by decide) (by omega) (by omega) (fun _ q => by obtain ⟨_, _, _, y, _⟩ := q; cases y) (fun _ _ q => ?_) (fun _ _ q => by obtain ⟨_, _, _, y, _⟩ := q; cases y)
  obtain ⟨U1, z1, rfl, y1, qU1, wU1, hU1⟩ := q
  cases y1
  have sU1 := (MdQ.rf S).tr qU1
  rcases hU1 with ⟨rfl, hU1⟩ | ⟨rfl, hU1⟩
  · refine x_if_ne (tgt := 67) dX9_addCondition_9 (by decide) ⟨by decide, by decide⟩ (fun _ => ?_) (fun z => absurd z (by decide))
    refine x_iconst dX9_addCondition_67 ?_
    exact x_iret dX9_addCondition_68 rfl (Or.inl (pM_of sU1 wU1 (by omega)))
  · refine x_if_ne (tgt := 67) dX9_addCondition_9 (by decide) ⟨by decide, by decide⟩ (fun z => absurd z (by decide)) (fun _ => ?_)
    refine x_aload_n dX9_addCondition_12 rfl ?_
    refine x_iload_n dX9_addCondition_13 rfl ?_
    refine x_iload_n dX9_addCondition_14 rfl ?_
    refine x_iload dX9_addCondition_15 rfl ?_
    refine x_callS_r (a := 0) (b := 0) (as := [xI c, xI u, xI v]) (rest := [xR (50, 0, 0)]) ok_X9_isPart dX9_addCondition_17 wd1304 wd1305 (m_isPart U1 c u v (by first | exact hz _ _ | exact hw.1 _ _ | exact zR_of _ | exact bI_z _ | assumption | exact ⟨by omega, by omega⟩) (by first | exact hz _ _ | exact hw.1 _ _ | exact zR_of _ | exact bI_z _ | assumption | exact ⟨by omega, by omega⟩) (by first | exact hz _ _ | exact hw.1 _ _ | exact zR_of _ | exact bI_z _ | assumption | exact ⟨by omega, by omega⟩)) rfl (Nat.le_of_ble_eq_true rfl) (Nat.le_of_ble_eq_true rfl) (by decide) (by omega) (by omega) ?_
    by_cases b17 : (0 ≤ c ∧ c < 6) ∧ (0 ≤ u ∧ u ≤ 2) ∧ 0 ≤ v ∧ v ≤ 2
    · refine x_top (bI_t b17) ?_
      refine x_if_ne (tgt := 27) dX9_addCondition_20 (by decide) ⟨by decide, by decide⟩ (fun _ => ?_) (fun z => absurd z (by decide))
      refine x_iconst dX9_addCondition_27 ?_
      refine x_iconst dX9_addCondition_28 ?_
      refine x_callV_r (a := 0) (b := 0) (as := [xI 0, xI 2]) (rest := []) ok_X9_isThrown dX9_addCondition_29 wd1215 ⟨wd1217, wd20⟩ (hp50 U1) rfl rfl ((show X mX9_isThrown 0 (xEnt mX9_isThrown [xR (50, 0, 0), xI 0, xI 2]) [] (hp U1) 0 0 (pRet (xI 0) (hp (putI U1 (50, 0, 0) 25 0))) from by have q := m_isThrown U1 wU1 0 2 (by omega) (by omega); rw [if_pos rfl] at q; exact q)) rfl (Nat.le_of_ble_eq_true rfl) (Nat.le_of_ble_eq_true rfl) (by decide) (by omega) (by omega) ?_
      refine x_if_ne (tgt := 67) dX9_addCondition_32 (by decide) ⟨by decide, by decide⟩ (fun z => absurd z (by decide)) (fun _ => ?_)
      obtain ⟨-, -, -, q4, q5, -, -⟩ := (hM.q sU1).2.2.1 r (by omega) (by omega)
      have c34 := wf34_2 hC.1 (b := r) (by omega) (by omega)
      have b34 := wf34_5 hC.1 (b := r) (by omega) (by omega)
      refine x_aload_n dX9_addCondition_35 rfl ?_
      refine x_aload_n dX9_addCondition_36 rfl ?_
      refine x_get (v := xR (66, 0, 0)) dX9_addCondition_37 fl_RX9_61 (hp50 (putI U1 (50, 0, 0) 25 0)) rfl ?_
      refine x_iload_n dX9_addCondition_40 rfl ?_
      refine x_aldz (f := U1.1 (66, 0, 0)) dX9_addCondition_41 (hp66 (putI U1 (50, 0, 0) 25 0)) (show (66 : Nat) ≠ 99 by decide) (by omega) (by omega) (by decide) ?_
      have f41_2 := wfa66 wU1 (S := U1) r
      refine x_if_ne (tgt := 55) dX9_addCondition_42 (by decide) (by first | exact hz _ _ | exact hw.1 _ _ | exact zR_of _ | exact bI_z _ | assumption | exact ⟨by omega, by omega⟩) (fun c42 => ?_) (fun c42 => ?_)
      · refine x_iconst dX9_addCondition_55 ?_
        refine x_goto (tgt := 60) dX9_addCondition_56 (by decide) ?_
        refine x_iconst dX9_addCondition_60 ?_
        refine x_callV_r (a := 0) (b := 0) (as := [xI 1, xI 3]) (rest := []) ok_X9_isThrown dX9_addCondition_61 wd1215 ⟨wd1217, wd20⟩ (hp50 (putI U1 (50, 0, 0) 25 0)) rfl rfl ((show X mX9_isThrown 0 (xEnt mX9_isThrown [xR (50, 0, 0), xI 1, xI 3]) [] (hp (putI U1 (50, 0, 0) 25 0)) 0 0 (pRet (xI 1) (hp (putI (putI U1 (50, 0, 0) 25 0) (50, 0, 0) 25 3))) from by have q := m_isThrown (putI U1 (50, 0, 0) 25 0) (wp50_25 wU1 (by omega)) 1 3 (by omega) (by omega); rw [if_neg (by decide)] at q; exact q)) rfl (Nat.le_of_ble_eq_true rfl) (Nat.le_of_ble_eq_true rfl) (by decide) (by omega) (by omega) ?_
        refine x_if_eq (tgt := 69) dX9_addCondition_64 (by decide) ⟨by decide, by decide⟩ (fun z => absurd z (by decide)) (fun _ => ?_)
        refine x_iconst dX9_addCondition_67 ?_
        exact x_iret dX9_addCondition_68 rfl (Or.inl (pM_thr (sU1.thr 0) (wp50_25 wU1 (by omega)) (by omega) (by omega)))
      · refine x_aload_n dX9_addCondition_45 rfl ?_
        refine x_get (v := xR (64, 0, 0)) dX9_addCondition_46 fl_RX9_55 (hp50 (putI U1 (50, 0, 0) 25 0)) rfl ?_
        refine x_iload_n dX9_addCondition_49 rfl ?_
        refine x_aldi (f := U1.1 (64, 0, 0)) dX9_addCondition_50 (hp64 (putI U1 (50, 0, 0) 25 0)) (show (64 : Nat) ≠ 99 by decide) (by omega) (by omega) (by decide) ?_
        have f50_3 := wfa64 wU1 (S := U1) r
        refine x_iconst dX9_addCondition_51 ?_
        refine x_icmp_ne (tgt := 59) dX9_addCondition_52 (by decide) (by first | exact hz _ _ | exact hw.1 _ _ | exact zR_of _ | exact bI_z _ | assumption | exact ⟨by omega, by omega⟩) ⟨by decide, by decide⟩ (fun c52 => ?_) (fun c52 => ?_)
        · refine x_iconst dX9_addCondition_59 ?_
          refine x_iconst dX9_addCondition_60 ?_
          refine x_callV_r (a := 0) (b := 0) (as := [xI 0, xI 3]) (rest := []) ok_X9_isThrown dX9_addCondition_61 wd1215 ⟨wd1217, wd20⟩ (hp50 (putI U1 (50, 0, 0) 25 0)) rfl rfl ((show X mX9_isThrown 0 (xEnt mX9_isThrown [xR (50, 0, 0), xI 0, xI 3]) [] (hp (putI U1 (50, 0, 0) 25 0)) 0 0 (pRet (xI 0) (hp (putI (putI U1 (50, 0, 0) 25 0) (50, 0, 0) 25 0))) from by have q := m_isThrown (putI U1 (50, 0, 0) 25 0) (wp50_25 wU1 (by omega)) 0 3 (by omega) (by omega); rw [if_pos rfl] at q; exact q)) rfl (Nat.le_of_ble_eq_true rfl) (Nat.le_of_ble_eq_true rfl) (by decide) (by omega) (by omega) ?_
          refine x_if_eq (tgt := 69) dX9_addCondition_64 (by decide) ⟨by decide, by decide⟩ (fun _ => ?_) (fun z => absurd z (by decide))
          refine X.weak (l9_addCond (putI (putI U1 (50, 0, 0) 25 0) (50, 0, 0) 25 0) (wp50_25 (wp50_25 wU1 (by omega)) (by omega)) r (C.1 (34, r, 0) 2) c u v z (by omega) (by omega) (by rw [putI_o (by decide), putI_o (by decide)]; exact q4) (by omega) (by omega) (by omega) (by omega) (by omega) hz1) (Nat.le_refl _) (Nat.le_refl _) (fun o h' q => ?_)
          obtain ⟨rfl, rfl⟩ := q
          exact Or.inr ⟨by omega, rfl, (putI (putI U1 (50, 0, 0) 25 0) (50, 0, 0) 25 0), ((sU1.thr 0).thr 0), (wp50_25 (wp50_25 wU1 (by omega)) (by omega)), by rw [putI_self], sAdd_wi (wp50_25 (wp50_25 wU1 (by omega)) (by omega)) (by omega) (by omega) (by omega) (by omega) hz1, rfl⟩
        · refine x_iconst dX9_addCondition_55 ?_
          refine x_goto (tgt := 60) dX9_addCondition_56 (by decide) ?_
          refine x_iconst dX9_addCondition_60 ?_
          refine x_callV_r (a := 0) (b := 0) (as := [xI 1, xI 3]) (rest := []) ok_X9_isThrown dX9_addCondition_61 wd1215 ⟨wd1217, wd20⟩ (hp50 (putI U1 (50, 0, 0) 25 0)) rfl rfl ((show X mX9_isThrown 0 (xEnt mX9_isThrown [xR (50, 0, 0), xI 1, xI 3]) [] (hp (putI U1 (50, 0, 0) 25 0)) 0 0 (pRet (xI 1) (hp (putI (putI U1 (50, 0, 0) 25 0) (50, 0, 0) 25 3))) from by have q := m_isThrown (putI U1 (50, 0, 0) 25 0) (wp50_25 wU1 (by omega)) 1 3 (by omega) (by omega); rw [if_neg (by decide)] at q; exact q)) rfl (Nat.le_of_ble_eq_true rfl) (Nat.le_of_ble_eq_true rfl) (by decide) (by omega) (by omega) ?_
          refine x_if_eq (tgt := 69) dX9_addCondition_64 (by decide) ⟨by decide, by decide⟩ (fun z => absurd z (by decide)) (fun _ => ?_)
          refine x_iconst dX9_addCondition_67 ?_
          exact x_iret dX9_addCondition_68 rfl (Or.inl (pM_thr (sU1.thr 0) (wp50_25 wU1 (by omega)) (by omega) (by omega)))
    · refine x_top (bI_f b17) ?_
      refine x_if_ne (tgt := 27) dX9_addCondition_20 (by decide) ⟨by decide, by decide⟩ (fun z => absurd z (by decide)) (fun _ => ?_)
      refine x_iconst dX9_addCondition_23 ?_
      refine x_goto (tgt := 28) dX9_addCondition_24 (by decide) ?_
      refine x_iconst dX9_addCondition_28 ?_
      refine x_callV_r (a := 0) (b := 0) (as := [xI 1, xI 2]) (rest := []) ok_X9_isThrown dX9_addCondition_29 wd1215 ⟨wd1217, wd20⟩ (hp50 U1) rfl rfl ((show X mX9_isThrown 0 (xEnt mX9_isThrown [xR (50, 0, 0), xI 1, xI 2]) [] (hp U1) 0 0 (pRet (xI 1) (hp (putI U1 (50, 0, 0) 25 2))) from by have q := m_isThrown U1 wU1 1 2 (by omega) (by omega); rw [if_neg (by decide)] at q; exact q)) rfl (Nat.le_of_ble_eq_true rfl) (Nat.le_of_ble_eq_true rfl) (by decide) (by omega) (by omega) ?_
      refine x_if_ne (tgt := 67) dX9_addCondition_32 (by decide) ⟨by decide, by decide⟩ (fun _ => ?_) (fun z => absurd z (by decide))
      refine x_iconst dX9_addCondition_67 ?_
      exact x_iret dX9_addCondition_68 rfl (Or.inl (pM_thr sU1 wU1 (by omega) (by omega)))
set_option maxHeartbeats 4000000 in
set_option maxRecDepth 100000 in
theorem l9_share0 (S : XS) (hw : WI S) (i t : Int) : X mX9_derivedShare 13 [xR (50, 0, 0), xI i, xI t, xI (-1), xI 0, xI 0] [] (hp S) 0 0 (pRet (xF 0) (hp S)) := by
  have hz := hw.1
  refine x_iload dX9_derivedShare_13 rfl ?_
  refine x_sipush (v := 384) dX9_derivedShare_15 (by decide) ?_
  refine x_icmp_ge (tgt := 64) dX9_derivedShare_18 (by decide) ⟨by decide, by decide⟩ ⟨by decide, by decide⟩ (fun z => absurd z (by decide)) (fun _ => ?_)
  refine x_iload_n dX9_derivedShare_21 rfl ?_
  refine x_if_le (tgt := 64) dX9_derivedShare_22 (by decide) ⟨by decide, by decide⟩ (fun _ => ?_) (fun z => absurd z (by decide))
  refine x_iload_n dX9_derivedShare_64 rfl ?_
  refine x_if_ge (tgt := 72) dX9_derivedShare_65 (by decide) ⟨by decide, by decide⟩ (fun z => absurd z (by decide)) (fun _ => ?_)
  refine x_fconst0 dX9_derivedShare_68 ?_
  refine x_goto (tgt := 78) dX9_derivedShare_69 (by decide) ?_
  exact x_fret dX9_derivedShare_78 rfl ⟨rfl, rfl⟩
set_option maxHeartbeats 4000000 in
set_option maxRecDepth 100000 in
theorem l9_share (S : XS) (hw : WI S) (i t A : Int) (a0 : 1 ≤ A) (a1 : A ≤ 384) : ∀ (nn : Nat) (j : Nat), 385 - (j : Int) < (nn : Int) → (j ≤ 384) → X mX9_derivedShare 13 [xR (50, 0, 0), xI i, xI t, xI A, xI ((cntN (fun k : Nat => 0 < S.1 (73, 0, 0) k ∧ S.1 (73, 0, 0) k < 9999) j : Nat) : Int), xI (j : Int)] [] (hp S) 0 0 (pRet (xF (FP.fdiv (FP.i2f (zI ((cntN (fun k : Nat => 0 < S.1 (73, 0, 0) k ∧ S.1 (73, 0, 0) k < 9999) 384 : Nat) : Int))) (FP.i2f (zI A)))) (hp S)) := by
  intro nn
  induction nn with
  | zero => intro j hm hj; exfalso; omega
  | succ nn ih =>
    intro j hm hj
    have hz := hw.1
    have rj := wfa73 hw (j : Int)
    refine x_iload dX9_derivedShare_13 rfl ?_
    refine x_sipush (v := 384) dX9_derivedShare_15 (by decide) ?_
    refine x_icmp_ge (tgt := 64) dX9_derivedShare_18 (by decide) (by first | exact hz _ _ | exact hw.1 _ _ | exact zR_of _ | exact bI_z _ | assumption | exact ⟨by omega, by omega⟩) ⟨by decide, by decide⟩ (fun c18 => ?_) (fun c18 => ?_)
    · refine x_iload_n dX9_derivedShare_64 rfl ?_
      refine x_if_ge (tgt := 72) dX9_derivedShare_65 (by decide) (by first | exact hz _ _ | exact hw.1 _ _ | exact zR_of _ | exact bI_z _ | assumption | exact ⟨by omega, by omega⟩) (fun c65 => ?_) (fun c65 => by exfalso; omega)
      refine x_iload dX9_derivedShare_72 rfl ?_
      refine x_i2f dX9_derivedShare_74 ?_
      refine x_iload_n dX9_derivedShare_75 rfl ?_
      refine x_i2f dX9_derivedShare_76 ?_
      refine x_fdiv dX9_derivedShare_77 (share_n (by omega) (by omega)) ?_
      exact x_fret dX9_derivedShare_78 rfl ⟨by obtain rfl : j = 384 := (by omega); rfl, rfl⟩
    · refine x_iload_n dX9_derivedShare_21 rfl ?_
      refine x_if_le (tgt := 64) dX9_derivedShare_22 (by decide) (by first | exact hz _ _ | exact hw.1 _ _ | exact zR_of _ | exact bI_z _ | assumption | exact ⟨by omega, by omega⟩) (fun c22 => by exfalso; omega) (fun c22 => ?_)
      refine x_iload dX9_derivedShare_25 rfl ?_
      refine x_aload_n dX9_derivedShare_27 rfl ?_
      refine x_get (v := xR (73, 0, 0)) dX9_derivedShare_28 fl_RX9_87 (hp50 S) rfl ?_
      refine x_iload dX9_derivedShare_31 rfl ?_
      refine x_aldi (f := S.1 (73, 0, 0)) dX9_derivedShare_33 (hp73 S) (show (73 : Nat) ≠ 99 by decide) (by omega) (by omega) (by decide) ?_
      have f33_1 := wfa73 hw (S := S) (j : Int)
      refine x_if_le (tgt := 54) dX9_derivedShare_34 (by decide) (by first | exact hz _ _ | exact hw.1 _ _ | exact zR_of _ | exact bI_z _ | assumption | exact ⟨by omega, by omega⟩) (fun c34 => ?_) (fun c34 => ?_)
      · refine x_iconst dX9_derivedShare_54 ?_
        refine x_iadd dX9_derivedShare_55 ?_
        refine x_istore (L' := [xR (50, 0, 0), xI i, xI t, xI A, xI (((cntN (fun k : Nat => 0 < S.1 (73, 0, 0) k ∧ S.1 (73, 0, 0) k < 9999) j : Nat) : Int) + 0), xI (j : Int)]) dX9_derivedShare_56 (by decide) rfl ?_
        refine x_iinc (L' := [xR (50, 0, 0), xI i, xI t, xI A, xI (((cntN (fun k : Nat => 0 < S.1 (73, 0, 0) k ∧ S.1 (73, 0, 0) k < 9999) j : Nat) : Int) + 0), xI ((j : Int) + 1)]) dX9_derivedShare_58 rfl rfl ?_
        refine x_goto (tgt := 13) dX9_derivedShare_61 (by decide) ?_
        have kk := ih (j + 1) (by omega) (by omega)
        rw [cntN_f (P := fun k : Nat => 0 < S.1 (73, 0, 0) k ∧ S.1 (73, 0, 0) k < 9999) (fun z => by have := z.1; have := z.2; omega)] at kk
        rw [show ((cntN (fun k : Nat => 0 < S.1 (73, 0, 0) k ∧ S.1 (73, 0, 0) k < 9999) j : Nat) : Int) + 0 = ((cntN (fun k : Nat => 0 < S.1 (73, 0, 0) k ∧ S.1 (73, 0, 0) k < 9999) j : Nat) : Int) from Int.add_zero _]
        exact kk
      · refine x_aload_n dX9_derivedShare_37 rfl ?_
        refine x_get (v := xR (73, 0, 0)) dX9_derivedShare_38 fl_RX9_87 (hp50 S) rfl ?_
        refine x_iload dX9_derivedShare_41 rfl ?_
        refine x_aldi (f := S.1 (73, 0, 0)) dX9_derivedShare_43 (hp73 S) (show (73 : Nat) ≠ 99 by decide) (by omega) (by omega) (by decide) ?_
        have f43_2 := wfa73 hw (S := S) (j : Int)
        refine x_sipush (v := 9999) dX9_derivedShare_44 (by decide) ?_
        refine x_icmp_ge (tgt := 54) dX9_derivedShare_47 (by decide) (by first | exact hz _ _ | exact hw.1 _ _ | exact zR_of _ | exact bI_z _ | assumption | exact ⟨by omega, by omega⟩) ⟨by decide, by decide⟩ (fun c47 => ?_) (fun c47 => ?_)
        · refine x_iconst dX9_derivedShare_54 ?_
          refine x_iadd dX9_derivedShare_55 ?_
          refine x_istore (L' := [xR (50, 0, 0), xI i, xI t, xI A, xI (((cntN (fun k : Nat => 0 < S.1 (73, 0, 0) k ∧ S.1 (73, 0, 0) k < 9999) j : Nat) : Int) + 0), xI (j : Int)]) dX9_derivedShare_56 (by decide) rfl ?_
          refine x_iinc (L' := [xR (50, 0, 0), xI i, xI t, xI A, xI (((cntN (fun k : Nat => 0 < S.1 (73, 0, 0) k ∧ S.1 (73, 0, 0) k < 9999) j : Nat) : Int) + 0), xI ((j : Int) + 1)]) dX9_derivedShare_58 rfl rfl ?_
          refine x_goto (tgt := 13) dX9_derivedShare_61 (by decide) ?_
          have kk := ih (j + 1) (by omega) (by omega)
          rw [cntN_f (P := fun k : Nat => 0 < S.1 (73, 0, 0) k ∧ S.1 (73, 0, 0) k < 9999) (fun z => by have := z.1; have := z.2; omega)] at kk
          rw [show ((cntN (fun k : Nat => 0 < S.1 (73, 0, 0) k ∧ S.1 (73, 0, 0) k < 9999) j : Nat) : Int) + 0 = ((cntN (fun k : Nat => 0 < S.1 (73, 0, 0) k ∧ S.1 (73, 0, 0) k < 9999) j : Nat) : Int) from Int.add_zero _]
          exact kk
        · refine x_iconst dX9_derivedShare_50 ?_
          refine x_goto (tgt := 55) dX9_derivedShare_51 (by decide) ?_
          refine x_iadd dX9_derivedShare_55 ?_
          refine x_istore (L' := [xR (50, 0, 0), xI i, xI t, xI A, xI (((cntN (fun k : Nat => 0 < S.1 (73, 0, 0) k ∧ S.1 (73, 0, 0) k < 9999) j : Nat) : Int) + 1), xI (j : Int)]) dX9_derivedShare_56 (by decide) rfl ?_
          refine x_iinc (L' := [xR (50, 0, 0), xI i, xI t, xI A, xI (((cntN (fun k : Nat => 0 < S.1 (73, 0, 0) k ∧ S.1 (73, 0, 0) k < 9999) j : Nat) : Int) + 1), xI ((j : Int) + 1)]) dX9_derivedShare_58 rfl rfl ?_
          refine x_goto (tgt := 13) dX9_derivedShare_61 (by decide) ?_
          have kk := ih (j + 1) (by omega) (by omega)
          rw [cntN_t (P := fun k : Nat => 0 < S.1 (73, 0, 0) k ∧ S.1 (73, 0, 0) k < 9999) ⟨by omega, by omega⟩] at kk
          exact kk
set_option maxHeartbeats 4000000 in
set_option maxRecDepth 100000 in
theorem m_derivedShare (C S : XS) (hC : CB C) (hw : WI S) (hM : MR C S) (i t : Int) (zi : zR i) (zt : zR t) : X mX9_derivedShare 0 (xEnt mX9_derivedShare [xR (50, 0, 0), xI i, xI t]) [] (hp S) 0 0 (pMx S (fun k v _T => (v = xF 0 ∧ ((k = 1 ∧ ¬ (0 ≤ i ∧ i < C.1 (0, 0, 0) 6)) ∨ (k = 2 ∧ (0 ≤ i ∧ i < C.1 (0, 0, 0) 6) ∧ ¬ (0 ≤ t ∧ t < 24)) ∨ (k = 3 ∧ (0 ≤ i ∧ i < C.1 (0, 0, 0) 6) ∧ (0 ≤ t ∧ t < 24) ∧ ¬ (((cntN (fun k : Nat => hB C.1 i (C.1 (9, i, 0) 3).toNat t k) 384 : Nat) : Int) ≠ 0)))) ∨ (k = 0 ∧ (0 ≤ i ∧ i < C.1 (0, 0, 0) 6) ∧ (0 ≤ t ∧ t < 24) ∧ (((cntN (fun k : Nat => hB C.1 i (C.1 (9, i, 0) 3).toNat t k) 384 : Nat) : Int) ≠ 0) ∧ ∃ rk, FinR C i (C.1 (9, i, 0) 3).toNat t rk ∧ (∀ k, 0 ≤ rk k ∧ rk k ≤ 9999) ∧ v = xF (FP.fdiv (FP.i2f (zI ((cntN (fun k : Nat => 0 < rk k ∧ rk k < 9999) 384 : Nat) : Int))) (FP.i2f (zI ((cntN (fun k : Nat => hB C.1 i (C.1 (9, i, 0) 3).toNat t k) 384 : Nat) : Int))))))) := by
  have c6 := wf0_6 hC.1
  have c4 := wf4_2 hC.1
  have h93 : 0 ≤ i → i < C.1 (0, 0, 0) 6 → 0 ≤ C.1 (9, i, 0) 3 ∧ C.1 (9, i, 0) 3 ≤ 60 := fun a b => wf9_3 hC.1 a (by omega)
  obtain ⟨n11, n12, n13, n24⟩ := hM.2.1
  have hz := hw.1
  show X mX9_derivedShare 0 [xR (50, 0, 0), xI i, xI t, none, none, none] [] (hp S) 0 0 _
  refine x_aload_n dX9_derivedShare_0 rfl ?_
  refine x_iload_n dX9_derivedShare_1 rfl ?_
  refine x_iload_n dX9_derivedShare_2 rfl ?_
  refine x_callV (a := 0) (b := 0) (as := [xI i, xI t]) (rest := []) ok_X9_holding dX9_derivedShare_3 wd1462 ⟨wd1464, wd47⟩ (hp50 S) rfl rfl (m_holding C S hC hw hM i t zi zt) rfl (Nat.le_of_ble_eq_true rfl) (Nat.le_of_ble_eq_true rfl) (by decide) (by omega) (by omega) (fun _ q => by obtain ⟨_, _, _, y, _⟩ := q; cases y) (fun _ _ q => ?_) (fun _ _ q => by obtain ⟨_, _, _, y, _⟩ := q; cases y)
  obtain ⟨U1, z1, rfl, y1, qU1, wU1, hU1⟩ := q
  cases y1
  have sU1 := (MdQ.rf S).tr qU1
  rcases hU1 with ⟨rfl, hU1⟩ | ⟨kU1, bU1, tU1, cU1, rfl, fU1⟩
  · refine x_istore_n (L' := [xR (50, 0, 0), xI i, xI t, xI (-1), none, none]) dX9_derivedShare_6 (by decide) rfl ?_
    refine x_iconst dX9_derivedShare_7 ?_
    refine x_istore (L' := [xR (50, 0, 0), xI i, xI t, xI (-1), xI 0, none]) dX9_derivedShare_8 (by decide) rfl ?_
    refine x_iconst dX9_derivedShare_10 ?_
    refine x_istore (L' := [xR (50, 0, 0), xI i, xI t, xI (-1), xI 0, xI 0]) dX9_derivedShare_11 (by decide) rfl ?_
    refine X.weak (l9_share0 U1 wU1 i t) (Nat.le_refl _) (Nat.le_refl _) (fun o h' q => ?_)
    obtain ⟨rfl, rfl⟩ := q
    exact ⟨U1, _, rfl, rfl, sU1, wU1, Or.inl ⟨rfl, hU1⟩⟩
  · refine x_istore_n (L' := [xR (50, 0, 0), xI i, xI t, xI ((cntN (fun k : Nat => hB C.1 i (C.1 (9, i, 0) 3).toNat t k) 384 : Nat) : Int), none, none]) dX9_derivedShare_6 (by decide) rfl ?_
    refine x_iconst dX9_derivedShare_7 ?_
    refine x_istore (L' := [xR (50, 0, 0), xI i, xI t, xI ((cntN (fun k : Nat => hB C.1 i (C.1 (9, i, 0) 3).toNat t k) 384 : Nat) : Int), xI 0, none]) dX9_derivedShare_8 (by decide) rfl ?_
    refine x_iconst dX9_derivedShare_10 ?_
    refine x_istore (L' := [xR (50, 0, 0), xI i, xI t, xI ((cntN (fun k : Nat => hB C.1 i (C.1 (9, i, 0) 3).toNat t k) 384 : Nat) : Int), xI 0, xI 0]) dX9_derivedShare_11 (by decide) rfl ?_
    have cb := cntN_le (fun k : Nat => hB C.1 i (C.1 (9, i, 0) 3).toNat t k) 384
    have kk := l9_share U1 wU1 i t ((cntN (fun k : Nat => hB C.1 i (C.1 (9, i, 0) 3).toNat t k) 384 : Nat) : Int) (by omega) (by omega) 386 0 (by omega) (by omega)
    refine X.weak kk (Nat.le_refl _) (Nat.le_refl _) (fun o h' q => ?_)
    obtain ⟨rfl, rfl⟩ := q
    exact ⟨U1, _, rfl, rfl, sU1, wU1, Or.inr ⟨kU1, bU1, tU1, cU1, U1.1 (73, 0, 0), fU1, fun k => wfa73 wU1 k, rfl⟩⟩
set_option maxHeartbeats 4000000 in
set_option maxRecDepth 100000 in
theorem l9_mean0 (S : XS) (hw : WI S) (i t : Int) : X mX9_meanRank 13 [xR (50, 0, 0), xI i, xI t, xI (-1), xI 0, xI 0] [] (hp S) 0 0 (pRet (xD 0) (hp S)) := by
  have hz := hw.1
  refine x_iload dX9_meanRank_13 rfl ?_
  refine x_sipush (v := 384) dX9_meanRank_15 (by decide) ?_
  refine x_icmp_ge (tgt := 60) dX9_meanRank_18 (by decide) ⟨by decide, by decide⟩ ⟨by decide, by decide⟩ (fun z => absurd z (by decide)) (fun _ => ?_)
  refine x_iload_n dX9_meanRank_21 rfl ?_
  refine x_if_le (tgt := 60) dX9_meanRank_22 (by decide) ⟨by decide, by decide⟩ (fun _ => ?_) (fun z => absurd z (by decide))
  refine x_iload_n dX9_meanRank_60 rfl ?_
  refine x_if_ge (tgt := 68) dX9_meanRank_61 (by decide) ⟨by decide, by decide⟩ (fun z => absurd z (by decide)) (fun _ => ?_)
  refine x_dconst0 dX9_meanRank_64 ?_
  refine x_goto (tgt := 74) dX9_meanRank_65 (by decide) ?_
  exact x_dret dX9_meanRank_74 rfl ⟨rfl, rfl⟩
set_option maxHeartbeats 4000000 in
set_option maxRecDepth 100000 in
theorem l9_mean (S : XS) (hw : WI S) (i t A : Int) (a0 : 1 ≤ A) (a1 : A ≤ 384) : ∀ (nn : Nat) (j : Nat), 385 - (j : Int) < (nn : Int) → (j ≤ 384) → X mX9_meanRank 13 [xR (50, 0, 0), xI i, xI t, xI A, xI (msN (S.1 (73, 0, 0)) j), xI (j : Int)] [] (hp S) 0 0 (pRet (xD (FP.ddiv (FP.i2d (zI (msN (S.1 (73, 0, 0)) 384))) (FP.i2d (zI A)))) (hp S)) := by
  intro nn
  induction nn with
  | zero => intro j hm hj; exfalso; omega
  | succ nn ih =>
    intro j hm hj
    have hz := hw.1
    have rj := wfa73 hw (j : Int)
    refine x_iload dX9_meanRank_13 rfl ?_
    refine x_sipush (v := 384) dX9_meanRank_15 (by decide) ?_
    refine x_icmp_ge (tgt := 60) dX9_meanRank_18 (by decide) (by first | exact hz _ _ | exact hw.1 _ _ | exact zR_of _ | exact bI_z _ | assumption | exact ⟨by omega, by omega⟩) ⟨by decide, by decide⟩ (fun c18 => ?_) (fun c18 => ?_)
    · refine x_iload_n dX9_meanRank_60 rfl ?_
      refine x_if_ge (tgt := 68) dX9_meanRank_61 (by decide) (by first | exact hz _ _ | exact hw.1 _ _ | exact zR_of _ | exact bI_z _ | assumption | exact ⟨by omega, by omega⟩) (fun c61 => ?_) (fun c61 => by exfalso; omega)
      refine x_iload dX9_meanRank_68 rfl ?_
      refine x_i2d dX9_meanRank_70 ?_
      refine x_iload_n dX9_meanRank_71 rfl ?_
      refine x_i2d dX9_meanRank_72 ?_
      refine x_ddiv dX9_meanRank_73 (mean_n (by omega) (by omega)) ?_
      exact x_dret dX9_meanRank_74 rfl ⟨by obtain rfl : j = 384 := (by omega); rfl, rfl⟩
    · refine x_iload_n dX9_meanRank_21 rfl ?_
      refine x_if_le (tgt := 60) dX9_meanRank_22 (by decide) (by first | exact hz _ _ | exact hw.1 _ _ | exact zR_of _ | exact bI_z _ | assumption | exact ⟨by omega, by omega⟩) (fun c22 => by exfalso; omega) (fun c22 => ?_)
      refine x_iload dX9_meanRank_25 rfl ?_
      refine x_aload_n dX9_meanRank_27 rfl ?_
      refine x_get (v := xR (73, 0, 0)) dX9_meanRank_28 fl_RX9_87 (hp50 S) rfl ?_
      refine x_iload dX9_meanRank_31 rfl ?_
      refine x_aldi (f := S.1 (73, 0, 0)) dX9_meanRank_33 (hp73 S) (show (73 : Nat) ≠ 99 by decide) (by omega) (by omega) (by decide) ?_
      have f33_1 := wfa73 hw (S := S) (j : Int)
      refine x_sipush (v := 9999) dX9_meanRank_34 (by decide) ?_
      refine x_icmp_ge (tgt := 50) dX9_meanRank_37 (by decide) (by first | exact hz _ _ | exact hw.1 _ _ | exact zR_of _ | exact bI_z _ | assumption | exact ⟨by omega, by omega⟩) ⟨by decide, by decide⟩ (fun c37 => ?_) (fun c37 => ?_)
      · refine x_iconst dX9_meanRank_50 ?_
        refine x_iadd dX9_meanRank_51 ?_
        refine x_istore (L' := [xR (50, 0, 0), xI i, xI t, xI A, xI ((msN (S.1 (73, 0, 0)) j) + 0), xI (j : Int)]) dX9_meanRank_52 (by decide) rfl ?_
        refine x_iinc (L' := [xR (50, 0, 0), xI i, xI t, xI A, xI ((msN (S.1 (73, 0, 0)) j) + 0), xI ((j : Int) + 1)]) dX9_meanRank_54 rfl rfl ?_
        refine x_goto (tgt := 13) dX9_meanRank_57 (by decide) ?_
        have kk := ih (j + 1) (by omega) (by omega)
        rw [msN_f (by omega)] at kk
        rw [show (msN (S.1 (73, 0, 0)) j) + 0 = (msN (S.1 (73, 0, 0)) j) from Int.add_zero _]
        exact kk
      · refine x_aload_n dX9_meanRank_40 rfl ?_
        refine x_get (v := xR (73, 0, 0)) dX9_meanRank_41 fl_RX9_87 (hp50 S) rfl ?_
        refine x_iload dX9_meanRank_44 rfl ?_
        refine x_aldi (f := S.1 (73, 0, 0)) dX9_meanRank_46 (hp73 S) (show (73 : Nat) ≠ 99 by decide) (by omega) (by omega) (by decide) ?_
        have f46_2 := wfa73 hw (S := S) (j : Int)
        refine x_goto (tgt := 51) dX9_meanRank_47 (by decide) ?_
        refine x_iadd dX9_meanRank_51 ?_
        refine x_istore (L' := [xR (50, 0, 0), xI i, xI t, xI A, xI ((msN (S.1 (73, 0, 0)) j) + (S.1 (73, 0, 0) (j : Int))), xI (j : Int)]) dX9_meanRank_52 (by decide) rfl ?_
        refine x_iinc (L' := [xR (50, 0, 0), xI i, xI t, xI A, xI ((msN (S.1 (73, 0, 0)) j) + (S.1 (73, 0, 0) (j : Int))), xI ((j : Int) + 1)]) dX9_meanRank_54 rfl rfl ?_
        refine x_goto (tgt := 13) dX9_meanRank_57 (by decide) ?_
        have kk := ih (j + 1) (by omega) (by omega)
        rw [msN_t (by omega)] at kk
        exact kk
set_option maxHeartbeats 4000000 in
set_option maxRecDepth 100000 in
theorem m_meanRank (C S : XS) (hC : CB C) (hw : WI S) (hM : MR C S) (i t : Int) (zi : zR i) (zt : zR t) : X mX9_meanRank 0 (xEnt mX9_meanRank [xR (50, 0, 0), xI i, xI t]) [] (hp S) 0 0 (pMx S (fun k v _T => (v = xD 0 ∧ ((k = 1 ∧ ¬ (0 ≤ i ∧ i < C.1 (0, 0, 0) 6)) ∨ (k = 2 ∧ (0 ≤ i ∧ i < C.1 (0, 0, 0) 6) ∧ ¬ (0 ≤ t ∧ t < 24)) ∨ (k = 3 ∧ (0 ≤ i ∧ i < C.1 (0, 0, 0) 6) ∧ (0 ≤ t ∧ t < 24) ∧ ¬ (((cntN (fun k : Nat => hB C.1 i (C.1 (9, i, 0) 3).toNat t k) 384 : Nat) : Int) ≠ 0)))) ∨ (k = 0 ∧ (0 ≤ i ∧ i < C.1 (0, 0, 0) 6) ∧ (0 ≤ t ∧ t < 24) ∧ (((cntN (fun k : Nat => hB C.1 i (C.1 (9, i, 0) 3).toNat t k) 384 : Nat) : Int) ≠ 0) ∧ ∃ rk, FinR C i (C.1 (9, i, 0) 3).toNat t rk ∧ (∀ k, 0 ≤ rk k ∧ rk k ≤ 9999) ∧ v = xD (FP.ddiv (FP.i2d (zI (msN rk 384))) (FP.i2d (zI ((cntN (fun k : Nat => hB C.1 i (C.1 (9, i, 0) 3).toNat t k) 384 : Nat) : Int))))))) := by
  have c6 := wf0_6 hC.1
  have c4 := wf4_2 hC.1
  have h93 : 0 ≤ i → i < C.1 (0, 0, 0) 6 → 0 ≤ C.1 (9, i, 0) 3 ∧ C.1 (9, i, 0) 3 ≤ 60 := fun a b => wf9_3 hC.1 a (by omega)
  obtain ⟨n11, n12, n13, n24⟩ := hM.2.1
  have hz := hw.1
  show X mX9_meanRank 0 [xR (50, 0, 0), xI i, xI t, none, none, none] [] (hp S) 0 0 _
  refine x_aload_n dX9_meanRank_0 rfl ?_
  refine x_iload_n dX9_meanRank_1 rfl ?_
  refine x_iload_n dX9_meanRank_2 rfl ?_
  refine x_callV (a := 0) (b := 0) (as := [xI i, xI t]) (rest := []) ok_X9_holding dX9_meanRank_3 wd1462 ⟨wd1464, wd47⟩ (hp50 S) rfl rfl (m_holding C S hC hw hM i t zi zt) rfl (Nat.le_of_ble_eq_true rfl) (Nat.le_of_ble_eq_true rfl) (by decide) (by omega) (by omega) (fun _ q => by obtain ⟨_, _, _, y, _⟩ := q; cases y) (fun _ _ q => ?_) (fun _ _ q => by obtain ⟨_, _, _, y, _⟩ := q; cases y)
  obtain ⟨U1, z1, rfl, y1, qU1, wU1, hU1⟩ := q
  cases y1
  have sU1 := (MdQ.rf S).tr qU1
  rcases hU1 with ⟨rfl, hU1⟩ | ⟨kU1, bU1, tU1, cU1, rfl, fU1⟩
  · refine x_istore_n (L' := [xR (50, 0, 0), xI i, xI t, xI (-1), none, none]) dX9_meanRank_6 (by decide) rfl ?_
    refine x_iconst dX9_meanRank_7 ?_
    refine x_istore (L' := [xR (50, 0, 0), xI i, xI t, xI (-1), xI 0, none]) dX9_meanRank_8 (by decide) rfl ?_
    refine x_iconst dX9_meanRank_10 ?_
    refine x_istore (L' := [xR (50, 0, 0), xI i, xI t, xI (-1), xI 0, xI 0]) dX9_meanRank_11 (by decide) rfl ?_
    refine X.weak (l9_mean0 U1 wU1 i t) (Nat.le_refl _) (Nat.le_refl _) (fun o h' q => ?_)
    obtain ⟨rfl, rfl⟩ := q
    exact ⟨U1, _, rfl, rfl, sU1, wU1, Or.inl ⟨rfl, hU1⟩⟩
  · refine x_istore_n (L' := [xR (50, 0, 0), xI i, xI t, xI ((cntN (fun k : Nat => hB C.1 i (C.1 (9, i, 0) 3).toNat t k) 384 : Nat) : Int), none, none]) dX9_meanRank_6 (by decide) rfl ?_
    refine x_iconst dX9_meanRank_7 ?_
    refine x_istore (L' := [xR (50, 0, 0), xI i, xI t, xI ((cntN (fun k : Nat => hB C.1 i (C.1 (9, i, 0) 3).toNat t k) 384 : Nat) : Int), xI 0, none]) dX9_meanRank_8 (by decide) rfl ?_
    refine x_iconst dX9_meanRank_10 ?_
    refine x_istore (L' := [xR (50, 0, 0), xI i, xI t, xI ((cntN (fun k : Nat => hB C.1 i (C.1 (9, i, 0) 3).toNat t k) 384 : Nat) : Int), xI 0, xI 0]) dX9_meanRank_11 (by decide) rfl ?_
    have cb := cntN_le (fun k : Nat => hB C.1 i (C.1 (9, i, 0) 3).toNat t k) 384
    have kk := l9_mean U1 wU1 i t ((cntN (fun k : Nat => hB C.1 i (C.1 (9, i, 0) 3).toNat t k) 384 : Nat) : Int) (by omega) (by omega) 386 0 (by omega) (by omega)
    refine X.weak kk (Nat.le_refl _) (Nat.le_refl _) (fun o h' q => ?_)
    obtain ⟨rfl, rfl⟩ := q
    exact ⟨U1, _, rfl, rfl, sU1, wU1, Or.inr ⟨kU1, bU1, tU1, cU1, U1.1 (73, 0, 0), fU1, fun k => wfa73 wU1 k, rfl⟩⟩
