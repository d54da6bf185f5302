/-! the reference: checks -/
theorem putI_self (S : XS) (l : XL) (k v : Int) : (putI S l k v).1 l k = v := by simp [putI, xUpd]
/-- branches -/
def MRb (C S : XS) : Prop := ∀ b : Int, 0 ≤ b → b < 4 → S.1 (58, 0, 0) b = C.1 (9, b, 0) 3 ∧ S.1 (59, 0, 0) b = C.1 (9, b, 0) 4 ∧ S.1 (60, 0, 0) b = C.1 (9, b, 0) 5 ∧ S.1 (61, 0, 0) b = C.1 (9, b, 0) 6
def MRu (C S : XS) : Prop := ∀ r : Int, 0 ≤ r → r < 6 → S.1 (57, 0, 0) r = C.1 (3, 0, 0) r
/-- the reference's cells say what the class's say; listeners aside -/
def MR (C S : XS) : Prop := MRt C S ∧ MRn C S ∧ MRr C S ∧ MRb C S ∧ MRu C S
theorem MRb.q {C S T : XS} (h : MRb C S) (q : MdQ S T) : MRb C T := by
  intro b b0 b1
  rw [q.1 (58, 0, 0) rfl (by decide), q.1 (59, 0, 0) rfl (by decide), q.1 (60, 0, 0) rfl (by decide), q.1 (61, 0, 0) rfl (by decide)]
  exact h b b0 b1
theorem MRu.q {C S T : XS} (h : MRu C S) (q : MdQ S T) : MRu C T := by
  intro r r0 r1
  rw [q.1 (57, 0, 0) rfl (by decide)]
  exact h r r0 r1
theorem MR.q {C S T : XS} (h : MR C S) (q : MdQ S T) : MR C T := ⟨h.1.q q, h.2.1.q q, h.2.2.1.q q, h.2.2.2.1.q q, h.2.2.2.2.q q⟩
/-- the reference answers z, with k thrown -/
def pM (S : XS) (P : Int → Int → XS → Prop) : XO → XH → Prop := fun o h' => ∃ T z, h' = hp T ∧ o = .inl (some (xI z)) ∧ MdQ S T ∧ WI T ∧ P (T.1 (50, 0, 0) 25) z T
theorem pM_thr {S T : XS} {P : Int → Int → XS → Prop} (q : MdQ S T) (w : WI T) {v z : Int} (hv : 0 ≤ v ∧ v ≤ 4) (h : P v z (putI T (50, 0, 0) 25 v)) : pM S P (.inl (some (xI z))) (hp (putI T (50, 0, 0) 25 v)) := ⟨_, z, rfl, rfl, q.thr v, wp50_25 w hv, by rw [putI_self]; exact h⟩
theorem pM_of {S T : XS} {P : Int → Int → XS → Prop} (q : MdQ S T) (w : WI T) {z : Int} (h : P (T.1 (50, 0, 0) 25) z T) : pM S P (.inl (some (xI z))) (hp T) := ⟨T, z, rfl, rfl, q, w, h⟩
theorem FinR.hb {C : XS} (hC : CB C) {b : Int} (b0 : 0 ≤ b) (b1 : b < C.1 (0, 0, 0) 6) {n : Nat} (hn : (n : Int) ≤ C.1 (9, b, 0) 3) {t : Int} {rk : Int → Int} (h : FinR C b n t rk) {q : Int} (q0 : 0 ≤ q) (q1 : q < 384) : (rk q < 9999 ↔ hB C.1 b n t q) ∧ 0 ≤ rk q ∧ (rk q < 9999 → rk q ≤ 385) := by
  have e := h (q / 64).toNat (q % 64).toNat (by omega) (by omega)
  rw [show 64 * (((q / 64).toNat : Nat) : Int) + (((q % 64).toNat : Nat) : Int) = q by omega, show (((q / 64).toNat : Nat) : Int) = q / 64 by omega] at e
  have s := hl_stab hC b0 b1 n hn t (q / 64) (by omega) (by omega) (q % 64).toNat (by omega)
  unfold hB
  rw [show (((q % 64).toNat : Nat) : Int) = q % 64 by omega] at s
  rcases e with ⟨m, m1, m2, m3, m4⟩ | ⟨m1, m2⟩
  · exact ⟨⟨fun _ => s.mpr ⟨m, by rw [show (q % 64) = (((q % 64).toNat : Nat) : Int) by omega] at *; exact m3⟩, fun _ => by omega⟩, by omega, fun _ => by omega⟩
  · refine ⟨⟨fun _ => by omega, fun z => ?_⟩, by omega, fun _ => by omega⟩
    obtain ⟨k, hk⟩ := s.mp z
    exact absurd (by rw [show (q % 64) = (((q % 64).toNat : Nat) : Int) by omega] at *; exact hk) (m2 k)
theorem m_findsZ (C S : XS) (hC : CB C) (hw : WI S) (hM : MR C S) (b : Int) (b0 : 0 ≤ b) (b1 : b < C.1 (0, 0, 0) 6) (n : Int) (n0 : 0 ≤ n) (hn9 : n ≤ C.1 (9, b, 0) 3) (t : Int) (t0 : 0 ≤ t) (t1 : t < 24) : X mX9_finds 0 (xEnt mX9_finds [xR (50, 0, 0), xI b, xI n, xI t]) [] (hp S) 0 0 (pFi C S b n.toNat t) := by
  have q := m_finds C S hC hw hM.1 hM.2.1 hM.2.2.1 b b0 b1 n.toNat (by omega) t t0 t1
  rw [show (n.toNat : Int) = n by omega] at q
  exact q
theorem m_turnsOnZ (C S : XS) (hC : CB C) (hw : WI S) (ht : MRt C S) (b : Int) (b0 : 0 ≤ b) (b1 : b < 4) (n : Int) (n0 : 0 ≤ n) (hn : n ≤ C.1 (9, b, 0) 3) : X mX9_turnsOn 0 (xEnt mX9_turnsOn [xR (50, 0, 0), xI b, xI n]) [] (hp S) 0 0 (pOn C S b n.toNat) := by
  have q := m_turnsOn C S hC hw ht b b0 b1 n.toNat (by omega)
  rw [show (n.toNat : Int) = n by omega] at q
  exact q
set_option maxHeartbeats 4000000 in
set_option maxRecDepth 100000 in
theorem m_isNoR (S : XS) (hw : WI S) (n k0 : Int) (zn : zR n) (zk0 : zR k0) (k1 : 0 ≤ k0) (k2 : k0 ≤ 1000) : X mX9_isNo 0 (xEnt mX9_isNo [xR (50, 0, 0), xI n, xI k0]) [] (hp S) 0 0 (pM S (fun k z _T => (z = 1 ∧ ((k = 1 ∧ ¬ (0 ≤ n ∧ n < k0)))) ∨ (z = 0 ∧ k = 0 ∧ (0 ≤ n ∧ n < k0)))) := by
  show X mX9_isNo 0 [xR (50, 0, 0), xI n, xI k0] [] (hp S) 0 0 _
  refine x_aload_n dX9_isNo_0 rfl ?_
  refine x_iload_n dX9_isNo_1 rfl ?_
  refine x_iconst dX9_isNo_2 ?_
  refine x_iload_n dX9_isNo_3 rfl ?_
  refine x_iconst dX9_isNo_4 ?_
  refine x_isub dX9_isNo_5 ?_
  refine x_callS_r (a := 0) (b := 0) (as := [xI n, xI 0, xI (k0 - 1)]) (rest := [xR (50, 0, 0)]) ok_X9_isIn dX9_isNo_6 wd1212 wd1213 (m_isIn S n 0 (k0 - 1) (by first | exact hz _ _ | exact hw.1 _ _ | exact zR_of _ | exact bI_z _ | assumption | exact ⟨by omega, by omega⟩) ⟨by decide, by decide⟩ (by first | exact hz _ _ | exact hw.1 _ _ | exact zR_of _ | exact bI_z _ | assumption | exact ⟨by omega, by omega⟩)) rfl (Nat.le_of_ble_eq_true rfl) (Nat.le_of_ble_eq_true rfl) (by decide) (by omega) (by omega) ?_
  by_cases b6 : 0 ≤ n ∧ n ≤ (k0 - 1)
  · refine x_top (bI_t b6) ?_
    refine x_if_ne (tgt := 16) dX9_isNo_9 (by decide) ⟨by decide, by decide⟩ (fun _ => ?_) (fun z => absurd z (by decide))
    refine x_iconst dX9_isNo_16 ?_
    refine x_iconst dX9_isNo_17 ?_
    refine x_callV_r (a := 0) (b := 0) (as := [xI 0, xI 1]) (rest := []) ok_X9_isThrown dX9_isNo_18 wd1215 ⟨wd1217, wd20⟩ (hp50 S) rfl rfl ((show X mX9_isThrown 0 (xEnt mX9_isThrown [xR (50, 0, 0), xI 0, xI 1]) [] (hp S) 0 0 (pRet (xI 0) (hp (putI S (50, 0, 0) 25 0))) from by have q := m_isThrown S hw 0 1 (by omega) (by omega); rw [if_pos rfl] at q; exact q)) rfl (Nat.le_of_ble_eq_true rfl) (Nat.le_of_ble_eq_true rfl) (by decide) (by omega) (by omega) ?_
    exact x_zret dX9_isNo_21 rfl (Or.inl rfl) (pM_thr (MdQ.rf S) hw (by omega) (by omega))
  · refine x_top (bI_f b6) ?_
    refine x_if_ne (tgt := 16) dX9_isNo_9 (by decide) ⟨by decide, by decide⟩ (fun z => absurd z (by decide)) (fun _ => ?_)
    refine x_iconst dX9_isNo_12 ?_
    refine x_goto (tgt := 17) dX9_isNo_13 (by decide) ?_
    refine x_iconst dX9_isNo_17 ?_
    refine x_callV_r (a := 0) (b := 0) (as := [xI 1, xI 1]) (rest := []) ok_X9_isThrown dX9_isNo_18 wd1215 ⟨wd1217, wd20⟩ (hp50 S) rfl rfl ((show X mX9_isThrown 0 (xEnt mX9_isThrown [xR (50, 0, 0), xI 1, xI 1]) [] (hp S) 0 0 (pRet (xI 1) (hp (putI S (50, 0, 0) 25 1))) from by have q := m_isThrown S hw 1 1 (by omega) (by omega); rw [if_neg (by decide)] at q; exact q)) rfl (Nat.le_of_ble_eq_true rfl) (Nat.le_of_ble_eq_true rfl) (by decide) (by omega) (by omega) ?_
    exact x_zret dX9_isNo_21 rfl (Or.inr rfl) (pM_thr (MdQ.rf S) hw (by omega) (by omega))
set_option maxHeartbeats 4000000 in
set_option maxRecDepth 100000 in
theorem m_isNoBranch (C S : XS) (hC : CB C) (hw : WI S) (hM : MR C S) (i : Int) (zi : zR i) : X mX9_isNoBranch 0 (xEnt mX9_isNoBranch [xR (50, 0, 0), xI i]) [] (hp S) 0 0 (pM S (fun k z _T => (z = 1 ∧ ((k = 1 ∧ ¬ (0 ≤ i ∧ i < C.1 (0, 0, 0) 6)))) ∨ (z = 0 ∧ k = 0 ∧ (0 ≤ i ∧ i < C.1 (0, 0, 0) 6)))) := by
  have c6 := wf0_6 hC.1
  have c4 := wf4_2 hC.1
  have h93 : 0 ≤ i → i < C.1 (0, 0, 0) 6 → 0 ≤ C.1 (9, i, 0) 3 ∧ C.1 (9, i, 0) 3 ≤ 60 := fun a b => wf9_3 hC.1 a (by omega)
  obtain ⟨n11, n12, n13, n24⟩ := hM.2.1
  have hz := hw.1
  show X mX9_isNoBranch 0 [xR (50, 0, 0), xI i] [] (hp S) 0 0 _
  refine x_aload_n dX9_isNoBranch_0 rfl ?_
  refine x_iload_n dX9_isNoBranch_1 rfl ?_
  refine x_aload_n dX9_isNoBranch_2 rfl ?_
  refine x_get (v := xI (S.1 (50, 0, 0) 11)) dX9_isNoBranch_3 fl_RX9_45 (hp50 S) rfl ?_
  have f3_1 := wf50_11 hw (S := S)
  refine x_callV (a := 0) (b := 0) (as := [xI i, xI (S.1 (50, 0, 0) 11)]) (rest := []) ok_X9_isNo dX9_isNoBranch_6 wd1208 ⟨wd1210, wd19⟩ (hp50 S) rfl rfl (m_isNoR S hw i (S.1 (50, 0, 0) 11) (by first | exact hz _ _ | exact hw.1 _ _ | exact zR_of _ | exact bI_z _ | assumption | exact ⟨by omega, by omega⟩) (by first | exact hz _ _ | exact hw.1 _ _ | exact zR_of _ | exact bI_z _ | assumption | exact ⟨by omega, by omega⟩) (by omega) (by omega)) rfl (Nat.le_of_ble_eq_true rfl) (Nat.le_of_ble_eq_true rfl) (by decide) (by omega) (by omega) (fun _ q => by obtain ⟨_, _, _, y, _⟩ := q; cases y) (fun _ _ q => ?_) (fun _ _ q => by obtain ⟨_, _, _, y, _⟩ := q; cases y)
  obtain ⟨U1, z1, rfl, y1, qU1, wU1, hU1⟩ := q
  cases y1
  have sU1 := (MdQ.rf S).tr qU1
  rcases hU1 with ⟨rfl, hU1⟩ | ⟨rfl, hU1⟩
  · exact x_zret dX9_isNoBranch_9 rfl (Or.inr rfl) (pM_of sU1 wU1 (by omega))
  · exact x_zret dX9_isNoBranch_9 rfl (Or.inl rfl) (pM_of sU1 wU1 (by omega))
set_option maxHeartbeats 4000000 in
set_option maxRecDepth 100000 in
theorem m_isSpan (S : XS) (q a e : Int) (zq : zR q) (za : zR a) (ze : zR e) : X mX9_isSpan 0 (xEnt mX9_isSpan [xI q, xI a, xI e]) [] (hp S) 0 0 (pRet (xI (bI ((0 ≤ q ∧ q < 384) ∧ 0 ≤ a ∧ a < 24 ∧ a ≤ e ∧ e < 24))) (hp S)) := by
  show X mX9_isSpan 0 [xI q, xI a, xI e] [] (hp S) 0 0 _
  refine x_iload_n dX9_isSpan_0 rfl ?_
  refine x_iconst dX9_isSpan_1 ?_
  refine x_sipush (v := 383) dX9_isSpan_2 (by decide) ?_
  refine x_callS_r (a := 0) (b := 0) (as := [xI q, xI 0, xI 383]) (rest := []) ok_X9_isIn dX9_isSpan_5 wd1212 wd1213 (m_isIn S q 0 383 (by first | exact hz _ _ | exact hw.1 _ _ | exact zR_of _ | exact bI_z _ | assumption | exact ⟨by omega, by omega⟩) ⟨by decide, by decide⟩ ⟨by decide, by decide⟩) rfl (Nat.le_of_ble_eq_true rfl) (Nat.le_of_ble_eq_true rfl) (by decide) (by omega) (by omega) ?_
  by_cases b5 : 0 ≤ q ∧ q ≤ 383
  · refine x_top (bI_t b5) ?_
    refine x_if_eq (tgt := 35) dX9_isSpan_8 (by decide) ⟨by decide, by decide⟩ (fun z => absurd z (by decide)) (fun _ => ?_)
    refine x_iload_n dX9_isSpan_11 rfl ?_
    refine x_iconst dX9_isSpan_12 ?_
    refine x_bipush (v := 23) dX9_isSpan_13 (by decide) ?_
    refine x_callS_r (a := 0) (b := 0) (as := [xI a, xI 0, xI 23]) (rest := []) ok_X9_isIn dX9_isSpan_15 wd1212 wd1213 (m_isIn S a 0 23 (by first | exact hz _ _ | exact hw.1 _ _ | exact zR_of _ | exact bI_z _ | assumption | exact ⟨by omega, by omega⟩) ⟨by decide, by decide⟩ ⟨by decide, by decide⟩) rfl (Nat.le_of_ble_eq_true rfl) (Nat.le_of_ble_eq_true rfl) (by decide) (by omega) (by omega) ?_
    by_cases b15 : 0 ≤ a ∧ a ≤ 23
    · refine x_top (bI_t b15) ?_
      refine x_if_eq (tgt := 35) dX9_isSpan_18 (by decide) ⟨by decide, by decide⟩ (fun z => absurd z (by decide)) (fun _ => ?_)
      refine x_iload_n dX9_isSpan_21 rfl ?_
      refine x_iload_n dX9_isSpan_22 rfl ?_
      refine x_bipush (v := 23) dX9_isSpan_23 (by decide) ?_
      refine x_callS_r (a := 0) (b := 0) (as := [xI e, xI a, xI 23]) (rest := []) ok_X9_isIn dX9_isSpan_25 wd1212 wd1213 (m_isIn S e a 23 (by first | exact hz _ _ | exact hw.1 _ _ | exact zR_of _ | exact bI_z _ | assumption | exact ⟨by omega, by omega⟩) (by first | exact hz _ _ | exact hw.1 _ _ | exact zR_of _ | exact bI_z _ | assumption | exact ⟨by omega, by omega⟩) ⟨by decide, by decide⟩) rfl (Nat.le_of_ble_eq_true rfl) (Nat.le_of_ble_eq_true rfl) (by decide) (by omega) (by omega) ?_
      by_cases b25 : a ≤ e ∧ e ≤ 23
      · refine x_top (bI_t b25) ?_
        refine x_if_eq (tgt := 35) dX9_isSpan_28 (by decide) ⟨by decide, by decide⟩ (fun z => absurd z (by decide)) (fun _ => ?_)
        refine x_iconst dX9_isSpan_31 ?_
        refine x_goto (tgt := 36) dX9_isSpan_32 (by decide) ?_
        exact x_zret dX9_isSpan_36 rfl (Or.inr rfl) (pRI (bI_t (by omega)).symm)
      · refine x_top (bI_f b25) ?_
        refine x_if_eq (tgt := 35) dX9_isSpan_28 (by decide) ⟨by decide, by decide⟩ (fun _ => ?_) (fun z => absurd z (by decide))
        refine x_iconst dX9_isSpan_35 ?_
        exact x_zret dX9_isSpan_36 rfl (Or.inl rfl) (pRI (bI_f (by omega)).symm)
    · refine x_top (bI_f b15) ?_
      refine x_if_eq (tgt := 35) dX9_isSpan_18 (by decide) ⟨by decide, by decide⟩ (fun _ => ?_) (fun z => absurd z (by decide))
      refine x_iconst dX9_isSpan_35 ?_
      exact x_zret dX9_isSpan_36 rfl (Or.inl rfl) (pRI (bI_f (by omega)).symm)
  · refine x_top (bI_f b5) ?_
    refine x_if_eq (tgt := 35) dX9_isSpan_8 (by decide) ⟨by decide, by decide⟩ (fun _ => ?_) (fun z => absurd z (by decide))
    refine x_iconst dX9_isSpan_35 ?_
    exact x_zret dX9_isSpan_36 rfl (Or.inl rfl) (pRI (bI_f (by omega)).symm)
set_option maxHeartbeats 4000000 in
set_option maxRecDepth 100000 in
theorem m_isPart (S : XS) (r a e : Int) (zr : zR r) (za : zR a) (ze : zR e) : X mX9_isPart 0 (xEnt mX9_isPart [xI r, xI a, xI e]) [] (hp S) 0 0 (pRet (xI (bI ((0 ≤ r ∧ r < 6) ∧ (0 ≤ a ∧ a ≤ 2) ∧ 0 ≤ e ∧ e ≤ 2))) (hp S)) := by
  show X mX9_isPart 0 [xI r, xI a, xI e] [] (hp S) 0 0 _
  refine x_iload_n dX9_isPart_0 rfl ?_
  refine x_iconst dX9_isPart_1 ?_
  refine x_iconst dX9_isPart_2 ?_
  refine x_callS_r (a := 0) (b := 0) (as := [xI r, xI 0, xI 5]) (rest := []) ok_X9_isIn dX9_isPart_3 wd1212 wd1213 (m_isIn S r 0 5 (by first | exact hz _ _ | exact hw.1 _ _ | exact zR_of _ | exact bI_z _ | assumption | exact ⟨by omega, by omega⟩) ⟨by decide, by decide⟩ ⟨by decide, by decide⟩) rfl (Nat.le_of_ble_eq_true rfl) (Nat.le_of_ble_eq_true rfl) (by decide) (by omega) (by omega) ?_
  by_cases b3 : 0 ≤ r ∧ r ≤ 5
  · refine x_top (bI_t b3) ?_
    refine x_if_eq (tgt := 31) dX9_isPart_6 (by decide) ⟨by decide, by decide⟩ (fun z => absurd z (by decide)) (fun _ => ?_)
    refine x_iload_n dX9_isPart_9 rfl ?_
    refine x_iconst dX9_isPart_10 ?_
    refine x_iconst dX9_isPart_11 ?_
    refine x_callS_r (a := 0) (b := 0) (as := [xI a, xI 0, xI 2]) (rest := []) ok_X9_isIn dX9_isPart_12 wd1212 wd1213 (m_isIn S a 0 2 (by first | exact hz _ _ | exact hw.1 _ _ | exact zR_of _ | exact bI_z _ | assumption | exact ⟨by omega, by omega⟩) ⟨by decide, by decide⟩ ⟨by decide, by decide⟩) rfl (Nat.le_of_ble_eq_true rfl) (Nat.le_of_ble_eq_true rfl) (by decide) (by omega) (by omega) ?_
    by_cases b12 : 0 ≤ a ∧ a ≤ 2
    · refine x_top (bI_t b12) ?_
      refine x_if_eq (tgt := 31) dX9_isPart_15 (by decide) ⟨by decide, by decide⟩ (fun z => absurd z (by decide)) (fun _ => ?_)
      refine x_iload_n dX9_isPart_18 rfl ?_
      refine x_iconst dX9_isPart_19 ?_
      refine x_iconst dX9_isPart_20 ?_
      refine x_callS_r (a := 0) (b := 0) (as := [xI e, xI 0, xI 2]) (rest := []) ok_X9_isIn dX9_isPart_21 wd1212 wd1213 (m_isIn S e 0 2 (by first | exact hz _ _ | exact hw.1 _ _ | exact zR_of _ | exact bI_z _ | assumption | exact ⟨by omega, by omega⟩) ⟨by decide, by decide⟩ ⟨by decide, by decide⟩) rfl (Nat.le_of_ble_eq_true rfl) (Nat.le_of_ble_eq_true rfl) (by decide) (by omega) (by omega) ?_
      by_cases b21 : 0 ≤ e ∧ e ≤ 2
      · refine x_top (bI_t b21) ?_
        refine x_if_eq (tgt := 31) dX9_isPart_24 (by decide) ⟨by decide, by decide⟩ (fun z => absurd z (by decide)) (fun _ => ?_)
        refine x_iconst dX9_isPart_27 ?_
        refine x_goto (tgt := 32) dX9_isPart_28 (by decide) ?_
        exact x_zret dX9_isPart_32 rfl (Or.inr rfl) (pRI (bI_t (by omega)).symm)
      · refine x_top (bI_f b21) ?_
        refine x_if_eq (tgt := 31) dX9_isPart_24 (by decide) ⟨by decide, by decide⟩ (fun _ => ?_) (fun z => absurd z (by decide))
        refine x_iconst dX9_isPart_31 ?_
        exact x_zret dX9_isPart_32 rfl (Or.inl rfl) (pRI (bI_f (by omega)).symm)
    · refine x_top (bI_f b12) ?_
      refine x_if_eq (tgt := 31) dX9_isPart_15 (by decide) ⟨by decide, by decide⟩ (fun _ => ?_) (fun z => absurd z (by decide))
      refine x_iconst dX9_isPart_31 ?_
      exact x_zret dX9_isPart_32 rfl (Or.inl rfl) (pRI (bI_f (by omega)).symm)
  · refine x_top (bI_f b3) ?_
    refine x_if_eq (tgt := 31) dX9_isPart_6 (by decide) ⟨by decide, by decide⟩ (fun _ => ?_) (fun z => absurd z (by decide))
    refine x_iconst dX9_isPart_31 ?_
    exact x_zret dX9_isPart_32 rfl (Or.inl rfl) (pRI (bI_f (by omega)).symm)
set_option maxHeartbeats 4000000 in
set_option maxRecDepth 100000 in
theorem m_isNoKnowing (C S : XS) (hC : CB C) (hw : WI S) (hM : MR C S) (i n : Int) (zi : zR i) (zn : zR n) : X mX9_isNoKnowing 0 (xEnt mX9_isNoKnowing [xR (50, 0, 0), xI i, xI n]) [] (hp S) 0 0 (pM S (fun k z _T => (z = 1 ∧ ((k = 1 ∧ ¬ ((0 ≤ i ∧ i < C.1 (0, 0, 0) 6) ∧ 0 ≤ n ∧ n < C.1 (9, i, 0) 3 + 1)))) ∨ (z = 0 ∧ k = 0 ∧ ((0 ≤ i ∧ i < C.1 (0, 0, 0) 6) ∧ 0 ≤ n ∧ n < C.1 (9, i, 0) 3 + 1)))) := by
  have c6 := wf0_6 hC.1
  have c4 := wf4_2 hC.1
  have h93 : 0 ≤ i → i < C.1 (0, 0, 0) 6 → 0 ≤ C.1 (9, i, 0) 3 ∧ C.1 (9, i, 0) 3 ≤ 60 := fun a b => wf9_3 hC.1 a (by omega)
  obtain ⟨n11, n12, n13, n24⟩ := hM.2.1
  have hz := hw.1
  show X mX9_isNoKnowing 0 [xR (50, 0, 0), xI i, xI n] [] (hp S) 0 0 _
  refine x_aload_n dX9_isNoKnowing_0 rfl ?_
  refine x_iload_n dX9_isNoKnowing_1 rfl ?_
  refine x_iconst dX9_isNoKnowing_2 ?_
  refine x_aload_n dX9_isNoKnowing_3 rfl ?_
  refine x_get (v := xI (S.1 (50, 0, 0) 11)) dX9_isNoKnowing_4 fl_RX9_45 (hp50 S) rfl ?_
  have f4_1 := wf50_11 hw (S := S)
  refine x_iconst dX9_isNoKnowing_7 ?_
  refine x_isub dX9_isNoKnowing_8 ?_
  refine x_callS_r (a := 0) (b := 0) (as := [xI i, xI 0, xI ((S.1 (50, 0, 0) 11) - 1)]) (rest := [xR (50, 0, 0)]) ok_X9_isIn dX9_isNoKnowing_9 wd1212 wd1213 (m_isIn S i 0 ((S.1 (50, 0, 0) 11) - 1) (by first | exact hz _ _ | exact hw.1 _ _ | exact zR_of _ | exact bI_z _ | assumption | exact ⟨by omega, by omega⟩) ⟨by decide, by decide⟩ (by first | exact hz _ _ | exact hw.1 _ _ | exact zR_of _ | exact bI_z _ | assumption | exact ⟨by omega, by omega⟩)) rfl (Nat.le_of_ble_eq_true rfl) (Nat.le_of_ble_eq_true rfl) (by decide) (by omega) (by omega) ?_
  by_cases b9 : 0 ≤ i ∧ i ≤ ((S.1 (50, 0, 0) 11) - 1)
  · refine x_top (bI_t b9) ?_
    refine x_if_eq (tgt := 29) dX9_isNoKnowing_12 (by decide) ⟨by decide, by decide⟩ (fun z => absurd z (by decide)) (fun _ => ?_)
    have mb := hM.2.2.2.1 i (by omega) (by omega)
    refine x_iload_n dX9_isNoKnowing_15 rfl ?_
    refine x_iconst dX9_isNoKnowing_16 ?_
    refine x_aload_n dX9_isNoKnowing_17 rfl ?_
    refine x_get (v := xR (58, 0, 0)) dX9_isNoKnowing_18 fl_RX9_33 (hp50 S) rfl ?_
    refine x_iload_n dX9_isNoKnowing_21 rfl ?_
    refine x_aldi (f := S.1 (58, 0, 0)) dX9_isNoKnowing_22 (hp58 S) (show (58 : Nat) ≠ 99 by decide) (by omega) (by omega) (by decide) ?_
    have f22_2 := wfa58 hw (S := S) i
    refine x_callS_r (a := 0) (b := 0) (as := [xI n, xI 0, xI (S.1 (58, 0, 0) i)]) (rest := [xR (50, 0, 0)]) ok_X9_isIn dX9_isNoKnowing_23 wd1212 wd1213 (m_isIn S n 0 (S.1 (58, 0, 0) i) (by first | exact hz _ _ | exact hw.1 _ _ | exact zR_of _ | exact bI_z _ | assumption | exact ⟨by omega, by omega⟩) ⟨by decide, by decide⟩ (by first | exact hz _ _ | exact hw.1 _ _ | exact zR_of _ | exact bI_z _ | assumption | exact ⟨by omega, by omega⟩)) rfl (Nat.le_of_ble_eq_true rfl) (Nat.le_of_ble_eq_true rfl) (by decide) (by omega) (by omega) ?_
    by_cases b23 : 0 ≤ n ∧ n ≤ (S.1 (58, 0, 0) i)
    · refine x_top (bI_t b23) ?_
      refine x_if_ne (tgt := 33) dX9_isNoKnowing_26 (by decide) ⟨by decide, by decide⟩ (fun _ => ?_) (fun z => absurd z (by decide))
      refine x_iconst dX9_isNoKnowing_33 ?_
      refine x_iconst dX9_isNoKnowing_34 ?_
      refine x_callV_r (a := 0) (b := 0) (as := [xI 0, xI 1]) (rest := []) ok_X9_isThrown dX9_isNoKnowing_35 wd1215 ⟨wd1217, wd20⟩ (hp50 S) rfl rfl ((show X mX9_isThrown 0 (xEnt mX9_isThrown [xR (50, 0, 0), xI 0, xI 1]) [] (hp S) 0 0 (pRet (xI 0) (hp (putI S (50, 0, 0) 25 0))) from by have q := m_isThrown S hw 0 1 (by omega) (by omega); rw [if_pos rfl] at q; exact q)) rfl (Nat.le_of_ble_eq_true rfl) (Nat.le_of_ble_eq_true rfl) (by decide) (by omega) (by omega) ?_
      exact x_zret dX9_isNoKnowing_38 rfl (Or.inl rfl) (pM_thr (MdQ.rf S) hw (by omega) (by omega))
    · refine x_top (bI_f b23) ?_
      refine x_if_ne (tgt := 33) dX9_isNoKnowing_26 (by decide) ⟨by decide, by decide⟩ (fun z => absurd z (by decide)) (fun _ => ?_)
      refine x_iconst dX9_isNoKnowing_29 ?_
      refine x_goto (tgt := 34) dX9_isNoKnowing_30 (by decide) ?_
      refine x_iconst dX9_isNoKnowing_34 ?_
      refine x_callV_r (a := 0) (b := 0) (as := [xI 1, xI 1]) (rest := []) ok_X9_isThrown dX9_isNoKnowing_35 wd1215 ⟨wd1217, wd20⟩ (hp50 S) rfl rfl ((show X mX9_isThrown 0 (xEnt mX9_isThrown [xR (50, 0, 0), xI 1, xI 1]) [] (hp S) 0 0 (pRet (xI 1) (hp (putI S (50, 0, 0) 25 1))) from by have q := m_isThrown S hw 1 1 (by omega) (by omega); rw [if_neg (by decide)] at q; exact q)) rfl (Nat.le_of_ble_eq_true rfl) (Nat.le_of_ble_eq_true rfl) (by decide) (by omega) (by omega) ?_
      exact x_zret dX9_isNoKnowing_38 rfl (Or.inr rfl) (pM_thr (MdQ.rf S) hw (by omega) (by omega))
  · refine x_top (bI_f b9) ?_
    refine x_if_eq (tgt := 29) dX9_isNoKnowing_12 (by decide) ⟨by decide, by decide⟩ (fun _ => ?_) (fun z => absurd z (by decide))
    refine x_iconst dX9_isNoKnowing_29 ?_
    refine x_goto (tgt := 34) dX9_isNoKnowing_30 (by decide) ?_
    refine x_iconst dX9_isNoKnowing_34 ?_
    refine x_callV_r (a := 0) (b := 0) (as := [xI 1, xI 1]) (rest := []) ok_X9_isThrown dX9_isNoKnowing_35 wd1215 ⟨wd1217, wd20⟩ (hp50 S) rfl rfl ((show X mX9_isThrown 0 (xEnt mX9_isThrown [xR (50, 0, 0), xI 1, xI 1]) [] (hp S) 0 0 (pRet (xI 1) (hp (putI S (50, 0, 0) 25 1))) from by have q := m_isThrown S hw 1 1 (by omega) (by omega); rw [if_neg (by decide)] at q; exact q)) rfl (Nat.le_of_ble_eq_true rfl) (Nat.le_of_ble_eq_true rfl) (by decide) (by omega) (by omega) ?_
    exact x_zret dX9_isNoKnowing_38 rfl (Or.inr rfl) (pM_thr (MdQ.rf S) hw (by omega) (by omega))
set_option maxHeartbeats 4000000 in
set_option maxRecDepth 100000 in
theorem m_isNoAnswer (C S : XS) (hC : CB C) (hw : WI S) (hM : MR C S) (i n t q : Int) (zi : zR i) (zn : zR n) (zt : zR t) (zq : zR q) : X mX9_isNoAnswer 0 (xEnt mX9_isNoAnswer [xR (50, 0, 0), xI i, xI n, xI t, xI q]) [] (hp S) 0 0 (pM S (fun k z _T => (z = 1 ∧ ((k = 1 ∧ ¬ ((0 ≤ i ∧ i < C.1 (0, 0, 0) 6) ∧ 0 ≤ n ∧ n < C.1 (9, i, 0) 3 + 1)) ∨ (k = 2 ∧ ((0 ≤ i ∧ i < C.1 (0, 0, 0) 6) ∧ 0 ≤ n ∧ n < C.1 (9, i, 0) 3 + 1) ∧ ¬ ((0 ≤ t ∧ t < 24) ∧ 0 ≤ q ∧ q < 384)))) ∨ (z = 0 ∧ k = 0 ∧ ((0 ≤ i ∧ i < C.1 (0, 0, 0) 6) ∧ 0 ≤ n ∧ n < C.1 (9, i, 0) 3 + 1) ∧ ((0 ≤ t ∧ t < 24) ∧ 0 ≤ q ∧ q < 384)))) := by
  have c6 := wf0_6 hC.1
  have c4 := wf4_2 hC.1
  have h93 : 0 ≤ i → i < C.1 (0, 0, 0) 6 → 0 ≤ C.1 (9, i, 0) 3 ∧ C.1 (9, i, 0) 3 ≤ 60 := fun a b => wf9_3 hC.1 a (by omega)
  obtain ⟨n11, n12, n13, n24⟩ := hM.2.1
  have hz := hw.1
  show X mX9_isNoAnswer 0 [xR (50, 0, 0), xI i, xI n, xI t, xI q] [] (hp S) 0 0 _
  refine x_aload_n dX9_isNoAnswer_0 rfl ?_
  refine x_iload_n dX9_isNoAnswer_1 rfl ?_
  refine x_iload_n dX9_isNoAnswer_2 rfl ?_
  refine x_callV (a := 0) (b := 0) (as := [xI i, xI n]) (rest := []) ok_X9_isNoKnowing dX9_isNoAnswer_3 wd1331 ⟨wd1333, wd39⟩ (hp50 S) rfl rfl (m_isNoKnowing C S hC hw (hM.q (MdQ.rf S)) i n (by first | exact hz _ _ | exact hw.1 _ _ | exact zR_of _ | exact bI_z _ | assumption | exact ⟨by omega, by omega⟩) (by first | exact hz _ _ | exact hw.1 _ _ | exact zR_of _ | exact bI_z _ | assumption | exact ⟨by omega, by omega⟩)) rfl (Nat.le_of_ble_eq_true rfl) (Nat.le_of_ble_eq_true rfl) (by decide) (by omega) (by omega) (fun _ q => by obtain ⟨_, _, _, y, _⟩ := q; cases y) (fun _ _ q => ?_) (fun _ _ q => by obtain ⟨_, _, _, y, _⟩ := q; cases y)
  obtain ⟨U1, z1, rfl, y1, qU1, wU1, hU1⟩ := q
  cases y1
  have sU1 := (MdQ.rf S).tr qU1
  rcases hU1 with ⟨rfl, hU1⟩ | ⟨rfl, hU1⟩
  · refine x_if_ne (tgt := 44) dX9_isNoAnswer_6 (by decide) ⟨by decide, by decide⟩ (fun _ => ?_) (fun z => absurd z (by decide))
    refine x_iconst dX9_isNoAnswer_44 ?_
    refine x_goto (tgt := 49) dX9_isNoAnswer_45 (by decide) ?_
    exact x_zret dX9_isNoAnswer_49 rfl (Or.inr rfl) (pM_of sU1 wU1 (by omega))
  · refine x_if_ne (tgt := 44) dX9_isNoAnswer_6 (by decide) ⟨by decide, by decide⟩ (fun z => absurd z (by decide)) (fun _ => ?_)
    refine x_aload_n dX9_isNoAnswer_9 rfl ?_
    refine x_iload_n dX9_isNoAnswer_10 rfl ?_
    refine x_iconst dX9_isNoAnswer_11 ?_
    refine x_bipush (v := 23) dX9_isNoAnswer_12 (by decide) ?_
    refine x_callS_r (a := 0) (b := 0) (as := [xI t, xI 0, xI 23]) (rest := [xR (50, 0, 0)]) ok_X9_isIn dX9_isNoAnswer_14 wd1212 wd1213 (m_isIn U1 t 0 23 (by first | exact hz _ _ | exact hw.1 _ _ | exact zR_of _ | exact bI_z _ | assumption | exact ⟨by omega, by omega⟩) ⟨by decide, by decide⟩ ⟨by decide, by decide⟩) rfl (Nat.le_of_ble_eq_true rfl) (Nat.le_of_ble_eq_true rfl) (by decide) (by omega) (by omega) ?_
    by_cases b14 : 0 ≤ t ∧ t ≤ 23
    · refine x_top (bI_t b14) ?_
      refine x_if_eq (tgt := 32) dX9_isNoAnswer_17 (by decide) ⟨by decide, by decide⟩ (fun z => absurd z (by decide)) (fun _ => ?_)
      refine x_iload dX9_isNoAnswer_20 rfl ?_
      refine x_iconst dX9_isNoAnswer_22 ?_
      refine x_sipush (v := 383) dX9_isNoAnswer_23 (by decide) ?_
      refine x_callS_r (a := 0) (b := 0) (as := [xI q, xI 0, xI 383]) (rest := [xR (50, 0, 0)]) ok_X9_isIn dX9_isNoAnswer_26 wd1212 wd1213 (m_isIn U1 q 0 383 (by first | exact hz _ _ | exact hw.1 _ _ | exact zR_of _ | exact bI_z _ | assumption | exact ⟨by omega, by omega⟩) ⟨by decide, by decide⟩ ⟨by decide, by decide⟩) rfl (Nat.le_of_ble_eq_true rfl) (Nat.le_of_ble_eq_true rfl) (by decide) (by omega) (by omega) ?_
      by_cases b26 : 0 ≤ q ∧ q ≤ 383
      · refine x_top (bI_t b26) ?_
        refine x_if_ne (tgt := 36) dX9_isNoAnswer_29 (by decide) ⟨by decide, by decide⟩ (fun _ => ?_) (fun z => absurd z (by decide))
        refine x_iconst dX9_isNoAnswer_36 ?_
        refine x_iconst dX9_isNoAnswer_37 ?_
        refine x_callV_r (a := 0) (b := 0) (as := [xI 0, xI 2]) (rest := []) ok_X9_isThrown dX9_isNoAnswer_38 wd1215 ⟨wd1217, wd20⟩ (hp50 U1) rfl rfl ((show X mX9_isThrown 0 (xEnt mX9_isThrown [xR (50, 0, 0), xI 0, xI 2]) [] (hp U1) 0 0 (pRet (xI 0) (hp (putI U1 (50, 0, 0) 25 0))) from by have q := m_isThrown U1 wU1 0 2 (by omega) (by omega); rw [if_pos rfl] at q; exact q)) rfl (Nat.le_of_ble_eq_true rfl) (Nat.le_of_ble_eq_true rfl) (by decide) (by omega) (by omega) ?_
        refine x_if_eq (tgt := 48) dX9_isNoAnswer_41 (by decide) ⟨by decide, by decide⟩ (fun _ => ?_) (fun z => absurd z (by decide))
        refine x_iconst dX9_isNoAnswer_48 ?_
        exact x_zret dX9_isNoAnswer_49 rfl (Or.inl rfl) (pM_thr sU1 wU1 (by omega) (by omega))
      · refine x_top (bI_f b26) ?_
        refine x_if_ne (tgt := 36) dX9_isNoAnswer_29 (by decide) ⟨by decide, by decide⟩ (fun z => absurd z (by decide)) (fun _ => ?_)
        refine x_iconst dX9_isNoAnswer_32 ?_
        refine x_goto (tgt := 37) dX9_isNoAnswer_33 (by decide) ?_
        refine x_iconst dX9_isNoAnswer_37 ?_
        refine x_callV_r (a := 0) (b := 0) (as := [xI 1, xI 2]) (rest := []) ok_X9_isThrown dX9_isNoAnswer_38 wd1215 ⟨wd1217, wd20⟩ (hp50 U1) rfl rfl ((show X mX9_isThrown 0 (xEnt mX9_isThrown [xR (50, 0, 0), xI 1, xI 2]) [] (hp U1) 0 0 (pRet (xI 1) (hp (putI U1 (50, 0, 0) 25 2))) from by have q := m_isThrown U1 wU1 1 2 (by omega) (by omega); rw [if_neg (by decide)] at q; exact q)) rfl (Nat.le_of_ble_eq_true rfl) (Nat.le_of_ble_eq_true rfl) (by decide) (by omega) (by omega) ?_
        refine x_if_eq (tgt := 48) dX9_isNoAnswer_41 (by decide) ⟨by decide, by decide⟩ (fun z => absurd z (by decide)) (fun _ => ?_)
        refine x_iconst dX9_isNoAnswer_44 ?_
        refine x_goto (tgt := 49) dX9_isNoAnswer_45 (by decide) ?_
        exact x_zret dX9_isNoAnswer_49 rfl (Or.inr rfl) (pM_thr sU1 wU1 (by omega) (by omega))
    · refine x_top (bI_f b14) ?_
      refine x_if_eq (tgt := 32) dX9_isNoAnswer_17 (by decide) ⟨by decide, by decide⟩ (fun _ => ?_) (fun z => absurd z (by decide))
      refine x_iconst dX9_isNoAnswer_32 ?_
      refine x_goto (tgt := 37) dX9_isNoAnswer_33 (by decide) ?_
      refine x_iconst dX9_isNoAnswer_37 ?_
      refine x_callV_r (a := 0) (b := 0) (as := [xI 1, xI 2]) (rest := []) ok_X9_isThrown dX9_isNoAnswer_38 wd1215 ⟨wd1217, wd20⟩ (hp50 U1) rfl rfl ((show X mX9_isThrown 0 (xEnt mX9_isThrown [xR (50, 0, 0), xI 1, xI 2]) [] (hp U1) 0 0 (pRet (xI 1) (hp (putI U1 (50, 0, 0) 25 2))) from by have q := m_isThrown U1 wU1 1 2 (by omega) (by omega); rw [if_neg (by decide)] at q; exact q)) rfl (Nat.le_of_ble_eq_true rfl) (Nat.le_of_ble_eq_true rfl) (by decide) (by omega) (by omega) ?_
      refine x_if_eq (tgt := 48) dX9_isNoAnswer_41 (by decide) ⟨by decide, by decide⟩ (fun z => absurd z (by decide)) (fun _ => ?_)
      refine x_iconst dX9_isNoAnswer_44 ?_
      refine x_goto (tgt := 49) dX9_isNoAnswer_45 (by decide) ?_
      exact x_zret dX9_isNoAnswer_49 rfl (Or.inr rfl) (pM_thr sU1 wU1 (by omega) (by omega))
set_option maxHeartbeats 4000000 in
set_option maxRecDepth 100000 in
theorem m_holds0 (C S : XS) (hC : CB C) (hw : WI S) (hM : MR C S) (i n t q : Int) (i0 : 0 ≤ i) (i1 : i < C.1 (0, 0, 0) 6) (n0 : 0 ≤ n) (n1 : n ≤ C.1 (9, i, 0) 3) (t0 : 0 ≤ t) (t1 : t < 24) (q0 : 0 ≤ q) (q1 : q < 384) : X mX9_holds0 0 (xEnt mX9_holds0 [xR (50, 0, 0), xI i, xI n, xI t, xI q]) [] (hp S) 0 0 (pM S (fun k z _T => z = bI (hB C.1 i n.toNat t q) ∧ k = S.1 (50, 0, 0) 25 ∧ FinR C i n.toNat t (_T.1 (73, 0, 0)) ∧ OnRow _T (onN C.1 i n.toNat))) := by
  have c6 := wf0_6 hC.1
  have c4 := wf4_2 hC.1
  have h93 : 0 ≤ i → i < C.1 (0, 0, 0) 6 → 0 ≤ C.1 (9, i, 0) 3 ∧ C.1 (9, i, 0) 3 ≤ 60 := fun a b => wf9_3 hC.1 a (by omega)
  obtain ⟨n11, n12, n13, n24⟩ := hM.2.1
  have hz := hw.1
  have k93 := h93 i0 i1
  show X mX9_holds0 0 [xR (50, 0, 0), xI i, xI n, xI t, xI q] [] (hp S) 0 0 _
  refine x_aload_n dX9_holds0_0 rfl ?_
  refine x_iload_n dX9_holds0_1 rfl ?_
  refine x_iload_n dX9_holds0_2 rfl ?_
  refine x_iload_n dX9_holds0_3 rfl ?_
  refine x_callV (a := 0) (b := 0) (as := [xI i, xI n, xI t]) (rest := []) ok_X9_finds dX9_holds0_4 wd1245 ⟨wd1247, wd26⟩ (hp50 S) rfl rfl (m_findsZ C S hC hw (hM.q (MdQ.rf S)) i (by omega) (by omega) n (by omega) (by omega) t (by omega) (by omega)) rfl (Nat.le_of_ble_eq_true rfl) (Nat.le_of_ble_eq_true rfl) (by decide) (by omega) (by omega) (fun _ q => ?_) (fun _ _ q => by cases q.1) (fun _ _ q => by cases q.1)
  obtain ⟨-, U1, rfl, eU1, wU1, fU1, oU1, lU1⟩ := q
  have sU1 := (MdQ.rf S).tr eU1.1
  have kU1 := congrFun eU1.2 25
  have fb := fU1.hb hC i0 i1 (show (n.toNat : Int) ≤ C.1 (9, i, 0) 3 by omega) q0 q1
  refine x_aload_n dX9_holds0_7 rfl ?_
  refine x_get (v := xR (73, 0, 0)) dX9_holds0_8 fl_RX9_87 (hp50 U1) rfl ?_
  refine x_iload dX9_holds0_11 rfl ?_
  refine x_aldi (f := U1.1 (73, 0, 0)) dX9_holds0_13 (hp73 U1) (show (73 : Nat) ≠ 99 by decide) (by omega) (by omega) (by decide) ?_
  have f13_1 := wfa73 wU1 (S := U1) q
  refine x_sipush (v := 9999) dX9_holds0_14 (by decide) ?_
  refine x_icmp_ge (tgt := 24) dX9_holds0_17 (by decide) (by first | exact hz _ _ | exact hw.1 _ _ | exact zR_of _ | exact bI_z _ | assumption | exact ⟨by omega, by omega⟩) ⟨by decide, by decide⟩ (fun c17 => ?_) (fun c17 => ?_)
  · refine x_iconst dX9_holds0_24 ?_
    exact x_zret dX9_holds0_25 rfl (Or.inl rfl) (pM_of sU1 wU1 ⟨(bI_f (fun z => by have := fb.1.mpr z; omega)).symm, kU1, fU1, oU1⟩)
  · refine x_iconst dX9_holds0_20 ?_
    refine x_goto (tgt := 25) dX9_holds0_21 (by decide) ?_
    exact x_zret dX9_holds0_25 rfl (Or.inr rfl) (pM_of sU1 wU1 ⟨(bI_t (fb.1.mp (by omega))).symm, kU1, fU1, oU1⟩)
set_option maxHeartbeats 4000000 in
set_option maxRecDepth 100000 in
theorem m_holds (C S : XS) (hC : CB C) (hw : WI S) (hM : MR C S) (i n t q : Int) (zi : zR i) (zn : zR n) (zt : zR t) (zq : zR q) : X mX9_holds 0 (xEnt mX9_holds [xR (50, 0, 0), xI i, xI n, xI t, xI q]) [] (hp S) 0 0 (pM S (fun k z _T => (z = 0 ∧ ((k = 1 ∧ ¬ ((0 ≤ i ∧ i < C.1 (0, 0, 0) 6) ∧ 0 ≤ n ∧ n < C.1 (9, i, 0) 3 + 1)) ∨ (k = 2 ∧ ((0 ≤ i ∧ i < C.1 (0, 0, 0) 6) ∧ 0 ≤ n ∧ n < C.1 (9, i, 0) 3 + 1) ∧ ¬ ((0 ≤ t ∧ t < 24) ∧ 0 ≤ q ∧ q < 384)))) ∨ (k = 0 ∧ ((0 ≤ i ∧ i < C.1 (0, 0, 0) 6) ∧ 0 ≤ n ∧ n < C.1 (9, i, 0) 3 + 1) ∧ ((0 ≤ t ∧ t < 24) ∧ 0 ≤ q ∧ q < 384) ∧ z = bI (hB C.1 i n.toNat t q)))) := by
  have c6 := wf0_6 hC.1
  have c4 := wf4_2 hC.1
  have h93 : 0 ≤ i → i < C.1 (0, 0, 0) 6 → 0 ≤ C.1 (9, i, 0) 3 ∧ C.1 (9, i, 0) 3 ≤ 60 := fun a b => wf9_3 hC.1 a (by omega)
  obtain ⟨n11, n12, n13, n24⟩ := hM.2.1
  have hz := hw.1
  show X mX9_holds 0 [xR (50, 0, 0), xI i, xI n, xI t, xI q] [] (hp S) 0 0 _
  refine x_aload_n dX9_holds_0 rfl ?_
  refine x_iload_n dX9_holds_1 rfl ?_
  refine x_iload_n dX9_holds_2 rfl ?_
  refine x_iload_n dX9_holds_3 rfl ?_
  refine x_iload dX9_holds_4 rfl ?_
  refine x_callV (a := 0) (b := 0) (as := [xI i, xI n, xI t, xI q]) (rest := []) ok_X9_isNoAnswer dX9_holds_6 wd1347 ⟨wd1349, wd40⟩ (hp50 S) rfl rfl (m_isNoAnswer C S hC hw (hM.q (MdQ.rf S)) i n t q (by first | exact hz _ _ | exact hw.1 _ _ | exact zR_of _ | exact bI_z _ | assumption | exact ⟨by omega, by omega⟩) (by first | exact hz _ _ | exact hw.1 _ _ | exact zR_of _ | exact bI_z _ | assumption | exact ⟨by omega, by omega⟩) (by first | exact hz _ _ | exact hw.1 _ _ | exact zR_of _ | exact bI_z _ | assumption | exact ⟨by omega, by omega⟩) (by first | exact hz _ _ | exact hw.1 _ _ | exact zR_of _ | exact bI_z _ | assumption | exact ⟨by omega, by omega⟩)) rfl (Nat.le_of_ble_eq_true rfl) (Nat.le_of_ble_eq_true rfl) (by decide) (by omega) (by omega) (fun _ q => by obtain ⟨_, _, _, y, _⟩ := q; cases y) (fun _ _ q => ?_) (fun _ _ q => by obtain ⟨_, _, _, y, _⟩ := q; cases y)
  obtain ⟨U1, z1, rfl, y1, qU1, wU1, hU1⟩ := q
  cases y1
  have sU1 := (MdQ.rf S).tr qU1
  rcases hU1 with ⟨rfl, hU1⟩ | ⟨rfl, hU1⟩
  · refine x_if_ne (tgt := 28) dX9_holds_9 (by decide) ⟨by decide, by decide⟩ (fun _ => ?_) (fun z => absurd z (by decide))
    refine x_iconst dX9_holds_28 ?_
    exact x_zret dX9_holds_29 rfl (Or.inl rfl) (pM_of sU1 wU1 (by omega))
  · refine x_if_ne (tgt := 28) dX9_holds_9 (by decide) ⟨by decide, by decide⟩ (fun z => absurd z (by decide)) (fun _ => ?_)
    refine x_aload_n dX9_holds_12 rfl ?_
    refine x_iload_n dX9_holds_13 rfl ?_
    refine x_iload_n dX9_holds_14 rfl ?_
    refine x_iload_n dX9_holds_15 rfl ?_
    refine x_iload dX9_holds_16 rfl ?_
    refine x_callV (a := 0) (b := 0) (as := [xI i, xI n, xI t, xI q]) (rest := []) ok_X9_holds0 dX9_holds_18 wd1351 ⟨wd1353, wd41⟩ (hp50 U1) rfl rfl (m_holds0 C U1 hC wU1 (hM.q sU1) i n t q (by omega) (by omega) (by omega) (by omega) (by omega) (by omega) (by omega) (by omega)) rfl (Nat.le_of_ble_eq_true rfl) (Nat.le_of_ble_eq_true rfl) (by decide) (by omega) (by omega) (fun _ q => by obtain ⟨_, _, _, y, _⟩ := q; cases y) (fun _ _ q => ?_) (fun _ _ q => by obtain ⟨_, _, _, y, _⟩ := q; cases y)
    obtain ⟨U2, z2, rfl, y2, qU2, wU2, hU2⟩ := q
    cases y2
    have sU2 := sU1.tr qU2
    obtain ⟨rfl, kU2, fU2, oU2⟩ := hU2
    have vU201 := bI_01 (hB C.1 i (n).toNat t q)
    refine x_if_eq (tgt := 28) dX9_holds_21 (by decide) (by first | exact hz _ _ | exact hw.1 _ _ | exact zR_of _ | exact bI_z _ | assumption | exact ⟨by omega, by omega⟩) (fun c21 => ?_) (fun c21 => ?_)
    · refine x_iconst dX9_holds_28 ?_
      exact x_zret dX9_holds_29 rfl (Or.inl rfl) (pM_of sU2 wU2 (by omega))
    · refine x_iconst dX9_holds_24 ?_
      refine x_goto (tgt := 29) dX9_holds_25 (by decide) ?_
      exact x_zret dX9_holds_29 rfl (Or.inr rfl) (pM_of sU2 wU2 (by omega))
