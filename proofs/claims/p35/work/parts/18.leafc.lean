/-! tellings; branches -/
theorem pVe {S S2 : XS} (h : S = S2) : pVoid (hp S2) (.inl none) (hp S) := by subst h; exact pV
def fDigest (S : XS) (l : XL) : Int := if S.1 l 0 ≠ 0 then fCh (if S.1 l 1 ≠ 0 then 13 else 17) (S.1 l 2) else fCh (fCh (fCh (if S.1 l 1 ≠ 0 then 7 else 11) (S.1 l 2)) (S.1 l 3)) (S.1 l 4)
theorem fDigest_in (S : XS) (l : XL) : 0 ≤ fDigest S l ∧ fDigest S l ≤ 65520 := by unfold fDigest; split <;> exact fCh_in _ _
set_option maxHeartbeats 4000000 in
set_option maxRecDepth 100000 in
theorem c_setDigest (S : XS) (hw : WI S) (b k : Int) (h1 : 0 ≤ b) (h2 : b < 4) (h3 : 0 ≤ k) (h4 : k < 60) : X mX7_setDigest 0 (xEnt mX7_setDigest [xR (13, b, k)]) [] (hp S) 0 0 (pVoid (hp (putI S (13, b, k) 5 (fDigest S (13, b, k))))) := by
  show X mX7_setDigest 0 [xR (13, b, k)] [] (hp S) 0 0 _
  refine x_aload_n dX7_setDigest_0 rfl ?_
  refine x_get (v := xI (S.1 (13, b, k) 0)) dX7_setDigest_1 fl_RX7_9 (hp13 S (by omega) (by omega) (by omega) (by omega)) rfl ?_
  have f1_1 := wf13_0 hw (S := S) (b := b) (t := k) (by omega) (by omega) (by omega) (by omega)
  refine x_if_eq (tgt := 35) dX7_setDigest_4 (by decide) (by first | exact hz _ _ | exact hw.1 _ _ | exact zR_of _ | exact bI_z _ | assumption | exact ⟨by omega, by omega⟩) (fun c4 => ?_) (fun c4 => ?_)
  · refine x_aload_n dX7_setDigest_35 rfl ?_
    refine x_aload_n dX7_setDigest_36 rfl ?_
    refine x_get (v := xI (S.1 (13, b, k) 1)) dX7_setDigest_37 fl_RX7_15 (hp13 S (by omega) (by omega) (by omega) (by omega)) rfl ?_
    have f37_2 := wf13_1 hw (S := S) (b := b) (t := k) (by omega) (by omega) (by omega) (by omega)
    refine x_if_eq (tgt := 48) dX7_setDigest_40 (by decide) (by first | exact hz _ _ | exact hw.1 _ _ | exact zR_of _ | exact bI_z _ | assumption | exact ⟨by omega, by omega⟩) (fun c40 => ?_) (fun c40 => ?_)
    · refine x_bipush (v := 11) dX7_setDigest_48 (by decide) ?_
      refine x_aload_n dX7_setDigest_50 rfl ?_
      refine x_get (v := xI (S.1 (13, b, k) 2)) dX7_setDigest_51 fl_RX7_18 (hp13 S (by omega) (by omega) (by omega) (by omega)) rfl ?_
      have f51_3 := wf13_2 hw (S := S) (b := b) (t := k) (by omega) (by omega) (by omega) (by omega)
      refine x_callSN_r (a := 0) (b := 0) (as := [xI 11, xI (S.1 (13, b, k) 2)]) (rest := [xR (13, b, k)]) ok_X8_chained dX7_setDigest_54 wn610 wd343 (c_chained S 11 (S.1 (13, b, k) 2) (by first | omega | exact (fCh_in _ _).1) (by first | omega | exact (fCh_in _ _).2) (by omega) (by omega)) rfl (Nat.le_of_ble_eq_true rfl) (Nat.le_of_ble_eq_true rfl) (by decide) (by omega) (by omega) ?_
      refine x_aload_n dX7_setDigest_57 rfl ?_
      refine x_get (v := xI (S.1 (13, b, k) 3)) dX7_setDigest_58 fl_RX7_29 (hp13 S (by omega) (by omega) (by omega) (by omega)) rfl ?_
      have f58_4 := wf13_3 hw (S := S) (b := b) (t := k) (by omega) (by omega) (by omega) (by omega)
      refine x_callSN_r (a := 0) (b := 0) (as := [xI (fCh 11 (S.1 (13, b, k) 2)), xI (S.1 (13, b, k) 3)]) (rest := [xR (13, b, k)]) ok_X8_chained dX7_setDigest_61 wn610 wd343 (c_chained S (fCh 11 (S.1 (13, b, k) 2)) (S.1 (13, b, k) 3) (by first | omega | exact (fCh_in _ _).1) (by first | omega | exact (fCh_in _ _).2) (by omega) (by omega)) rfl (Nat.le_of_ble_eq_true rfl) (Nat.le_of_ble_eq_true rfl) (by decide) (by omega) (by omega) ?_
      refine x_aload_n dX7_setDigest_64 rfl ?_
      refine x_get (v := xI (S.1 (13, b, k) 4)) dX7_setDigest_65 fl_RX7_32 (hp13 S (by omega) (by omega) (by omega) (by omega)) rfl ?_
      have f65_5 := wf13_4 hw (S := S) (b := b) (t := k) (by omega) (by omega) (by omega) (by omega)
      refine x_callSN_r (a := 0) (b := 0) (as := [xI (fCh (fCh 11 (S.1 (13, b, k) 2)) (S.1 (13, b, k) 3)), xI (S.1 (13, b, k) 4)]) (rest := [xR (13, b, k)]) ok_X8_chained dX7_setDigest_68 wn610 wd343 (c_chained S (fCh (fCh 11 (S.1 (13, b, k) 2)) (S.1 (13, b, k) 3)) (S.1 (13, b, k) 4) (by first | omega | exact (fCh_in _ _).1) (by first | omega | exact (fCh_in _ _).2) (by omega) (by omega)) rfl (Nat.le_of_ble_eq_true rfl) (Nat.le_of_ble_eq_true rfl) (by decide) (by omega) (by omega) ?_
      refine x_put dX7_setDigest_71 fl_RX7_26 (fun r hr => by cases hr; rfl) (hp13 S (by omega) (by omega) (by omega) (by omega)) xfit_i (Nat.le_of_ble_eq_true rfl) rfl ?_
      refine x_heq (pu13_5 S (by omega) (by omega) (by omega) (by omega) (fCh (fCh (fCh 11 (S.1 (13, b, k) 2)) (S.1 (13, b, k) 3)) (S.1 (13, b, k) 4))) ?_
      have hw71_6 : WI (putI S (13, b, k) 5 (fCh (fCh (fCh 11 (S.1 (13, b, k) 2)) (S.1 (13, b, k) 3)) (S.1 (13, b, k) 4))) := wp13_5 hw (by omega) (by omega) (by omega) (by omega) (fCh_in _ _)
      exact x_vret dX7_setDigest_74 rfl (pVe (by congr 1; unfold fDigest; (repeat' split) <;> first | rfl | (exfalso; omega)))
    · refine x_bipush (v := 7) dX7_setDigest_43 (by decide) ?_
      refine x_goto (tgt := 50) dX7_setDigest_45 (by decide) ?_
      refine x_aload_n dX7_setDigest_50 rfl ?_
      refine x_get (v := xI (S.1 (13, b, k) 2)) dX7_setDigest_51 fl_RX7_18 (hp13 S (by omega) (by omega) (by omega) (by omega)) rfl ?_
      have f51_7 := wf13_2 hw (S := S) (b := b) (t := k) (by omega) (by omega) (by omega) (by omega)
      refine x_callSN_r (a := 0) (b := 0) (as := [xI 7, xI (S.1 (13, b, k) 2)]) (rest := [xR (13, b, k)]) ok_X8_chained dX7_setDigest_54 wn610 wd343 (c_chained S 7 (S.1 (13, b, k) 2) (by first | omega | exact (fCh_in _ _).1) (by first | omega | exact (fCh_in _ _).2) (by omega) (by omega)) rfl (Nat.le_of_ble_eq_true rfl) (Nat.le_of_ble_eq_true rfl) (by decide) (by omega) (by omega) ?_
      refine x_aload_n dX7_setDigest_57 rfl ?_
      refine x_get (v := xI (S.1 (13, b, k) 3)) dX7_setDigest_58 fl_RX7_29 (hp13 S (by omega) (by omega) (by omega) (by omega)) rfl ?_
      have f58_8 := wf13_3 hw (S := S) (b := b) (t := k) (by omega) (by omega) (by omega) (by omega)
      refine x_callSN_r (a := 0) (b := 0) (as := [xI (fCh 7 (S.1 (13, b, k) 2)), xI (S.1 (13, b, k) 3)]) (rest := [xR (13, b, k)]) ok_X8_chained dX7_setDigest_61 wn610 wd343 (c_chained S (fCh 7 (S.1 (13, b, k) 2)) (S.1 (13, b, k) 3) (by first | omega | exact (fCh_in _ _).1) (by first | omega | exact (fCh_in _ _).2) (by omega) (by omega)) rfl (Nat.le_of_ble_eq_true rfl) (Nat.le_of_ble_eq_true rfl) (by decide) (by omega) (by omega) ?_
      refine x_aload_n dX7_setDigest_64 rfl ?_
      refine x_get (v := xI (S.1 (13, b, k) 4)) dX7_setDigest_65 fl_RX7_32 (hp13 S (by omega) (by omega) (by omega) (by omega)) rfl ?_
      have f65_9 := wf13_4 hw (S := S) (b := b) (t := k) (by omega) (by omega) (by omega) (by omega)
      refine x_callSN_r (a := 0) (b := 0) (as := [xI (fCh (fCh 7 (S.1 (13, b, k) 2)) (S.1 (13, b, k) 3)), xI (S.1 (13, b, k) 4)]) (rest := [xR (13, b, k)]) ok_X8_chained dX7_setDigest_68 wn610 wd343 (c_chained S (fCh (fCh 7 (S.1 (13, b, k) 2)) (S.1 (13, b, k) 3)) (S.1 (13, b, k) 4) (by first | omega | exact (fCh_in _ _).1) (by first | omega | exact (fCh_in _ _).2) (by omega) (by omega)) rfl (Nat.le_of_ble_eq_true rfl) (Nat.le_of_ble_eq_true rfl) (by decide) (by omega) (by omega) ?_
      refine x_put dX7_setDigest_71 fl_RX7_26 (fun r hr => by cases hr; rfl) (hp13 S (by omega) (by omega) (by omega) (by omega)) xfit_i (Nat.le_of_ble_eq_true rfl) rfl ?_
      refine x_heq (pu13_5 S (by omega) (by omega) (by omega) (by omega) (fCh (fCh (fCh 7 (S.1 (13, b, k) 2)) (S.1 (13, b, k) 3)) (S.1 (13, b, k) 4))) ?_
      have hw71_10 : WI (putI S (13, b, k) 5 (fCh (fCh (fCh 7 (S.1 (13, b, k) 2)) (S.1 (13, b, k) 3)) (S.1 (13, b, k) 4))) := wp13_5 hw (by omega) (by omega) (by omega) (by omega) (fCh_in _ _)
      exact x_vret dX7_setDigest_74 rfl (pVe (by congr 1; unfold fDigest; (repeat' split) <;> first | rfl | (exfalso; omega)))
  · refine x_aload_n dX7_setDigest_7 rfl ?_
    refine x_aload_n dX7_setDigest_8 rfl ?_
    refine x_get (v := xI (S.1 (13, b, k) 1)) dX7_setDigest_9 fl_RX7_15 (hp13 S (by omega) (by omega) (by omega) (by omega)) rfl ?_
    have f9_11 := wf13_1 hw (S := S) (b := b) (t := k) (by omega) (by omega) (by omega) (by omega)
    refine x_if_eq (tgt := 20) dX7_setDigest_12 (by decide) (by first | exact hz _ _ | exact hw.1 _ _ | exact zR_of _ | exact bI_z _ | assumption | exact ⟨by omega, by omega⟩) (fun c12 => ?_) (fun c12 => ?_)
    · refine x_bipush (v := 17) dX7_setDigest_20 (by decide) ?_
      refine x_aload_n dX7_setDigest_22 rfl ?_
      refine x_get (v := xI (S.1 (13, b, k) 2)) dX7_setDigest_23 fl_RX7_18 (hp13 S (by omega) (by omega) (by omega) (by omega)) rfl ?_
      have f23_12 := wf13_2 hw (S := S) (b := b) (t := k) (by omega) (by omega) (by omega) (by omega)
      refine x_callSN_r (a := 0) (b := 0) (as := [xI 17, xI (S.1 (13, b, k) 2)]) (rest := [xR (13, b, k)]) ok_X8_chained dX7_setDigest_26 wn610 wd343 (c_chained S 17 (S.1 (13, b, k) 2) (by first | omega | exact (fCh_in _ _).1) (by first | omega | exact (fCh_in _ _).2) (by omega) (by omega)) rfl (Nat.le_of_ble_eq_true rfl) (Nat.le_of_ble_eq_true rfl) (by decide) (by omega) (by omega) ?_
      refine x_put dX7_setDigest_29 fl_RX7_26 (fun r hr => by cases hr; rfl) (hp13 S (by omega) (by omega) (by omega) (by omega)) xfit_i (Nat.le_of_ble_eq_true rfl) rfl ?_
      refine x_heq (pu13_5 S (by omega) (by omega) (by omega) (by omega) (fCh 17 (S.1 (13, b, k) 2))) ?_
      have hw29_13 : WI (putI S (13, b, k) 5 (fCh 17 (S.1 (13, b, k) 2))) := wp13_5 hw (by omega) (by omega) (by omega) (by omega) (fCh_in _ _)
      refine x_goto (tgt := 74) dX7_setDigest_32 (by decide) ?_
      exact x_vret dX7_setDigest_74 rfl (pVe (by congr 1; unfold fDigest; (repeat' split) <;> first | rfl | (exfalso; omega)))
    · refine x_bipush (v := 13) dX7_setDigest_15 (by decide) ?_
      refine x_goto (tgt := 22) dX7_setDigest_17 (by decide) ?_
      refine x_aload_n dX7_setDigest_22 rfl ?_
      refine x_get (v := xI (S.1 (13, b, k) 2)) dX7_setDigest_23 fl_RX7_18 (hp13 S (by omega) (by omega) (by omega) (by omega)) rfl ?_
      have f23_14 := wf13_2 hw (S := S) (b := b) (t := k) (by omega) (by omega) (by omega) (by omega)
      refine x_callSN_r (a := 0) (b := 0) (as := [xI 13, xI (S.1 (13, b, k) 2)]) (rest := [xR (13, b, k)]) ok_X8_chained dX7_setDigest_26 wn610 wd343 (c_chained S 13 (S.1 (13, b, k) 2) (by first | omega | exact (fCh_in _ _).1) (by first | omega | exact (fCh_in _ _).2) (by omega) (by omega)) rfl (Nat.le_of_ble_eq_true rfl) (Nat.le_of_ble_eq_true rfl) (by decide) (by omega) (by omega) ?_
      refine x_put dX7_setDigest_29 fl_RX7_26 (fun r hr => by cases hr; rfl) (hp13 S (by omega) (by omega) (by omega) (by omega)) xfit_i (Nat.le_of_ble_eq_true rfl) rfl ?_
      refine x_heq (pu13_5 S (by omega) (by omega) (by omega) (by omega) (fCh 13 (S.1 (13, b, k) 2))) ?_
      have hw29_15 : WI (putI S (13, b, k) 5 (fCh 13 (S.1 (13, b, k) 2))) := wp13_5 hw (by omega) (by omega) (by omega) (by omega) (fCh_in _ _)
      refine x_goto (tgt := 74) dX7_setDigest_32 (by decide) ?_
      exact x_vret dX7_setDigest_74 rfl (pVe (by congr 1; unfold fDigest; (repeat' split) <;> first | rfl | (exfalso; omega)))
def sTC (S : XS) (l m : XL) : XS :=
  let S1 := putI S l 0 (S.1 m 0); let S2 := putI S1 l 1 (S1.1 m 1); let S3 := putI S2 l 2 (S2.1 m 2); let S4 := putI S3 l 3 (S3.1 m 3)
  let S5 := putI S4 l 4 (S4.1 m 4); let S6 := putI S5 l 5 (S5.1 m 5); let S7 := putI S6 l 6 (S6.1 m 6); putI S7 l 7 (-1)
theorem wi_copyT (S : XS) (hw : WI S) (b k : Int) (h1 : 0 ≤ b) (h2 : b < 4) (h3 : 0 ≤ k) (h4 : k < 60) (c m : Int) (g1 : 0 ≤ c) (g2 : c < 4) (g3 : 0 ≤ m) (g4 : m < 60) : WI (sTC S (13, b, k) (13, c, m)) := by
  have w1 := wp13_0 hw h1 h2 h3 h4 (wf13_0 hw g1 g2 g3 g4)
  have w2 := wp13_1 w1 h1 h2 h3 h4 (wf13_1 w1 g1 g2 g3 g4)
  have w3 := wp13_2 w2 h1 h2 h3 h4 (wf13_2 w2 g1 g2 g3 g4)
  have w4 := wp13_3 w3 h1 h2 h3 h4 (wf13_3 w3 g1 g2 g3 g4)
  have w5 := wp13_4 w4 h1 h2 h3 h4 (wf13_4 w4 g1 g2 g3 g4)
  have w6 := wp13_5 w5 h1 h2 h3 h4 (wf13_5 w5 g1 g2 g3 g4)
  have w7 := wp13_6 w6 h1 h2 h3 h4 (wf13_6 w6 g1 g2 g3 g4)
  exact wp13_7 w7 h1 h2 h3 h4 (by omega)
def fAgainst (S : XS) (l m : XL) : Prop := S.1 l 1 ≠ S.1 m 1 ∧ S.1 l 0 = S.1 m 0 ∧ S.1 l 2 = S.1 m 2 ∧ (S.1 l 0 ≠ 0 ∨ S.1 l 3 ≤ S.1 m 4 ∧ S.1 m 3 ≤ S.1 l 4)
def fConcerns (S : XS) (l : XL) (x : Int) : Prop := S.1 l 0 = 0 ∧ (S.1 l 2 % 64 / 8 = x ∨ S.1 l 2 % 64 % 8 = x)
set_option maxHeartbeats 4000000 in
set_option maxRecDepth 100000 in
theorem c_isFull (S : XS) (hw : WI S) (b : Int) (h1 : 0 ≤ b) (h2 : b < 4) : X mX0_isFull 0 (xEnt mX0_isFull [xR (9, b, 0)]) [] (hp S) 0 0 (pRet (xI (bI (60 ≤ S.1 (9, b, 0) 3))) (hp S)) := by
  show X mX0_isFull 0 [xR (9, b, 0)] [] (hp S) 0 0 _
  refine x_aload_n dX0_isFull_0 rfl ?_
  refine x_get (v := xI (S.1 (9, b, 0) 3)) dX0_isFull_1 fl_RX0_27 (hp9 S (by omega) (by omega)) rfl ?_
  have f1_1 := wf9_3 hw (S := S) (b := b) (by omega) (by omega)
  refine x_bipush (v := 60) dX0_isFull_4 (by decide) ?_
  refine x_icmp_lt (tgt := 13) dX0_isFull_6 (by decide) (by first | exact hz _ _ | exact hw.1 _ _ | exact zR_of _ | exact bI_z _ | assumption | exact ⟨by omega, by omega⟩) ⟨by decide, by decide⟩ (fun c6 => ?_) (fun c6 => ?_)
  · refine x_iconst dX0_isFull_13 ?_
    exact x_zret dX0_isFull_14 rfl (Or.inl rfl) (pRI (bI_f (by omega)).symm)
  · refine x_iconst dX0_isFull_9 ?_
    refine x_goto (tgt := 14) dX0_isFull_10 (by decide) ?_
    exact x_zret dX0_isFull_14 rfl (Or.inr rfl) (pRI (bI_t (by omega)).symm)
def sApp (S : XS) (b r s a f t c : Int) : XS :=
  let n := S.1 (9, b, 0) 3; let l : XL := (13, b, n)
  let T := putI (putI (putI (putI (putI (putI (putI S l 0 r) l 1 s) l 2 a) l 3 f) l 4 t) l 6 0) l 7 c
  let T2 := putI T l 5 (fDigest T l)
  let T3 := putI T2 (11, b, 0) (n + 1) (fCh (S.1 (11, b, 0) n) (T2.1 l 5))
  putI T3 (9, b, 0) 3 (n + 1)
set_option maxHeartbeats 4000000 in
set_option maxRecDepth 100000 in
theorem c_append (S : XS) (hw : WI S) (b : Int) (h1 : 0 ≤ b) (h2 : b < 4) (hs : S.1 (9, b, 0) 3 < 60) (r s a f t c : Int) (g1 : r = 0 ∨ r = 1) (g2 : s = 0 ∨ s = 1) (g3 : 0 ≤ a ∧ a ≤ 383) (g4 : 0 ≤ f ∧ f ≤ 23) (g5 : 0 ≤ t ∧ t ≤ 23) (g6 : -1 ≤ c ∧ c ≤ 3) : X mX0_append 0 (xEnt mX0_append [xR (9, b, 0), xI r, xI s, xI a, xI f, xI t, xI c]) [] (hp S) 0 0 (pVoid (hp (sApp S b r s a f t c))) := by
  show X mX0_append 0 [xR (9, b, 0), xI r, xI s, xI a, xI f, xI t, xI c, none] [] (hp S) 0 0 _
  refine x_aload_n dX0_append_0 rfl ?_
  refine x_callV_r (a := 0) (b := 0) (as := []) (rest := []) ok_X0_isFull dX0_append_1 wd605 ⟨wd582, wd583⟩ (hp9 S (by omega) (by omega)) rfl rfl (c_isFull S hw b (by omega) (by omega)) rfl (Nat.le_of_ble_eq_true rfl) (Nat.le_of_ble_eq_true rfl) (by decide) (by omega) (by omega) ?_
  by_cases b1 : 60 ≤ S.1 (9, b, 0) 3
  · refine x_top (bI_t b1) ?_
    refine x_if_eq (tgt := 8) dX0_append_4 (by decide) ⟨by decide, by decide⟩ (fun z => absurd z (by decide)) (fun _ => ?_)
    exact x_vret dX0_append_7 rfl (by exfalso; omega)
  · refine x_top (bI_f b1) ?_
    refine x_if_eq (tgt := 8) dX0_append_4 (by decide) ⟨by decide, by decide⟩ (fun _ => ?_) (fun z => absurd z (by decide))
    refine x_aload_n dX0_append_8 rfl ?_
    refine x_get (v := xR (10, b, 0)) dX0_append_9 fl_RX0_11 (hp9 S (by omega) (by omega)) rfl ?_
    refine x_aload_n dX0_append_12 rfl ?_
    refine x_get (v := xI (S.1 (9, b, 0) 3)) dX0_append_13 fl_RX0_27 (hp9 S (by omega) (by omega)) rfl ?_
    have f13_1 := wf9_3 hw (S := S) (b := b) (by omega) (by omega)
    refine x_alda (l2 := (13, b, S.1 (9, b, 0) 3)) dX0_append_16 (hp10 S (by omega) (by omega)) (show (10 : Nat) ≠ 99 by decide) (by decide) (by decide) (by omega) (by omega) (by decide) rfl ?_
    refine x_astore (L' := [xR (9, b, 0), xI r, xI s, xI a, xI f, xI t, xI c, xR (13, b, S.1 (9, b, 0) 3)]) dX0_append_17 (by decide) rfl ?_
    refine x_aload dX0_append_19 rfl ?_
    refine x_iload_n dX0_append_21 rfl ?_
    refine x_put dX0_append_22 fl_RX0_46 (fun r hr => by cases hr; rfl) (hp13 S (by omega) (by omega) (by omega) (by omega)) (xfit_z g1) (Nat.le_of_ble_eq_true rfl) rfl ?_
    refine x_heq (pu13_0 S (by omega) (by omega) (by omega) (by omega) r) ?_
    have hw22_2 : WI (putI S (13, b, S.1 (9, b, 0) 3) 0 r) := wp13_0 hw (by omega) (by omega) (by omega) (by omega) g1
    refine x_aload dX0_append_25 rfl ?_
    refine x_iload_n dX0_append_27 rfl ?_
    refine x_put dX0_append_28 fl_RX0_50 (fun r hr => by cases hr; rfl) (hp13 (putI S (13, b, S.1 (9, b, 0) 3) 0 r) (by omega) (by omega) (by omega) (by omega)) (xfit_z g2) (Nat.le_of_ble_eq_true rfl) rfl ?_
    refine x_heq (pu13_1 (putI S (13, b, S.1 (9, b, 0) 3) 0 r) (by omega) (by omega) (by omega) (by omega) s) ?_
    have hw28_3 : WI (putI (putI S (13, b, S.1 (9, b, 0) 3) 0 r) (13, b, S.1 (9, b, 0) 3) 1 s) := wp13_1 hw22_2 (by omega) (by omega) (by omega) (by omega) g2
    refine x_aload dX0_append_31 rfl ?_
    refine x_iload_n dX0_append_33 rfl ?_
    refine x_put dX0_append_34 fl_RX0_53 (fun r hr => by cases hr; rfl) (hp13 (putI (putI S (13, b, S.1 (9, b, 0) 3) 0 r) (13, b, S.1 (9, b, 0) 3) 1 s) (by omega) (by omega) (by omega) (by omega)) xfit_i (Nat.le_of_ble_eq_true rfl) rfl ?_
    refine x_heq (pu13_2 (putI (putI S (13, b, S.1 (9, b, 0) 3) 0 r) (13, b, S.1 (9, b, 0) 3) 1 s) (by omega) (by omega) (by omega) (by omega) a) ?_
    have hw34_4 : WI (putI (putI (putI S (13, b, S.1 (9, b, 0) 3) 0 r) (13, b, S.1 (9, b, 0) 3) 1 s) (13, b, S.1 (9, b, 0) 3) 2 a) := wp13_2 hw28_3 (by omega) (by omega) (by omega) (by omega) (by omega)
    refine x_aload dX0_append_37 rfl ?_
    refine x_iload dX0_append_39 rfl ?_
    refine x_put dX0_append_41 fl_RX0_56 (fun r hr => by cases hr; rfl) (hp13 (putI (putI (putI S (13, b, S.1 (9, b, 0) 3) 0 r) (13, b, S.1 (9, b, 0) 3) 1 s) (13, b, S.1 (9, b, 0) 3) 2 a) (by omega) (by omega) (by omega) (by omega)) xfit_i (Nat.le_of_ble_eq_true rfl) rfl ?_
    refine x_heq (pu13_3 (putI (putI (putI S (13, b, S.1 (9, b, 0) 3) 0 r) (13, b, S.1 (9, b, 0) 3) 1 s) (13, b, S.1 (9, b, 0) 3) 2 a) (by omega) (by omega) (by omega) (by omega) f) ?_
    have hw41_5 : WI (putI (putI (putI (putI S (13, b, S.1 (9, b, 0) 3) 0 r) (13, b, S.1 (9, b, 0) 3) 1 s) (13, b, S.1 (9, b, 0) 3) 2 a) (13, b, S.1 (9, b, 0) 3) 3 f) := wp13_3 hw34_4 (by omega) (by omega) (by omega) (by omega) (by omega)
    refine x_aload dX0_append_44 rfl ?_
    refine x_iload dX0_append_46 rfl ?_
    refine x_put dX0_append_48 fl_RX0_59 (fun r hr => by cases hr; rfl) (hp13 (putI (putI (putI (putI S (13, b, S.1 (9, b, 0) 3) 0 r) (13, b, S.1 (9, b, 0) 3) 1 s) (13, b, S.1 (9, b, 0) 3) 2 a) (13, b, S.1 (9, b, 0) 3) 3 f) (by omega) (by omega) (by omega) (by omega)) xfit_i (Nat.le_of_ble_eq_true rfl) rfl ?_
    refine x_heq (pu13_4 (putI (putI (putI (putI S (13, b, S.1 (9, b, 0) 3) 0 r) (13, b, S.1 (9, b, 0) 3) 1 s) (13, b, S.1 (9, b, 0) 3) 2 a) (13, b, S.1 (9, b, 0) 3) 3 f) (by omega) (by omega) (by omega) (by omega) t) ?_
    have hw48_6 : WI (putI (putI (putI (putI (putI S (13, b, S.1 (9, b, 0) 3) 0 r) (13, b, S.1 (9, b, 0) 3) 1 s) (13, b, S.1 (9, b, 0) 3) 2 a) (13, b, S.1 (9, b, 0) 3) 3 f) (13, b, S.1 (9, b, 0) 3) 4 t) := wp13_4 hw41_5 (by omega) (by omega) (by omega) (by omega) (by omega)
    refine x_aload dX0_append_51 rfl ?_
    refine x_iconst dX0_append_53 ?_
    refine x_put dX0_append_54 fl_RX0_62 (fun r hr => by cases hr; rfl) (hp13 (putI (putI (putI (putI (putI S (13, b, S.1 (9, b, 0) 3) 0 r) (13, b, S.1 (9, b, 0) 3) 1 s) (13, b, S.1 (9, b, 0) 3) 2 a) (13, b, S.1 (9, b, 0) 3) 3 f) (13, b, S.1 (9, b, 0) 3) 4 t) (by omega) (by omega) (by omega) (by omega)) (xfit_z (Or.inl rfl)) (Nat.le_of_ble_eq_true rfl) rfl ?_
    refine x_heq (pu13_6 (putI (putI (putI (putI (putI S (13, b, S.1 (9, b, 0) 3) 0 r) (13, b, S.1 (9, b, 0) 3) 1 s) (13, b, S.1 (9, b, 0) 3) 2 a) (13, b, S.1 (9, b, 0) 3) 3 f) (13, b, S.1 (9, b, 0) 3) 4 t) (by omega) (by omega) (by omega) (by omega) 0) ?_
    have hw54_7 : WI (putI (putI (putI (putI (putI (putI S (13, b, S.1 (9, b, 0) 3) 0 r) (13, b, S.1 (9, b, 0) 3) 1 s) (13, b, S.1 (9, b, 0) 3) 2 a) (13, b, S.1 (9, b, 0) 3) 3 f) (13, b, S.1 (9, b, 0) 3) 4 t) (13, b, S.1 (9, b, 0) 3) 6 0) := wp13_6 hw48_6 (by omega) (by omega) (by omega) (by omega) (Or.inl rfl)
    refine x_aload dX0_append_57 rfl ?_
    refine x_iload dX0_append_59 rfl ?_
    refine x_put dX0_append_61 fl_RX0_65 (fun r hr => by cases hr; rfl) (hp13 (putI (putI (putI (putI (putI (putI S (13, b, S.1 (9, b, 0) 3) 0 r) (13, b, S.1 (9, b, 0) 3) 1 s) (13, b, S.1 (9, b, 0) 3) 2 a) (13, b, S.1 (9, b, 0) 3) 3 f) (13, b, S.1 (9, b, 0) 3) 4 t) (13, b, S.1 (9, b, 0) 3) 6 0) (by omega) (by omega) (by omega) (by omega)) xfit_i (Nat.le_of_ble_eq_true rfl) rfl ?_
    refine x_heq (pu13_7 (putI (putI (putI (putI (putI (putI S (13, b, S.1 (9, b, 0) 3) 0 r) (13, b, S.1 (9, b, 0) 3) 1 s) (13, b, S.1 (9, b, 0) 3) 2 a) (13, b, S.1 (9, b, 0) 3) 3 f) (13, b, S.1 (9, b, 0) 3) 4 t) (13, b, S.1 (9, b, 0) 3) 6 0) (by omega) (by omega) (by omega) (by omega) c) ?_
    have hw61_8 : WI (putI (putI (putI (putI (putI (putI (putI S (13, b, S.1 (9, b, 0) 3) 0 r) (13, b, S.1 (9, b, 0) 3) 1 s) (13, b, S.1 (9, b, 0) 3) 2 a) (13, b, S.1 (9, b, 0) 3) 3 f) (13, b, S.1 (9, b, 0) 3) 4 t) (13, b, S.1 (9, b, 0) 3) 6 0) (13, b, S.1 (9, b, 0) 3) 7 c) := wp13_7 hw54_7 (by omega) (by omega) (by omega) (by omega) (by omega)
    refine x_aload dX0_append_64 rfl ?_
    refine x_callV_v (a := 0) (b := 0) (as := []) (rest := []) ok_X7_setDigest dX0_append_66 wd606 ⟨wd607, wd608⟩ (hp13 (putI (putI (putI (putI (putI (putI (putI S (13, b, S.1 (9, b, 0) 3) 0 r) (13, b, S.1 (9, b, 0) 3) 1 s) (13, b, S.1 (9, b, 0) 3) 2 a) (13, b, S.1 (9, b, 0) 3) 3 f) (13, b, S.1 (9, b, 0) 3) 4 t) (13, b, S.1 (9, b, 0) 3) 6 0) (13, b, S.1 (9, b, 0) 3) 7 c) (by omega) (by omega) (by omega) (by omega)) rfl rfl (c_setDigest (putI (putI (putI (putI (putI (putI (putI S (13, b, S.1 (9, b, 0) 3) 0 r) (13, b, S.1 (9, b, 0) 3) 1 s) (13, b, S.1 (9, b, 0) 3) 2 a) (13, b, S.1 (9, b, 0) 3) 3 f) (13, b, S.1 (9, b, 0) 3) 4 t) (13, b, S.1 (9, b, 0) 3) 6 0) (13, b, S.1 (9, b, 0) 3) 7 c) hw61_8 b (S.1 (9, b, 0) 3) (by omega) (by omega) (by omega) (by omega)) rfl (Nat.le_of_ble_eq_true rfl) (Nat.le_of_ble_eq_true rfl) (by decide) (by omega) (by omega) ?_
    refine x_aload_n dX0_append_69 rfl ?_
    refine x_get (v := xR (11, b, 0)) dX0_append_70 fl_RX0_17 (hp9 (putI (putI (putI (putI (putI (putI (putI (putI S (13, b, S.1 (9, b, 0) 3) 0 r) (13, b, S.1 (9, b, 0) 3) 1 s) (13, b, S.1 (9, b, 0) 3) 2 a) (13, b, S.1 (9, b, 0) 3) 3 f) (13, b, S.1 (9, b, 0) 3) 4 t) (13, b, S.1 (9, b, 0) 3) 6 0) (13, b, S.1 (9, b, 0) 3) 7 c) (13, b, S.1 (9, b, 0) 3) 5 (fDigest (putI (putI (putI (putI (putI (putI (putI S (13, b, S.1 (9, b, 0) 3) 0 r) (13, b, S.1 (9, b, 0) 3) 1 s) (13, b, S.1 (9, b, 0) 3) 2 a) (13, b, S.1 (9, b, 0) 3) 3 f) (13, b, S.1 (9, b, 0) 3) 4 t) (13, b, S.1 (9, b, 0) 3) 6 0) (13, b, S.1 (9, b, 0) 3) 7 c) (13, b, S.1 (9, b, 0) 3))) (by omega) (by omega)) rfl ?_
    refine x_aload_n dX0_append_73 rfl ?_
    refine x_get (v := xI (S.1 (9, b, 0) 3)) dX0_append_74 fl_RX0_27 (hp9 (putI (putI (putI (putI (putI (putI (putI (putI S (13, b, S.1 (9, b, 0) 3) 0 r) (13, b, S.1 (9, b, 0) 3) 1 s) (13, b, S.1 (9, b, 0) 3) 2 a) (13, b, S.1 (9, b, 0) 3) 3 f) (13, b, S.1 (9, b, 0) 3) 4 t) (13, b, S.1 (9, b, 0) 3) 6 0) (13, b, S.1 (9, b, 0) 3) 7 c) (13, b, S.1 (9, b, 0) 3) 5 (fDigest (putI (putI (putI (putI (putI (putI (putI S (13, b, S.1 (9, b, 0) 3) 0 r) (13, b, S.1 (9, b, 0) 3) 1 s) (13, b, S.1 (9, b, 0) 3) 2 a) (13, b, S.1 (9, b, 0) 3) 3 f) (13, b, S.1 (9, b, 0) 3) 4 t) (13, b, S.1 (9, b, 0) 3) 6 0) (13, b, S.1 (9, b, 0) 3) 7 c) (13, b, S.1 (9, b, 0) 3))) (by omega) (by omega)) rfl ?_
    have f74_9 := wf9_3 hw (S := S) (b := b) (by omega) (by omega)
    refine x_iconst dX0_append_77 ?_
    refine x_iadd dX0_append_78 ?_
    refine x_aload_n dX0_append_79 rfl ?_
    refine x_get (v := xR (11, b, 0)) dX0_append_80 fl_RX0_17 (hp9 (putI (putI (putI (putI (putI (putI (putI (putI S (13, b, S.1 (9, b, 0) 3) 0 r) (13, b, S.1 (9, b, 0) 3) 1 s) (13, b, S.1 (9, b, 0) 3) 2 a) (13, b, S.1 (9, b, 0) 3) 3 f) (13, b, S.1 (9, b, 0) 3) 4 t) (13, b, S.1 (9, b, 0) 3) 6 0) (13, b, S.1 (9, b, 0) 3) 7 c) (13, b, S.1 (9, b, 0) 3) 5 (fDigest (putI (putI (putI (putI (putI (putI (putI S (13, b, S.1 (9, b, 0) 3) 0 r) (13, b, S.1 (9, b, 0) 3) 1 s) (13, b, S.1 (9, b, 0) 3) 2 a) (13, b, S.1 (9, b, 0) 3) 3 f) (13, b, S.1 (9, b, 0) 3) 4 t) (13, b, S.1 (9, b, 0) 3) 6 0) (13, b, S.1 (9, b, 0) 3) 7 c) (13, b, S.1 (9, b, 0) 3))) (by omega) (by omega)) rfl ?_
    refine x_aload_n dX0_append_83 rfl ?_
    refine x_get (v := xI (S.1 (9, b, 0) 3)) dX0_append_84 fl_RX0_27 (hp9 (putI (putI (putI (putI (putI (putI (putI (putI S (13, b, S.1 (9, b, 0) 3) 0 r) (13, b, S.1 (9, b, 0) 3) 1 s) (13, b, S.1 (9, b, 0) 3) 2 a) (13, b, S.1 (9, b, 0) 3) 3 f) (13, b, S.1 (9, b, 0) 3) 4 t) (13, b, S.1 (9, b, 0) 3) 6 0) (13, b, S.1 (9, b, 0) 3) 7 c) (13, b, S.1 (9, b, 0) 3) 5 (fDigest (putI (putI (putI (putI (putI (putI (putI S (13, b, S.1 (9, b, 0) 3) 0 r) (13, b, S.1 (9, b, 0) 3) 1 s) (13, b, S.1 (9, b, 0) 3) 2 a) (13, b, S.1 (9, b, 0) 3) 3 f) (13, b, S.1 (9, b, 0) 3) 4 t) (13, b, S.1 (9, b, 0) 3) 6 0) (13, b, S.1 (9, b, 0) 3) 7 c) (13, b, S.1 (9, b, 0) 3))) (by omega) (by omega)) rfl ?_
    have f84_10 := wf9_3 hw (S := S) (b := b) (by omega) (by omega)
    refine x_aldi (f := S.1 (11, b, 0)) dX0_append_87 (hp11 (putI (putI (putI (putI (putI (putI (putI (putI S (13, b, S.1 (9, b, 0) 3) 0 r) (13, b, S.1 (9, b, 0) 3) 1 s) (13, b, S.1 (9, b, 0) 3) 2 a) (13, b, S.1 (9, b, 0) 3) 3 f) (13, b, S.1 (9, b, 0) 3) 4 t) (13, b, S.1 (9, b, 0) 3) 6 0) (13, b, S.1 (9, b, 0) 3) 7 c) (13, b, S.1 (9, b, 0) 3) 5 (fDigest (putI (putI (putI (putI (putI (putI (putI S (13, b, S.1 (9, b, 0) 3) 0 r) (13, b, S.1 (9, b, 0) 3) 1 s) (13, b, S.1 (9, b, 0) 3) 2 a) (13, b, S.1 (9, b, 0) 3) 3 f) (13, b, S.1 (9, b, 0) 3) 4 t) (13, b, S.1 (9, b, 0) 3) 6 0) (13, b, S.1 (9, b, 0) 3) 7 c) (13, b, S.1 (9, b, 0) 3))) (by omega) (by omega)) (show (11 : Nat) ≠ 99 by decide) (by omega) (by omega) (by decide) ?_
    have f87_11 := wfa11 hw (S := S) (b := b) (by omega) (by omega) (S.1 (9, b, 0) 3)
    refine x_aload dX0_append_88 rfl ?_
    refine x_get (v := xI ((putI (putI (putI (putI (putI (putI (putI (putI S (13, b, S.1 (9, b, 0) 3) 0 r) (13, b, S.1 (9, b, 0) 3) 1 s) (13, b, S.1 (9, b, 0) 3) 2 a) (13, b, S.1 (9, b, 0) 3) 3 f) (13, b, S.1 (9, b, 0) 3) 4 t) (13, b, S.1 (9, b, 0) 3) 6 0) (13, b, S.1 (9, b, 0) 3) 7 c) (13, b, S.1 (9, b, 0) 3) 5 (fDigest (putI (putI (putI (putI (putI (putI (putI S (13, b, S.1 (9, b, 0) 3) 0 r) (13, b, S.1 (9, b, 0) 3) 1 s) (13, b, S.1 (9, b, 0) 3) 2 a) (13, b, S.1 (9, b, 0) 3) 3 f) (13, b, S.1 (9, b, 0) 3) 4 t) (13, b, S.1 (9, b, 0) 3) 6 0) (13, b, S.1 (9, b, 0) 3) 7 c) (13, b, S.1 (9, b, 0) 3))).1 (13, b, S.1 (9, b, 0) 3) 5)) dX0_append_90 fl_RX0_71 (hp13 (putI (putI (putI (putI (putI (putI (putI (putI S (13, b, S.1 (9, b, 0) 3) 0 r) (13, b, S.1 (9, b, 0) 3) 1 s) (13, b, S.1 (9, b, 0) 3) 2 a) (13, b, S.1 (9, b, 0) 3) 3 f) (13, b, S.1 (9, b, 0) 3) 4 t) (13, b, S.1 (9, b, 0) 3) 6 0) (13, b, S.1 (9, b, 0) 3) 7 c) (13, b, S.1 (9, b, 0) 3) 5 (fDigest (putI (putI (putI (putI (putI (putI (putI S (13, b, S.1 (9, b, 0) 3) 0 r) (13, b, S.1 (9, b, 0) 3) 1 s) (13, b, S.1 (9, b, 0) 3) 2 a) (13, b, S.1 (9, b, 0) 3) 3 f) (13, b, S.1 (9, b, 0) 3) 4 t) (13, b, S.1 (9, b, 0) 3) 6 0) (13, b, S.1 (9, b, 0) 3) 7 c) (13, b, S.1 (9, b, 0) 3))) (by omega) (by omega) (by omega) (by omega)) rfl ?_
    have f90_12 := wf13_5 (wp13_5 hw61_8 (by omega) (by omega) (by omega) (by omega) (fDigest_in _ _)) (S := putI (putI (putI (putI (putI (putI (putI (putI S (13, b, S.1 (9, b, 0) 3) 0 r) (13, b, S.1 (9, b, 0) 3) 1 s) (13, b, S.1 (9, b, 0) 3) 2 a) (13, b, S.1 (9, b, 0) 3) 3 f) (13, b, S.1 (9, b, 0) 3) 4 t) (13, b, S.1 (9, b, 0) 3) 6 0) (13, b, S.1 (9, b, 0) 3) 7 c) (13, b, S.1 (9, b, 0) 3) 5 (fDigest (putI (putI (putI (putI (putI (putI (putI S (13, b, S.1 (9, b, 0) 3) 0 r) (13, b, S.1 (9, b, 0) 3) 1 s) (13, b, S.1 (9, b, 0) 3) 2 a) (13, b, S.1 (9, b, 0) 3) 3 f) (13, b, S.1 (9, b, 0) 3) 4 t) (13, b, S.1 (9, b, 0) 3) 6 0) (13, b, S.1 (9, b, 0) 3) 7 c) (13, b, S.1 (9, b, 0) 3))) (b := b) (t := S.1 (9, b, 0) 3) (by omega) (by omega) (by omega) (by omega)
    refine x_callSN_r (a := 0) (b := 0) (as := [xI (S.1 (11, b, 0) (S.1 (9, b, 0) 3)), xI ((putI (putI (putI (putI (putI (putI (putI (putI S (13, b, S.1 (9, b, 0) 3) 0 r) (13, b, S.1 (9, b, 0) 3) 1 s) (13, b, S.1 (9, b, 0) 3) 2 a) (13, b, S.1 (9, b, 0) 3) 3 f) (13, b, S.1 (9, b, 0) 3) 4 t) (13, b, S.1 (9, b, 0) 3) 6 0) (13, b, S.1 (9, b, 0) 3) 7 c) (13, b, S.1 (9, b, 0) 3) 5 (fDigest (putI (putI (putI (putI (putI (putI (putI S (13, b, S.1 (9, b, 0) 3) 0 r) (13, b, S.1 (9, b, 0) 3) 1 s) (13, b, S.1 (9, b, 0) 3) 2 a) (13, b, S.1 (9, b, 0) 3) 3 f) (13, b, S.1 (9, b, 0) 3) 4 t) (13, b, S.1 (9, b, 0) 3) 6 0) (13, b, S.1 (9, b, 0) 3) 7 c) (13, b, S.1 (9, b, 0) 3))).1 (13, b, S.1 (9, b, 0) 3) 5)]) (rest := [xI ((S.1 (9, b, 0) 3) + 1), xR (11, b, 0)]) ok_X8_chained dX0_append_93 wn342 wd343 (c_chained (putI (putI (putI (putI (putI (putI (putI (putI S (13, b, S.1 (9, b, 0) 3) 0 r) (13, b, S.1 (9, b, 0) 3) 1 s) (13, b, S.1 (9, b, 0) 3) 2 a) (13, b, S.1 (9, b, 0) 3) 3 f) (13, b, S.1 (9, b, 0) 3) 4 t) (13, b, S.1 (9, b, 0) 3) 6 0) (13, b, S.1 (9, b, 0) 3) 7 c) (13, b, S.1 (9, b, 0) 3) 5 (fDigest (putI (putI (putI (putI (putI (putI (putI S (13, b, S.1 (9, b, 0) 3) 0 r) (13, b, S.1 (9, b, 0) 3) 1 s) (13, b, S.1 (9, b, 0) 3) 2 a) (13, b, S.1 (9, b, 0) 3) 3 f) (13, b, S.1 (9, b, 0) 3) 4 t) (13, b, S.1 (9, b, 0) 3) 6 0) (13, b, S.1 (9, b, 0) 3) 7 c) (13, b, S.1 (9, b, 0) 3))) (S.1 (11, b, 0) (S.1 (9, b, 0) 3)) ((putI (putI (putI (putI (putI (putI (putI (putI S (13, b, S.1 (9, b, 0) 3) 0 r) (13, b, S.1 (9, b, 0) 3) 1 s) (13, b, S.1 (9, b, 0) 3) 2 a) (13, b, S.1 (9, b, 0) 3) 3 f) (13, b, S.1 (9, b, 0) 3) 4 t) (13, b, S.1 (9, b, 0) 3) 6 0) (13, b, S.1 (9, b, 0) 3) 7 c) (13, b, S.1 (9, b, 0) 3) 5 (fDigest (putI (putI (putI (putI (putI (putI (putI S (13, b, S.1 (9, b, 0) 3) 0 r) (13, b, S.1 (9, b, 0) 3) 1 s) (13, b, S.1 (9, b, 0) 3) 2 a) (13, b, S.1 (9, b, 0) 3) 3 f) (13, b, S.1 (9, b, 0) 3) 4 t) (13, b, S.1 (9, b, 0) 3) 6 0) (13, b, S.1 (9, b, 0) 3) 7 c) (13, b, S.1 (9, b, 0) 3))).1 (13, b, S.1 (9, b, 0) 3) 5) (by first | omega | exact (fCh_in _ _).1) (by first | omega | exact (fCh_in _ _).2) (by omega) (by omega)) rfl (Nat.le_of_ble_eq_true rfl) (Nat.le_of_ble_eq_true rfl) (by decide) (by omega) (by omega) ?_
    refine x_asti dX0_append_96 (hp11 (putI (putI (putI (putI (putI (putI (putI (putI S (13, b, S.1 (9, b, 0) 3) 0 r) (13, b, S.1 (9, b, 0) 3) 1 s) (13, b, S.1 (9, b, 0) 3) 2 a) (13, b, S.1 (9, b, 0) 3) 3 f) (13, b, S.1 (9, b, 0) 3) 4 t) (13, b, S.1 (9, b, 0) 3) 6 0) (13, b, S.1 (9, b, 0) 3) 7 c) (13, b, S.1 (9, b, 0) 3) 5 (fDigest (putI (putI (putI (putI (putI (putI (putI S (13, b, S.1 (9, b, 0) 3) 0 r) (13, b, S.1 (9, b, 0) 3) 1 s) (13, b, S.1 (9, b, 0) 3) 2 a) (13, b, S.1 (9, b, 0) 3) 3 f) (13, b, S.1 (9, b, 0) 3) 4 t) (13, b, S.1 (9, b, 0) 3) 6 0) (13, b, S.1 (9, b, 0) 3) 7 c) (13, b, S.1 (9, b, 0) 3))) (by omega) (by omega)) (show (11 : Nat) ≠ 99 by decide) (by omega) (by omega) (by decide) ?_
    refine x_heq (pa11 (putI (putI (putI (putI (putI (putI (putI (putI S (13, b, S.1 (9, b, 0) 3) 0 r) (13, b, S.1 (9, b, 0) 3) 1 s) (13, b, S.1 (9, b, 0) 3) 2 a) (13, b, S.1 (9, b, 0) 3) 3 f) (13, b, S.1 (9, b, 0) 3) 4 t) (13, b, S.1 (9, b, 0) 3) 6 0) (13, b, S.1 (9, b, 0) 3) 7 c) (13, b, S.1 (9, b, 0) 3) 5 (fDigest (putI (putI (putI (putI (putI (putI (putI S (13, b, S.1 (9, b, 0) 3) 0 r) (13, b, S.1 (9, b, 0) 3) 1 s) (13, b, S.1 (9, b, 0) 3) 2 a) (13, b, S.1 (9, b, 0) 3) 3 f) (13, b, S.1 (9, b, 0) 3) 4 t) (13, b, S.1 (9, b, 0) 3) 6 0) (13, b, S.1 (9, b, 0) 3) 7 c) (13, b, S.1 (9, b, 0) 3))) (by omega) (by omega) ((S.1 (9, b, 0) 3) + 1) (fCh (S.1 (11, b, 0) (S.1 (9, b, 0) 3)) ((putI (putI (putI (putI (putI (putI (putI (putI S (13, b, S.1 (9, b, 0) 3) 0 r) (13, b, S.1 (9, b, 0) 3) 1 s) (13, b, S.1 (9, b, 0) 3) 2 a) (13, b, S.1 (9, b, 0) 3) 3 f) (13, b, S.1 (9, b, 0) 3) 4 t) (13, b, S.1 (9, b, 0) 3) 6 0) (13, b, S.1 (9, b, 0) 3) 7 c) (13, b, S.1 (9, b, 0) 3) 5 (fDigest (putI (putI (putI (putI (putI (putI (putI S (13, b, S.1 (9, b, 0) 3) 0 r) (13, b, S.1 (9, b, 0) 3) 1 s) (13, b, S.1 (9, b, 0) 3) 2 a) (13, b, S.1 (9, b, 0) 3) 3 f) (13, b, S.1 (9, b, 0) 3) 4 t) (13, b, S.1 (9, b, 0) 3) 6 0) (13, b, S.1 (9, b, 0) 3) 7 c) (13, b, S.1 (9, b, 0) 3))).1 (13, b, S.1 (9, b, 0) 3) 5))) ?_
    have hw96_13 : WI (putI (putI (putI (putI (putI (putI (putI (putI (putI S (13, b, S.1 (9, b, 0) 3) 0 r) (13, b, S.1 (9, b, 0) 3) 1 s) (13, b, S.1 (9, b, 0) 3) 2 a) (13, b, S.1 (9, b, 0) 3) 3 f) (13, b, S.1 (9, b, 0) 3) 4 t) (13, b, S.1 (9, b, 0) 3) 6 0) (13, b, S.1 (9, b, 0) 3) 7 c) (13, b, S.1 (9, b, 0) 3) 5 (fDigest (putI (putI (putI (putI (putI (putI (putI S (13, b, S.1 (9, b, 0) 3) 0 r) (13, b, S.1 (9, b, 0) 3) 1 s) (13, b, S.1 (9, b, 0) 3) 2 a) (13, b, S.1 (9, b, 0) 3) 3 f) (13, b, S.1 (9, b, 0) 3) 4 t) (13, b, S.1 (9, b, 0) 3) 6 0) (13, b, S.1 (9, b, 0) 3) 7 c) (13, b, S.1 (9, b, 0) 3))) (11, b, 0) ((S.1 (9, b, 0) 3) + 1) (fCh (S.1 (11, b, 0) (S.1 (9, b, 0) 3)) ((putI (putI (putI (putI (putI (putI (putI (putI S (13, b, S.1 (9, b, 0) 3) 0 r) (13, b, S.1 (9, b, 0) 3) 1 s) (13, b, S.1 (9, b, 0) 3) 2 a) (13, b, S.1 (9, b, 0) 3) 3 f) (13, b, S.1 (9, b, 0) 3) 4 t) (13, b, S.1 (9, b, 0) 3) 6 0) (13, b, S.1 (9, b, 0) 3) 7 c) (13, b, S.1 (9, b, 0) 3) 5 (fDigest (putI (putI (putI (putI (putI (putI (putI S (13, b, S.1 (9, b, 0) 3) 0 r) (13, b, S.1 (9, b, 0) 3) 1 s) (13, b, S.1 (9, b, 0) 3) 2 a) (13, b, S.1 (9, b, 0) 3) 3 f) (13, b, S.1 (9, b, 0) 3) 4 t) (13, b, S.1 (9, b, 0) 3) 6 0) (13, b, S.1 (9, b, 0) 3) 7 c) (13, b, S.1 (9, b, 0) 3))).1 (13, b, S.1 (9, b, 0) 3) 5))) := wpa11 (wp13_5 hw61_8 (by omega) (by omega) (by omega) (by omega) (fDigest_in _ _)) (by omega) (by omega) (fCh_in _ _)
    refine x_aload_n dX0_append_97 rfl ?_
    refine x_dup dX0_append_98 rfl ?_
    refine x_get (v := xI (S.1 (9, b, 0) 3)) dX0_append_99 fl_RX0_27 (hp9 (putI (putI (putI (putI (putI (putI (putI (putI (putI S (13, b, S.1 (9, b, 0) 3) 0 r) (13, b, S.1 (9, b, 0) 3) 1 s) (13, b, S.1 (9, b, 0) 3) 2 a) (13, b, S.1 (9, b, 0) 3) 3 f) (13, b, S.1 (9, b, 0) 3) 4 t) (13, b, S.1 (9, b, 0) 3) 6 0) (13, b, S.1 (9, b, 0) 3) 7 c) (13, b, S.1 (9, b, 0) 3) 5 (fDigest (putI (putI (putI (putI (putI (putI (putI S (13, b, S.1 (9, b, 0) 3) 0 r) (13, b, S.1 (9, b, 0) 3) 1 s) (13, b, S.1 (9, b, 0) 3) 2 a) (13, b, S.1 (9, b, 0) 3) 3 f) (13, b, S.1 (9, b, 0) 3) 4 t) (13, b, S.1 (9, b, 0) 3) 6 0) (13, b, S.1 (9, b, 0) 3) 7 c) (13, b, S.1 (9, b, 0) 3))) (11, b, 0) ((S.1 (9, b, 0) 3) + 1) (fCh (S.1 (11, b, 0) (S.1 (9, b, 0) 3)) ((putI (putI (putI (putI (putI (putI (putI (putI S (13, b, S.1 (9, b, 0) 3) 0 r) (13, b, S.1 (9, b, 0) 3) 1 s) (13, b, S.1 (9, b, 0) 3) 2 a) (13, b, S.1 (9, b, 0) 3) 3 f) (13, b, S.1 (9, b, 0) 3) 4 t) (13, b, S.1 (9, b, 0) 3) 6 0) (13, b, S.1 (9, b, 0) 3) 7 c) (13, b, S.1 (9, b, 0) 3) 5 (fDigest (putI (putI (putI (putI (putI (putI (putI S (13, b, S.1 (9, b, 0) 3) 0 r) (13, b, S.1 (9, b, 0) 3) 1 s) (13, b, S.1 (9, b, 0) 3) 2 a) (13, b, S.1 (9, b, 0) 3) 3 f) (13, b, S.1 (9, b, 0) 3) 4 t) (13, b, S.1 (9, b, 0) 3) 6 0) (13, b, S.1 (9, b, 0) 3) 7 c) (13, b, S.1 (9, b, 0) 3))).1 (13, b, S.1 (9, b, 0) 3) 5))) (by omega) (by omega)) rfl ?_
    have f99_14 := wf9_3 hw (S := S) (b := b) (by omega) (by omega)
    refine x_iconst dX0_append_102 ?_
    refine x_iadd dX0_append_103 ?_
    refine x_put dX0_append_104 fl_RX0_27 (fun r hr => by cases hr; rfl) (hp9 (putI (putI (putI (putI (putI (putI (putI (putI (putI S (13, b, S.1 (9, b, 0) 3) 0 r) (13, b, S.1 (9, b, 0) 3) 1 s) (13, b, S.1 (9, b, 0) 3) 2 a) (13, b, S.1 (9, b, 0) 3) 3 f) (13, b, S.1 (9, b, 0) 3) 4 t) (13, b, S.1 (9, b, 0) 3) 6 0) (13, b, S.1 (9, b, 0) 3) 7 c) (13, b, S.1 (9, b, 0) 3) 5 (fDigest (putI (putI (putI (putI (putI (putI (putI S (13, b, S.1 (9, b, 0) 3) 0 r) (13, b, S.1 (9, b, 0) 3) 1 s) (13, b, S.1 (9, b, 0) 3) 2 a) (13, b, S.1 (9, b, 0) 3) 3 f) (13, b, S.1 (9, b, 0) 3) 4 t) (13, b, S.1 (9, b, 0) 3) 6 0) (13, b, S.1 (9, b, 0) 3) 7 c) (13, b, S.1 (9, b, 0) 3))) (11, b, 0) ((S.1 (9, b, 0) 3) + 1) (fCh (S.1 (11, b, 0) (S.1 (9, b, 0) 3)) ((putI (putI (putI (putI (putI (putI (putI (putI S (13, b, S.1 (9, b, 0) 3) 0 r) (13, b, S.1 (9, b, 0) 3) 1 s) (13, b, S.1 (9, b, 0) 3) 2 a) (13, b, S.1 (9, b, 0) 3) 3 f) (13, b, S.1 (9, b, 0) 3) 4 t) (13, b, S.1 (9, b, 0) 3) 6 0) (13, b, S.1 (9, b, 0) 3) 7 c) (13, b, S.1 (9, b, 0) 3) 5 (fDigest (putI (putI (putI (putI (putI (putI (putI S (13, b, S.1 (9, b, 0) 3) 0 r) (13, b, S.1 (9, b, 0) 3) 1 s) (13, b, S.1 (9, b, 0) 3) 2 a) (13, b, S.1 (9, b, 0) 3) 3 f) (13, b, S.1 (9, b, 0) 3) 4 t) (13, b, S.1 (9, b, 0) 3) 6 0) (13, b, S.1 (9, b, 0) 3) 7 c) (13, b, S.1 (9, b, 0) 3))).1 (13, b, S.1 (9, b, 0) 3) 5))) (by omega) (by omega)) xfit_i (Nat.le_of_ble_eq_true rfl) rfl ?_
    refine x_heq (pu9_3 (putI (putI (putI (putI (putI (putI (putI (putI (putI S (13, b, S.1 (9, b, 0) 3) 0 r) (13, b, S.1 (9, b, 0) 3) 1 s) (13, b, S.1 (9, b, 0) 3) 2 a) (13, b, S.1 (9, b, 0) 3) 3 f) (13, b, S.1 (9, b, 0) 3) 4 t) (13, b, S.1 (9, b, 0) 3) 6 0) (13, b, S.1 (9, b, 0) 3) 7 c) (13, b, S.1 (9, b, 0) 3) 5 (fDigest (putI (putI (putI (putI (putI (putI (putI S (13, b, S.1 (9, b, 0) 3) 0 r) (13, b, S.1 (9, b, 0) 3) 1 s) (13, b, S.1 (9, b, 0) 3) 2 a) (13, b, S.1 (9, b, 0) 3) 3 f) (13, b, S.1 (9, b, 0) 3) 4 t) (13, b, S.1 (9, b, 0) 3) 6 0) (13, b, S.1 (9, b, 0) 3) 7 c) (13, b, S.1 (9, b, 0) 3))) (11, b, 0) ((S.1 (9, b, 0) 3) + 1) (fCh (S.1 (11, b, 0) (S.1 (9, b, 0) 3)) ((putI (putI (putI (putI (putI (putI (putI (putI S (13, b, S.1 (9, b, 0) 3) 0 r) (13, b, S.1 (9, b, 0) 3) 1 s) (13, b, S.1 (9, b, 0) 3) 2 a) (13, b, S.1 (9, b, 0) 3) 3 f) (13, b, S.1 (9, b, 0) 3) 4 t) (13, b, S.1 (9, b, 0) 3) 6 0) (13, b, S.1 (9, b, 0) 3) 7 c) (13, b, S.1 (9, b, 0) 3) 5 (fDigest (putI (putI (putI (putI (putI (putI (putI S (13, b, S.1 (9, b, 0) 3) 0 r) (13, b, S.1 (9, b, 0) 3) 1 s) (13, b, S.1 (9, b, 0) 3) 2 a) (13, b, S.1 (9, b, 0) 3) 3 f) (13, b, S.1 (9, b, 0) 3) 4 t) (13, b, S.1 (9, b, 0) 3) 6 0) (13, b, S.1 (9, b, 0) 3) 7 c) (13, b, S.1 (9, b, 0) 3))).1 (13, b, S.1 (9, b, 0) 3) 5))) (by omega) (by omega) ((S.1 (9, b, 0) 3) + 1)) ?_
    have hw104_15 : WI (putI (putI (putI (putI (putI (putI (putI (putI (putI (putI S (13, b, S.1 (9, b, 0) 3) 0 r) (13, b, S.1 (9, b, 0) 3) 1 s) (13, b, S.1 (9, b, 0) 3) 2 a) (13, b, S.1 (9, b, 0) 3) 3 f) (13, b, S.1 (9, b, 0) 3) 4 t) (13, b, S.1 (9, b, 0) 3) 6 0) (13, b, S.1 (9, b, 0) 3) 7 c) (13, b, S.1 (9, b, 0) 3) 5 (fDigest (putI (putI (putI (putI (putI (putI (putI S (13, b, S.1 (9, b, 0) 3) 0 r) (13, b, S.1 (9, b, 0) 3) 1 s) (13, b, S.1 (9, b, 0) 3) 2 a) (13, b, S.1 (9, b, 0) 3) 3 f) (13, b, S.1 (9, b, 0) 3) 4 t) (13, b, S.1 (9, b, 0) 3) 6 0) (13, b, S.1 (9, b, 0) 3) 7 c) (13, b, S.1 (9, b, 0) 3))) (11, b, 0) ((S.1 (9, b, 0) 3) + 1) (fCh (S.1 (11, b, 0) (S.1 (9, b, 0) 3)) ((putI (putI (putI (putI (putI (putI (putI (putI S (13, b, S.1 (9, b, 0) 3) 0 r) (13, b, S.1 (9, b, 0) 3) 1 s) (13, b, S.1 (9, b, 0) 3) 2 a) (13, b, S.1 (9, b, 0) 3) 3 f) (13, b, S.1 (9, b, 0) 3) 4 t) (13, b, S.1 (9, b, 0) 3) 6 0) (13, b, S.1 (9, b, 0) 3) 7 c) (13, b, S.1 (9, b, 0) 3) 5 (fDigest (putI (putI (putI (putI (putI (putI (putI S (13, b, S.1 (9, b, 0) 3) 0 r) (13, b, S.1 (9, b, 0) 3) 1 s) (13, b, S.1 (9, b, 0) 3) 2 a) (13, b, S.1 (9, b, 0) 3) 3 f) (13, b, S.1 (9, b, 0) 3) 4 t) (13, b, S.1 (9, b, 0) 3) 6 0) (13, b, S.1 (9, b, 0) 3) 7 c) (13, b, S.1 (9, b, 0) 3))).1 (13, b, S.1 (9, b, 0) 3) 5))) (9, b, 0) 3 ((S.1 (9, b, 0) 3) + 1)) := wp9_3 hw96_13 (by omega) (by omega) (by omega)
    exact x_vret dX0_append_107 rfl pV
def sForkN (S : XS) (b c : Int) : Nat → XS
  | 0 => S
  | n + 1 => let T := sTC (sForkN S b c n) (13, b, n) (13, c, n); putI T (11, b, 0) (n + 1) (T.1 (11, c, 0) (n + 1))
def sFork (S : XS) (b c : Int) (n : Nat) : XS := putI (putI (putI (putI (sForkN S b c n) (9, b, 0) 3 n) (9, b, 0) 4 c) (9, b, 0) 5 n) (9, b, 0) 6 n
theorem wi_forkN (S : XS) (hw : WI S) (b : Int) (h1 : 0 ≤ b) (h2 : b < 4) (c : Int) (g1 : 0 ≤ c) (g2 : c < 4) : ∀ n : Nat, n ≤ 60 → WI (sForkN S b c n) := by
  intro n
  induction n with
  | zero => intro _; exact hw
  | succ n ih =>
    intro hn
    have w1 := wi_copyT (sForkN S b c n) (ih (by omega)) b n h1 h2 (by omega) (by omega) c n g1 g2 (by omega) (by omega)
    exact wpa11 w1 h1 h2 (wfa11 w1 g1 g2 _)
theorem wi_fork (S : XS) (hw : WI S) (b : Int) (h1 : 0 ≤ b) (h2 : b < 4) (c : Int) (g1 : 0 ≤ c) (g2 : c < 4) (n : Nat) (hn : n ≤ 60) : WI (sFork S b c n) := by
  have w1 := wi_forkN S hw b h1 h2 c g1 g2 n hn
  exact wp9_6 (wp9_5 (wp9_4 (wp9_3 w1 h1 h2 (by omega)) h1 h2 (by omega)) h1 h2 (by omega)) h1 h2 (by omega)
