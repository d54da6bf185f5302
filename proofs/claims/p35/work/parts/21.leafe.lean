/-! forgetting; rules -/
noncomputable def sForgN (S : XS) (b x : Int) : Nat → XS
  | 0 => S
  | n + 1 => haveI := Classical.propDecidable ((sForgN S b x n).1 (13, b, n) 6 = 0 ∧ fConcerns (sForgN S b x n) (13, b, n) x); if (sForgN S b x n).1 (13, b, n) 6 = 0 ∧ fConcerns (sForgN S b x n) (13, b, n) x then putI (sForgN S b x n) (13, b, n) 6 1 else sForgN S b x n
noncomputable def forgN (S : XS) (b x : Int) : Nat → Int
  | 0 => 0
  | n + 1 => haveI := Classical.propDecidable ((sForgN S b x n).1 (13, b, n) 6 = 0 ∧ fConcerns (sForgN S b x n) (13, b, n) x); if (sForgN S b x n).1 (13, b, n) 6 = 0 ∧ fConcerns (sForgN S b x n) (13, b, n) x then forgN S b x n + 1 else forgN S b x n
theorem sForgN_t (S : XS) (b x : Int) (n : Nat) (h : (sForgN S b x n).1 (13, b, n) 6 = 0 ∧ fConcerns (sForgN S b x n) (13, b, n) x) : sForgN S b x (n + 1) = putI (sForgN S b x n) (13, b, n) 6 1 ∧ forgN S b x (n + 1) = forgN S b x n + 1 := by
  constructor
  · rw [sForgN]; exact if_pos h
  · rw [forgN]; exact if_pos h
theorem sForgN_f (S : XS) (b x : Int) (n : Nat) (h : ¬ ((sForgN S b x n).1 (13, b, n) 6 = 0 ∧ fConcerns (sForgN S b x n) (13, b, n) x)) : sForgN S b x (n + 1) = sForgN S b x n ∧ forgN S b x (n + 1) = forgN S b x n := by
  constructor
  · rw [sForgN]; exact if_neg h
  · rw [forgN]; exact if_neg h
theorem forgN_in (S : XS) (b x : Int) (n : Nat) : 0 ≤ forgN S b x n ∧ forgN S b x n ≤ n := by
  induction n with
  | zero => simp [forgN]
  | succ n ih =>
    by_cases h : (sForgN S b x n).1 (13, b, n) 6 = 0 ∧ fConcerns (sForgN S b x n) (13, b, n) x
    · rw [(sForgN_t S b x n h).2]; omega
    · rw [(sForgN_f S b x n h).2]; omega
theorem sForgN_o (S : XS) (b x : Int) (n : Nat) {l : XL} (hl : l.1 ≠ 13) : (sForgN S b x n).1 l = S.1 l := by
  induction n with
  | zero => rfl
  | succ n ih =>
    by_cases h : (sForgN S b x n).1 (13, b, n) 6 = 0 ∧ fConcerns (sForgN S b x n) (13, b, n) x
    · rw [(sForgN_t S b x n h).1, ← ih]
      simp only [putI]
      rw [if_neg (fun z => hl (by rw [z]))]
    · rw [(sForgN_f S b x n h).1, ih]
theorem wi_forgN (S : XS) (hw : WI S) (b x : Int) (h1 : 0 ≤ b) (h2 : b < 4) : ∀ n : Nat, n ≤ 60 → WI (sForgN S b x n) := by
  intro n
  induction n with
  | zero => intro _; exact hw
  | succ n ih =>
    intro hn
    by_cases h : (sForgN S b x n).1 (13, b, n) 6 = 0 ∧ fConcerns (sForgN S b x n) (13, b, n) x
    · rw [(sForgN_t S b x n h).1]; exact wp13_6 (ih (by omega)) h1 h2 (by omega) (by omega) (Or.inr rfl)
    · rw [(sForgN_f S b x n h).1]; exact ih (by omega)
theorem zShl7_in (k : Int) (h0 : 0 ≤ k) (h1 : k ≤ 6) : 0 ≤ zShl 7 k ∧ zShl 7 k < 512 := by
  obtain ⟨n, rfl⟩ := Int.eq_ofNat_of_zero_le h0
  have : n = 0 ∨ n = 1 ∨ n = 2 ∨ n = 3 ∨ n = 4 ∨ n = 5 ∨ n = 6 := by omega
  rcases this with rfl | rfl | rfl | rfl | rfl | rfl | rfl <;> decide
theorem fDig_in (S : XS) (l : XL) (h2 : 0 ≤ S.1 l 2 ∧ S.1 l 2 ≤ 6) (h3 : 0 ≤ S.1 l 3 ∧ S.1 l 3 ≤ 6) : 0 ≤ fDig S l ∧ fDig S l ≤ 511 := by
  have a := zShl7_in _ h2.1 h2.2
  have b := zShl7_in _ h3.1 h3.2
  have c := zOr_in 9 (by decide) _ _ a.1 a.2 b.1 b.2
  unfold fDig
  have e : (2 : Int) ^ 9 = 512 := by decide
  omega
def sHead (S : XS) (r x y z : Int) : XS := let S1 := sBecome S (37, r, 0) x y z 0; putI S1 (34, r, 0) 4 (zAnd (S1.1 (34, r, 0) 4) (zXor (fDig S1 (37, r, 0)) (-1)))
set_option maxHeartbeats 4000000 in
set_option maxRecDepth 100000 in
theorem c_setHead (S : XS) (hw : WI S) (r : Int) (h1 : 0 ≤ r) (h2 : r < 10) (x y z : Int) (g1 : 0 ≤ x ∧ x ≤ 5) (g2 : 0 ≤ y ∧ y ≤ 2) (g3 : 0 ≤ z ∧ z ≤ 2) : X mX4_setHead 0 (xEnt mX4_setHead [xR (34, r, 0), xI x, xI y, xI z]) [] (hp S) 0 0 (pVoid (hp (sHead S r x y z))) := by
  show X mX4_setHead 0 [xR (34, r, 0), xI x, xI y, xI z] [] (hp S) 0 0 _
  refine x_aload_n dX4_setHead_0 rfl ?_
  refine x_get (v := xR (37, r, 0)) dX4_setHead_1 fl_RX4_12 (hp34 S (by omega) (by omega)) rfl ?_
  refine x_iload_n dX4_setHead_4 rfl ?_
  refine x_iload_n dX4_setHead_5 rfl ?_
  refine x_iload_n dX4_setHead_6 rfl ?_
  refine x_iconst dX4_setHead_7 ?_
  refine x_callV_v (a := 0) (b := 0) (as := [xI x, xI y, xI z, xI 0]) (rest := []) ok_X2_become dX4_setHead_8 wd653 ⟨wd654, wd655⟩ (hp37 S (by omega) (by omega)) rfl rfl (c_become37 S hw r (by omega) (by omega) x y z 0 ⟨by omega, by omega⟩ ⟨by omega, by omega⟩ ⟨by omega, by omega⟩ (by omega)) rfl (Nat.le_of_ble_eq_true rfl) (Nat.le_of_ble_eq_true rfl) (by decide) (by omega) (by omega) ?_
  refine x_aload_n dX4_setHead_11 rfl ?_
  refine x_dup dX4_setHead_12 rfl ?_
  refine x_get (v := xI (S.1 (34, r, 0) 4)) dX4_setHead_13 fl_RX4_29 (hp34 (sBecome S (37, r, 0) x y z 0) (by omega) (by omega)) rfl ?_
  have f13_1 := wf34_4 hw (S := S) (b := r) (by omega) (by omega)
  refine x_aload_n dX4_setHead_16 rfl ?_
  refine x_get (v := xR (37, r, 0)) dX4_setHead_17 fl_RX4_12 (hp34 (sBecome S (37, r, 0) x y z 0) (by omega) (by omega)) rfl ?_
  refine x_callV_r (a := 0) (b := 0) (as := []) (rest := [xI (S.1 (34, r, 0) 4), xR (34, r, 0)]) ok_X2_digits dX4_setHead_20 wd660 ⟨wd661, wd662⟩ (hp37 (sBecome S (37, r, 0) x y z 0) (by omega) (by omega)) rfl rfl (c_digits37 (sBecome S (37, r, 0) x y z 0) (wi_become37 S hw r (by omega) (by omega) x y z 0 ⟨by omega, by omega⟩ ⟨by omega, by omega⟩ ⟨by omega, by omega⟩ (by omega)) r (by omega) (by omega)) rfl (Nat.le_of_ble_eq_true rfl) (Nat.le_of_ble_eq_true rfl) (by decide) (by omega) (by omega) ?_
  refine x_iconst dX4_setHead_23 ?_
  refine x_ixor dX4_setHead_24 ?_
  refine x_iand dX4_setHead_25 ?_
  refine x_put dX4_setHead_26 fl_RX4_29 (fun r hr => by cases hr; rfl) (hp34 (sBecome S (37, r, 0) x y z 0) (by omega) (by omega)) xfit_i (Nat.le_of_ble_eq_true rfl) rfl ?_
  refine x_heq (pu34_4 (sBecome S (37, r, 0) x y z 0) (by omega) (by omega) (zAnd (S.1 (34, r, 0) 4) (zXor (fDig (sBecome S (37, r, 0) x y z 0) (37, r, 0)) (-1)))) ?_
  have hw26_2 : WI (putI (sBecome S (37, r, 0) x y z 0) (34, r, 0) 4 (zAnd (S.1 (34, r, 0) 4) (zXor (fDig (sBecome S (37, r, 0) x y z 0) (37, r, 0)) (-1)))) := wp34_4 (wi_become37 S hw r (by omega) (by omega) x y z 0 ⟨by omega, by omega⟩ ⟨by omega, by omega⟩ ⟨by omega, by omega⟩ (by omega)) (by omega) (by omega) (zAndNot_in _ _ (by omega) (by omega) (fDig_in _ (37, r, 0) (wf37_2 (wi_become37 S hw r h1 h2 x y z 0 g1 g2 g3 (Or.inl rfl)) h1 h2) (wf37_3 (wi_become37 S hw r h1 h2 x y z 0 g1 g2 g3 (Or.inl rfl)) h1 h2)).1)
  exact x_vret dX4_setHead_29 rfl pV
theorem wi_head (S : XS) (hw : WI S) (r : Int) (h1 : 0 ≤ r) (h2 : r < 10) (x y z : Int) (g1 : 0 ≤ x ∧ x ≤ 5) (g2 : 0 ≤ y ∧ y ≤ 2) (g3 : 0 ≤ z ∧ z ≤ 2) : WI (sHead S r x y z) := by
  have w1 := wi_become37 S hw r h1 h2 x y z 0 g1 g2 g3 (Or.inl rfl)
  exact wp34_4 w1 h1 h2 (zAndNot_in _ _ (wf34_4 w1 h1 h2).1 (wf34_4 w1 h1 h2).2 (fDig_in _ (37, r, 0) (wf37_2 w1 h1 h2) (wf37_3 w1 h1 h2)).1)
def sCond (S : XS) (r x y z c : Int) : XS :=
  let n := S.1 (34, r, 0) 2; let S1 := sBecome S (36, r, n) x y z c
  let S2 := putI S1 (34, r, 0) 4 (zAnd (S1.1 (34, r, 0) 4) (zXor (fDig S1 (36, r, n)) (-1)))
  let S3 := if c = 0 then putI S2 (34, r, 0) 3 (zOr (S2.1 (34, r, 0) 3) (zShl 1 x)) else S2
  putI S3 (34, r, 0) 2 (n + 1)
theorem or_63 {a x : Int} (h : 0 ≤ a ∧ a ≤ 63) (g : 0 ≤ x ∧ x ≤ 5) : 0 ≤ zOr a (zShl 1 x) ∧ zOr a (zShl 1 x) ≤ 63 := by
  have b := zShl1_in x g.1 g.2
  have q := zOr_in 6 (by decide) a (zShl 1 x) h.1 (by omega) (by omega) (by omega)
  have e : (2 : Int) ^ 6 = 64 := by decide
  omega
set_option maxHeartbeats 4000000 in
set_option maxRecDepth 100000 in
theorem c_appendC (S : XS) (hw : WI S) (r : Int) (h1 : 0 ≤ r) (h2 : r < 10) (hs : S.1 (34, r, 0) 2 < 3) (x y z : Int) (g1 : 0 ≤ x ∧ x ≤ 5) (g2 : 0 ≤ y ∧ y ≤ 2) (g3 : 0 ≤ z ∧ z ≤ 2) (c : Int) (g4 : c = 0 ∨ c = 1) : X mX4_append 0 (xEnt mX4_append [xR (34, r, 0), xI x, xI y, xI z, xI c]) [] (hp S) 0 0 (pVoid (hp (sCond S r x y z c))) := by
  have hsz := wf34_2 hw h1 h2
  show X mX4_append 0 [xR (34, r, 0), xI x, xI y, xI z, xI c] [] (hp S) 0 0 _
  refine x_aload_n dX4_append_0 rfl ?_
  refine x_get (v := xI (S.1 (34, r, 0) 2)) dX4_append_1 fl_RX4_22 (hp34 S (by omega) (by omega)) rfl ?_
  have f1_1 := wf34_2 hw (S := S) (b := r) (by omega) (by omega)
  refine x_iconst dX4_append_4 ?_
  refine x_icmp_lt (tgt := 9) dX4_append_5 (by decide) (by first | exact hz _ _ | exact hw.1 _ _ | exact zR_of _ | exact bI_z _ | assumption | exact ⟨by omega, by omega⟩) ⟨by decide, by decide⟩ (fun c5 => ?_) (fun c5 => ?_)
  · refine x_aload_n dX4_append_9 rfl ?_
    refine x_get (v := xR (35, r, 0)) dX4_append_10 fl_RX4_18 (hp34 S (by omega) (by omega)) rfl ?_
    refine x_aload_n dX4_append_13 rfl ?_
    refine x_get (v := xI (S.1 (34, r, 0) 2)) dX4_append_14 fl_RX4_22 (hp34 S (by omega) (by omega)) rfl ?_
    have f14_2 := wf34_2 hw (S := S) (b := r) (by omega) (by omega)
    refine x_alda (l2 := (36, r, S.1 (34, r, 0) 2)) dX4_append_17 (hp35 S (by omega) (by omega)) (show (35 : Nat) ≠ 99 by decide) (by decide) (by decide) (by omega) (by omega) (by decide) rfl ?_
    refine x_iload_n dX4_append_18 rfl ?_
    refine x_iload_n dX4_append_19 rfl ?_
    refine x_iload_n dX4_append_20 rfl ?_
    refine x_iload dX4_append_21 rfl ?_
    refine x_callV_v (a := 0) (b := 0) (as := [xI x, xI y, xI z, xI c]) (rest := []) ok_X2_become dX4_append_23 wd653 ⟨wd654, wd655⟩ (hp36 S (by omega) (by omega) (by omega) (by omega)) rfl rfl (c_become36 S hw r (S.1 (34, r, 0) 2) (by omega) (by omega) (by omega) (by omega) x y z c ⟨by omega, by omega⟩ ⟨by omega, by omega⟩ ⟨by omega, by omega⟩ (by omega)) rfl (Nat.le_of_ble_eq_true rfl) (Nat.le_of_ble_eq_true rfl) (by decide) (by omega) (by omega) ?_
    refine x_aload_n dX4_append_26 rfl ?_
    refine x_dup dX4_append_27 rfl ?_
    refine x_get (v := xI (S.1 (34, r, 0) 4)) dX4_append_28 fl_RX4_29 (hp34 (sBecome S (36, r, S.1 (34, r, 0) 2) x y z c) (by omega) (by omega)) rfl ?_
    have f28_3 := wf34_4 hw (S := S) (b := r) (by omega) (by omega)
    refine x_aload_n dX4_append_31 rfl ?_
    refine x_get (v := xR (35, r, 0)) dX4_append_32 fl_RX4_18 (hp34 (sBecome S (36, r, S.1 (34, r, 0) 2) x y z c) (by omega) (by omega)) rfl ?_
    refine x_aload_n dX4_append_35 rfl ?_
    refine x_get (v := xI (S.1 (34, r, 0) 2)) dX4_append_36 fl_RX4_22 (hp34 (sBecome S (36, r, S.1 (34, r, 0) 2) x y z c) (by omega) (by omega)) rfl ?_
    have f36_4 := wf34_2 hw (S := S) (b := r) (by omega) (by omega)
    refine x_alda (l2 := (36, r, S.1 (34, r, 0) 2)) dX4_append_39 (hp35 (sBecome S (36, r, S.1 (34, r, 0) 2) x y z c) (by omega) (by omega)) (show (35 : Nat) ≠ 99 by decide) (by decide) (by decide) (by omega) (by omega) (by decide) rfl ?_
    refine x_callV_r (a := 0) (b := 0) (as := []) (rest := [xI (S.1 (34, r, 0) 4), xR (34, r, 0)]) ok_X2_digits dX4_append_40 wd660 ⟨wd661, wd662⟩ (hp36 (sBecome S (36, r, S.1 (34, r, 0) 2) x y z c) (by omega) (by omega) (by omega) (by omega)) rfl rfl (c_digits36 (sBecome S (36, r, S.1 (34, r, 0) 2) x y z c) (wi_become36 S hw r (S.1 (34, r, 0) 2) (by omega) (by omega) (by omega) (by omega) x y z c ⟨by omega, by omega⟩ ⟨by omega, by omega⟩ ⟨by omega, by omega⟩ (by omega)) r (S.1 (34, r, 0) 2) (by omega) (by omega) (by omega) (by omega)) rfl (Nat.le_of_ble_eq_true rfl) (Nat.le_of_ble_eq_true rfl) (by decide) (by omega) (by omega) ?_
    refine x_iconst dX4_append_43 ?_
    refine x_ixor dX4_append_44 ?_
    refine x_iand dX4_append_45 ?_
    refine x_put dX4_append_46 fl_RX4_29 (fun r hr => by cases hr; rfl) (hp34 (sBecome S (36, r, S.1 (34, r, 0) 2) x y z c) (by omega) (by omega)) xfit_i (Nat.le_of_ble_eq_true rfl) rfl ?_
    refine x_heq (pu34_4 (sBecome S (36, r, S.1 (34, r, 0) 2) x y z c) (by omega) (by omega) (zAnd (S.1 (34, r, 0) 4) (zXor (fDig (sBecome S (36, r, S.1 (34, r, 0) 2) x y z c) (36, r, S.1 (34, r, 0) 2)) (-1)))) ?_
    have hw46_5 : WI (putI (sBecome S (36, r, S.1 (34, r, 0) 2) x y z c) (34, r, 0) 4 (zAnd (S.1 (34, r, 0) 4) (zXor (fDig (sBecome S (36, r, S.1 (34, r, 0) 2) x y z c) (36, r, S.1 (34, r, 0) 2)) (-1)))) := wp34_4 (wi_become36 S hw r (S.1 (34, r, 0) 2) (by omega) (by omega) (by omega) (by omega) x y z c ⟨by omega, by omega⟩ ⟨by omega, by omega⟩ ⟨by omega, by omega⟩ (by omega)) (by omega) (by omega) (zAndNot_in _ _ (by omega) (by omega) (fDig_in _ (36, r, S.1 (34, r, 0) 2) (wf36_2 (wi_become36 S hw r (S.1 (34, r, 0) 2) h1 h2 (by omega) (by omega) x y z c g1 g2 g3 g4) h1 h2 (by omega) (by omega)) (wf36_3 (wi_become36 S hw r (S.1 (34, r, 0) 2) h1 h2 (by omega) (by omega) x y z c g1 g2 g3 g4) h1 h2 (by omega) (by omega))).1)
    refine x_iload dX4_append_49 rfl ?_
    refine x_if_ne (tgt := 66) dX4_append_51 (by decide) (by first | exact hz _ _ | exact hw.1 _ _ | exact zR_of _ | exact bI_z _ | assumption | exact ⟨by omega, by omega⟩) (fun c51 => ?_) (fun c51 => ?_)
    · refine x_aload_n dX4_append_66 rfl ?_
      refine x_dup dX4_append_67 rfl ?_
      refine x_get (v := xI ((putI (sBecome S (36, r, S.1 (34, r, 0) 2) x y z c) (34, r, 0) 4 (zAnd (S.1 (34, r, 0) 4) (zXor (fDig (sBecome S (36, r, S.1 (34, r, 0) 2) x y z c) (36, r, S.1 (34, r, 0) 2)) (-1)))).1 (34, r, 0) 2)) dX4_append_68 fl_RX4_22 (hp34 (putI (sBecome S (36, r, S.1 (34, r, 0) 2) x y z c) (34, r, 0) 4 (zAnd (S.1 (34, r, 0) 4) (zXor (fDig (sBecome S (36, r, S.1 (34, r, 0) 2) x y z c) (36, r, S.1 (34, r, 0) 2)) (-1)))) (by omega) (by omega)) rfl ?_
      have f68_6 := wf34_2 hw46_5 (S := putI (sBecome S (36, r, S.1 (34, r, 0) 2) x y z c) (34, r, 0) 4 (zAnd (S.1 (34, r, 0) 4) (zXor (fDig (sBecome S (36, r, S.1 (34, r, 0) 2) x y z c) (36, r, S.1 (34, r, 0) 2)) (-1)))) (b := r) (by omega) (by omega)
      refine x_top (show (putI (sBecome S (36, r, S.1 (34, r, 0) 2) x y z c) (34, r, 0) 4 (zAnd (S.1 (34, r, 0) 4) (zXor (fDig (sBecome S (36, r, S.1 (34, r, 0) 2) x y z c) (36, r, S.1 (34, r, 0) 2)) (-1)))).1 (34, r, 0) 2 = S.1 (34, r, 0) 2 from by simp [putI, sBecome, xUpd]) ?_
      refine x_iconst dX4_append_71 ?_
      refine x_iadd dX4_append_72 ?_
      refine x_put dX4_append_73 fl_RX4_22 (fun r hr => by cases hr; rfl) (hp34 (putI (sBecome S (36, r, S.1 (34, r, 0) 2) x y z c) (34, r, 0) 4 (zAnd (S.1 (34, r, 0) 4) (zXor (fDig (sBecome S (36, r, S.1 (34, r, 0) 2) x y z c) (36, r, S.1 (34, r, 0) 2)) (-1)))) (by omega) (by omega)) xfit_i (Nat.le_of_ble_eq_true rfl) rfl ?_
      refine x_heq (pu34_2 (putI (sBecome S (36, r, S.1 (34, r, 0) 2) x y z c) (34, r, 0) 4 (zAnd (S.1 (34, r, 0) 4) (zXor (fDig (sBecome S (36, r, S.1 (34, r, 0) 2) x y z c) (36, r, S.1 (34, r, 0) 2)) (-1)))) (by omega) (by omega) ((S.1 (34, r, 0) 2) + 1)) ?_
      have hw73_7 : WI (putI (putI (sBecome S (36, r, S.1 (34, r, 0) 2) x y z c) (34, r, 0) 4 (zAnd (S.1 (34, r, 0) 4) (zXor (fDig (sBecome S (36, r, S.1 (34, r, 0) 2) x y z c) (36, r, S.1 (34, r, 0) 2)) (-1)))) (34, r, 0) 2 ((S.1 (34, r, 0) 2) + 1)) := wp34_2 hw46_5 (by omega) (by omega) (by omega)
      exact x_vret dX4_append_76 rfl (pVe (by simp only [sCond]; first | (rw [if_pos (by assumption)]; rfl) | (rw [if_neg (by assumption)]; rfl)))
    · refine x_aload_n dX4_append_54 rfl ?_
      refine x_dup dX4_append_55 rfl ?_
      refine x_get (v := xI ((putI (sBecome S (36, r, S.1 (34, r, 0) 2) x y z c) (34, r, 0) 4 (zAnd (S.1 (34, r, 0) 4) (zXor (fDig (sBecome S (36, r, S.1 (34, r, 0) 2) x y z c) (36, r, S.1 (34, r, 0) 2)) (-1)))).1 (34, r, 0) 3)) dX4_append_56 fl_RX4_26 (hp34 (putI (sBecome S (36, r, S.1 (34, r, 0) 2) x y z c) (34, r, 0) 4 (zAnd (S.1 (34, r, 0) 4) (zXor (fDig (sBecome S (36, r, S.1 (34, r, 0) 2) x y z c) (36, r, S.1 (34, r, 0) 2)) (-1)))) (by omega) (by omega)) rfl ?_
      have f56_8 := wf34_3 hw46_5 (S := putI (sBecome S (36, r, S.1 (34, r, 0) 2) x y z c) (34, r, 0) 4 (zAnd (S.1 (34, r, 0) 4) (zXor (fDig (sBecome S (36, r, S.1 (34, r, 0) 2) x y z c) (36, r, S.1 (34, r, 0) 2)) (-1)))) (b := r) (by omega) (by omega)
      refine x_iconst dX4_append_59 ?_
      refine x_iload_n dX4_append_60 rfl ?_
      refine x_ishl dX4_append_61 ?_
      refine x_ior dX4_append_62 ?_
      refine x_put dX4_append_63 fl_RX4_26 (fun r hr => by cases hr; rfl) (hp34 (putI (sBecome S (36, r, S.1 (34, r, 0) 2) x y z c) (34, r, 0) 4 (zAnd (S.1 (34, r, 0) 4) (zXor (fDig (sBecome S (36, r, S.1 (34, r, 0) 2) x y z c) (36, r, S.1 (34, r, 0) 2)) (-1)))) (by omega) (by omega)) xfit_i (Nat.le_of_ble_eq_true rfl) rfl ?_
      refine x_heq (pu34_3 (putI (sBecome S (36, r, S.1 (34, r, 0) 2) x y z c) (34, r, 0) 4 (zAnd (S.1 (34, r, 0) 4) (zXor (fDig (sBecome S (36, r, S.1 (34, r, 0) 2) x y z c) (36, r, S.1 (34, r, 0) 2)) (-1)))) (by omega) (by omega) (zOr ((putI (sBecome S (36, r, S.1 (34, r, 0) 2) x y z c) (34, r, 0) 4 (zAnd (S.1 (34, r, 0) 4) (zXor (fDig (sBecome S (36, r, S.1 (34, r, 0) 2) x y z c) (36, r, S.1 (34, r, 0) 2)) (-1)))).1 (34, r, 0) 3) (zShl 1 x))) ?_
      have hw63_9 : WI (putI (putI (sBecome S (36, r, S.1 (34, r, 0) 2) x y z c) (34, r, 0) 4 (zAnd (S.1 (34, r, 0) 4) (zXor (fDig (sBecome S (36, r, S.1 (34, r, 0) 2) x y z c) (36, r, S.1 (34, r, 0) 2)) (-1)))) (34, r, 0) 3 (zOr ((putI (sBecome S (36, r, S.1 (34, r, 0) 2) x y z c) (34, r, 0) 4 (zAnd (S.1 (34, r, 0) 4) (zXor (fDig (sBecome S (36, r, S.1 (34, r, 0) 2) x y z c) (36, r, S.1 (34, r, 0) 2)) (-1)))).1 (34, r, 0) 3) (zShl 1 x))) := wp34_3 hw46_5 (by omega) (by omega) (or_63 (wf34_3 (by assumption) h1 h2) g1)
      refine x_aload_n dX4_append_66 rfl ?_
      refine x_dup dX4_append_67 rfl ?_
      refine x_get (v := xI ((putI (putI (sBecome S (36, r, S.1 (34, r, 0) 2) x y z c) (34, r, 0) 4 (zAnd (S.1 (34, r, 0) 4) (zXor (fDig (sBecome S (36, r, S.1 (34, r, 0) 2) x y z c) (36, r, S.1 (34, r, 0) 2)) (-1)))) (34, r, 0) 3 (zOr ((putI (sBecome S (36, r, S.1 (34, r, 0) 2) x y z c) (34, r, 0) 4 (zAnd (S.1 (34, r, 0) 4) (zXor (fDig (sBecome S (36, r, S.1 (34, r, 0) 2) x y z c) (36, r, S.1 (34, r, 0) 2)) (-1)))).1 (34, r, 0) 3) (zShl 1 x))).1 (34, r, 0) 2)) dX4_append_68 fl_RX4_22 (hp34 (putI (putI (sBecome S (36, r, S.1 (34, r, 0) 2) x y z c) (34, r, 0) 4 (zAnd (S.1 (34, r, 0) 4) (zXor (fDig (sBecome S (36, r, S.1 (34, r, 0) 2) x y z c) (36, r, S.1 (34, r, 0) 2)) (-1)))) (34, r, 0) 3 (zOr ((putI (sBecome S (36, r, S.1 (34, r, 0) 2) x y z c) (34, r, 0) 4 (zAnd (S.1 (34, r, 0) 4) (zXor (fDig (sBecome S (36, r, S.1 (34, r, 0) 2) x y z c) (36, r, S.1 (34, r, 0) 2)) (-1)))).1 (34, r, 0) 3) (zShl 1 x))) (by omega) (by omega)) rfl ?_
      have f68_10 := wf34_2 hw63_9 (S := putI (putI (sBecome S (36, r, S.1 (34, r, 0) 2) x y z c) (34, r, 0) 4 (zAnd (S.1 (34, r, 0) 4) (zXor (fDig (sBecome S (36, r, S.1 (34, r, 0) 2) x y z c) (36, r, S.1 (34, r, 0) 2)) (-1)))) (34, r, 0) 3 (zOr ((putI (sBecome S (36, r, S.1 (34, r, 0) 2) x y z c) (34, r, 0) 4 (zAnd (S.1 (34, r, 0) 4) (zXor (fDig (sBecome S (36, r, S.1 (34, r, 0) 2) x y z c) (36, r, S.1 (34, r, 0) 2)) (-1)))).1 (34, r, 0) 3) (zShl 1 x))) (b := r) (by omega) (by omega)
      refine x_top (show (putI (putI (sBecome S (36, r, S.1 (34, r, 0) 2) x y z c) (34, r, 0) 4 (zAnd (S.1 (34, r, 0) 4) (zXor (fDig (sBecome S (36, r, S.1 (34, r, 0) 2) x y z c) (36, r, S.1 (34, r, 0) 2)) (-1)))) (34, r, 0) 3 (zOr ((putI (sBecome S (36, r, S.1 (34, r, 0) 2) x y z c) (34, r, 0) 4 (zAnd (S.1 (34, r, 0) 4) (zXor (fDig (sBecome S (36, r, S.1 (34, r, 0) 2) x y z c) (36, r, S.1 (34, r, 0) 2)) (-1)))).1 (34, r, 0) 3) (zShl 1 x))).1 (34, r, 0) 2 = S.1 (34, r, 0) 2 from by simp [putI, sBecome, xUpd]) ?_
      refine x_iconst dX4_append_71 ?_
      refine x_iadd dX4_append_72 ?_
      refine x_put dX4_append_73 fl_RX4_22 (fun r hr => by cases hr; rfl) (hp34 (putI (putI (sBecome S (36, r, S.1 (34, r, 0) 2) x y z c) (34, r, 0) 4 (zAnd (S.1 (34, r, 0) 4) (zXor (fDig (sBecome S (36, r, S.1 (34, r, 0) 2) x y z c) (36, r, S.1 (34, r, 0) 2)) (-1)))) (34, r, 0) 3 (zOr ((putI (sBecome S (36, r, S.1 (34, r, 0) 2) x y z c) (34, r, 0) 4 (zAnd (S.1 (34, r, 0) 4) (zXor (fDig (sBecome S (36, r, S.1 (34, r, 0) 2) x y z c) (36, r, S.1 (34, r, 0) 2)) (-1)))).1 (34, r, 0) 3) (zShl 1 x))) (by omega) (by omega)) xfit_i (Nat.le_of_ble_eq_true rfl) rfl ?_
      refine x_heq (pu34_2 (putI (putI (sBecome S (36, r, S.1 (34, r, 0) 2) x y z c) (34, r, 0) 4 (zAnd (S.1 (34, r, 0) 4) (zXor (fDig (sBecome S (36, r, S.1 (34, r, 0) 2) x y z c) (36, r, S.1 (34, r, 0) 2)) (-1)))) (34, r, 0) 3 (zOr ((putI (sBecome S (36, r, S.1 (34, r, 0) 2) x y z c) (34, r, 0) 4 (zAnd (S.1 (34, r, 0) 4) (zXor (fDig (sBecome S (36, r, S.1 (34, r, 0) 2) x y z c) (36, r, S.1 (34, r, 0) 2)) (-1)))).1 (34, r, 0) 3) (zShl 1 x))) (by omega) (by omega) ((S.1 (34, r, 0) 2) + 1)) ?_
      have hw73_11 : WI (putI (putI (putI (sBecome S (36, r, S.1 (34, r, 0) 2) x y z c) (34, r, 0) 4 (zAnd (S.1 (34, r, 0) 4) (zXor (fDig (sBecome S (36, r, S.1 (34, r, 0) 2) x y z c) (36, r, S.1 (34, r, 0) 2)) (-1)))) (34, r, 0) 3 (zOr ((putI (sBecome S (36, r, S.1 (34, r, 0) 2) x y z c) (34, r, 0) 4 (zAnd (S.1 (34, r, 0) 4) (zXor (fDig (sBecome S (36, r, S.1 (34, r, 0) 2) x y z c) (36, r, S.1 (34, r, 0) 2)) (-1)))).1 (34, r, 0) 3) (zShl 1 x))) (34, r, 0) 2 ((S.1 (34, r, 0) 2) + 1)) := wp34_2 hw63_9 (by omega) (by omega) (by omega)
      exact x_vret dX4_append_76 rfl (pVe (by simp only [sCond]; first | (rw [if_pos (by assumption)]; rfl) | (rw [if_neg (by assumption)]; rfl)))
  · exact x_vret dX4_append_8 rfl (by exfalso; omega)
theorem wi_cond (S : XS) (hw : WI S) (r : Int) (h1 : 0 ≤ r) (h2 : r < 10) (hs : S.1 (34, r, 0) 2 < 3) (x y z : Int) (g1 : 0 ≤ x ∧ x ≤ 5) (g2 : 0 ≤ y ∧ y ≤ 2) (g3 : 0 ≤ z ∧ z ≤ 2) (c : Int) (g4 : c = 0 ∨ c = 1) : WI (sCond S r x y z c) := by
  have hsz := wf34_2 hw h1 h2
  have w1 := wi_become36 S hw r (S.1 (34, r, 0) 2) h1 h2 (by omega) (by omega) x y z c g1 g2 g3 g4
  have w2 := wp34_4 w1 h1 h2 (zAndNot_in _ _ (wf34_4 w1 h1 h2).1 (wf34_4 w1 h1 h2).2 (fDig_in _ (36, r, S.1 (34, r, 0) 2) (wf36_2 w1 h1 h2 (by omega) (by omega)) (wf36_3 w1 h1 h2 (by omega) (by omega))).1)
  simp only [sCond]
  by_cases e : c = 0
  · rw [if_pos e]; exact wp34_2 (wp34_3 w2 h1 h2 (or_63 (wf34_3 w2 h1 h2) g1)) h1 h2 (by omega)
  · rw [if_neg e]; exact wp34_2 w2 h1 h2 (by omega)
def boundN (S : XS) (r : Int) : Nat → Int
  | 0 => S.1 (34, r, 0) 4
  | n + 1 => zOr (boundN S r n) (if S.1 (36, r, n) 1 = 0 then fDig S (36, r, n) else 0)
theorem boundN_zR (S : XS) (hw : WI S) (r : Int) (n : Nat) : zR (boundN S r n) := by
  cases n with
  | zero => exact hw.1 _ _
  | succ n => exact zR_of _
set_option maxHeartbeats 4000000 in
set_option maxRecDepth 100000 in
theorem l_isBound (S : XS) (hw : WI S) (r : Int) (h1 : 0 ≤ r) (h2 : r < 10) (n : Nat) (hn : S.1 (34, r, 0) 2 = n) (gn : n ≤ 3) : ∀ (nn : Nat) (i : Nat), (n : Int) - i < (nn : Int) → (i ≤ n) → X mX4_isBound 7 [xR (34, r, 0), xI (boundN S r i), xI (i : Int)] [] (hp S) 0 0 (pRet (xI (bI (boundN S r n = 511))) (hp S)) := by
  intro nn
  induction nn with
  | zero => intro i hm hi; exfalso; omega
  | succ nn ih =>
    intro i hm hi
    have hbz := boundN_zR S hw r i
    refine x_iload_n dX4_isBound_7 rfl ?_
    refine x_aload_n dX4_isBound_8 rfl ?_
    refine x_get (v := xI (S.1 (34, r, 0) 2)) dX4_isBound_9 fl_RX4_22 (hp34 S (by omega) (by omega)) rfl ?_
    have f9_1 := wf34_2 hw (S := S) (b := r) (by omega) (by omega)
    refine x_icmp_ge (tgt := 49) dX4_isBound_12 (by decide) (by first | exact hz _ _ | exact hw.1 _ _ | exact zR_of _ | exact bI_z _ | assumption | exact ⟨by omega, by omega⟩) (by first | exact hz _ _ | exact hw.1 _ _ | exact zR_of _ | exact bI_z _ | assumption | exact ⟨by omega, by omega⟩) (fun c12 => ?_) (fun c12 => ?_)
    · refine x_iload_n dX4_isBound_49 rfl ?_
      refine x_sipush (v := 511) dX4_isBound_50 (by decide) ?_
      refine x_icmp_ne (tgt := 60) dX4_isBound_53 (by decide) (by first | exact hz _ _ | exact hw.1 _ _ | exact zR_of _ | exact bI_z _ | assumption | exact ⟨by omega, by omega⟩) ⟨by decide, by decide⟩ (fun c53 => ?_) (fun c53 => ?_)
      · refine x_iconst dX4_isBound_60 ?_
        exact x_zret dX4_isBound_61 rfl (Or.inl rfl) (pRI (bI_f (by obtain rfl : i = n := (by omega); exact c53)).symm)
      · refine x_iconst dX4_isBound_56 ?_
        refine x_goto (tgt := 61) dX4_isBound_57 (by decide) ?_
        exact x_zret dX4_isBound_61 rfl (Or.inr rfl) (pRI (bI_t (by obtain rfl : i = n := (by omega); exact c53)).symm)
    · refine x_iload_n dX4_isBound_15 rfl ?_
      refine x_aload_n dX4_isBound_16 rfl ?_
      refine x_get (v := xR (35, r, 0)) dX4_isBound_17 fl_RX4_18 (hp34 S (by omega) (by omega)) rfl ?_
      refine x_iload_n dX4_isBound_20 rfl ?_
      refine x_alda (l2 := (36, r, (i : Int))) dX4_isBound_21 (hp35 S (by omega) (by omega)) (show (35 : Nat) ≠ 99 by decide) (by decide) (by decide) (by omega) (by omega) (by decide) rfl ?_
      refine x_get (v := xI (S.1 (36, r, (i : Int)) 1)) dX4_isBound_22 fl_RX4_44 (hp36 S (by omega) (by omega) (by omega) (by omega)) rfl ?_
      have f22_2 := wf36_1 hw (S := S) (b := r) (t := (i : Int)) (by omega) (by omega) (by omega) (by omega)
      refine x_if_eq (tgt := 32) dX4_isBound_25 (by decide) (by first | exact hz _ _ | exact hw.1 _ _ | exact zR_of _ | exact bI_z _ | assumption | exact ⟨by omega, by omega⟩) (fun c25 => ?_) (fun c25 => ?_)
      · refine x_aload_n dX4_isBound_32 rfl ?_
        refine x_get (v := xR (35, r, 0)) dX4_isBound_33 fl_RX4_18 (hp34 S (by omega) (by omega)) rfl ?_
        refine x_iload_n dX4_isBound_36 rfl ?_
        refine x_alda (l2 := (36, r, (i : Int))) dX4_isBound_37 (hp35 S (by omega) (by omega)) (show (35 : Nat) ≠ 99 by decide) (by decide) (by decide) (by omega) (by omega) (by decide) rfl ?_
        refine x_callV_r (a := 0) (b := 0) (as := []) (rest := [xI (boundN S r i)]) ok_X2_digits dX4_isBound_38 wd660 ⟨wd661, wd662⟩ (hp36 S (by omega) (by omega) (by omega) (by omega)) rfl rfl (c_digits36 S hw r (i : Int) (by omega) (by omega) (by omega) (by omega)) rfl (Nat.le_of_ble_eq_true rfl) (Nat.le_of_ble_eq_true rfl) (by decide) (by omega) (by omega) ?_
        refine x_ior dX4_isBound_41 ?_
        refine x_istore_n (L' := [xR (34, r, 0), xI (zOr (boundN S r i) (fDig S (36, r, (i : Int)))), xI (i : Int)]) dX4_isBound_42 (by decide) rfl ?_
        refine x_iinc (L' := [xR (34, r, 0), xI (zOr (boundN S r i) (fDig S (36, r, (i : Int)))), xI ((i : Int) + 1)]) dX4_isBound_43 rfl rfl ?_
        refine x_goto (tgt := 7) dX4_isBound_46 (by decide) ?_
        have k := ih (i + 1) (by omega) (by omega)
        rw [show boundN S r (i + 1) = zOr (boundN S r i) (fDig S (36, r, (i : Int))) from by simp only [boundN]; first | rw [if_pos (by assumption)] | rw [if_neg (by assumption)]] at k
        exact k
      · refine x_iconst dX4_isBound_28 ?_
        refine x_goto (tgt := 41) dX4_isBound_29 (by decide) ?_
        refine x_ior dX4_isBound_41 ?_
        refine x_istore_n (L' := [xR (34, r, 0), xI (zOr (boundN S r i) 0), xI (i : Int)]) dX4_isBound_42 (by decide) rfl ?_
        refine x_iinc (L' := [xR (34, r, 0), xI (zOr (boundN S r i) 0), xI ((i : Int) + 1)]) dX4_isBound_43 rfl rfl ?_
        refine x_goto (tgt := 7) dX4_isBound_46 (by decide) ?_
        have k := ih (i + 1) (by omega) (by omega)
        rw [show boundN S r (i + 1) = zOr (boundN S r i) 0 from by simp only [boundN]; first | rw [if_pos (by assumption)] | rw [if_neg (by assumption)]] at k
        exact k
set_option maxHeartbeats 4000000 in
set_option maxRecDepth 100000 in
theorem c_isBound (S : XS) (hw : WI S) (r : Int) (h1 : 0 ≤ r) (h2 : r < 10) (n : Nat) (hn : S.1 (34, r, 0) 2 = n) (gn : n ≤ 3) : X mX4_isBound 0 (xEnt mX4_isBound [xR (34, r, 0)]) [] (hp S) 0 0 (pRet (xI (bI (boundN S r n = 511))) (hp S)) := by
  show X mX4_isBound 0 [xR (34, r, 0), none, none] [] (hp S) 0 0 _
  refine x_aload_n dX4_isBound_0 rfl ?_
  refine x_get (v := xI (S.1 (34, r, 0) 4)) dX4_isBound_1 fl_RX4_29 (hp34 S (by omega) (by omega)) rfl ?_
  have f1_1 := wf34_4 hw (S := S) (b := r) (by omega) (by omega)
  refine x_istore_n (L' := [xR (34, r, 0), xI (S.1 (34, r, 0) 4), none]) dX4_isBound_4 (by decide) rfl ?_
  refine x_iconst dX4_isBound_5 ?_
  refine x_istore_n (L' := [xR (34, r, 0), xI (S.1 (34, r, 0) 4), xI 0]) dX4_isBound_6 (by decide) rfl ?_
  exact l_isBound S hw r h1 h2 n hn gn 61 0 (by omega) (by omega)
/-- the least layer that a rule allows its head -/
def leastN (f : XL → Int → Int) (r : Int) : Nat → Int
  | 0 => 0
  | n + 1 => let q := if f (36, r, n) 1 = 0 then f (33, 0, 0) (f (36, r, n) 0) else f (33, 0, 0) (f (36, r, n) 0) + 1; if leastN f r n < q then q else leastN f r n
theorem leastN_in (S : XS) (hw : WI S) (r : Int) (n : Nat) : 0 ≤ leastN S.1 r n ∧ leastN S.1 r n ≤ 6 := by
  induction n with
  | zero => simp [leastN]
  | succ n ih =>
    have a := wfa33 hw (S.1 (36, r, n) 0)
    simp only [leastN]
    (repeat' split) <;> omega
set_option maxHeartbeats 4000000 in
set_option maxRecDepth 100000 in
theorem l_leastLayer (S : XS) (hw : WI S) (r : Int) (h1 : 0 ≤ r) (h2 : r < 10) (n : Nat) (hn : S.1 (34, r, 0) 2 = n) (gn : n ≤ 3) : ∀ (nn : Nat) (i : Nat), (n : Int) - i < (nn : Int) → (i ≤ n) → X mX5_leastLayer 4 [xR (4, 0, 0), xR (34, r, 0), xI (leastN S.1 r i), xI (i : Int), none, none] [] (hp S) 0 0 (pRet (xI (leastN S.1 r n)) (hp S)) := by
  intro nn
  induction nn with
  | zero => intro i hm hi; exfalso; omega
  | succ nn ih =>
    intro i hm hi
    have hli := leastN_in S hw r i
    refine x_iload_n dX5_leastLayer_4 rfl ?_
    refine x_aload_n dX5_leastLayer_5 rfl ?_
    refine x_get (v := xI (S.1 (34, r, 0) 2)) dX5_leastLayer_6 fl_RX5_57 (hp34 S (by omega) (by omega)) rfl ?_
    have f6_1 := wf34_2 hw (S := S) (b := r) (by omega) (by omega)
    refine x_icmp_ge (tgt := 60) dX5_leastLayer_9 (by decide) (by first | exact hz _ _ | exact hw.1 _ _ | exact zR_of _ | exact bI_z _ | assumption | exact ⟨by omega, by omega⟩) (by first | exact hz _ _ | exact hw.1 _ _ | exact zR_of _ | exact bI_z _ | assumption | exact ⟨by omega, by omega⟩) (fun c9 => ?_) (fun c9 => ?_)
    · refine x_iload_n dX5_leastLayer_60 rfl ?_
      exact x_iret dX5_leastLayer_61 rfl (by obtain rfl : i = n := (by omega); exact pRI rfl)
    · refine x_aload_n dX5_leastLayer_12 rfl ?_
      refine x_get (v := xR (35, r, 0)) dX5_leastLayer_13 fl_RX5_58 (hp34 S (by omega) (by omega)) rfl ?_
      refine x_iload_n dX5_leastLayer_16 rfl ?_
      refine x_alda (l2 := (36, r, (i : Int))) dX5_leastLayer_17 (hp35 S (by omega) (by omega)) (show (35 : Nat) ≠ 99 by decide) (by decide) (by decide) (by omega) (by omega) (by decide) rfl ?_
      refine x_astore (L' := [xR (4, 0, 0), xR (34, r, 0), xI (leastN S.1 r i), xI (i : Int), xR (36, r, (i : Int)), none]) dX5_leastLayer_18 (by decide) rfl ?_
      refine x_aload_n dX5_leastLayer_20 rfl ?_
      refine x_get (v := xR (33, 0, 0)) dX5_leastLayer_21 fl_RX5_17 (hp4 S) rfl ?_
      refine x_aload dX5_leastLayer_24 rfl ?_
      refine x_get (v := xI (S.1 (36, r, (i : Int)) 0)) dX5_leastLayer_26 fl_RX5_52 (hp36 S (by omega) (by omega) (by omega) (by omega)) rfl ?_
      have f26_2 := wf36_0 hw (S := S) (b := r) (t := (i : Int)) (by omega) (by omega) (by omega) (by omega)
      refine x_aldi (f := S.1 (33, 0, 0)) dX5_leastLayer_29 (hp33 S) (show (33 : Nat) ≠ 99 by decide) (by omega) (by omega) (by decide) ?_
      have f29_3 := wfa33 hw (S := S) (S.1 (36, r, (i : Int)) 0)
      refine x_istore (L' := [xR (4, 0, 0), xR (34, r, 0), xI (leastN S.1 r i), xI (i : Int), xR (36, r, (i : Int)), xI (S.1 (33, 0, 0) (S.1 (36, r, (i : Int)) 0))]) dX5_leastLayer_30 (by decide) rfl ?_
      refine x_iload_n dX5_leastLayer_32 rfl ?_
      refine x_aload dX5_leastLayer_33 rfl ?_
      refine x_get (v := xI (S.1 (36, r, (i : Int)) 1)) dX5_leastLayer_35 fl_RX5_62 (hp36 S (by omega) (by omega) (by omega) (by omega)) rfl ?_
      have f35_4 := wf36_1 hw (S := S) (b := r) (t := (i : Int)) (by omega) (by omega) (by omega) (by omega)
      refine x_if_eq (tgt := 48) dX5_leastLayer_38 (by decide) (by first | exact hz _ _ | exact hw.1 _ _ | exact zR_of _ | exact bI_z _ | assumption | exact ⟨by omega, by omega⟩) (fun c38 => ?_) (fun c38 => ?_)
      · refine x_iload dX5_leastLayer_48 rfl ?_
        refine x_mmax dX5_leastLayer_50 wd389 ⟨wd390, wd36, wd391⟩ (by decide) (Nat.le_of_ble_eq_true rfl) (by first | exact hz _ _ | exact hw.1 _ _ | exact zR_of _ | exact bI_z _ | assumption | exact ⟨by omega, by omega⟩) (by first | exact hz _ _ | exact hw.1 _ _ | exact zR_of _ | exact bI_z _ | assumption | exact ⟨by omega, by omega⟩) ?_
        refine x_istore_n (L' := [xR (4, 0, 0), xR (34, r, 0), xI (if (leastN S.1 r i) < (S.1 (33, 0, 0) (S.1 (36, r, (i : Int)) 0)) then (S.1 (33, 0, 0) (S.1 (36, r, (i : Int)) 0)) else (leastN S.1 r i)), xI (i : Int), xR (36, r, (i : Int)), xI (S.1 (33, 0, 0) (S.1 (36, r, (i : Int)) 0))]) dX5_leastLayer_53 (by decide) rfl ?_
        refine x_iinc (L' := [xR (4, 0, 0), xR (34, r, 0), xI (if (leastN S.1 r i) < (S.1 (33, 0, 0) (S.1 (36, r, (i : Int)) 0)) then (S.1 (33, 0, 0) (S.1 (36, r, (i : Int)) 0)) else (leastN S.1 r i)), xI ((i : Int) + 1), xR (36, r, (i : Int)), xI (S.1 (33, 0, 0) (S.1 (36, r, (i : Int)) 0))]) dX5_leastLayer_54 rfl rfl ?_
        refine x_goto (tgt := 4) dX5_leastLayer_57 (by decide) ?_
        refine X.loc (L' := [xR (4, 0, 0), xR (34, r, 0), xI (if (leastN S.1 r i) < (S.1 (33, 0, 0) (S.1 (36, r, (i : Int)) 0)) then (S.1 (33, 0, 0) (S.1 (36, r, (i : Int)) 0)) else (leastN S.1 r i)), xI ((i : Int) + 1), none, none]) ⟨rfl, ⟨rfl, ⟨rfl, ⟨rfl, trivial⟩⟩⟩⟩ ?_
        have k := ih (i + 1) (by omega) (by omega)
        rw [show leastN S.1 r (i + 1) = if (leastN S.1 r i) < (S.1 (33, 0, 0) (S.1 (36, r, (i : Int)) 0)) then (S.1 (33, 0, 0) (S.1 (36, r, (i : Int)) 0)) else (leastN S.1 r i) from by simp only [leastN]; (repeat' split) <;> first | rfl | (exfalso; omega)] at k
        exact k
      · refine x_iload dX5_leastLayer_41 rfl ?_
        refine x_iconst dX5_leastLayer_43 ?_
        refine x_iadd dX5_leastLayer_44 ?_
        refine x_goto (tgt := 50) dX5_leastLayer_45 (by decide) ?_
        refine x_mmax dX5_leastLayer_50 wd389 ⟨wd390, wd36, wd391⟩ (by decide) (Nat.le_of_ble_eq_true rfl) (by first | exact hz _ _ | exact hw.1 _ _ | exact zR_of _ | exact bI_z _ | assumption | exact ⟨by omega, by omega⟩) (by first | exact hz _ _ | exact hw.1 _ _ | exact zR_of _ | exact bI_z _ | assumption | exact ⟨by omega, by omega⟩) ?_
        refine x_istore_n (L' := [xR (4, 0, 0), xR (34, r, 0), xI (if (leastN S.1 r i) < ((S.1 (33, 0, 0) (S.1 (36, r, (i : Int)) 0)) + 1) then ((S.1 (33, 0, 0) (S.1 (36, r, (i : Int)) 0)) + 1) else (leastN S.1 r i)), xI (i : Int), xR (36, r, (i : Int)), xI (S.1 (33, 0, 0) (S.1 (36, r, (i : Int)) 0))]) dX5_leastLayer_53 (by decide) rfl ?_
        refine x_iinc (L' := [xR (4, 0, 0), xR (34, r, 0), xI (if (leastN S.1 r i) < ((S.1 (33, 0, 0) (S.1 (36, r, (i : Int)) 0)) + 1) then ((S.1 (33, 0, 0) (S.1 (36, r, (i : Int)) 0)) + 1) else (leastN S.1 r i)), xI ((i : Int) + 1), xR (36, r, (i : Int)), xI (S.1 (33, 0, 0) (S.1 (36, r, (i : Int)) 0))]) dX5_leastLayer_54 rfl rfl ?_
        refine x_goto (tgt := 4) dX5_leastLayer_57 (by decide) ?_
        refine X.loc (L' := [xR (4, 0, 0), xR (34, r, 0), xI (if (leastN S.1 r i) < ((S.1 (33, 0, 0) (S.1 (36, r, (i : Int)) 0)) + 1) then ((S.1 (33, 0, 0) (S.1 (36, r, (i : Int)) 0)) + 1) else (leastN S.1 r i)), xI ((i : Int) + 1), none, none]) ⟨rfl, ⟨rfl, ⟨rfl, ⟨rfl, trivial⟩⟩⟩⟩ ?_
        have k := ih (i + 1) (by omega) (by omega)
        rw [show leastN S.1 r (i + 1) = if (leastN S.1 r i) < ((S.1 (33, 0, 0) (S.1 (36, r, (i : Int)) 0)) + 1) then ((S.1 (33, 0, 0) (S.1 (36, r, (i : Int)) 0)) + 1) else (leastN S.1 r i) from by simp only [leastN]; (repeat' split) <;> first | rfl | (exfalso; omega)] at k
        exact k
set_option maxHeartbeats 4000000 in
set_option maxRecDepth 100000 in
theorem c_leastLayer (S : XS) (hw : WI S) (r : Int) (h1 : 0 ≤ r) (h2 : r < 10) (n : Nat) (hn : S.1 (34, r, 0) 2 = n) (gn : n ≤ 3) : X mX5_leastLayer 0 (xEnt mX5_leastLayer [xR (4, 0, 0), xR (34, r, 0)]) [] (hp S) 0 0 (pRet (xI (leastN S.1 r n)) (hp S)) := by
  show X mX5_leastLayer 0 [xR (4, 0, 0), xR (34, r, 0), none, none, none, none] [] (hp S) 0 0 _
  refine x_iconst dX5_leastLayer_0 ?_
  refine x_istore_n (L' := [xR (4, 0, 0), xR (34, r, 0), xI 0, none, none, none]) dX5_leastLayer_1 (by decide) rfl ?_
  refine x_iconst dX5_leastLayer_2 ?_
  refine x_istore_n (L' := [xR (4, 0, 0), xR (34, r, 0), xI 0, xI 0, none, none]) dX5_leastLayer_3 (by decide) rfl ?_
  exact l_leastLayer S hw r h1 h2 n hn gn 61 0 (by omega) (by omega)
