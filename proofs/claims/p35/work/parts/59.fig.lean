/-! figures -/
def hoursS (f : XL → Int → Int) : Nat → Int64
  | 0 => 0
  | n + 1 => hoursS f n + hoursN f n (f (9, n, 0) 3).toNat
theorem QEq.row26 (S : XS) (C : Int → Int64) (n : Int) : QEq S (rowJ S (26, 0, 0) C n) := ⟨fun _ _ => rfl, fun l a => by show (if l = _ then _ else _) = _; rw [if_neg (fun z => by rw [z] at a; cases a)], rfl⟩
theorem CB.row26 {S : XS} (hb : CB S) (C : Int → Int64) : CB (rowJ S (26, 0, 0) C 6) := by
  refine hb.keep (QEq.row26 S C 6) (WI.row hb.1) (fun k x y z => rfl) (fun k x y z => ?_)
  show (if (k, x, y) = ((26 : Nat), (0 : Int), (0 : Int)) then _ else _) = _
  rw [if_neg (fun e => by injection e with e _; omega)]
def sAnew (S : XS) (b : Int) (n : Nat) (t : Int) (g : Int → Int) (C : Int → Int64) : XS := rowJ (rowI (sRead S b n t) (33, 0, 0) g 6) (26, 0, 0) C 6
theorem anew_q (S : XS) (b : Int) (n : Nat) (t : Int) (g : Int → Int) (C : Int → Int64) : QEq S (sAnew S b n t g C) := ((QEq.read S b n t).tr (QEq.row33 _ g 6)).tr (QEq.row26 _ C 6)
theorem CB.anew {S : XS} (hb : CB S) (b : Int) (n : Nat) (t : Int) {g : Int → Int} (hg : GOk g) (C : Int → Int64) : CB (sAnew S b n t g C) := ((hb.read b n t).row33 hg).row26 C
theorem anew_at (S : XS) (b : Int) (n : Nat) (t : Int) (g : Int → Int) (C : Int → Int64) {x : Int} (x0 : 0 ≤ x) (x1 : x ≤ 5) : (sAnew S b n t g C).2.1 (26, 0, 0) x = C x := rowJ_at _ (26, 0, 0) C (n := 6) x0 (by omega)
/-- stateAnew, with what holds as a function -/
def pAn (S : XS) (b : Int) (n : Nat) (t : Int) : XO → XH → Prop := fun o h' => o = .inl (some (xR (6, 0, 0))) ∧ ∃ S', h' = hp S' ∧ QEq S S' ∧ CB S' ∧ (∀ k x y, (k = 8 ∨ k = 28) → S'.1 (k, x, y) = S.1 (k, x, y) ∧ S'.2.1 (k, x, y) = S.2.1 (k, x, y)) ∧ ∀ x : Int, 0 ≤ x → x ≤ 5 → S'.2.1 (26, 0, 0) x = hl S.1 b n t x
theorem c_anewZ (S : XS) (hb : CB S) (b : Int) (h1 : 0 ≤ b) (h2 : b < S.1 (0, 0, 0) 6) (n : Int) (n0 : 0 ≤ n) (gn : n ≤ S.1 (9, b, 0) 3) (t : Int) (h3 : 0 ≤ t) (h4 : t < 24) : X mX8_stateAnew 0 (xEnt mX8_stateAnew [xR (0, 0, 0), xR (9, b, 0), xI n, xI t]) [] (hp S) 0 0 (pAn S b n.toNat t) := by
  have f6 := wf0_6 hb.1
  have f3 := wf9_3 hb.1 h1 (show b < 4 by omega)
  have HT := hb.2.2.2.1 b h1 h2 n.toNat (by omega)
  have q := c_stateAnew S hb.1 hb.2.1 b h1 (by omega) n.toNat (by omega) HT t h3 h4
  rw [show (n.toNat : Int) = n by omega] at q
  refine X.weak q (Nat.le_refl _) (Nat.le_refl _) fun o h' z => ?_
  obtain ⟨rfl, g, C, hg, rfl, hC⟩ := z
  refine ⟨rfl, sAnew S b n.toNat t g C, rfl, anew_q S b n.toNat t g C, hb.anew b n.toNat t hg C, fun k x y hk => ⟨?_, ?_⟩, fun x x0 x1 => ?_⟩
  · show (if _ = ((33 : Nat), (0 : Int), (0 : Int)) then _ else (sRead S b n.toNat t).1 (k, x, y)) = _
    rw [if_neg (fun e => by injection e with e _; omega)]
    exact putI_o (fun e => by injection e with e _; omega)
  · show (if _ = ((26 : Nat), (0 : Int), (0 : Int)) then _ else (if _ = ((16 : Nat), (0 : Int), (0 : Int)) then _ else S.2.1 (k, x, y))) = _
    rw [if_neg (fun e => by injection e with e _; omega), if_neg (fun e => by injection e with e _; omega)]
  · rw [anew_at S b n.toNat t g C x0 x1]
    exact hldF_eq hb.1 hb.2.1 HT hC x x0 x1
set_option maxHeartbeats 4000000 in
set_option maxRecDepth 100000 in
theorem c_holdsAnew (S : XS) (hb : CB S) (i n t q : Int) (zi : zR i) (zn : zR n) (zt : zR t) (zq : zR q) : X mX8_holdsAnew 0 (xEnt mX8_holdsAnew [xR (0, 0, 0), xI i, xI n, xI t, xI q]) [] (hp S) 4 24 (pOr ((0 ≤ i ∧ i < S.1 (0, 0, 0) 6) ∧ 0 ≤ n ∧ n < S.1 (9, i, 0) 3 + 1) (pOr ((0 ≤ t ∧ t < 24) ∧ 0 ≤ q ∧ q < 384) (pQ S (some (xI (bI (hB S.1 i n.toNat t q))))) (pX S "java/lang/IllegalArgumentException")) (pX S "java/lang/IndexOutOfBoundsException")) := by
  have hw := hb.1
  have hn6 := wf0_6 hw
  have h93 : 0 ≤ i → i < S.1 (0, 0, 0) 6 → 0 ≤ S.1 (9, i, 0) 3 ∧ S.1 (9, i, 0) 3 ≤ 60 := fun a b => wf9_3 hw a (by omega)
  have zi2 := zi
  unfold zR at zi2
  have zn2 := zn
  unfold zR at zn2
  have zt2 := zt
  unfold zR at zt2
  have zq2 := zq
  unfold zR at zq2
  show X mX8_holdsAnew 0 [xR (0, 0, 0), xI i, xI n, xI t, xI q, none] [] (hp S) 4 24 _
  refine x_aload_n dX8_holdsAnew_0 rfl ?_
  refine x_iload_n dX8_holdsAnew_1 rfl ?_
  refine x_callV_t (a := 1) (b := 6) (as := [xI i]) (rest := []) ok_X8_branchAt dX8_holdsAnew_2 wd511 ⟨wd513, wd6⟩ (hp0 S) rfl rfl (c_branchAt S hb.1 i (by first | exact hz _ _ | exact hw.1 _ _ | exact zR_of _ | exact bI_z _ | assumption | exact ⟨by omega, by omega⟩)) rfl (Nat.le_of_ble_eq_true rfl) (Nat.le_of_ble_eq_true rfl) (by decide) (by omega) (by omega) (fun t2 => ?_) (fun t2 => ?_)
  · refine x_astore (L' := [xR (0, 0, 0), xI i, xI n, xI t, xI q, xR (9, i, 0)]) dX8_holdsAnew_5 (by decide) rfl ?_
    refine x_aload dX8_holdsAnew_7 rfl ?_
    refine x_iload_n dX8_holdsAnew_9 rfl ?_
    refine x_iload_n dX8_holdsAnew_10 rfl ?_
    refine x_iload dX8_holdsAnew_11 rfl ?_
    refine x_callS_tv2 (a := 3) (b := 18) (as := [xR (9, i, 0), xI n, xI t, xI q]) (rest := []) ok_X8_checkAsked dX8_holdsAnew_13 wd745 wd746 (c_checkAsked S hb.1 i (by omega) (by omega) n t q (by first | exact hz _ _ | exact hw.1 _ _ | exact zR_of _ | exact bI_z _ | assumption | exact ⟨by omega, by omega⟩) (by first | exact hz _ _ | exact hw.1 _ _ | exact zR_of _ | exact bI_z _ | assumption | exact ⟨by omega, by omega⟩) (by first | exact hz _ _ | exact hw.1 _ _ | exact zR_of _ | exact bI_z _ | assumption | exact ⟨by omega, by omega⟩)) rfl (Nat.le_of_ble_eq_true rfl) (Nat.le_of_ble_eq_true rfl) (by decide) (by omega) (by omega) (fun t13 t13b => ?_) (fun t13 => ?_) (fun t13 t13b => ?_)
    · refine x_aload_n dX8_holdsAnew_16 rfl ?_
      refine x_aload dX8_holdsAnew_17 rfl ?_
      refine x_iload_n dX8_holdsAnew_19 rfl ?_
      refine x_iload_n dX8_holdsAnew_20 rfl ?_
      refine x_callV (a := 0) (b := 0) (as := [xR (9, i, 0), xI n, xI t]) (rest := []) ok_X8_stateAnew dX8_holdsAnew_21 wd417 ⟨wd419, wd4⟩ (hp0 S) rfl rfl (c_anewZ S hb i (by omega) (by omega) n (by omega) (by omega) t (by omega) (by omega)) rfl (Nat.le_of_ble_eq_true rfl) (Nat.le_of_ble_eq_true rfl) (by decide) (by omega) (by omega) (fun _ q => by cases q.1) (fun _ _ q => ?_) (fun _ _ q => by cases q.1)
      obtain ⟨y1, A1, rfl, qA1, bA1, kA1, lA1⟩ := q
      cases y1
      refine x_iload dX8_holdsAnew_24 rfl ?_
      refine x_callV_r (a := 0) (b := 0) (as := [xI q]) (rest := []) ok_X6_has dX8_holdsAnew_26 wd751 ⟨wd752, wd753⟩ (hp6 A1) rfl rfl (c_has6 A1 q (by omega) (by omega)) rfl (Nat.le_of_ble_eq_true rfl) (Nat.le_of_ble_eq_true rfl) (by decide) (by omega) (by omega) ?_
      exact x_zret dX8_holdsAnew_29 rfl (bI_01 _) (Or.inl ⟨by omega, Or.inl ⟨by omega, pQb (hB_of (by omega) (by omega) lA1) qA1 bA1⟩⟩)
    · exact XX.out rfl (by first | exact Or.inr ⟨by omega, pXi (QEq.rf S) hb⟩ | exact Or.inl ⟨by omega, Or.inr ⟨by omega, pXi (QEq.rf S) hb⟩⟩ | exact Or.inl ⟨by omega, Or.inl ⟨by omega, Or.inr ⟨by first | omega | assumption, pXi (QEq.rf S) hb⟩⟩⟩)
    · exact XX.out rfl (by first | exact Or.inr ⟨by omega, pXi (QEq.rf S) hb⟩ | exact Or.inl ⟨by omega, Or.inr ⟨by omega, pXi (QEq.rf S) hb⟩⟩ | exact Or.inl ⟨by omega, Or.inl ⟨by omega, Or.inr ⟨by first | omega | assumption, pXi (QEq.rf S) hb⟩⟩⟩)
  · exact XX.out rfl (by first | exact Or.inr ⟨by omega, pXi (QEq.rf S) hb⟩ | exact Or.inl ⟨by omega, Or.inr ⟨by omega, pXi (QEq.rf S) hb⟩⟩ | exact Or.inl ⟨by omega, Or.inl ⟨by omega, Or.inr ⟨by first | omega | assumption, pXi (QEq.rf S) hb⟩⟩⟩)
set_option maxHeartbeats 4000000 in
set_option maxRecDepth 100000 in
theorem l_agreeI (S : XS) (b : Int) (b0 : 0 ≤ b) (b1 : b < S.1 (0, 0, 0) 6) (K : XS) (qK : QEq S K) (bK : CB K) (h : Int) (h0 : 0 ≤ h) (h1 : h < 24) (hk : ∀ x : Int, 0 ≤ x → x ≤ 5 → K.2.1 (28, b, h) x = K.2.1 (26, 0, 0) x) (KK : X mX8_agreesWithAnew 2 [xR (0, 0, 0), xR (9, b, 0), xI (h + 6), none, none, none] [] (hp K) 0 0 (pQ S (some (xI 1)))) : ∀ (nn : Nat) (i : Int), 7 - i < (nn : Int) → (0 ≤ i) → (i ≤ 6) → X mX8_agreesWithAnew 34 [xR (0, 0, 0), xR (9, b, 0), xI h, xR (8, b, h), xR (6, 0, 0), xI i] [] (hp K) 0 0 (pQ S (some (xI 1))) := by
  intro nn
  induction nn with
  | zero => intro i hm i0 i6; exfalso; omega
  | succ nn ih =>
    intro i hm i0 i6
    have k6 := wf0_6 bK.1
    have e6 := congrFun (qK.1 (0, 0, 0) rfl) 6
    refine x_iload dX8_agreesWithAnew_34 rfl ?_
    refine x_bipush (v := 6) dX8_agreesWithAnew_36 (by decide) ?_
    refine x_icmp_ge (tgt := 68) dX8_agreesWithAnew_38 (by decide) (by first | exact hz _ _ | exact hw.1 _ _ | exact zR_of _ | exact bI_z _ | assumption | exact ⟨by omega, by omega⟩) ⟨by decide, by decide⟩ (fun c38 => ?_) (fun c38 => ?_)
    · refine x_iinc (L' := [xR (0, 0, 0), xR (9, b, 0), xI (h + 6), xR (8, b, h), xR (6, 0, 0), xI i]) dX8_agreesWithAnew_68 rfl rfl ?_
      refine x_goto (tgt := 2) dX8_agreesWithAnew_71 (by decide) ?_
      refine X.loc (L' := [xR (0, 0, 0), xR (9, b, 0), xI (h + 6), none, none, none]) ⟨rfl, ⟨rfl, ⟨rfl, trivial⟩⟩⟩ ?_
      exact KK
    · refine x_aload_n dX8_agreesWithAnew_41 rfl ?_
      refine x_get (v := xR (28, b, h)) dX8_agreesWithAnew_42 fl_RX8_173 (hp8 K (by omega) (by omega) (by omega) (by omega)) rfl ?_
      refine x_iload dX8_agreesWithAnew_45 rfl ?_
      refine x_aldj (f := K.2.1 (28, b, h)) dX8_agreesWithAnew_47 (hp28 K (by omega) (by omega) (by omega) (by omega)) (show (28 : Nat) ≠ 99 by decide) (by omega) (by omega) (by decide) ?_
      refine x_aload dX8_agreesWithAnew_48 rfl ?_
      refine x_get (v := xR (26, 0, 0)) dX8_agreesWithAnew_50 fl_RX8_173 (hp6 K) rfl ?_
      refine x_iload dX8_agreesWithAnew_53 rfl ?_
      refine x_aldj (f := K.2.1 (26, 0, 0)) dX8_agreesWithAnew_55 (hp26 K) (show (26 : Nat) ≠ 99 by decide) (by omega) (by omega) (by decide) ?_
      refine x_lcmp dX8_agreesWithAnew_56 ?_
      refine x_if_eq (tgt := 62) dX8_agreesWithAnew_57 (by decide) (by first | exact hz _ _ | exact hw.1 _ _ | exact zR_of _ | exact bI_z _ | assumption | exact ⟨by omega, by omega⟩) (fun c57 => ?_) (fun c57 => ?_)
      · refine x_iinc (L' := [xR (0, 0, 0), xR (9, b, 0), xI h, xR (8, b, h), xR (6, 0, 0), xI (i + 1)]) dX8_agreesWithAnew_62 rfl rfl ?_
        refine x_goto (tgt := 34) dX8_agreesWithAnew_65 (by decide) ?_
        exact ih (i + 1) (by omega) (by omega) (by omega)
      · refine x_iconst dX8_agreesWithAnew_60 ?_
        exact x_zret dX8_agreesWithAnew_61 rfl (Or.inl rfl) (absurd (lg0.mpr (hk i (by omega) (by omega))) (by assumption))
set_option maxHeartbeats 4000000 in
set_option maxRecDepth 100000 in
theorem l_agreeO (S : XS) (b : Int) (b0 : 0 ≤ b) (b1 : b < S.1 (0, 0, 0) 6) : ∀ (nn : Nat) (T0 : XS) (h : Int), 30 - h < (nn : Int) → (QEq S T0) → (CB T0) → (0 ≤ h) → (h ≤ 29) → X mX8_agreesWithAnew 2 [xR (0, 0, 0), xR (9, b, 0), xI h, none, none, none] [] (hp T0) 0 0 (pQ S (some (xI 1))) := by
  intro nn
  induction nn with
  | zero => intro T0 h hm qT0 bT0 h0 h29; exfalso; omega
  | succ nn ih =>
    intro T0 h hm qT0 bT0 h0 h29
    have k6 := wf0_6 bT0.1
    have e6 := congrFun (qT0.1 (0, 0, 0) rfl) 6
    have e9 := congrFun (qT0.1 (9, b, 0) rfl) 3
    have k9 := wf9_3 bT0.1 b0 (show b < 4 by omega)
    refine x_iload_n dX8_agreesWithAnew_2 rfl ?_
    refine x_bipush (v := 24) dX8_agreesWithAnew_3 (by decide) ?_
    refine x_icmp_ge (tgt := 74) dX8_agreesWithAnew_5 (by decide) (by first | exact hz _ _ | exact hw.1 _ _ | exact zR_of _ | exact bI_z _ | assumption | exact ⟨by omega, by omega⟩) ⟨by decide, by decide⟩ (fun c5 => ?_) (fun c5 => ?_)
    · refine x_iconst dX8_agreesWithAnew_74 ?_
      exact x_zret dX8_agreesWithAnew_75 rfl (Or.inr rfl) (pQi qT0 bT0)
    · refine x_aload_n dX8_agreesWithAnew_8 rfl ?_
      refine x_aload_n dX8_agreesWithAnew_9 rfl ?_
      refine x_aload_n dX8_agreesWithAnew_10 rfl ?_
      refine x_get (v := xI (T0.1 (9, b, 0) 3)) dX8_agreesWithAnew_11 fl_RX8_92 (hp9 T0 (by omega) (by omega)) rfl ?_
      have f11_1 := wf9_3 bT0.1 (S := T0) (b := b) (by omega) (by omega)
      refine x_iload_n dX8_agreesWithAnew_14 rfl ?_
      refine x_callV (a := 0) (b := 0) (as := [xR (9, b, 0), xI (T0.1 (9, b, 0) 3), xI h]) (rest := []) ok_X8_stateOf dX8_agreesWithAnew_15 wd350 ⟨wd352, wd1⟩ (hp0 T0) rfl rfl (c_stateZ T0 bT0 b (by omega) (by omega) (T0.1 (9, b, 0) 3) (by omega) (by omega) h (by omega) (by omega)) rfl (Nat.le_of_ble_eq_true rfl) (Nat.le_of_ble_eq_true rfl) (by decide) (by omega) (by omega) (fun _ q => by cases q.1) (fun _ _ q => ?_) (fun _ _ q => by cases q.1)
      obtain ⟨y1, T1, rfl, qq1, bT1, o1, t1, l1⟩ := q
      cases y1
      have eT9 := congrFun (qq1.1 (9, b, 0) rfl) 3
      have eT6 := congrFun (qq1.1 (0, 0, 0) rfl) 6
      refine x_astore_n (L' := [xR (0, 0, 0), xR (9, b, 0), xI h, xR (8, b, h), none, none]) dX8_agreesWithAnew_18 (by decide) rfl ?_
      refine x_aload_n dX8_agreesWithAnew_19 rfl ?_
      refine x_aload_n dX8_agreesWithAnew_20 rfl ?_
      refine x_aload_n dX8_agreesWithAnew_21 rfl ?_
      refine x_get (v := xI (T1.1 (9, b, 0) 3)) dX8_agreesWithAnew_22 fl_RX8_92 (hp9 T1 (by omega) (by omega)) rfl ?_
      have f22_2 := wf9_3 bT1.1 (S := T1) (b := b) (by omega) (by omega)
      refine x_iload_n dX8_agreesWithAnew_25 rfl ?_
      refine x_callV (a := 0) (b := 0) (as := [xR (9, b, 0), xI (T1.1 (9, b, 0) 3), xI h]) (rest := []) ok_X8_stateAnew dX8_agreesWithAnew_26 wd417 ⟨wd419, wd4⟩ (hp0 T1) rfl rfl (c_anewZ T1 bT1 b (by omega) (by omega) (T1.1 (9, b, 0) 3) (by omega) (by omega) h (by omega) (by omega)) rfl (Nat.le_of_ble_eq_true rfl) (Nat.le_of_ble_eq_true rfl) (by decide) (by omega) (by omega) (fun _ q => by cases q.1) (fun _ _ q => ?_) (fun _ _ q => by cases q.1)
      obtain ⟨y1, A1, rfl, qA1, bA1, kA1, lA1⟩ := q
      cases y1
      refine x_astore (L' := [xR (0, 0, 0), xR (9, b, 0), xI h, xR (8, b, h), xR (6, 0, 0), none]) dX8_agreesWithAnew_29 (by decide) rfl ?_
      refine x_iconst dX8_agreesWithAnew_31 ?_
      refine x_istore (L' := [xR (0, 0, 0), xR (9, b, 0), xI h, xR (8, b, h), xR (6, 0, 0), xI 0]) dX8_agreesWithAnew_32 (by decide) rfl ?_
      exact l_agreeI S b b0 b1 A1 ((qT0.tr qq1).tr qA1) bA1 h (by omega) (by omega) (fun x x0 x1 => by rw [(kA1 28 b h (Or.inr rfl)).2, l1 x x0 x1, lA1 x x0 x1, qq1.hl, eT9]) (ih A1 (h + 6) (by omega) ((qT0.tr qq1).tr qA1) bA1 (by omega) (by omega)) 8 0 (by omega) (by omega) (by omega)
set_option maxHeartbeats 4000000 in
set_option maxRecDepth 100000 in
theorem c_agreesWithAnew (S : XS) (hb : CB S) (b : Int) (b0 : 0 ≤ b) (b1 : b < S.1 (0, 0, 0) 6) : X mX8_agreesWithAnew 0 (xEnt mX8_agreesWithAnew [xR (0, 0, 0), xR (9, b, 0)]) [] (hp S) 0 0 (pQ S (some (xI 1))) := by
  show X mX8_agreesWithAnew 0 [xR (0, 0, 0), xR (9, b, 0), none, none, none, none] [] (hp S) 0 0 _
  refine x_iconst dX8_agreesWithAnew_0 ?_
  refine x_istore_n (L' := [xR (0, 0, 0), xR (9, b, 0), xI 0, none, none, none]) dX8_agreesWithAnew_1 (by decide) rfl ?_
  exact l_agreeO S b b0 b1 31 S 0 (by omega) (QEq.rf S) hb (by omega) (by omega)
/-- the seals that are kept are true -/
def SealOk (S : XS) : Prop := ∀ b : Int, 0 ≤ b → b < S.1 (0, 0, 0) 6 → ∀ j : Nat, (j : Int) ≤ S.1 (9, b, 0) 3 → S.1 (11, b, 0) j = dueN S.1 b j
theorem due_congr {f f' : XL → Int → Int} {b : Int} (h : ∀ k : Int, f (13, b, k) = f' (13, b, k)) (n : Nat) : dueN f b n = dueN f' b n := by
  induction n with
  | zero => rfl
  | succ n ih => simp only [dueN, h, ih]
theorem SealOk.q {S S' : XS} (h : SealOk S) (q : QEq S S') : SealOk S' := by
  intro b b0 b1 j hj
  rw [q.1 (0, 0, 0) rfl] at b1
  rw [q.1 (9, b, 0) rfl] at hj
  rw [q.1 (11, b, 0) rfl, due_congr (fun k => q.tel b k)]
  exact h b b0 b1 j hj
set_option maxHeartbeats 4000000 in
set_option maxRecDepth 100000 in
theorem l_isSound (S : XS) (hs : SealOk S) (n : Nat) (hn : S.1 (0, 0, 0) 6 = n) : ∀ (nn : Nat) (T0 : XS) (i : Nat), (n : Int) - i < (nn : Int) → (QEq S T0) → (CB T0) → (i ≤ n) → X mX8_isSound 2 [xR (0, 0, 0), xI (i : Int)] [] (hp T0) 0 0 (pQ S (some (xI 1))) := by
  intro nn
  induction nn with
  | zero => intro T0 i hm qT0 bT0 hi; exfalso; omega
  | succ nn ih =>
    intro T0 i hm qT0 bT0 hi
    have k6 := wf0_6 bT0.1
    have e6 := congrFun (qT0.1 (0, 0, 0) rfl) 6
    have k9 := fun (h : (i : Int) < 4) => wf9_3 bT0.1 (b := (i : Int)) (by omega) h
    refine x_iload_n dX8_isSound_2 rfl ?_
    refine x_aload_n dX8_isSound_3 rfl ?_
    refine x_get (v := xI (T0.1 (0, 0, 0) 6)) dX8_isSound_4 fl_RX8_46 (hp0 T0) rfl ?_
    have f4_1 := wf0_6 bT0.1 (S := T0)
    refine x_icmp_ge (tgt := 43) dX8_isSound_7 (by decide) (by first | exact hz _ _ | exact hw.1 _ _ | exact zR_of _ | exact bI_z _ | assumption | exact ⟨by omega, by omega⟩) (by first | exact hz _ _ | exact hw.1 _ _ | exact zR_of _ | exact bI_z _ | assumption | exact ⟨by omega, by omega⟩) (fun c7 => ?_) (fun c7 => ?_)
    · refine x_iconst dX8_isSound_43 ?_
      exact x_zret dX8_isSound_44 rfl (Or.inr rfl) (pQi qT0 bT0)
    · refine x_aload_n dX8_isSound_10 rfl ?_
      refine x_get (v := xR (1, 0, 0)) dX8_isSound_11 fl_RX8_11 (hp0 T0) rfl ?_
      refine x_iload_n dX8_isSound_14 rfl ?_
      refine x_alda (l2 := (9, (i : Int), 0)) dX8_isSound_15 (hp1 T0) (show (1 : Nat) ≠ 99 by decide) (by decide) (by decide) (by omega) (by omega) (by decide) rfl ?_
      refine x_callV_r (a := 0) (b := 0) (as := []) (rest := []) ok_X0_hasTrueSeals dX8_isSound_16 wd338 ⟨wd339, wd340⟩ (hp9 T0 (by omega) (by omega)) rfl rfl ((show X mX0_hasTrueSeals 0 (xEnt mX0_hasTrueSeals [xR (9, (i : Int), 0)]) [] (hp T0) 0 0 (pRet (xI 1) (hp T0)) from by have q := c_hasTrueSeals T0 bT0.1 (i : Int) (by omega) (by omega) (T0.1 (9, (i : Int), 0) 3).toNat (by omega); rw [bI_t (fun j hj => (hs.q qT0) _ (by omega) (by omega) j (by omega))] at q; exact q)) rfl (Nat.le_of_ble_eq_true rfl) (Nat.le_of_ble_eq_true rfl) (by decide) (by omega) (by omega) ?_
      refine x_if_eq (tgt := 35) dX8_isSound_19 (by decide) ⟨by decide, by decide⟩ (fun z => absurd z (by decide)) (fun _ => ?_)
      refine x_aload_n dX8_isSound_22 rfl ?_
      refine x_aload_n dX8_isSound_23 rfl ?_
      refine x_get (v := xR (1, 0, 0)) dX8_isSound_24 fl_RX8_11 (hp0 T0) rfl ?_
      refine x_iload_n dX8_isSound_27 rfl ?_
      refine x_alda (l2 := (9, (i : Int), 0)) dX8_isSound_28 (hp1 T0) (show (1 : Nat) ≠ 99 by decide) (by decide) (by decide) (by omega) (by omega) (by decide) rfl ?_
      refine x_callV (a := 0) (b := 0) (as := [xR (9, (i : Int), 0)]) (rest := []) ok_X8_agreesWithAnew dX8_isSound_29 wd346 ⟨wd348, wd0⟩ (hp0 T0) rfl rfl (c_agreesWithAnew T0 bT0 (i : Int) (by omega) (by omega)) rfl (Nat.le_of_ble_eq_true rfl) (Nat.le_of_ble_eq_true rfl) (by decide) (by omega) (by omega) (fun _ q => by cases q.1) (fun _ _ q => ?_) (fun _ _ q => by cases q.1)
      obtain ⟨y1, A1, rfl, qA1, bA1⟩ := q
      cases y1
      refine x_if_ne (tgt := 37) dX8_isSound_32 (by decide) ⟨by decide, by decide⟩ (fun _ => ?_) (fun z => absurd z (by decide))
      refine x_iinc (L' := [xR (0, 0, 0), xI ((i : Int) + 1)]) dX8_isSound_37 rfl rfl ?_
      refine x_goto (tgt := 2) dX8_isSound_40 (by decide) ?_
      exact ih A1 (i + 1) (by omega) (qT0.tr qA1) bA1 (by omega)
set_option maxHeartbeats 4000000 in
set_option maxRecDepth 100000 in
theorem c_isSound (S : XS) (hb : CB S) (hs : SealOk S) : X mX8_isSound 0 (xEnt mX8_isSound [xR (0, 0, 0)]) [] (hp S) 0 0 (pQ S (some (xI 1))) := by
  show X mX8_isSound 0 [xR (0, 0, 0), none] [] (hp S) 0 0 _
  refine x_iconst dX8_isSound_0 ?_
  refine x_istore_n (L' := [xR (0, 0, 0), xI 0]) dX8_isSound_1 (by decide) rfl ?_
  have k6 := wf0_6 hb.1
  exact l_isSound S hs (S.1 (0, 0, 0) 6).toNat (by omega) ((S.1 (0, 0, 0) 6).toNat + 1) S 0 (by omega) (QEq.rf S) hb (by omega)
theorem CB.uni {S : XS} (hb : CB S) {i z : Int} (hz : z = 0 ∨ z = 1) : CB (putI S (3, 0, 0) i z) := hb.gen (wpa3 hb.1 hz) (fun k x y a b c d e => putI_o (nK b _ _ _ _)) (by rw [putI_o (nK (by decide) _ _ _ _)]) (fun b => by rw [putI_o (nK (by decide) _ _ _ _)]) (fun k x y a b c => rfl)
