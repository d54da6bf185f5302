/-! shares and means -/
noncomputable def shA (f : XL → Int → Int) (b : Int) (n : Nat) (t : Int) : Nat → Int
  | 0 => 0
  | k + 1 => shA f b n t k + fBits (hl f b n t k)
noncomputable def shD (f : XL → Int → Int) (b : Int) (n : Nat) (t : Int) : Nat → Int
  | 0 => 0
  | k + 1 => shD f b n t k + fBits (hl f b n t k &&& (toldN f b t n k ^^^ (-1)))
theorem shA_in (f : XL → Int → Int) (b : Int) (n : Nat) (t : Int) (k : Nat) : 0 ≤ shA f b n t k ∧ shA f b n t k ≤ 64 * k := by
  induction k with
  | zero => exact ⟨Int.le_refl _, Int.le_refl _⟩
  | succ k ih =>
    have := fBits_64 (hl f b n t k)
    simp only [shA]
    omega
def mrA (rk : Int → Int) : Nat → Int
  | 0 => 0
  | k + 1 => if rk k = -1 then mrA rk k else mrA rk k + 1
def mrS (rk : Int → Int) : Nat → Int
  | 0 => 0
  | k + 1 => if rk k = -1 then mrS rk k else mrS rk k + rk k
theorem mrA_in (rk : Int → Int) (k : Nat) : 0 ≤ mrA rk k ∧ mrA rk k ≤ k := by
  induction k with
  | zero => exact ⟨Int.le_refl _, Int.le_refl _⟩
  | succ k ih => simp only [mrA]; split <;> omega
set_option maxHeartbeats 4000000 in
set_option maxRecDepth 100000 in
theorem l_share (S T1 : XS) (hb : CB S) (qT1 : QEq S T1) (bT1 : CB T1) (i t : Int) (i0 : 0 ≤ i) (i1 : i < 4) (t0 : 0 ≤ t) (t24 : t < 24) (t1 : ∀ x : Int, 0 ≤ x → x ≤ 5 → T1.2.1 (18, i, t) x = toldN S.1 i t (S.1 (9, i, 0) 3).toNat x) (l1 : ∀ x : Int, 0 ≤ x → x ≤ 5 → T1.2.1 (28, i, t) x = hl S.1 i (S.1 (9, i, 0) 3).toNat t x) : ∀ (nn : Nat) (k : Nat), 7 - (k : Int) < (nn : Int) → (k ≤ 6) → X mX8_derivedShare 31 [xR (0, 0, 0), xI i, xI t, xR (9, i, 0), xR (8, i, t), xI (shA S.1 i (S.1 (9, i, 0) 3).toNat t k), xI (shD S.1 i (S.1 (9, i, 0) 3).toNat t k), xI (k : Int)] [] (hp T1) 1 6 (pOr (shA S.1 i (S.1 (9, i, 0) 3).toNat t 6 ≠ 0) (pQ S (some (xF (FP.fdiv (FP.i2f (zI (shD S.1 i (S.1 (9, i, 0) 3).toNat t 6))) (FP.i2f (zI (shA S.1 i (S.1 (9, i, 0) 3).toNat t 6))))))) (pX S "java/lang/ArithmeticException")) := by
  intro nn
  induction nn with
  | zero => intro k hm k6; exfalso; omega
  | succ nn ih =>
    intro k hm k6
    have sA := shA_in S.1 i (S.1 (9, i, 0) 3).toNat t k
    refine x_iload dX8_derivedShare_31 rfl ?_
    refine x_bipush (v := 6) dX8_derivedShare_33 (by decide) ?_
    refine x_icmp_ge (tgt := 89) dX8_derivedShare_35 (by decide) (by first | exact hz _ _ | exact hw.1 _ _ | exact zR_of _ | exact bI_z _ | assumption | exact ⟨by omega, by omega⟩) ⟨by decide, by decide⟩ (fun c35 => ?_) (fun c35 => ?_)
    · refine x_iload dX8_derivedShare_89 rfl ?_
      refine x_if_ne (tgt := 105) dX8_derivedShare_91 (by decide) (by first | exact hz _ _ | exact hw.1 _ _ | exact zR_of _ | exact bI_z _ | assumption | exact ⟨by omega, by omega⟩) (fun c91 => ?_) (fun c91 => ?_)
      · refine x_iload dX8_derivedShare_105 rfl ?_
        refine x_i2f dX8_derivedShare_107 ?_
        refine x_iload dX8_derivedShare_108 rfl ?_
        refine x_i2f dX8_derivedShare_110 ?_
        refine x_fdiv dX8_derivedShare_111 (share_n (by omega) (by omega)) ?_
        exact x_fret dX8_derivedShare_112 rfl (by obtain rfl : k = 6 := (by omega); exact Or.inl ⟨by omega, pQi qT1 bT1⟩)
      · exact x_throw (thr_RX8_318_320_322) rfl dX8_derivedShare_94 dX8_derivedShare_97 (Or.inr ⟨dX8_derivedShare_98, dX8_derivedShare_101, dX8_derivedShare_104⟩) (by decide) (Nat.le_of_ble_eq_true rfl) (by omega) (by omega) (by obtain rfl : k = 6 := (by omega); exact Or.inr ⟨fun z => z (by omega), pXi qT1 bT1⟩)
    · refine x_iload dX8_derivedShare_38 rfl ?_
      refine x_aload dX8_derivedShare_40 rfl ?_
      refine x_get (v := xR (28, i, t)) dX8_derivedShare_42 fl_RX8_173 (hp8 T1 (by omega) (by omega) (by omega) (by omega)) rfl ?_
      refine x_iload dX8_derivedShare_45 rfl ?_
      refine x_aldj (f := T1.2.1 (28, i, t)) dX8_derivedShare_47 (hp28 T1 (by omega) (by omega) (by omega) (by omega)) (show (28 : Nat) ≠ 99 by decide) (by omega) (by omega) (by decide) ?_
      refine x_callS_r (a := 0) (b := 0) (as := [xJ (T1.2.1 (28, i, t) (k : Int))]) (rest := [xI (shA S.1 i (S.1 (9, i, 0) 3).toNat t k)]) ok_J13_bitCount_95d88 dX8_derivedShare_48 wd732 wd621 (c_bitCount T1 (T1.2.1 (28, i, t) (k : Int))) rfl (Nat.le_of_ble_eq_true rfl) (Nat.le_of_ble_eq_true rfl) (by decide) (by omega) (by omega) ?_
      refine x_iadd dX8_derivedShare_51 ?_
      refine x_istore (L' := [xR (0, 0, 0), xI i, xI t, xR (9, i, 0), xR (8, i, t), xI ((shA S.1 i (S.1 (9, i, 0) 3).toNat t k) + (fBits (T1.2.1 (28, i, t) (k : Int)))), xI (shD S.1 i (S.1 (9, i, 0) 3).toNat t k), xI (k : Int)]) dX8_derivedShare_52 (by decide) rfl ?_
      refine x_iload dX8_derivedShare_54 rfl ?_
      refine x_aload dX8_derivedShare_56 rfl ?_
      refine x_get (v := xR (28, i, t)) dX8_derivedShare_58 fl_RX8_173 (hp8 T1 (by omega) (by omega) (by omega) (by omega)) rfl ?_
      refine x_iload dX8_derivedShare_61 rfl ?_
      refine x_aldj (f := T1.2.1 (28, i, t)) dX8_derivedShare_63 (hp28 T1 (by omega) (by omega) (by omega) (by omega)) (show (28 : Nat) ≠ 99 by decide) (by omega) (by omega) (by decide) ?_
      refine x_aload dX8_derivedShare_64 rfl ?_
      refine x_get (v := xR (18, i, t)) dX8_derivedShare_66 fl_RX8_313 (hp8 T1 (by omega) (by omega) (by omega) (by omega)) rfl ?_
      refine x_iload dX8_derivedShare_69 rfl ?_
      refine x_aldj (f := T1.2.1 (18, i, t)) dX8_derivedShare_71 (hp18 T1 (by omega) (by omega) (by omega) (by omega)) (show (18 : Nat) ≠ 99 by decide) (by omega) (by omega) (by decide) ?_
      refine x_ldc2 (v := (-1)) dX8_derivedShare_72 wd561 ?_
      refine x_lxor dX8_derivedShare_75 ?_
      refine x_land dX8_derivedShare_76 ?_
      refine x_callS_r (a := 0) (b := 0) (as := [xJ ((T1.2.1 (28, i, t) (k : Int)) &&& ((T1.2.1 (18, i, t) (k : Int)) ^^^ (-1)))]) (rest := [xI (shD S.1 i (S.1 (9, i, 0) 3).toNat t k)]) ok_J13_bitCount_95d88 dX8_derivedShare_77 wd732 wd621 (c_bitCount T1 ((T1.2.1 (28, i, t) (k : Int)) &&& ((T1.2.1 (18, i, t) (k : Int)) ^^^ (-1)))) rfl (Nat.le_of_ble_eq_true rfl) (Nat.le_of_ble_eq_true rfl) (by decide) (by omega) (by omega) ?_
      refine x_iadd dX8_derivedShare_80 ?_
      refine x_istore (L' := [xR (0, 0, 0), xI i, xI t, xR (9, i, 0), xR (8, i, t), xI ((shA S.1 i (S.1 (9, i, 0) 3).toNat t k) + (fBits (T1.2.1 (28, i, t) (k : Int)))), xI ((shD S.1 i (S.1 (9, i, 0) 3).toNat t k) + (fBits ((T1.2.1 (28, i, t) (k : Int)) &&& ((T1.2.1 (18, i, t) (k : Int)) ^^^ (-1))))), xI (k : Int)]) dX8_derivedShare_81 (by decide) rfl ?_
      refine x_iinc (L' := [xR (0, 0, 0), xI i, xI t, xR (9, i, 0), xR (8, i, t), xI ((shA S.1 i (S.1 (9, i, 0) 3).toNat t k) + (fBits (T1.2.1 (28, i, t) (k : Int)))), xI ((shD S.1 i (S.1 (9, i, 0) 3).toNat t k) + (fBits ((T1.2.1 (28, i, t) (k : Int)) &&& ((T1.2.1 (18, i, t) (k : Int)) ^^^ (-1))))), xI ((k : Int) + 1)]) dX8_derivedShare_83 rfl rfl ?_
      refine x_goto (tgt := 31) dX8_derivedShare_86 (by decide) ?_
      have kk := ih (k + 1) (by omega) (by omega)
      rw [show shA S.1 i (S.1 (9, i, 0) 3).toNat t (k + 1) = (shA S.1 i (S.1 (9, i, 0) 3).toNat t k) + (fBits (T1.2.1 (28, i, t) (k : Int))) from by rw [shA, l1 k (by omega) (by omega)], show shD S.1 i (S.1 (9, i, 0) 3).toNat t (k + 1) = (shD S.1 i (S.1 (9, i, 0) 3).toNat t k) + (fBits ((T1.2.1 (28, i, t) (k : Int)) &&& ((T1.2.1 (18, i, t) (k : Int)) ^^^ (-1)))) from by rw [shD, l1 k (by omega) (by omega), t1 k (by omega) (by omega)]] at kk
      exact kk
set_option maxHeartbeats 4000000 in
set_option maxRecDepth 100000 in
theorem c_derivedShare (S : XS) (hb : CB S) (i t : Int) (zi : zR i) (zt : zR t) : X mX8_derivedShare 0 (xEnt mX8_derivedShare [xR (0, 0, 0), xI i, xI t]) [] (hp S) 3 18 (pOr (0 ≤ i ∧ i < S.1 (0, 0, 0) 6) (pOr (0 ≤ t ∧ t < 24) (pOr (shA S.1 i (S.1 (9, i, 0) 3).toNat t 6 ≠ 0) (pQ S (some (xF (FP.fdiv (FP.i2f (zI (shD S.1 i (S.1 (9, i, 0) 3).toNat t 6))) (FP.i2f (zI (shA S.1 i (S.1 (9, i, 0) 3).toNat t 6))))))) (pX S "java/lang/ArithmeticException")) (pX S "java/lang/IllegalArgumentException")) (pX S "java/lang/IndexOutOfBoundsException")) := by
  have hw := hb.1
  have hn6 := wf0_6 hw
  have h93 : 0 ≤ i → i < S.1 (0, 0, 0) 6 → 0 ≤ S.1 (9, i, 0) 3 ∧ S.1 (9, i, 0) 3 ≤ 60 := fun a b => wf9_3 hw a (by omega)
  have zi2 := zi
  unfold zR at zi2
  have zt2 := zt
  unfold zR at zt2
  show X mX8_derivedShare 0 [xR (0, 0, 0), xI i, xI t, none, none, none, none, none] [] (hp S) 3 18 _
  refine x_aload_n dX8_derivedShare_0 rfl ?_
  refine x_iload_n dX8_derivedShare_1 rfl ?_
  refine x_callV_t (a := 1) (b := 6) (as := [xI i]) (rest := []) ok_X8_branchAt dX8_derivedShare_2 wd511 ⟨wd513, wd6⟩ (hp0 S) rfl rfl (c_branchAt S hb.1 i (by first | exact hz _ _ | exact hw.1 _ _ | exact zR_of _ | exact bI_z _ | assumption | exact ⟨by omega, by omega⟩)) rfl (Nat.le_of_ble_eq_true rfl) (Nat.le_of_ble_eq_true rfl) (by decide) (by omega) (by omega) (fun t2 => ?_) (fun t2 => ?_)
  · refine x_astore_n (L' := [xR (0, 0, 0), xI i, xI t, xR (9, i, 0), none, none, none, none]) dX8_derivedShare_5 (by decide) rfl ?_
    refine x_iload_n dX8_derivedShare_6 rfl ?_
    refine x_callS_tv (a := 1) (b := 6) (as := [xI t]) (rest := []) ok_X8_checkHour dX8_derivedShare_7 wd728 wd729 (c_checkHour S hb.1 t (by first | exact hz _ _ | exact hw.1 _ _ | exact zR_of _ | exact bI_z _ | assumption | exact ⟨by omega, by omega⟩)) rfl (Nat.le_of_ble_eq_true rfl) (Nat.le_of_ble_eq_true rfl) (by decide) (by omega) (by omega) (fun t7 => ?_) (fun t7 => ?_)
    · refine x_aload_n dX8_derivedShare_10 rfl ?_
      refine x_aload_n dX8_derivedShare_11 rfl ?_
      refine x_aload_n dX8_derivedShare_12 rfl ?_
      refine x_get (v := xI (S.1 (9, i, 0) 3)) dX8_derivedShare_13 fl_RX8_92 (hp9 S (by omega) (by omega)) rfl ?_
      have f13_1 := wf9_3 hb.1 (S := S) (b := i) (by omega) (by omega)
      refine x_iload_n dX8_derivedShare_16 rfl ?_
      refine x_callV (a := 0) (b := 0) (as := [xR (9, i, 0), xI (S.1 (9, i, 0) 3), xI t]) (rest := []) ok_X8_stateOf dX8_derivedShare_17 wd350 ⟨wd352, wd1⟩ (hp0 S) rfl rfl (c_stateZ S hb i (by omega) (by omega) (S.1 (9, i, 0) 3) (by omega) (by omega) t (by omega) (by omega)) rfl (Nat.le_of_ble_eq_true rfl) (Nat.le_of_ble_eq_true rfl) (by decide) (by omega) (by omega) (fun _ q => by cases q.1) (fun _ _ q => ?_) (fun _ _ q => by cases q.1)
      obtain ⟨y1, T1, rfl, qq1, bT1, o1, t1, l1⟩ := q
      cases y1
      have qT1 := (QEq.rf S).tr qq1
      have eT16 := congrFun (qT1.1 (0, 0, 0) rfl) 6
      have eT17 := congrFun (qT1.1 (0, 0, 0) rfl) 7
      have eT19 := congrFun (qT1.1 (9, i, 0) rfl) 3
      refine x_astore (L' := [xR (0, 0, 0), xI i, xI t, xR (9, i, 0), xR (8, i, t), none, none, none]) dX8_derivedShare_20 (by decide) rfl ?_
      refine x_iconst dX8_derivedShare_22 ?_
      refine x_istore (L' := [xR (0, 0, 0), xI i, xI t, xR (9, i, 0), xR (8, i, t), xI 0, none, none]) dX8_derivedShare_23 (by decide) rfl ?_
      refine x_iconst dX8_derivedShare_25 ?_
      refine x_istore (L' := [xR (0, 0, 0), xI i, xI t, xR (9, i, 0), xR (8, i, t), xI 0, xI 0, none]) dX8_derivedShare_26 (by decide) rfl ?_
      refine x_iconst dX8_derivedShare_28 ?_
      refine x_istore (L' := [xR (0, 0, 0), xI i, xI t, xR (9, i, 0), xR (8, i, t), xI 0, xI 0, xI 0]) dX8_derivedShare_29 (by decide) rfl ?_
      exact X.weak (l_share S T1 hb qT1 bT1 i t (by omega) (by omega) (by omega) (by omega) t1 l1 8 0 (by omega) (by omega)) (by omega) (by omega) (fun _ _ z => Or.inl ⟨by omega, Or.inl ⟨by omega, z⟩⟩)
    · exact XX.out rfl (by first | exact Or.inr ⟨by omega, pXi (QEq.rf S) hb⟩ | exact Or.inl ⟨by omega, Or.inr ⟨by omega, pXi (QEq.rf S) hb⟩⟩ | exact Or.inl ⟨by omega, Or.inl ⟨by omega, Or.inr ⟨by first | omega | assumption, pXi (QEq.rf S) hb⟩⟩⟩)
  · exact XX.out rfl (by first | exact Or.inr ⟨by omega, pXi (QEq.rf S) hb⟩ | exact Or.inl ⟨by omega, Or.inr ⟨by omega, pXi (QEq.rf S) hb⟩⟩ | exact Or.inl ⟨by omega, Or.inl ⟨by omega, Or.inr ⟨by first | omega | assumption, pXi (QEq.rf S) hb⟩⟩⟩)
def pMr (S : XS) (i t : Int) : XO → XH → Prop := fun o h' => ∃ rk ru wy, Rsn S.1 i (S.1 (9, i, 0) 3).toNat t rk ru wy ∧ pOr (mrA rk 384 ≠ 0) (pQ S (some (xD (FP.ddiv (FP.i2d (zI (mrS rk 384))) (FP.i2d (zI (mrA rk 384))))))) (pX S "java/lang/ArithmeticException") o h'
set_option maxHeartbeats 4000000 in
set_option maxRecDepth 100000 in
theorem l_mean (S R1 : XS) (qR1 : QEq S R1) (bR1 : CB R1) (i t : Int) (sR1 : Rsn S.1 i (S.1 (9, i, 0) 3).toNat t (R1.1 (40, 0, 0)) (R1.1 (41, 0, 0)) (R1.1 (42, 0, 0))) : ∀ (nn : Nat) (k : Nat), 385 - (k : Int) < (nn : Int) → (k ≤ 384) → X mX8_meanRank 40 [xR (0, 0, 0), xI i, xI t, xR (9, i, 0), xI (mrA (R1.1 (40, 0, 0)) k), xI (mrS (R1.1 (40, 0, 0)) k), xI (k : Int)] [] (hp R1) 1 6 (pMr S i t) := by
  intro nn
  induction nn with
  | zero => intro k hm k6; exfalso; omega
  | succ nn ih =>
    intro k hm k6
    have hz := bR1.1.1
    have sA := mrA_in (R1.1 (40, 0, 0)) k
    refine x_iload dX8_meanRank_40 rfl ?_
    refine x_sipush (v := 384) dX8_meanRank_42 (by decide) ?_
    refine x_icmp_ge (tgt := 86) dX8_meanRank_45 (by decide) (by first | exact hz _ _ | exact hw.1 _ _ | exact zR_of _ | exact bI_z _ | assumption | exact ⟨by omega, by omega⟩) ⟨by decide, by decide⟩ (fun c45 => ?_) (fun c45 => ?_)
    · refine x_iload dX8_meanRank_86 rfl ?_
      refine x_if_ne (tgt := 102) dX8_meanRank_88 (by decide) (by first | exact hz _ _ | exact hw.1 _ _ | exact zR_of _ | exact bI_z _ | assumption | exact ⟨by omega, by omega⟩) (fun c88 => ?_) (fun c88 => ?_)
      · refine x_iload dX8_meanRank_102 rfl ?_
        refine x_i2d dX8_meanRank_104 ?_
        refine x_iload dX8_meanRank_105 rfl ?_
        refine x_i2d dX8_meanRank_107 ?_
        refine x_ddiv dX8_meanRank_108 (mean_n (by omega) (by omega)) ?_
        exact x_dret dX8_meanRank_109 rfl (by obtain rfl : k = 384 := (by omega); exact ⟨_, _, _, sR1, Or.inl ⟨by omega, pQi qR1 bR1⟩⟩)
      · exact x_throw (thr_RX8_318_320_322) rfl dX8_meanRank_91 dX8_meanRank_94 (Or.inr ⟨dX8_meanRank_95, dX8_meanRank_98, dX8_meanRank_101⟩) (by decide) (Nat.le_of_ble_eq_true rfl) (by omega) (by omega) (by obtain rfl : k = 384 := (by omega); exact ⟨_, _, _, sR1, Or.inr ⟨fun z => z (by omega), pXi qR1 bR1⟩⟩)
    · refine x_aload_n dX8_meanRank_48 rfl ?_
      refine x_get (v := xR (5, 0, 0)) dX8_meanRank_49 fl_RX8_35 (hp0 R1) rfl ?_
      refine x_get (v := xR (40, 0, 0)) dX8_meanRank_52 fl_RX8_191 (hp5 R1) rfl ?_
      refine x_iload dX8_meanRank_55 rfl ?_
      refine x_aldi (f := R1.1 (40, 0, 0)) dX8_meanRank_57 (hp40 R1) (show (40 : Nat) ≠ 99 by decide) (by omega) (by omega) (by decide) ?_
      have f57_1 := wfa40 bR1.1 (S := R1) (k : Int)
      refine x_iconst dX8_meanRank_58 ?_
      refine x_icmp_eq (tgt := 80) dX8_meanRank_59 (by decide) (by first | exact hz _ _ | exact hw.1 _ _ | exact zR_of _ | exact bI_z _ | assumption | exact ⟨by omega, by omega⟩) ⟨by decide, by decide⟩ (fun c59 => ?_) (fun c59 => ?_)
      · refine x_iinc (L' := [xR (0, 0, 0), xI i, xI t, xR (9, i, 0), xI (mrA (R1.1 (40, 0, 0)) k), xI (mrS (R1.1 (40, 0, 0)) k), xI ((k : Int) + 1)]) dX8_meanRank_80 rfl rfl ?_
        refine x_goto (tgt := 40) dX8_meanRank_83 (by decide) ?_
        have kk := ih (k + 1) (by omega) (by omega)
        rw [show mrA (R1.1 (40, 0, 0)) (k + 1) = mrA (R1.1 (40, 0, 0)) k from by simp only [mrA]; first | rw [if_pos (by omega)] | rw [if_neg (by omega)], show mrS (R1.1 (40, 0, 0)) (k + 1) = mrS (R1.1 (40, 0, 0)) k from by simp only [mrS]; first | rw [if_pos (by omega)] | rw [if_neg (by omega)]] at kk
        exact kk
      · refine x_iinc (L' := [xR (0, 0, 0), xI i, xI t, xR (9, i, 0), xI ((mrA (R1.1 (40, 0, 0)) k) + 1), xI (mrS (R1.1 (40, 0, 0)) k), xI (k : Int)]) dX8_meanRank_62 rfl rfl ?_
        refine x_iload dX8_meanRank_65 rfl ?_
        refine x_aload_n dX8_meanRank_67 rfl ?_
        refine x_get (v := xR (5, 0, 0)) dX8_meanRank_68 fl_RX8_35 (hp0 R1) rfl ?_
        refine x_get (v := xR (40, 0, 0)) dX8_meanRank_71 fl_RX8_191 (hp5 R1) rfl ?_
        refine x_iload dX8_meanRank_74 rfl ?_
        refine x_aldi (f := R1.1 (40, 0, 0)) dX8_meanRank_76 (hp40 R1) (show (40 : Nat) ≠ 99 by decide) (by omega) (by omega) (by decide) ?_
        have f76_2 := wfa40 bR1.1 (S := R1) (k : Int)
        refine x_iadd dX8_meanRank_77 ?_
        refine x_istore (L' := [xR (0, 0, 0), xI i, xI t, xR (9, i, 0), xI ((mrA (R1.1 (40, 0, 0)) k) + 1), xI ((mrS (R1.1 (40, 0, 0)) k) + (R1.1 (40, 0, 0) (k : Int))), xI (k : Int)]) dX8_meanRank_78 (by decide) rfl ?_
        refine x_iinc (L' := [xR (0, 0, 0), xI i, xI t, xR (9, i, 0), xI ((mrA (R1.1 (40, 0, 0)) k) + 1), xI ((mrS (R1.1 (40, 0, 0)) k) + (R1.1 (40, 0, 0) (k : Int))), xI ((k : Int) + 1)]) dX8_meanRank_80 rfl rfl ?_
        refine x_goto (tgt := 40) dX8_meanRank_83 (by decide) ?_
        have kk := ih (k + 1) (by omega) (by omega)
        rw [show mrA (R1.1 (40, 0, 0)) (k + 1) = (mrA (R1.1 (40, 0, 0)) k) + 1 from by simp only [mrA]; first | rw [if_pos (by omega)] | rw [if_neg (by omega)], show mrS (R1.1 (40, 0, 0)) (k + 1) = (mrS (R1.1 (40, 0, 0)) k) + (R1.1 (40, 0, 0) (k : Int)) from by simp only [mrS]; first | rw [if_pos (by omega)] | rw [if_neg (by omega)]] at kk
        exact kk
set_option maxHeartbeats 4000000 in
set_option maxRecDepth 100000 in
theorem c_meanRank (S : XS) (hb : CB S) (i t : Int) (zi : zR i) (zt : zR t) : X mX8_meanRank 0 (xEnt mX8_meanRank [xR (0, 0, 0), xI i, xI t]) [] (hp S) 3 18 (pOr (0 ≤ i ∧ i < S.1 (0, 0, 0) 6) (pOr (0 ≤ t ∧ t < 24) (pMr S i t) (pX S "java/lang/IllegalArgumentException")) (pX S "java/lang/IndexOutOfBoundsException")) := by
  have hw := hb.1
  have hn6 := wf0_6 hw
  have h93 : 0 ≤ i → i < S.1 (0, 0, 0) 6 → 0 ≤ S.1 (9, i, 0) 3 ∧ S.1 (9, i, 0) 3 ≤ 60 := fun a b => wf9_3 hw a (by omega)
  have zi2 := zi
  unfold zR at zi2
  have zt2 := zt
  unfold zR at zt2
  show X mX8_meanRank 0 [xR (0, 0, 0), xI i, xI t, none, none, none, none] [] (hp S) 3 18 _
  refine x_aload_n dX8_meanRank_0 rfl ?_
  refine x_iload_n dX8_meanRank_1 rfl ?_
  refine x_callV_t (a := 1) (b := 6) (as := [xI i]) (rest := []) ok_X8_branchAt dX8_meanRank_2 wd511 ⟨wd513, wd6⟩ (hp0 S) rfl rfl (c_branchAt S hb.1 i (by first | exact hz _ _ | exact hw.1 _ _ | exact zR_of _ | exact bI_z _ | assumption | exact ⟨by omega, by omega⟩)) rfl (Nat.le_of_ble_eq_true rfl) (Nat.le_of_ble_eq_true rfl) (by decide) (by omega) (by omega) (fun t2 => ?_) (fun t2 => ?_)
  · refine x_astore_n (L' := [xR (0, 0, 0), xI i, xI t, xR (9, i, 0), none, none, none]) dX8_meanRank_5 (by decide) rfl ?_
    refine x_iload_n dX8_meanRank_6 rfl ?_
    refine x_callS_tv (a := 1) (b := 6) (as := [xI t]) (rest := []) ok_X8_checkHour dX8_meanRank_7 wd728 wd729 (c_checkHour S hb.1 t (by first | exact hz _ _ | exact hw.1 _ _ | exact zR_of _ | exact bI_z _ | assumption | exact ⟨by omega, by omega⟩)) rfl (Nat.le_of_ble_eq_true rfl) (Nat.le_of_ble_eq_true rfl) (by decide) (by omega) (by omega) (fun t7 => ?_) (fun t7 => ?_)
    · refine x_aload_n dX8_meanRank_10 rfl ?_
      refine x_get (v := xR (5, 0, 0)) dX8_meanRank_11 fl_RX8_35 (hp0 S) rfl ?_
      refine x_aload_n dX8_meanRank_14 rfl ?_
      refine x_get (v := xR (4, 0, 0)) dX8_meanRank_15 fl_RX8_28 (hp0 S) rfl ?_
      refine x_aload_n dX8_meanRank_18 rfl ?_
      refine x_aload_n dX8_meanRank_19 rfl ?_
      refine x_aload_n dX8_meanRank_20 rfl ?_
      refine x_get (v := xI (S.1 (9, i, 0) 3)) dX8_meanRank_21 fl_RX8_92 (hp9 S (by omega) (by omega)) rfl ?_
      have f21_1 := wf9_3 hb.1 (S := S) (b := i) (by omega) (by omega)
      refine x_iload_n dX8_meanRank_24 rfl ?_
      refine x_callV (a := 0) (b := 0) (as := [xR (9, i, 0), xI (S.1 (9, i, 0) 3), xI t]) (rest := [xR (4, 0, 0), xR (5, 0, 0)]) ok_X8_stateOf dX8_meanRank_25 wd350 ⟨wd352, wd1⟩ (hp0 S) rfl rfl (c_stateZ S hb i (by omega) (by omega) (S.1 (9, i, 0) 3) (by omega) (by omega) t (by omega) (by omega)) rfl (Nat.le_of_ble_eq_true rfl) (Nat.le_of_ble_eq_true rfl) (by decide) (by omega) (by omega) (fun _ q => by cases q.1) (fun _ _ q => ?_) (fun _ _ q => by cases q.1)
      obtain ⟨y1, T1, rfl, qq1, bT1, o1, t1, l1⟩ := q
      cases y1
      have qT1 := (QEq.rf S).tr qq1
      have eT16 := congrFun (qT1.1 (0, 0, 0) rfl) 6
      have eT17 := congrFun (qT1.1 (0, 0, 0) rfl) 7
      have eT19 := congrFun (qT1.1 (9, i, 0) rfl) 3
      refine x_callV (a := 0) (b := 0) (as := [xR (4, 0, 0), xR (8, i, t)]) (rest := []) ok_X3_read dX8_meanRank_28 wd771 ⟨wd772, wd773⟩ (hp5 T1) rfl rfl (c_readK T1 bT1.1 bT1.2.1 bT1.2.2.1 bT1.2.2.2.2.1 i t (by omega) (by omega) (by omega) (by omega) (lay_on hb qT1 o1 (by omega) (by omega) (by omega))) rfl (Nat.le_of_ble_eq_true rfl) (Nat.le_of_ble_eq_true rfl) (by decide) (by omega) (by omega) (fun _ q => ?_) (fun _ _ q => by cases q.1) (fun _ _ q => by cases q.1)
      obtain ⟨-, R1, rfl, eR, wR, gR, e7, rR⟩ := q
      obtain ⟨qR1, bR1, sR1⟩ := rs_of hb qT1 bT1 (by omega) (by omega) (by omega) (by omega) o1 t1 l1 eR wR gR e7 rR
      refine x_iconst dX8_meanRank_31 ?_
      refine x_istore (L' := [xR (0, 0, 0), xI i, xI t, xR (9, i, 0), xI 0, none, none]) dX8_meanRank_32 (by decide) rfl ?_
      refine x_iconst dX8_meanRank_34 ?_
      refine x_istore (L' := [xR (0, 0, 0), xI i, xI t, xR (9, i, 0), xI 0, xI 0, none]) dX8_meanRank_35 (by decide) rfl ?_
      refine x_iconst dX8_meanRank_37 ?_
      refine x_istore (L' := [xR (0, 0, 0), xI i, xI t, xR (9, i, 0), xI 0, xI 0, xI 0]) dX8_meanRank_38 (by decide) rfl ?_
      exact X.weak (l_mean S R1 qR1 bR1 i t sR1 386 0 (by omega) (by omega)) (by omega) (by omega) (fun _ _ z => Or.inl ⟨by omega, Or.inl ⟨by omega, z⟩⟩)
    · exact XX.out rfl (by first | exact Or.inr ⟨by omega, pXi (QEq.rf S) hb⟩ | exact Or.inl ⟨by omega, Or.inr ⟨by omega, pXi (QEq.rf S) hb⟩⟩ | exact Or.inl ⟨by omega, Or.inl ⟨by omega, Or.inr ⟨by first | omega | assumption, pXi (QEq.rf S) hb⟩⟩⟩)
  · exact XX.out rfl (by first | exact Or.inr ⟨by omega, pXi (QEq.rf S) hb⟩ | exact Or.inl ⟨by omega, Or.inr ⟨by omega, pXi (QEq.rf S) hb⟩⟩ | exact Or.inl ⟨by omega, Or.inl ⟨by omega, Or.inr ⟨by first | omega | assumption, pXi (QEq.rf S) hb⟩⟩⟩)
