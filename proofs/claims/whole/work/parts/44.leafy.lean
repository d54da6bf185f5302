/-! questions: since, layer -/
theorem bI_eq {P Q : Prop} : bI P = bI Q ↔ (P ↔ Q) := by
  constructor
  · intro h
    constructor
    · intro p; rw [bI_t p] at h; exact bI_1.mp h.symm
    · intro p; rw [bI_t p] at h; exact bI_1.mp h
  · exact bI_c
set_option maxHeartbeats 4000000 in
set_option maxRecDepth 100000 in
theorem l_since (S : XS) (i t q : Int) (i0 : 0 ≤ i) (i1 : i < S.1 (0, 0, 0) 6) (i2 : S.1 (0, 0, 0) 6 ≤ 4) (n2 : S.1 (9, i, 0) 3 ≤ 60) (t0 : 0 ≤ t) (t1 : t < 24) (q0 : 0 ≤ q) (q1 : q < 384) (V : Nat) : ∀ (nn : Nat) (T0 : XS) (a : Nat), (a : Int) < (nn : Int) → (QEq S T0) → (CB T0) → ((a : Int) ≤ S.1 (9, i, 0) 3) → (spF (fun k : Nat => hB S.1 i k t q ↔ hB S.1 i (S.1 (9, i, 0) 3).toNat t q) a = V) → X mX8_since 44 [xR (0, 0, 0), xI i, xI t, xI q, xR (9, i, 0), xI (bI (hB S.1 i (S.1 (9, i, 0) 3).toNat t q)), xI (a : Int)] [] (hp T0) 0 0 (pQ S (some (xI (V : Int)))) := by
  intro nn
  induction nn with
  | zero => intro T0 a hm qT0 bT0 ha hV; exfalso; omega
  | succ nn ih =>
    intro T0 a hm qT0 bT0 ha hV
    have hw := bT0.1
    have eT06 := congrFun (qT0.1 (0, 0, 0) rfl) 6
    have eT09 := congrFun (qT0.1 (9, i, 0) rfl) 3
    refine x_iload dX8_since_44 rfl ?_
    refine x_if_le (tgt := 75) dX8_since_46 (by decide) (by first | exact hz _ _ | exact hw.1 _ _ | exact zR_of _ | exact bI_z _ | assumption | exact ⟨by omega, by omega⟩) (fun c46 => ?_) (fun c46 => ?_)
    · refine x_iload dX8_since_75 rfl ?_
      exact x_iret dX8_since_77 rfl (by obtain rfl : a = 0 := (by omega); rw [show V = 0 from hV.symm]; exact pQi qT0 bT0)
    · refine x_aload_n dX8_since_49 rfl ?_
      refine x_aload dX8_since_50 rfl ?_
      refine x_iload dX8_since_52 rfl ?_
      refine x_iconst dX8_since_54 ?_
      refine x_isub dX8_since_55 ?_
      refine x_iload_n dX8_since_56 rfl ?_
      refine x_callV (a := 0) (b := 0) (as := [xR (9, i, 0), xI ((a : Int) - 1), xI t]) (rest := []) ok_X8_stateOf dX8_since_57 wd413 ⟨wd415, wd1⟩ (hp0 T0) rfl rfl (c_stateZ T0 bT0 i (by omega) (by omega) ((a : Int) - 1) (by omega) (by omega) t (by omega) (by omega)) rfl (Nat.le_of_ble_eq_true rfl) (Nat.le_of_ble_eq_true rfl) (by decide) (by omega) (by omega) (fun _ q => by cases q.1) (fun _ _ q => ?_) (fun _ _ q => by cases q.1)
      obtain ⟨y1, T1, rfl, qq1, bT1, o1, t1, l1⟩ := q
      cases y1
      rw [qT0.onN] at o1
      simp only [qT0.toldN] at t1
      simp only [qT0.hl] at l1
      have qT1 := qT0.tr qq1
      have eT16 := congrFun (qT1.1 (0, 0, 0) rfl) 6
      have eT17 := congrFun (qT1.1 (0, 0, 0) rfl) 7
      have eT19 := congrFun (qT1.1 (9, i, 0) rfl) 3
      refine x_iload_n dX8_since_60 rfl ?_
      refine x_callV_r (a := 0) (b := 0) (as := [xI q]) (rest := []) ok_X6_has dX8_since_61 wd809 ⟨wd810, wd811⟩ (hp8 T1 (by omega) (by omega) (by omega) (by omega)) rfl rfl (c_has8 T1 q (by omega) (by omega) i t (by omega) (by omega) (by omega) (by omega)) rfl (Nat.le_of_ble_eq_true rfl) (Nat.le_of_ble_eq_true rfl) (by decide) (by omega) (by omega) ?_
      refine x_iload dX8_since_64 rfl ?_
      refine x_icmp_ne (tgt := 75) dX8_since_66 (by decide) (by first | exact hz _ _ | exact hw.1 _ _ | exact zR_of _ | exact bI_z _ | assumption | exact ⟨by omega, by omega⟩) (by first | exact hz _ _ | exact hw.1 _ _ | exact zR_of _ | exact bI_z _ | assumption | exact ⟨by omega, by omega⟩) (fun c66 => ?_) (fun c66 => ?_)
      · refine x_iload dX8_since_75 rfl ?_
        exact x_iret dX8_since_77 rfl (by obtain ⟨k, rfl⟩ : ∃ k, a = k + 1 := ⟨a - 1, by omega⟩; rw [show (((k + 1 : Nat) : Int) - 1).toNat = k by omega] at l1; have z1 : ¬ (hB S.1 i k t q ↔ hB S.1 i (S.1 (9, i, 0) 3).toNat t q) := (fun z => absurd (bI_eq.mpr ((hB_of (by omega) (by omega) l1).trans z)) (by assumption)); rw [← hV, spF_f (P := (fun k : Nat => hB S.1 i k t q ↔ hB S.1 i (S.1 (9, i, 0) 3).toNat t q)) z1]; exact pQi qT1 bT1)
      · refine x_iinc (L' := [xR (0, 0, 0), xI i, xI t, xI q, xR (9, i, 0), xI (bI (hB S.1 i (S.1 (9, i, 0) 3).toNat t q)), xI ((a : Int) + (-1))]) dX8_since_69 rfl rfl ?_
        refine x_goto (tgt := 44) dX8_since_72 (by decide) ?_
        obtain ⟨k, rfl⟩ : ∃ k, a = k + 1 := ⟨a - 1, by omega⟩
        rw [show (((k + 1 : Nat) : Int) - 1).toNat = k by omega] at l1
        have z1 : hB S.1 i k t q ↔ hB S.1 i (S.1 (9, i, 0) 3).toNat t q := (hB_of (by omega) (by omega) l1).symm.trans (bI_eq.mp (by assumption))
        have z2 := ih T1 k (by omega) qT1 bT1 (by omega) (by rw [← hV, spF_t (P := (fun k : Nat => hB S.1 i k t q ↔ hB S.1 i (S.1 (9, i, 0) 3).toNat t q)) z1])
        rw [show ((k + 1 : Nat) : Int) + (-1) = (k : Int) by omega]
        exact z2
set_option maxHeartbeats 4000000 in
set_option maxRecDepth 100000 in
theorem c_since (S : XS) (hb : CB S) (i t q : Int) (zi : zR i) (zt : zR t) (zq : zR q) : X mX8_since 0 (xEnt mX8_since [xR (0, 0, 0), xI i, xI t, xI q]) [] (hp S) 5 30 (pOr (0 ≤ i ∧ i < S.1 (0, 0, 0) 6) (pOr ((0 ≤ t ∧ t < 24) ∧ 0 ≤ q ∧ q < 384) (pQ S (some (xI ((spF (fun k : Nat => hB S.1 i k t q ↔ hB S.1 i (S.1 (9, i, 0) 3).toNat t q) (S.1 (9, i, 0) 3).toNat : Nat) : Int)))) (pX S "java/lang/IllegalArgumentException")) (pX S "java/lang/IndexOutOfBoundsException")) := by
  have hw := hb.1
  have hn6 := wf0_6 hw
  have h93 : 0 ≤ i → i < S.1 (0, 0, 0) 6 → 0 ≤ S.1 (9, i, 0) 3 ∧ S.1 (9, i, 0) 3 ≤ 60 := fun a b => wf9_3 hw a (by omega)
  have zi2 := zi
  unfold zR at zi2
  have zt2 := zt
  unfold zR at zt2
  have zq2 := zq
  unfold zR at zq2
  show X mX8_since 0 [xR (0, 0, 0), xI i, xI t, xI q, none, none, none] [] (hp S) 5 30 _
  refine x_aload_n dX8_since_0 rfl ?_
  refine x_iload_n dX8_since_1 rfl ?_
  refine x_callV_t (a := 1) (b := 6) (as := [xI i]) (rest := []) ok_X8_branchAt dX8_since_2 wd574 ⟨wd576, wd6⟩ (hp0 S) rfl rfl (c_branchAt S hb.1 i (by first | exact hz _ _ | exact hw.1 _ _ | exact zR_of _ | exact bI_z _ | assumption | exact ⟨by omega, by omega⟩)) rfl (Nat.le_of_ble_eq_true rfl) (Nat.le_of_ble_eq_true rfl) (by decide) (by omega) (by omega) (fun t2 => ?_) (fun t2 => ?_)
  · refine x_astore (L' := [xR (0, 0, 0), xI i, xI t, xI q, xR (9, i, 0), none, none]) dX8_since_5 (by decide) rfl ?_
    refine x_aload dX8_since_7 rfl ?_
    refine x_aload dX8_since_9 rfl ?_
    refine x_get (v := xI (S.1 (9, i, 0) 3)) dX8_since_11 fl_RX8_92 (hp9 S (by omega) (by omega)) rfl ?_
    have f11_1 := wf9_3 hb.1 (S := S) (b := i) (by omega) (by omega)
    refine x_iload_n dX8_since_14 rfl ?_
    refine x_iload_n dX8_since_15 rfl ?_
    refine x_callS_tv2 (a := 3) (b := 18) (as := [xR (9, i, 0), xI (S.1 (9, i, 0) 3), xI t, xI q]) (rest := []) ok_X8_checkAsked dX8_since_16 wd802 wd803 (c_checkAsked S hb.1 i (by omega) (by omega) (S.1 (9, i, 0) 3) t q (by first | exact hz _ _ | exact hw.1 _ _ | exact zR_of _ | exact bI_z _ | assumption | exact ⟨by omega, by omega⟩) (by first | exact hz _ _ | exact hw.1 _ _ | exact zR_of _ | exact bI_z _ | assumption | exact ⟨by omega, by omega⟩) (by first | exact hz _ _ | exact hw.1 _ _ | exact zR_of _ | exact bI_z _ | assumption | exact ⟨by omega, by omega⟩)) rfl (Nat.le_of_ble_eq_true rfl) (Nat.le_of_ble_eq_true rfl) (by decide) (by omega) (by omega) (fun t16 t16b => ?_) (fun t16 => ?_) (fun t16 t16b => ?_)
    · refine x_aload_n dX8_since_19 rfl ?_
      refine x_aload dX8_since_20 rfl ?_
      refine x_aload dX8_since_22 rfl ?_
      refine x_get (v := xI (S.1 (9, i, 0) 3)) dX8_since_24 fl_RX8_92 (hp9 S (by omega) (by omega)) rfl ?_
      have f24_2 := wf9_3 hb.1 (S := S) (b := i) (by omega) (by omega)
      refine x_iload_n dX8_since_27 rfl ?_
      refine x_callV (a := 0) (b := 0) (as := [xR (9, i, 0), xI (S.1 (9, i, 0) 3), xI t]) (rest := []) ok_X8_stateOf dX8_since_28 wd413 ⟨wd415, wd1⟩ (hp0 S) rfl rfl (c_stateZ S hb i (by omega) (by omega) (S.1 (9, i, 0) 3) (by omega) (by omega) t (by omega) (by omega)) rfl (Nat.le_of_ble_eq_true rfl) (Nat.le_of_ble_eq_true rfl) (by decide) (by omega) (by omega) (fun _ q => by cases q.1) (fun _ _ q => ?_) (fun _ _ q => by cases q.1)
      obtain ⟨y1, T1, rfl, qq1, bT1, o1, t1, l1⟩ := q
      cases y1
      have qT1 := (QEq.rf S).tr qq1
      have eT16 := congrFun (qT1.1 (0, 0, 0) rfl) 6
      have eT17 := congrFun (qT1.1 (0, 0, 0) rfl) 7
      have eT19 := congrFun (qT1.1 (9, i, 0) rfl) 3
      refine x_iload_n dX8_since_31 rfl ?_
      refine x_callV_r (a := 0) (b := 0) (as := [xI q]) (rest := []) ok_X6_has dX8_since_32 wd809 ⟨wd810, wd811⟩ (hp8 T1 (by omega) (by omega) (by omega) (by omega)) rfl rfl (c_has8 T1 q (by omega) (by omega) i t (by omega) (by omega) (by omega) (by omega)) rfl (Nat.le_of_ble_eq_true rfl) (Nat.le_of_ble_eq_true rfl) (by decide) (by omega) (by omega) ?_
      refine x_top (show bI (bitJ (T1.2.1 (28, i, t) (q / 64)) (q % 64)) = bI (hB S.1 i (S.1 (9, i, 0) 3).toNat t q) from bI_c (hB_of (by omega) (by omega) l1)) ?_
      refine x_istore (L' := [xR (0, 0, 0), xI i, xI t, xI q, xR (9, i, 0), xI (bI (hB S.1 i (S.1 (9, i, 0) 3).toNat t q)), none]) dX8_since_35 (by decide) rfl ?_
      refine x_aload dX8_since_37 rfl ?_
      refine x_get (v := xI (T1.1 (9, i, 0) 3)) dX8_since_39 fl_RX8_92 (hp9 T1 (by omega) (by omega)) rfl ?_
      have f39_3 := wf9_3 bT1.1 (S := T1) (b := i) (by omega) (by omega)
      refine x_top (show T1.1 (9, i, 0) 3 = ((S.1 (9, i, 0) 3).toNat : Int) from by rw [eT19]; omega) ?_
      refine x_istore (L' := [xR (0, 0, 0), xI i, xI t, xI q, xR (9, i, 0), xI (bI (hB S.1 i (S.1 (9, i, 0) 3).toNat t q)), xI ((S.1 (9, i, 0) 3).toNat : Int)]) dX8_since_42 (by decide) rfl ?_
      have z9 := l_since S i t q (by omega) (by omega) (by omega) (by omega) (by omega) (by omega) (by omega) (by omega) _ 61 T1 (S.1 (9, i, 0) 3).toNat (by omega) qT1 bT1 (by omega) rfl
      exact X.weak z9 (Nat.zero_le _) (Nat.zero_le _) (fun _ _ z => Or.inl ⟨by omega, Or.inl ⟨by omega, z⟩⟩)
    · exact XX.out rfl (by first | exact Or.inr ⟨by omega, pXi (QEq.rf S) hb⟩ | exact Or.inl ⟨by omega, Or.inr ⟨by omega, pXi (QEq.rf S) hb⟩⟩ | exact Or.inl ⟨by omega, Or.inl ⟨by omega, Or.inr ⟨by first | omega | assumption, pXi (QEq.rf S) hb⟩⟩⟩)
    · exact XX.out rfl (by first | exact Or.inr ⟨by omega, pXi (QEq.rf S) hb⟩ | exact Or.inl ⟨by omega, Or.inr ⟨by omega, pXi (QEq.rf S) hb⟩⟩ | exact Or.inl ⟨by omega, Or.inl ⟨by omega, Or.inr ⟨by first | omega | assumption, pXi (QEq.rf S) hb⟩⟩⟩)
  · exact XX.out rfl (by first | exact Or.inr ⟨by omega, pXi (QEq.rf S) hb⟩ | exact Or.inl ⟨by omega, Or.inr ⟨by omega, pXi (QEq.rf S) hb⟩⟩ | exact Or.inl ⟨by omega, Or.inl ⟨by omega, Or.inr ⟨by first | omega | assumption, pXi (QEq.rf S) hb⟩⟩⟩)
/-- the layers by the rules of a set -/
def LyG (f : XL → Int → Int) (on : Int) (g : Int → Int) : Prop := GOk g ∧ Lay f on g ∧ Below f on g
def pLv (S : XS) (on r : Int) : XO → XH → Prop := fun o h' => ∃ g, LyG S.1 on g ∧ pQ S (some (xI (g r))) o h'
theorem QEq.row33 (S : XS) (g : Int → Int) (n : Int) : QEq S (rowI S (33, 0, 0) g n) := ⟨fun l a => by show (if l = _ then _ else _) = _; rw [if_neg (fun z => by rw [z] at a; cases a)], fun _ _ => rfl, rfl⟩
theorem CB.row33 {S : XS} (hb : CB S) {g : Int → Int} (hg : GOk g) : CB (rowI S (33, 0, 0) g 6) := by
  have q := QEq.row33 S g 6
  have n : ∀ l : XL, l.1 ≠ 33 → (rowI S (33, 0, 0) g 6).1 l = S.1 l := fun l a => by show (if l = _ then _ else _) = _; rw [if_neg (fun z => by rw [z] at a; exact a rfl)]
  refine hb.of q (WI.row33 hb.1 hg) (fun b t b0 b1 t0 t1 => ?_) ?_ ⟨fun b t b0 b1 t0 t1 => ?_, ?_⟩
  · rw [n (8, b, t) (show (8 : Nat) ≠ 33 by decide)]
    exact Stab_eq q.rule (hb.2.2.1 b t b0 b1 t0 t1)
  · unfold RGood
    rw [n (7, 0, 0) (show (7 : Nat) ≠ 33 by decide), n (40, 0, 0) (show (40 : Nat) ≠ 33 by decide), n (41, 0, 0) (show (41 : Nat) ≠ 33 by decide), n (42, 0, 0) (show (42 : Nat) ≠ 33 by decide)]
    exact ⟨Stab_eq q.rule hb.2.2.2.2.1.1, RFin_eq q.rule hb.2.2.2.2.1.2⟩
  · rw [n (8, b, t) (show (8 : Nat) ≠ 33 by decide)]
    exact (hb.2.2.2.2.2.1.1 b t b0 b1 t0 t1).q q
  · rw [n (7, 0, 0) (show (7 : Nat) ≠ 33 by decide)]
    exact hb.2.2.2.2.2.1.2.q q
set_option maxHeartbeats 4000000 in
set_option maxRecDepth 100000 in
theorem c_layer (S : XS) (hb : CB S) (i r : Int) (zi : zR i) (zr : zR r) : X mX8_layer 0 (xEnt mX8_layer [xR (0, 0, 0), xI i, xI r]) [] (hp S) 2 12 (pOr (0 ≤ i ∧ i < S.1 (0, 0, 0) 6) (pOr (0 ≤ r ∧ r < 6) (pLv S (onN S.1 i (S.1 (9, i, 0) 3).toNat) r) (pX S "java/lang/IllegalArgumentException")) (pX S "java/lang/IndexOutOfBoundsException")) := by
  have hw := hb.1
  have hn6 := wf0_6 hw
  have h93 : 0 ≤ i → i < S.1 (0, 0, 0) 6 → 0 ≤ S.1 (9, i, 0) 3 ∧ S.1 (9, i, 0) 3 ≤ 60 := fun a b => wf9_3 hw a (by omega)
  have zi2 := zi
  unfold zR at zi2
  have zr2 := zr
  unfold zR at zr2
  show X mX8_layer 0 [xR (0, 0, 0), xI i, xI r, none] [] (hp S) 2 12 _
  refine x_aload_n dX8_layer_0 rfl ?_
  refine x_iload_n dX8_layer_1 rfl ?_
  refine x_callV_t (a := 1) (b := 6) (as := [xI i]) (rest := []) ok_X8_branchAt dX8_layer_2 wd574 ⟨wd576, wd6⟩ (hp0 S) rfl rfl (c_branchAt S hb.1 i (by first | exact hz _ _ | exact hw.1 _ _ | exact zR_of _ | exact bI_z _ | assumption | exact ⟨by omega, by omega⟩)) rfl (Nat.le_of_ble_eq_true rfl) (Nat.le_of_ble_eq_true rfl) (by decide) (by omega) (by omega) (fun t2 => ?_) (fun t2 => ?_)
  · refine x_astore_n (L' := [xR (0, 0, 0), xI i, xI r, xR (9, i, 0)]) dX8_layer_5 (by decide) rfl ?_
    refine x_iload_n dX8_layer_6 rfl ?_
    refine x_callS_tv (a := 1) (b := 6) (as := [xI r]) (rest := []) ok_X8_checkRelation dX8_layer_7 wd703 wd704 (c_checkRelation S hb.1 r (by first | exact hz _ _ | exact hw.1 _ _ | exact zR_of _ | exact bI_z _ | assumption | exact ⟨by omega, by omega⟩)) rfl (Nat.le_of_ble_eq_true rfl) (Nat.le_of_ble_eq_true rfl) (by decide) (by omega) (by omega) (fun t7 => ?_) (fun t7 => ?_)
    · refine x_aload_n dX8_layer_10 rfl ?_
      refine x_get (v := xR (4, 0, 0)) dX8_layer_11 fl_RX8_28 (hp0 S) rfl ?_
      refine x_aload_n dX8_layer_14 rfl ?_
      refine x_aload_n dX8_layer_15 rfl ?_
      refine x_get (v := xI (S.1 (9, i, 0) 3)) dX8_layer_16 fl_RX8_92 (hp9 S (by omega) (by omega)) rfl ?_
      have f16_1 := wf9_3 hb.1 (S := S) (b := i) (by omega) (by omega)
      refine x_callV_r (a := 0) (b := 0) (as := [xI (S.1 (9, i, 0) 3)]) (rest := [xR (4, 0, 0)]) ok_X0_rulesOn dX8_layer_19 wd758 ⟨wd426, wd427⟩ (hp9 S (by omega) (by omega)) rfl rfl (x_nat (e := (S.1 (9, i, 0) 3)) (by omega) (fun n => X mX0_rulesOn 0 (xEnt mX0_rulesOn [xR (9, i, 0), xI n]) [] (hp S) 0 0 (pRet (xI (onN S.1 i ((S.1 (9, i, 0) 3).toNat))) (hp S))) (c_rulesOn S hb.1 i (by omega) (by omega) ((S.1 (9, i, 0) 3).toNat) (by omega))) rfl (Nat.le_of_ble_eq_true rfl) (Nat.le_of_ble_eq_true rfl) (by decide) (by omega) (by omega) ?_
      refine x_callV (a := 0) (b := 0) (as := [xI (onN S.1 i ((S.1 (9, i, 0) 3).toNat))]) (rest := []) ok_X5_findLayers dX8_layer_22 wd787 ⟨wd441, wd442⟩ (hp4 S) rfl rfl (c_findLayers S hb.1 (onN S.1 i ((S.1 (9, i, 0) 3).toNat))) rfl (Nat.le_of_ble_eq_true rfl) (Nat.le_of_ble_eq_true rfl) (by decide) (by omega) (by omega) (fun _ q => ?_) (fun _ _ q => ?_) (fun _ _ q => ?_)
      · obtain ⟨_, _, _, ⟨q, _⟩ | ⟨q, _⟩⟩ := q <;> cases q
      · obtain ⟨gL, gO, rfl, ⟨y, gY, gB⟩ | ⟨y, gN⟩⟩ := q <;> cases y
        · skip
          refine x_pop dX8_layer_25 rfl ?_
          refine x_aload_n dX8_layer_26 rfl ?_
          refine x_get (v := xR (4, 0, 0)) dX8_layer_27 fl_RX8_28 (hp0 (rowI S (33, 0, 0) gL 6)) rfl ?_
          refine x_get (v := xR (33, 0, 0)) dX8_layer_30 fl_RX8_152 (hp4 (rowI S (33, 0, 0) gL 6)) rfl ?_
          refine x_iload_n dX8_layer_33 rfl ?_
          refine x_aldi (f := (rowI S (33, 0, 0) gL 6).1 (33, 0, 0)) dX8_layer_34 (hp33 (rowI S (33, 0, 0) gL 6)) (show (33 : Nat) ≠ 99 by decide) (by omega) (by omega) (by decide) ?_
          have f34_2 := wfa33 (WI.row33 hb.1 gO) (S := rowI S (33, 0, 0) gL 6) r
          exact x_iret dX8_layer_35 rfl (Or.inl ⟨by omega, Or.inl ⟨by omega, gL, ⟨gO, gY, gB⟩, by rw [rowI_at S (33, 0, 0) gL (by omega) (by omega)]; exact pQi (QEq.row33 S gL 6) (hb.row33 gO)⟩⟩)
        · obtain ⟨g9, z1, z2⟩ := hb.2.2.2.1 i (by omega) (by omega) (S.1 (9, i, 0) 3).toNat (by omega)
          exact absurd z2 (gN g9 z1)
      · obtain ⟨_, _, _, ⟨q, _⟩ | ⟨q, _⟩⟩ := q <;> cases q
    · exact XX.out rfl (by first | exact Or.inr ⟨by omega, pXi (QEq.rf S) hb⟩ | exact Or.inl ⟨by omega, Or.inr ⟨by omega, pXi (QEq.rf S) hb⟩⟩ | exact Or.inl ⟨by omega, Or.inl ⟨by omega, Or.inr ⟨by first | omega | assumption, pXi (QEq.rf S) hb⟩⟩⟩)
  · exact XX.out rfl (by first | exact Or.inr ⟨by omega, pXi (QEq.rf S) hb⟩ | exact Or.inl ⟨by omega, Or.inr ⟨by omega, pXi (QEq.rf S) hb⟩⟩ | exact Or.inl ⟨by omega, Or.inl ⟨by omega, Or.inr ⟨by first | omega | assumption, pXi (QEq.rf S) hb⟩⟩⟩)
