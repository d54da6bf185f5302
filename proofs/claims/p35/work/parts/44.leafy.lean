/-! questions: since, layer -/
theorem bI_eq {P Q : Prop} : bI P = bI Q ↔ (P ↔ Q) := by
  constructor
  · intro h
    constructor
    · intro p; rw [bI_t p] at h; exact bI_1.mp h.symm
    · intro p; rw [bI_t p] at h; exact bI_1.mp h
  · exact bI_c
/-- the layers by the rules of a set -/
def LyG (f : XL → Int → Int) (on : Int) (g : Int → Int) : Prop := GOk g ∧ Lay f on g ∧ Below f on g
def pLv (S : XS) (on r : Int) : XO → XH → Prop := fun o h' => ∃ g, LyG S.1 on g ∧ pQ S (some (xI (g r))) o h'
theorem QEq.row33 (S : XS) (g : Int → Int) (n : Int) : QEq S (rowI S (33, 0, 0) g n) := ⟨fun l a => by show (if l = _ then _ else _) = _; rw [if_neg (fun z => by rw [z] at a; cases a)], fun _ _ => rfl, rfl⟩
theorem CB.row33 {S : XS} (hb : CB S) {g : Int → Int} (hg : GOk g) : CB (rowI S (33, 0, 0) g 6) := by
  have q := QEq.row33 S g 6
  have n : ∀ l : XL, l.1 ≠ 33 → (rowI S (33, 0, 0) g 6).1 l = S.1 l := fun l a => by show (if l = _ then _ else _) = _; rw [if_neg (fun z => by rw [z] at a; exact a rfl)]
  refine hb.of q (WI.row33 hb.1 hg) (fun b t b0 b1 t0 t1 => ?_) ?_ ⟨fun b t b0 b1 t0 t1 => ?_, ?_⟩
  · rw [n (8, b, t) (show (8 : Nat) ≠ 33 by decide)]
    exact Stab_eq q.rule (hb.2.2.1 b t b0 b1 t0 t1)
  · unfold RGood
    rw [n (7, 0, 0) (show (7 : Nat) ≠ 33 by decide), n (40, 0, 0) (show (40 : Nat) ≠ 33 by decide), n (41, 0, 0) (show (41 : Nat) ≠ 33 by decide), n (42, 0, 0) (show (42 : Nat) ≠ 33 by decide)]
    exact ⟨Stab_eq q.rule hb.2.2.2.2.1.1, RFin_eq q.rule hb.2.2.2.2.1.2⟩
  · rw [n (8, b, t) (show (8 : Nat) ≠ 33 by decide)]
    exact (hb.2.2.2.2.2.1.1 b t b0 b1 t0 t1).q q
  · rw [n (7, 0, 0) (show (7 : Nat) ≠ 33 by decide)]
    exact hb.2.2.2.2.2.1.2.q q
set_option maxHeartbeats 4000000 in
set_option maxRecDepth 100000 in
theorem c_layer (S : XS) (hb : CB S) (i r : Int) (zi : zR i) (zr : zR r) : X mX8_layer 0 (xEnt mX8_layer [xR (0, 0, 0), xI i, xI r]) [] (hp S) 2 12 (pOr (0 ≤ i ∧ i < S.1 (0, 0, 0) 6) (pOr (0 ≤ r ∧ r < 6) (pLv S (onN S.1 i (S.1 (9, i, 0) 3).toNat) r) (pX S "java/lang/IllegalArgumentException")) (pX S "java/lang/IndexOutOfBoundsException")) := by
  have hw := hb.1
  have hn6 := wf0_6 hw
  have h93 : 0 ≤ i → i < S.1 (0, 0, 0) 6 → 0 ≤ S.1 (9, i, 0) 3 ∧ S.1 (9, i, 0) 3 ≤ 60 := fun a b => wf9_3 hw a (by omega)
  have zi2 := zi
  unfold zR at zi2
  have zr2 := zr
  unfold zR at zr2
  show X mX8_layer 0 [xR (0, 0, 0), xI i, xI r, none] [] (hp S) 2 12 _
  refine x_aload_n dX8_layer_0 rfl ?_
  refine x_iload_n dX8_layer_1 rfl ?_
  refine x_callV_t (a := 1) (b := 6) (as := [xI i]) (rest := []) ok_X8_branchAt dX8_layer_2 wd511 ⟨wd513, wd6⟩ (hp0 S) rfl rfl (c_branchAt S hb.1 i (by first | exact hz _ _ | exact hw.1 _ _ | exact zR_of _ | exact bI_z _ | assumption | exact ⟨by omega, by omega⟩)) rfl (Nat.le_of_ble_eq_true rfl) (Nat.le_of_ble_eq_true rfl) (by decide) (by omega) (by omega) (fun t2 => ?_) (fun t2 => ?_)
  · refine x_astore_n (L' := [xR (0, 0, 0), xI i, xI r, xR (9, i, 0)]) dX8_layer_5 (by decide) rfl ?_
    refine x_iload_n dX8_layer_6 rfl ?_
    refine x_callS_tv (a := 1) (b := 6) (as := [xI r]) (rest := []) ok_X8_checkRelation dX8_layer_7 wd705 wd706 (c_checkRelation S hb.1 r (by first | exact hz _ _ | exact hw.1 _ _ | exact zR_of _ | exact bI_z _ | assumption | exact ⟨by omega, by omega⟩)) rfl (Nat.le_of_ble_eq_true rfl) (Nat.le_of_ble_eq_true rfl) (by decide) (by omega) (by omega) (fun t7 => ?_) (fun t7 => ?_)
    · refine x_aload_n dX8_layer_10 rfl ?_
      refine x_get (v := xR (4, 0, 0)) dX8_layer_11 fl_RX8_28 (hp0 S) rfl ?_
      refine x_aload_n dX8_layer_14 rfl ?_
      refine x_aload_n dX8_layer_15 rfl ?_
      refine x_get (v := xI (S.1 (9, i, 0) 3)) dX8_layer_16 fl_RX8_92 (hp9 S (by omega) (by omega)) rfl ?_
      have f16_1 := wf9_3 hb.1 (S := S) (b := i) (by omega) (by omega)
      refine x_callV_r (a := 0) (b := 0) (as := [xI (S.1 (9, i, 0) 3)]) (rest := [xR (4, 0, 0)]) ok_X0_rulesOn dX8_layer_19 wd688 ⟨wd363, wd364⟩ (hp9 S (by omega) (by omega)) rfl rfl (x_nat (e := (S.1 (9, i, 0) 3)) (by omega) (fun n => X mX0_rulesOn 0 (xEnt mX0_rulesOn [xR (9, i, 0), xI n]) [] (hp S) 0 0 (pRet (xI (onN S.1 i ((S.1 (9, i, 0) 3).toNat))) (hp S))) (c_rulesOn S hb.1 i (by omega) (by omega) ((S.1 (9, i, 0) 3).toNat) (by omega))) rfl (Nat.le_of_ble_eq_true rfl) (Nat.le_of_ble_eq_true rfl) (by decide) (by omega) (by omega) ?_
      refine x_callV (a := 0) (b := 0) (as := [xI (onN S.1 i ((S.1 (9, i, 0) 3).toNat))]) (rest := []) ok_X5_findLayers dX8_layer_22 wd709 ⟨wd378, wd379⟩ (hp4 S) rfl rfl (c_findLayers S hb.1 (onN S.1 i ((S.1 (9, i, 0) 3).toNat))) rfl (Nat.le_of_ble_eq_true rfl) (Nat.le_of_ble_eq_true rfl) (by decide) (by omega) (by omega) (fun _ q => ?_) (fun _ _ q => ?_) (fun _ _ q => ?_)
      · obtain ⟨_, _, _, ⟨q, _⟩ | ⟨q, _⟩⟩ := q <;> cases q
      · obtain ⟨gL, gO, rfl, ⟨y, gY, gB⟩ | ⟨y, gN⟩⟩ := q <;> cases y
        · skip
          refine x_pop dX8_layer_25 rfl ?_
          refine x_aload_n dX8_layer_26 rfl ?_
          refine x_get (v := xR (4, 0, 0)) dX8_layer_27 fl_RX8_28 (hp0 (rowI S (33, 0, 0) gL 6)) rfl ?_
          refine x_get (v := xR (33, 0, 0)) dX8_layer_30 fl_RX8_152 (hp4 (rowI S (33, 0, 0) gL 6)) rfl ?_
          refine x_iload_n dX8_layer_33 rfl ?_
          refine x_aldi (f := (rowI S (33, 0, 0) gL 6).1 (33, 0, 0)) dX8_layer_34 (hp33 (rowI S (33, 0, 0) gL 6)) (show (33 : Nat) ≠ 99 by decide) (by omega) (by omega) (by decide) ?_
          have f34_2 := wfa33 (WI.row33 hb.1 gO) (S := rowI S (33, 0, 0) gL 6) r
          exact x_iret dX8_layer_35 rfl (Or.inl ⟨by omega, Or.inl ⟨by omega, gL, ⟨gO, gY, gB⟩, by rw [rowI_at S (33, 0, 0) gL (by omega) (by omega)]; exact pQi (QEq.row33 S gL 6) (hb.row33 gO)⟩⟩)
        · obtain ⟨g9, z1, z2⟩ := hb.2.2.2.1 i (by omega) (by omega) (S.1 (9, i, 0) 3).toNat (by omega)
          exact absurd z2 (gN g9 z1)
      · obtain ⟨_, _, _, ⟨q, _⟩ | ⟨q, _⟩⟩ := q <;> cases q
    · exact XX.out rfl (by first | exact Or.inr ⟨by omega, pXi (QEq.rf S) hb⟩ | exact Or.inl ⟨by omega, Or.inr ⟨by omega, pXi (QEq.rf S) hb⟩⟩ | exact Or.inl ⟨by omega, Or.inl ⟨by omega, Or.inr ⟨by first | omega | assumption, pXi (QEq.rf S) hb⟩⟩⟩)
  · exact XX.out rfl (by first | exact Or.inr ⟨by omega, pXi (QEq.rf S) hb⟩ | exact Or.inl ⟨by omega, Or.inr ⟨by omega, pXi (QEq.rf S) hb⟩⟩ | exact Or.inl ⟨by omega, Or.inl ⟨by omega, Or.inr ⟨by first | omega | assumption, pXi (QEq.rf S) hb⟩⟩⟩)
