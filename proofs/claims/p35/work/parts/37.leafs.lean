/-! listeners -/
def sAttach (S : XS) (l b r t : Int) (w : Int64) : XS := putJ (putI (putI (putI S (14, l, 0) 2 b) (14, l, 0) 3 r) (14, l, 0) 4 t) (14, l, 0) 5 w
/-- the pairs that a listener hears of, as a state holds them -/
def lNow (S : XS) (l b t : Int) : Int64 := S.2.1 (28, b, t) (S.1 (14, l, 0) 3) &&& S.2.1 (14, l, 0) 5
def sBeg (S : XS) (l b t : Int) : XS := putJ S (14, l, 0) 6 (lNow S l b t)
theorem and127 (a : Int) : 0 ≤ zAnd a 127 ∧ zAnd a 127 ≤ 127 := by
  have e : (zI 127).toBitVec = BitVec.ofNat 32 127 := zI_bv 127
  have h : ((zI a).toBitVec &&& (zI 127).toBitVec).toNat ≤ 127 := by
    rw [BitVec.toNat_and, e, bvNat (by decide)]; exact Nat.and_le_right
  have q := bvInt ((zI a).toBitVec &&& (zI 127).toBitVec) _ rfl (by omega)
  have k : zAnd a 127 = (Int32.ofBitVec ((zI a).toBitVec &&& (zI 127).toBitVec)).toInt := rfl
  rw [k, q]
  omega
theorem fBits_in (w : Int64) : 0 ≤ fBits w ∧ fBits w ≤ 127 := and127 _
def sHearY (S : XS) (l b t : Int) : XS :=
  let n := S.1 (14, l, 0) 8; let v := lNow S l b t; let u := S.2.1 (14, l, 0) 6
  putJ (putI (putI (putJ (putJ S (30, l, 0) n (v &&& (u ^^^ (-1)))) (31, l, 0) n (u &&& (v ^^^ (-1)))) (14, l, 0) 9 (S.1 (14, l, 0) 9 + fBits (v ^^^ u))) (14, l, 0) 8 (n + 1)) (14, l, 0) 6 v
def sHear (S : XS) (l b t : Int) : XS := if lNow S l b t ≠ S.2.1 (14, l, 0) 6 ∧ S.1 (14, l, 0) 8 < 120 then sHearY S l b t else sBeg S l b t
set_option maxHeartbeats 4000000 in
set_option maxRecDepth 100000 in
theorem c_hear (S : XS) (hw : WI S) (l : Int) (h1 : 0 ≤ l) (h2 : l < 5) (b t : Int) (h3 : 0 ≤ b) (h4 : b < 4) (h5 : 0 ≤ t) (h6 : t < 24) (hu : S.1 (14, l, 0) 9 + fBits (lNow S l b t ^^^ S.2.1 (14, l, 0) 6) ≤ 7680) : X mX1_hear 0 (xEnt mX1_hear [xR (14, l, 0), xR (8, b, t)]) [] (hp S) 0 0 (pVoid (hp (sHear S l b t))) := by
  show X mX1_hear 0 [xR (14, l, 0), xR (8, b, t), none, none] [] (hp S) 0 0 _
  refine x_aload_n dX1_hear_0 rfl ?_
  refine x_get (v := xR (28, b, t)) dX1_hear_1 fl_RX1_44 (hp8 S (by omega) (by omega) (by omega) (by omega)) rfl ?_
  refine x_aload_n dX1_hear_4 rfl ?_
  refine x_get (v := xI (S.1 (14, l, 0) 3)) dX1_hear_5 fl_RX1_22 (hp14 S (by omega) (by omega)) rfl ?_
  have f5_1 := wf14_3 hw (S := S) (b := l) (by omega) (by omega)
  refine x_aldj (f := S.2.1 (28, b, t)) dX1_hear_8 (hp28 S (by omega) (by omega) (by omega) (by omega)) (show (28 : Nat) ≠ 99 by decide) (by omega) (by omega) (by decide) ?_
  refine x_aload_n dX1_hear_9 rfl ?_
  refine x_get (v := xJ (S.2.1 (14, l, 0) 5)) dX1_hear_10 fl_RX1_28 (hp14 S (by omega) (by omega)) rfl ?_
  refine x_land dX1_hear_13 ?_
  refine x_lstore_n (L' := [xR (14, l, 0), xR (8, b, t), xJ ((S.2.1 (28, b, t) (S.1 (14, l, 0) 3)) &&& (S.2.1 (14, l, 0) 5)), none]) dX1_hear_14 (by decide) rfl ?_
  refine x_lload_n dX1_hear_15 rfl ?_
  refine x_aload_n dX1_hear_16 rfl ?_
  refine x_get (v := xJ (S.2.1 (14, l, 0) 6)) dX1_hear_17 fl_RX1_32 (hp14 S (by omega) (by omega)) rfl ?_
  refine x_lcmp dX1_hear_20 ?_
  refine x_if_eq (tgt := 99) dX1_hear_21 (by decide) (by first | exact hz _ _ | exact hw.1 _ _ | exact zR_of _ | assumption | exact ⟨by omega, by omega⟩) (fun c21 => ?_) (fun c21 => ?_)
  · refine x_aload_n dX1_hear_99 rfl ?_
    refine x_lload_n dX1_hear_100 rfl ?_
    refine x_put dX1_hear_101 fl_RX1_32 (fun r hr => by cases hr; rfl) (hp14 S (by omega) (by omega)) xfit_j (Nat.le_of_ble_eq_true rfl) rfl ?_
    refine x_heq (pu14_6 S (by omega) (by omega) ((S.2.1 (28, b, t) (S.1 (14, l, 0) 3)) &&& (S.2.1 (14, l, 0) 5))) ?_
    have hw101_2 : WI (putJ S (14, l, 0) 6 ((S.2.1 (28, b, t) (S.1 (14, l, 0) 3)) &&& (S.2.1 (14, l, 0) 5))) := hw.puJ
    exact x_vret dX1_hear_104 rfl (pVe (by unfold sHear; rw [if_neg (by rintro ⟨z1, z2⟩; first | exact z1 (lg0.mp c21) | omega)]; rfl))
  · refine x_aload_n dX1_hear_24 rfl ?_
    refine x_get (v := xI (S.1 (14, l, 0) 8)) dX1_hear_25 fl_RX1_38 (hp14 S (by omega) (by omega)) rfl ?_
    have f25_3 := wf14_8 hw (S := S) (b := l) (by omega) (by omega)
    refine x_bipush (v := 120) dX1_hear_28 (by decide) ?_
    refine x_icmp_ge (tgt := 99) dX1_hear_30 (by decide) (by first | exact hz _ _ | exact hw.1 _ _ | exact zR_of _ | assumption | exact ⟨by omega, by omega⟩) ⟨by decide, by decide⟩ (fun c30 => ?_) (fun c30 => ?_)
    · refine x_aload_n dX1_hear_99 rfl ?_
      refine x_lload_n dX1_hear_100 rfl ?_
      refine x_put dX1_hear_101 fl_RX1_32 (fun r hr => by cases hr; rfl) (hp14 S (by omega) (by omega)) xfit_j (Nat.le_of_ble_eq_true rfl) rfl ?_
      refine x_heq (pu14_6 S (by omega) (by omega) ((S.2.1 (28, b, t) (S.1 (14, l, 0) 3)) &&& (S.2.1 (14, l, 0) 5))) ?_
      have hw101_4 : WI (putJ S (14, l, 0) 6 ((S.2.1 (28, b, t) (S.1 (14, l, 0) 3)) &&& (S.2.1 (14, l, 0) 5))) := hw.puJ
      exact x_vret dX1_hear_104 rfl (pVe (by unfold sHear; rw [if_neg (by rintro ⟨z1, z2⟩; first | exact z1 (lg0.mp c21) | omega)]; rfl))
    · refine x_aload_n dX1_hear_33 rfl ?_
      refine x_get (v := xR (30, l, 0)) dX1_hear_34 fl_RX1_9 (hp14 S (by omega) (by omega)) rfl ?_
      refine x_aload_n dX1_hear_37 rfl ?_
      refine x_get (v := xI (S.1 (14, l, 0) 8)) dX1_hear_38 fl_RX1_38 (hp14 S (by omega) (by omega)) rfl ?_
      have f38_5 := wf14_8 hw (S := S) (b := l) (by omega) (by omega)
      refine x_lload_n dX1_hear_41 rfl ?_
      refine x_aload_n dX1_hear_42 rfl ?_
      refine x_get (v := xJ (S.2.1 (14, l, 0) 6)) dX1_hear_43 fl_RX1_32 (hp14 S (by omega) (by omega)) rfl ?_
      refine x_ldc2 (v := (-1)) dX1_hear_46 wd619 ?_
      refine x_lxor dX1_hear_49 ?_
      refine x_land dX1_hear_50 ?_
      refine x_astj dX1_hear_51 (hp30 S (by omega) (by omega)) (show (30 : Nat) ≠ 99 by decide) (by omega) (by omega) (by decide) ?_
      refine x_heq (pa30 S (by omega) (by omega) (S.1 (14, l, 0) 8) (((S.2.1 (28, b, t) (S.1 (14, l, 0) 3)) &&& (S.2.1 (14, l, 0) 5)) &&& ((S.2.1 (14, l, 0) 6) ^^^ (-1)))) ?_
      have hw51_6 : WI (putJ S (30, l, 0) (S.1 (14, l, 0) 8) (((S.2.1 (28, b, t) (S.1 (14, l, 0) 3)) &&& (S.2.1 (14, l, 0) 5)) &&& ((S.2.1 (14, l, 0) 6) ^^^ (-1)))) := hw.puJ
      refine x_aload_n dX1_hear_52 rfl ?_
      refine x_get (v := xR (31, l, 0)) dX1_hear_53 fl_RX1_15 (hp14 (putJ S (30, l, 0) (S.1 (14, l, 0) 8) (((S.2.1 (28, b, t) (S.1 (14, l, 0) 3)) &&& (S.2.1 (14, l, 0) 5)) &&& ((S.2.1 (14, l, 0) 6) ^^^ (-1)))) (by omega) (by omega)) rfl ?_
      refine x_aload_n dX1_hear_56 rfl ?_
      refine x_get (v := xI (S.1 (14, l, 0) 8)) dX1_hear_57 fl_RX1_38 (hp14 (putJ S (30, l, 0) (S.1 (14, l, 0) 8) (((S.2.1 (28, b, t) (S.1 (14, l, 0) 3)) &&& (S.2.1 (14, l, 0) 5)) &&& ((S.2.1 (14, l, 0) 6) ^^^ (-1)))) (by omega) (by omega)) rfl ?_
      have f57_7 := wf14_8 hw (S := S) (b := l) (by omega) (by omega)
      refine x_aload_n dX1_hear_60 rfl ?_
      refine x_get (v := xJ (S.2.1 (14, l, 0) 6)) dX1_hear_61 fl_RX1_32 (hp14 (putJ S (30, l, 0) (S.1 (14, l, 0) 8) (((S.2.1 (28, b, t) (S.1 (14, l, 0) 3)) &&& (S.2.1 (14, l, 0) 5)) &&& ((S.2.1 (14, l, 0) 6) ^^^ (-1)))) (by omega) (by omega)) rfl ?_
      refine x_lload_n dX1_hear_64 rfl ?_
      refine x_ldc2 (v := (-1)) dX1_hear_65 wd619 ?_
      refine x_lxor dX1_hear_68 ?_
      refine x_land dX1_hear_69 ?_
      refine x_astj dX1_hear_70 (hp31 (putJ S (30, l, 0) (S.1 (14, l, 0) 8) (((S.2.1 (28, b, t) (S.1 (14, l, 0) 3)) &&& (S.2.1 (14, l, 0) 5)) &&& ((S.2.1 (14, l, 0) 6) ^^^ (-1)))) (by omega) (by omega)) (show (31 : Nat) ≠ 99 by decide) (by omega) (by omega) (by decide) ?_
      refine x_heq (pa31 (putJ S (30, l, 0) (S.1 (14, l, 0) 8) (((S.2.1 (28, b, t) (S.1 (14, l, 0) 3)) &&& (S.2.1 (14, l, 0) 5)) &&& ((S.2.1 (14, l, 0) 6) ^^^ (-1)))) (by omega) (by omega) (S.1 (14, l, 0) 8) ((S.2.1 (14, l, 0) 6) &&& (((S.2.1 (28, b, t) (S.1 (14, l, 0) 3)) &&& (S.2.1 (14, l, 0) 5)) ^^^ (-1)))) ?_
      have hw70_8 : WI (putJ (putJ S (30, l, 0) (S.1 (14, l, 0) 8) (((S.2.1 (28, b, t) (S.1 (14, l, 0) 3)) &&& (S.2.1 (14, l, 0) 5)) &&& ((S.2.1 (14, l, 0) 6) ^^^ (-1)))) (31, l, 0) (S.1 (14, l, 0) 8) ((S.2.1 (14, l, 0) 6) &&& (((S.2.1 (28, b, t) (S.1 (14, l, 0) 3)) &&& (S.2.1 (14, l, 0) 5)) ^^^ (-1)))) := hw51_6.puJ
      refine x_aload_n dX1_hear_71 rfl ?_
      refine x_dup dX1_hear_72 rfl ?_
      refine x_get (v := xI (S.1 (14, l, 0) 9)) dX1_hear_73 fl_RX1_41 (hp14 (putJ (putJ S (30, l, 0) (S.1 (14, l, 0) 8) (((S.2.1 (28, b, t) (S.1 (14, l, 0) 3)) &&& (S.2.1 (14, l, 0) 5)) &&& ((S.2.1 (14, l, 0) 6) ^^^ (-1)))) (31, l, 0) (S.1 (14, l, 0) 8) ((S.2.1 (14, l, 0) 6) &&& (((S.2.1 (28, b, t) (S.1 (14, l, 0) 3)) &&& (S.2.1 (14, l, 0) 5)) ^^^ (-1)))) (by omega) (by omega)) rfl ?_
      have f73_9 := wf14_9 hw (S := S) (b := l) (by omega) (by omega)
      refine x_lload_n dX1_hear_76 rfl ?_
      refine x_aload_n dX1_hear_77 rfl ?_
      refine x_get (v := xJ (S.2.1 (14, l, 0) 6)) dX1_hear_78 fl_RX1_32 (hp14 (putJ (putJ S (30, l, 0) (S.1 (14, l, 0) 8) (((S.2.1 (28, b, t) (S.1 (14, l, 0) 3)) &&& (S.2.1 (14, l, 0) 5)) &&& ((S.2.1 (14, l, 0) 6) ^^^ (-1)))) (31, l, 0) (S.1 (14, l, 0) 8) ((S.2.1 (14, l, 0) 6) &&& (((S.2.1 (28, b, t) (S.1 (14, l, 0) 3)) &&& (S.2.1 (14, l, 0) 5)) ^^^ (-1)))) (by omega) (by omega)) rfl ?_
      refine x_lxor dX1_hear_81 ?_
      refine x_callS_r (a := 0) (b := 0) (as := [xJ (((S.2.1 (28, b, t) (S.1 (14, l, 0) 3)) &&& (S.2.1 (14, l, 0) 5)) ^^^ (S.2.1 (14, l, 0) 6))]) (rest := [xI (S.1 (14, l, 0) 9), xR (14, l, 0)]) ok_J13_bitCount_95d88 dX1_hear_82 wd620 wd621 (c_bitCount (putJ (putJ S (30, l, 0) (S.1 (14, l, 0) 8) (((S.2.1 (28, b, t) (S.1 (14, l, 0) 3)) &&& (S.2.1 (14, l, 0) 5)) &&& ((S.2.1 (14, l, 0) 6) ^^^ (-1)))) (31, l, 0) (S.1 (14, l, 0) 8) ((S.2.1 (14, l, 0) 6) &&& (((S.2.1 (28, b, t) (S.1 (14, l, 0) 3)) &&& (S.2.1 (14, l, 0) 5)) ^^^ (-1)))) (((S.2.1 (28, b, t) (S.1 (14, l, 0) 3)) &&& (S.2.1 (14, l, 0) 5)) ^^^ (S.2.1 (14, l, 0) 6))) rfl (Nat.le_of_ble_eq_true rfl) (Nat.le_of_ble_eq_true rfl) (by decide) (by omega) (by omega) ?_
      refine x_iadd dX1_hear_85 ?_
      refine x_put dX1_hear_86 fl_RX1_41 (fun r hr => by cases hr; rfl) (hp14 (putJ (putJ S (30, l, 0) (S.1 (14, l, 0) 8) (((S.2.1 (28, b, t) (S.1 (14, l, 0) 3)) &&& (S.2.1 (14, l, 0) 5)) &&& ((S.2.1 (14, l, 0) 6) ^^^ (-1)))) (31, l, 0) (S.1 (14, l, 0) 8) ((S.2.1 (14, l, 0) 6) &&& (((S.2.1 (28, b, t) (S.1 (14, l, 0) 3)) &&& (S.2.1 (14, l, 0) 5)) ^^^ (-1)))) (by omega) (by omega)) xfit_i (Nat.le_of_ble_eq_true rfl) rfl ?_
      refine x_heq (pu14_9 (putJ (putJ S (30, l, 0) (S.1 (14, l, 0) 8) (((S.2.1 (28, b, t) (S.1 (14, l, 0) 3)) &&& (S.2.1 (14, l, 0) 5)) &&& ((S.2.1 (14, l, 0) 6) ^^^ (-1)))) (31, l, 0) (S.1 (14, l, 0) 8) ((S.2.1 (14, l, 0) 6) &&& (((S.2.1 (28, b, t) (S.1 (14, l, 0) 3)) &&& (S.2.1 (14, l, 0) 5)) ^^^ (-1)))) (by omega) (by omega) ((S.1 (14, l, 0) 9) + (fBits (((S.2.1 (28, b, t) (S.1 (14, l, 0) 3)) &&& (S.2.1 (14, l, 0) 5)) ^^^ (S.2.1 (14, l, 0) 6))))) ?_
      have hw86_10 : WI (putI (putJ (putJ S (30, l, 0) (S.1 (14, l, 0) 8) (((S.2.1 (28, b, t) (S.1 (14, l, 0) 3)) &&& (S.2.1 (14, l, 0) 5)) &&& ((S.2.1 (14, l, 0) 6) ^^^ (-1)))) (31, l, 0) (S.1 (14, l, 0) 8) ((S.2.1 (14, l, 0) 6) &&& (((S.2.1 (28, b, t) (S.1 (14, l, 0) 3)) &&& (S.2.1 (14, l, 0) 5)) ^^^ (-1)))) (14, l, 0) 9 ((S.1 (14, l, 0) 9) + (fBits (((S.2.1 (28, b, t) (S.1 (14, l, 0) 3)) &&& (S.2.1 (14, l, 0) 5)) ^^^ (S.2.1 (14, l, 0) 6))))) := wp14_9 hw70_8 (by omega) (by omega) (by have a := (fBits_in (lNow S l b t ^^^ S.2.1 (14, l, 0) 6)).1; have a2 := hu; unfold lNow at a a2; omega)
      refine x_aload_n dX1_hear_89 rfl ?_
      refine x_dup dX1_hear_90 rfl ?_
      refine x_get (v := xI ((putI (putJ (putJ S (30, l, 0) (S.1 (14, l, 0) 8) (((S.2.1 (28, b, t) (S.1 (14, l, 0) 3)) &&& (S.2.1 (14, l, 0) 5)) &&& ((S.2.1 (14, l, 0) 6) ^^^ (-1)))) (31, l, 0) (S.1 (14, l, 0) 8) ((S.2.1 (14, l, 0) 6) &&& (((S.2.1 (28, b, t) (S.1 (14, l, 0) 3)) &&& (S.2.1 (14, l, 0) 5)) ^^^ (-1)))) (14, l, 0) 9 ((S.1 (14, l, 0) 9) + (fBits (((S.2.1 (28, b, t) (S.1 (14, l, 0) 3)) &&& (S.2.1 (14, l, 0) 5)) ^^^ (S.2.1 (14, l, 0) 6))))).1 (14, l, 0) 8)) dX1_hear_91 fl_RX1_38 (hp14 (putI (putJ (putJ S (30, l, 0) (S.1 (14, l, 0) 8) (((S.2.1 (28, b, t) (S.1 (14, l, 0) 3)) &&& (S.2.1 (14, l, 0) 5)) &&& ((S.2.1 (14, l, 0) 6) ^^^ (-1)))) (31, l, 0) (S.1 (14, l, 0) 8) ((S.2.1 (14, l, 0) 6) &&& (((S.2.1 (28, b, t) (S.1 (14, l, 0) 3)) &&& (S.2.1 (14, l, 0) 5)) ^^^ (-1)))) (14, l, 0) 9 ((S.1 (14, l, 0) 9) + (fBits (((S.2.1 (28, b, t) (S.1 (14, l, 0) 3)) &&& (S.2.1 (14, l, 0) 5)) ^^^ (S.2.1 (14, l, 0) 6))))) (by omega) (by omega)) rfl ?_
      have f91_11 := wf14_8 hw86_10 (S := putI (putJ (putJ S (30, l, 0) (S.1 (14, l, 0) 8) (((S.2.1 (28, b, t) (S.1 (14, l, 0) 3)) &&& (S.2.1 (14, l, 0) 5)) &&& ((S.2.1 (14, l, 0) 6) ^^^ (-1)))) (31, l, 0) (S.1 (14, l, 0) 8) ((S.2.1 (14, l, 0) 6) &&& (((S.2.1 (28, b, t) (S.1 (14, l, 0) 3)) &&& (S.2.1 (14, l, 0) 5)) ^^^ (-1)))) (14, l, 0) 9 ((S.1 (14, l, 0) 9) + (fBits (((S.2.1 (28, b, t) (S.1 (14, l, 0) 3)) &&& (S.2.1 (14, l, 0) 5)) ^^^ (S.2.1 (14, l, 0) 6))))) (b := l) (by omega) (by omega)
      refine x_top (show (putI (putJ (putJ S (30, l, 0) (S.1 (14, l, 0) 8) (((S.2.1 (28, b, t) (S.1 (14, l, 0) 3)) &&& (S.2.1 (14, l, 0) 5)) &&& ((S.2.1 (14, l, 0) 6) ^^^ (-1)))) (31, l, 0) (S.1 (14, l, 0) 8) ((S.2.1 (14, l, 0) 6) &&& (((S.2.1 (28, b, t) (S.1 (14, l, 0) 3)) &&& (S.2.1 (14, l, 0) 5)) ^^^ (-1)))) (14, l, 0) 9 ((S.1 (14, l, 0) 9) + (fBits (((S.2.1 (28, b, t) (S.1 (14, l, 0) 3)) &&& (S.2.1 (14, l, 0) 5)) ^^^ (S.2.1 (14, l, 0) 6))))).1 (14, l, 0) 8 = S.1 (14, l, 0) 8 from by simp [putI, putJ, xUpd]) ?_
      refine x_iconst dX1_hear_94 ?_
      refine x_iadd dX1_hear_95 ?_
      refine x_put dX1_hear_96 fl_RX1_38 (fun r hr => by cases hr; rfl) (hp14 (putI (putJ (putJ S (30, l, 0) (S.1 (14, l, 0) 8) (((S.2.1 (28, b, t) (S.1 (14, l, 0) 3)) &&& (S.2.1 (14, l, 0) 5)) &&& ((S.2.1 (14, l, 0) 6) ^^^ (-1)))) (31, l, 0) (S.1 (14, l, 0) 8) ((S.2.1 (14, l, 0) 6) &&& (((S.2.1 (28, b, t) (S.1 (14, l, 0) 3)) &&& (S.2.1 (14, l, 0) 5)) ^^^ (-1)))) (14, l, 0) 9 ((S.1 (14, l, 0) 9) + (fBits (((S.2.1 (28, b, t) (S.1 (14, l, 0) 3)) &&& (S.2.1 (14, l, 0) 5)) ^^^ (S.2.1 (14, l, 0) 6))))) (by omega) (by omega)) xfit_i (Nat.le_of_ble_eq_true rfl) rfl ?_
      refine x_heq (pu14_8 (putI (putJ (putJ S (30, l, 0) (S.1 (14, l, 0) 8) (((S.2.1 (28, b, t) (S.1 (14, l, 0) 3)) &&& (S.2.1 (14, l, 0) 5)) &&& ((S.2.1 (14, l, 0) 6) ^^^ (-1)))) (31, l, 0) (S.1 (14, l, 0) 8) ((S.2.1 (14, l, 0) 6) &&& (((S.2.1 (28, b, t) (S.1 (14, l, 0) 3)) &&& (S.2.1 (14, l, 0) 5)) ^^^ (-1)))) (14, l, 0) 9 ((S.1 (14, l, 0) 9) + (fBits (((S.2.1 (28, b, t) (S.1 (14, l, 0) 3)) &&& (S.2.1 (14, l, 0) 5)) ^^^ (S.2.1 (14, l, 0) 6))))) (by omega) (by omega) ((S.1 (14, l, 0) 8) + 1)) ?_
      have hw96_12 : WI (putI (putI (putJ (putJ S (30, l, 0) (S.1 (14, l, 0) 8) (((S.2.1 (28, b, t) (S.1 (14, l, 0) 3)) &&& (S.2.1 (14, l, 0) 5)) &&& ((S.2.1 (14, l, 0) 6) ^^^ (-1)))) (31, l, 0) (S.1 (14, l, 0) 8) ((S.2.1 (14, l, 0) 6) &&& (((S.2.1 (28, b, t) (S.1 (14, l, 0) 3)) &&& (S.2.1 (14, l, 0) 5)) ^^^ (-1)))) (14, l, 0) 9 ((S.1 (14, l, 0) 9) + (fBits (((S.2.1 (28, b, t) (S.1 (14, l, 0) 3)) &&& (S.2.1 (14, l, 0) 5)) ^^^ (S.2.1 (14, l, 0) 6))))) (14, l, 0) 8 ((S.1 (14, l, 0) 8) + 1)) := wp14_8 hw86_10 (by omega) (by omega) (by omega)
      refine x_aload_n dX1_hear_99 rfl ?_
      refine x_lload_n dX1_hear_100 rfl ?_
      refine x_put dX1_hear_101 fl_RX1_32 (fun r hr => by cases hr; rfl) (hp14 (putI (putI (putJ (putJ S (30, l, 0) (S.1 (14, l, 0) 8) (((S.2.1 (28, b, t) (S.1 (14, l, 0) 3)) &&& (S.2.1 (14, l, 0) 5)) &&& ((S.2.1 (14, l, 0) 6) ^^^ (-1)))) (31, l, 0) (S.1 (14, l, 0) 8) ((S.2.1 (14, l, 0) 6) &&& (((S.2.1 (28, b, t) (S.1 (14, l, 0) 3)) &&& (S.2.1 (14, l, 0) 5)) ^^^ (-1)))) (14, l, 0) 9 ((S.1 (14, l, 0) 9) + (fBits (((S.2.1 (28, b, t) (S.1 (14, l, 0) 3)) &&& (S.2.1 (14, l, 0) 5)) ^^^ (S.2.1 (14, l, 0) 6))))) (14, l, 0) 8 ((S.1 (14, l, 0) 8) + 1)) (by omega) (by omega)) xfit_j (Nat.le_of_ble_eq_true rfl) rfl ?_
      refine x_heq (pu14_6 (putI (putI (putJ (putJ S (30, l, 0) (S.1 (14, l, 0) 8) (((S.2.1 (28, b, t) (S.1 (14, l, 0) 3)) &&& (S.2.1 (14, l, 0) 5)) &&& ((S.2.1 (14, l, 0) 6) ^^^ (-1)))) (31, l, 0) (S.1 (14, l, 0) 8) ((S.2.1 (14, l, 0) 6) &&& (((S.2.1 (28, b, t) (S.1 (14, l, 0) 3)) &&& (S.2.1 (14, l, 0) 5)) ^^^ (-1)))) (14, l, 0) 9 ((S.1 (14, l, 0) 9) + (fBits (((S.2.1 (28, b, t) (S.1 (14, l, 0) 3)) &&& (S.2.1 (14, l, 0) 5)) ^^^ (S.2.1 (14, l, 0) 6))))) (14, l, 0) 8 ((S.1 (14, l, 0) 8) + 1)) (by omega) (by omega) ((S.2.1 (28, b, t) (S.1 (14, l, 0) 3)) &&& (S.2.1 (14, l, 0) 5))) ?_
      have hw101_13 : WI (putJ (putI (putI (putJ (putJ S (30, l, 0) (S.1 (14, l, 0) 8) (((S.2.1 (28, b, t) (S.1 (14, l, 0) 3)) &&& (S.2.1 (14, l, 0) 5)) &&& ((S.2.1 (14, l, 0) 6) ^^^ (-1)))) (31, l, 0) (S.1 (14, l, 0) 8) ((S.2.1 (14, l, 0) 6) &&& (((S.2.1 (28, b, t) (S.1 (14, l, 0) 3)) &&& (S.2.1 (14, l, 0) 5)) ^^^ (-1)))) (14, l, 0) 9 ((S.1 (14, l, 0) 9) + (fBits (((S.2.1 (28, b, t) (S.1 (14, l, 0) 3)) &&& (S.2.1 (14, l, 0) 5)) ^^^ (S.2.1 (14, l, 0) 6))))) (14, l, 0) 8 ((S.1 (14, l, 0) 8) + 1)) (14, l, 0) 6 ((S.2.1 (28, b, t) (S.1 (14, l, 0) 3)) &&& (S.2.1 (14, l, 0) 5))) := hw96_12.puJ
      exact x_vret dX1_hear_104 rfl (pVe (by unfold sHear; rw [if_pos ⟨fun z => c21 (lg0.mpr z), by omega⟩]; rfl))
