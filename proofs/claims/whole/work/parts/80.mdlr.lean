/-! the reference: digest, seal, hours -/
theorem jI_toInt {a : Int} (h : zR a) : (jI a).toInt = a := by
  unfold jI
  rw [Int32.toInt_toInt64]
  exact zI_toInt h
theorem chain_j {x : Int64} {s n : Int} (hx : x = jI s) (s0 : 0 ≤ s) (s1 : s ≤ 65520) (n0 : 0 ≤ n) (n1 : n ≤ 65520) : (31 * x + jI n) - (31 * x + jI n) / 65521 * 65521 = jI (fCh s n) := by
  have f := fCh_in s n
  have hs : (jI s).toInt = s := jI_toInt ⟨by omega, by omega⟩
  have hn : (jI n).toInt = n := jI_toInt ⟨by omega, by omega⟩
  have hf : (jI (fCh s n)).toInt = fCh s n := jI_toInt ⟨by omega, by omega⟩
  have e1 : (31 * x : Int64).toInt = 31 * s := by
    rw [hx, Int64.toInt_mul, hs, show (31 : Int64).toInt = 31 by decide]
    exact Int.bmod_eq_of_le (by omega) (by omega)
  have e : (31 * x + jI n).toInt = 31 * s + n := by
    rw [Int64.toInt_add, e1, hn]
    exact Int.bmod_eq_of_le (by omega) (by omega)
  generalize 31 * x + jI n = y at e
  have e2 : (y / 65521).toInt = (31 * s + n) / 65521 := by
    rw [Int64.toInt_div, e, show (65521 : Int64).toInt = 65521 by decide, Int.tdiv_eq_ediv_of_nonneg (by omega)]
    exact Int.bmod_eq_of_le (by omega) (by omega)
  have e3 : (y / 65521 * 65521).toInt = (31 * s + n) / 65521 * 65521 := by
    rw [Int64.toInt_mul, e2, show (65521 : Int64).toInt = 65521 by decide]
    exact Int.bmod_eq_of_le (by omega) (by omega)
  apply Int64.toInt_inj.mp
  rw [Int64.toInt_sub, e, e3, hf]
  unfold fCh
  rw [Int.bmod_eq_of_le (by omega) (by omega)]
  omega
theorem jI_i {a : Int} (h0 : 0 ≤ a) (h1 : a ≤ 65520) : (jI a).toInt32.toInt = a := by
  have e := jI_toInt (a := a) ⟨by omega, by omega⟩
  rw [Int64.toInt_toInt32, e]
  exact Int.bmod_eq_of_le (by omega) (by omega)
def slN (C : XS) (b : Int) : Nat → Int
  | 0 => 1
  | n + 1 => fCh (slN C b n) (fDigest C (13, b, n))
theorem slN_in (C : XS) (b : Int) (n : Nat) : 0 ≤ slN C b n ∧ slN C b n ≤ 65520 := by
  cases n with
  | zero => exact ⟨(by decide : (0 : Int) ≤ 1), (by decide : (1 : Int) ≤ 65520)⟩
  | succ n => exact fCh_in _ _
set_option maxHeartbeats 4000000 in
set_option maxRecDepth 100000 in
theorem m_digest (C S : XS) (hC : WI C) (hw : WI S) (ht : MRt C S) (b k : Int) (b0 : 0 ≤ b) (b1 : b < 4) (k0 : 0 ≤ k) (k1 : k < C.1 (9, b, 0) 3) : X mX9_digest 0 (xEnt mX9_digest [xR (50, 0, 0), xI (60 * b + k)]) [] (hp S) 0 0 (pRet (xI (fDigest C (13, b, k))) (hp S)) := by
  have c9 := wf9_3 hC b0 b1
  obtain ⟨t1, t2, t3, t4, -, -⟩ := ht b k b0 b1 k0 k1
  have g2 := wf13_2 hC b0 b1 k0 (show k < 60 by omega)
  have g3 := wf13_3 hC b0 b1 k0 (show k < 60 by omega)
  have g4 := wf13_4 hC b0 b1 k0 (show k < 60 by omega)
  have fi0 := kd_fact (C.1 (13, b, k) 0) (C.1 (13, b, k) 1)
  have fi1 := kd_tell (C.1 (13, b, k) 0) (C.1 (13, b, k) 1)
  have fi2 := kd_on (C.1 (13, b, k) 0) (C.1 (13, b, k) 1)
  have hz := hw.1
  show X mX9_digest 0 [xR (50, 0, 0), xI (60 * b + k), none, none] [] (hp S) 0 0 _
  refine x_aload_n dX9_digest_0 rfl ?_
  refine x_get (v := xR (51, 0, 0)) dX9_digest_1 fl_RX9_9 (hp50 S) rfl ?_
  refine x_iload_n dX9_digest_4 rfl ?_
  refine x_aldc (f := S.1 (51, 0, 0)) dX9_digest_5 (hp51 S) (show (51 : Nat) ≠ 99 by decide) (by omega) (by omega) (by decide) ?_
  have f5_1 := wfa51 hw (S := S) (60 * b + k)
  refine x_bipush (v := 104) dX9_digest_6 (by decide) ?_
  refine x_icmp_ne (tgt := 17) dX9_digest_8 (by decide) (by first | exact hz _ _ | exact hw.1 _ _ | exact zR_of _ | exact bI_z _ | assumption | exact ⟨by omega, by omega⟩) ⟨by decide, by decide⟩ (fun c8 => ?_) (fun c8 => ?_)
  · refine x_aload_n dX9_digest_17 rfl ?_
    refine x_get (v := xR (51, 0, 0)) dX9_digest_18 fl_RX9_9 (hp50 S) rfl ?_
    refine x_iload_n dX9_digest_21 rfl ?_
    refine x_aldc (f := S.1 (51, 0, 0)) dX9_digest_22 (hp51 S) (show (51 : Nat) ≠ 99 by decide) (by omega) (by omega) (by decide) ?_
    have f22_2 := wfa51 hw (S := S) (60 * b + k)
    refine x_bipush (v := 117) dX9_digest_23 (by decide) ?_
    refine x_icmp_ne (tgt := 34) dX9_digest_25 (by decide) (by first | exact hz _ _ | exact hw.1 _ _ | exact zR_of _ | exact bI_z _ | assumption | exact ⟨by omega, by omega⟩) ⟨by decide, by decide⟩ (fun c25 => ?_) (fun c25 => ?_)
    · refine x_aload_n dX9_digest_34 rfl ?_
      refine x_get (v := xR (51, 0, 0)) dX9_digest_35 fl_RX9_9 (hp50 S) rfl ?_
      refine x_iload_n dX9_digest_38 rfl ?_
      refine x_aldc (f := S.1 (51, 0, 0)) dX9_digest_39 (hp51 S) (show (51 : Nat) ≠ 99 by decide) (by omega) (by omega) (by decide) ?_
      have f39_3 := wfa51 hw (S := S) (60 * b + k)
      refine x_bipush (v := 110) dX9_digest_40 (by decide) ?_
      refine x_icmp_ne (tgt := 51) dX9_digest_42 (by decide) (by first | exact hz _ _ | exact hw.1 _ _ | exact zR_of _ | exact bI_z _ | assumption | exact ⟨by omega, by omega⟩) ⟨by decide, by decide⟩ (fun c42 => ?_) (fun c42 => ?_)
      · refine x_ldc2 (v := 17) dX9_digest_51 wd1420 ?_
        refine x_lstore_n (L' := [xR (50, 0, 0), xI (60 * b + k), xJ 17, none]) dX9_digest_54 (by decide) rfl ?_
        refine x_ldc2 (v := 31) dX9_digest_55 wd1412 ?_
        refine x_lload_n dX9_digest_58 rfl ?_
        refine x_lmul dX9_digest_59 ?_
        refine x_aload_n dX9_digest_60 rfl ?_
        refine x_get (v := xR (52, 0, 0)) dX9_digest_61 fl_RX9_13 (hp50 S) rfl ?_
        refine x_iload_n dX9_digest_64 rfl ?_
        refine x_aldi (f := S.1 (52, 0, 0)) dX9_digest_65 (hp52 S) (show (52 : Nat) ≠ 99 by decide) (by omega) (by omega) (by decide) ?_
        have f65_4 := wfa52 hw (S := S) (60 * b + k)
        refine x_i2l dX9_digest_66 ?_
        refine x_ladd dX9_digest_67 ?_
        refine x_ldc2 (v := 65521) dX9_digest_68 wd1421 ?_
        refine x_lrem dX9_digest_71 (by decide) ?_
        refine x_topJ (show ((31 * 17) + (jI (S.1 (52, 0, 0) (60 * b + k)))) - ((31 * 17) + (jI (S.1 (52, 0, 0) (60 * b + k)))) / 65521 * 65521 = jI (fCh 17 (C.1 (13, b, k) 2)) from by rw [t2]; exact chain_j (s := 17) (by decide) (by decide) (by decide) (by omega) (by omega)) ?_
        refine x_lstore_n (L' := [xR (50, 0, 0), xI (60 * b + k), xJ (jI (fCh 17 (C.1 (13, b, k) 2))), none]) dX9_digest_72 (by decide) rfl ?_
        refine x_aload_n dX9_digest_73 rfl ?_
        refine x_get (v := xR (51, 0, 0)) dX9_digest_74 fl_RX9_9 (hp50 S) rfl ?_
        refine x_iload_n dX9_digest_77 rfl ?_
        refine x_aldc (f := S.1 (51, 0, 0)) dX9_digest_78 (hp51 S) (show (51 : Nat) ≠ 99 by decide) (by omega) (by omega) (by decide) ?_
        have f78_5 := wfa51 hw (S := S) (60 * b + k)
        refine x_callS_r (a := 0) (b := 0) (as := [xI (S.1 (51, 0, 0) (60 * b + k))]) (rest := []) ok_X9_isOfFact dX9_digest_79 wd1230 wd1231 (m_isOfFact S (S.1 (51, 0, 0) (60 * b + k)) (by first | exact hz _ _ | exact hw.1 _ _ | exact zR_of _ | exact bI_z _ | assumption | exact ⟨by omega, by omega⟩)) rfl (Nat.le_of_ble_eq_true rfl) (Nat.le_of_ble_eq_true rfl) (by decide) (by omega) (by omega) ?_
        by_cases b79 : (S.1 (51, 0, 0) (60 * b + k)) = 104 ∨ (S.1 (51, 0, 0) (60 * b + k)) = 117
        · refine x_top (bI_t b79) ?_
          refine x_if_eq (tgt := 121) dX9_digest_82 (by decide) ⟨by decide, by decide⟩ (fun z => absurd z (by decide)) (fun _ => ?_)
          refine x_ldc2 (v := 31) dX9_digest_85 wd1412 ?_
          refine x_lload_n dX9_digest_88 rfl ?_
          refine x_lmul dX9_digest_89 ?_
          refine x_aload_n dX9_digest_90 rfl ?_
          refine x_get (v := xR (53, 0, 0)) dX9_digest_91 fl_RX9_17 (hp50 S) rfl ?_
          refine x_iload_n dX9_digest_94 rfl ?_
          refine x_aldi (f := S.1 (53, 0, 0)) dX9_digest_95 (hp53 S) (show (53 : Nat) ≠ 99 by decide) (by omega) (by omega) (by decide) ?_
          have f95_6 := wfa53 hw (S := S) (60 * b + k)
          refine x_i2l dX9_digest_96 ?_
          refine x_ladd dX9_digest_97 ?_
          refine x_ldc2 (v := 65521) dX9_digest_98 wd1421 ?_
          refine x_lrem dX9_digest_101 (by decide) ?_
          refine x_topJ (show ((31 * (jI (fCh 17 (C.1 (13, b, k) 2)))) + (jI (S.1 (53, 0, 0) (60 * b + k)))) - ((31 * (jI (fCh 17 (C.1 (13, b, k) 2)))) + (jI (S.1 (53, 0, 0) (60 * b + k)))) / 65521 * 65521 = jI (fCh (fCh 17 (C.1 (13, b, k) 2)) (C.1 (13, b, k) 3)) from by rw [t3]; exact chain_j rfl (fCh_in _ _).1 (fCh_in _ _).2 (by omega) (by omega)) ?_
          refine x_lstore_n (L' := [xR (50, 0, 0), xI (60 * b + k), xJ (jI (fCh (fCh 17 (C.1 (13, b, k) 2)) (C.1 (13, b, k) 3))), none]) dX9_digest_102 (by decide) rfl ?_
          refine x_ldc2 (v := 31) dX9_digest_103 wd1412 ?_
          refine x_lload_n dX9_digest_106 rfl ?_
          refine x_lmul dX9_digest_107 ?_
          refine x_aload_n dX9_digest_108 rfl ?_
          refine x_get (v := xR (54, 0, 0)) dX9_digest_109 fl_RX9_20 (hp50 S) rfl ?_
          refine x_iload_n dX9_digest_112 rfl ?_
          refine x_aldi (f := S.1 (54, 0, 0)) dX9_digest_113 (hp54 S) (show (54 : Nat) ≠ 99 by decide) (by omega) (by omega) (by decide) ?_
          have f113_7 := wfa54 hw (S := S) (60 * b + k)
          refine x_i2l dX9_digest_114 ?_
          refine x_ladd dX9_digest_115 ?_
          refine x_ldc2 (v := 65521) dX9_digest_116 wd1421 ?_
          refine x_lrem dX9_digest_119 (by decide) ?_
          refine x_topJ (show ((31 * (jI (fCh (fCh 17 (C.1 (13, b, k) 2)) (C.1 (13, b, k) 3)))) + (jI (S.1 (54, 0, 0) (60 * b + k)))) - ((31 * (jI (fCh (fCh 17 (C.1 (13, b, k) 2)) (C.1 (13, b, k) 3)))) + (jI (S.1 (54, 0, 0) (60 * b + k)))) / 65521 * 65521 = jI (fCh (fCh (fCh 17 (C.1 (13, b, k) 2)) (C.1 (13, b, k) 3)) (C.1 (13, b, k) 4)) from by rw [t4]; exact chain_j rfl (fCh_in _ _).1 (fCh_in _ _).2 (by omega) (by omega)) ?_
          refine x_lstore_n (L' := [xR (50, 0, 0), xI (60 * b + k), xJ (jI (fCh (fCh (fCh 17 (C.1 (13, b, k) 2)) (C.1 (13, b, k) 3)) (C.1 (13, b, k) 4))), none]) dX9_digest_120 (by decide) rfl ?_
          refine x_lload_n dX9_digest_121 rfl ?_
          refine x_l2i dX9_digest_122 ?_
          exact x_iret dX9_digest_123 rfl (by first | (exfalso; omega) | exact pRI (by rw [jI_i (fCh_in _ _).1 (fCh_in _ _).2]; unfold fDigest; first | (rw [if_pos (by omega), if_pos (by omega)]) | (rw [if_pos (by omega), if_neg (by omega)]) | (rw [if_neg (by omega), if_pos (by omega)]) | (rw [if_neg (by omega), if_neg (by omega)])))
        · refine x_top (bI_f b79) ?_
          refine x_if_eq (tgt := 121) dX9_digest_82 (by decide) ⟨by decide, by decide⟩ (fun _ => ?_) (fun z => absurd z (by decide))
          refine x_lload_n dX9_digest_121 rfl ?_
          refine x_l2i dX9_digest_122 ?_
          exact x_iret dX9_digest_123 rfl (by first | (exfalso; omega) | exact pRI (by rw [jI_i (fCh_in _ _).1 (fCh_in _ _).2]; unfold fDigest; first | (rw [if_pos (by omega), if_pos (by omega)]) | (rw [if_pos (by omega), if_neg (by omega)]) | (rw [if_neg (by omega), if_pos (by omega)]) | (rw [if_neg (by omega), if_neg (by omega)])))
      · refine x_ldc2 (v := 13) dX9_digest_45 wd1419 ?_
        refine x_goto (tgt := 54) dX9_digest_48 (by decide) ?_
        refine x_lstore_n (L' := [xR (50, 0, 0), xI (60 * b + k), xJ 13, none]) dX9_digest_54 (by decide) rfl ?_
        refine x_ldc2 (v := 31) dX9_digest_55 wd1412 ?_
        refine x_lload_n dX9_digest_58 rfl ?_
        refine x_lmul dX9_digest_59 ?_
        refine x_aload_n dX9_digest_60 rfl ?_
        refine x_get (v := xR (52, 0, 0)) dX9_digest_61 fl_RX9_13 (hp50 S) rfl ?_
        refine x_iload_n dX9_digest_64 rfl ?_
        refine x_aldi (f := S.1 (52, 0, 0)) dX9_digest_65 (hp52 S) (show (52 : Nat) ≠ 99 by decide) (by omega) (by omega) (by decide) ?_
        have f65_8 := wfa52 hw (S := S) (60 * b + k)
        refine x_i2l dX9_digest_66 ?_
        refine x_ladd dX9_digest_67 ?_
        refine x_ldc2 (v := 65521) dX9_digest_68 wd1421 ?_
        refine x_lrem dX9_digest_71 (by decide) ?_
        refine x_topJ (show ((31 * 13) + (jI (S.1 (52, 0, 0) (60 * b + k)))) - ((31 * 13) + (jI (S.1 (52, 0, 0) (60 * b + k)))) / 65521 * 65521 = jI (fCh 13 (C.1 (13, b, k) 2)) from by rw [t2]; exact chain_j (s := 13) (by decide) (by decide) (by decide) (by omega) (by omega)) ?_
        refine x_lstore_n (L' := [xR (50, 0, 0), xI (60 * b + k), xJ (jI (fCh 13 (C.1 (13, b, k) 2))), none]) dX9_digest_72 (by decide) rfl ?_
        refine x_aload_n dX9_digest_73 rfl ?_
        refine x_get (v := xR (51, 0, 0)) dX9_digest_74 fl_RX9_9 (hp50 S) rfl ?_
        refine x_iload_n dX9_digest_77 rfl ?_
        refine x_aldc (f := S.1 (51, 0, 0)) dX9_digest_78 (hp51 S) (show (51 : Nat) ≠ 99 by decide) (by omega) (by omega) (by decide) ?_
        have f78_9 := wfa51 hw (S := S) (60 * b + k)
        refine x_callS_r (a := 0) (b := 0) (as := [xI (S.1 (51, 0, 0) (60 * b + k))]) (rest := []) ok_X9_isOfFact dX9_digest_79 wd1230 wd1231 (m_isOfFact S (S.1 (51, 0, 0) (60 * b + k)) (by first | exact hz _ _ | exact hw.1 _ _ | exact zR_of _ | exact bI_z _ | assumption | exact ⟨by omega, by omega⟩)) rfl (Nat.le_of_ble_eq_true rfl) (Nat.le_of_ble_eq_true rfl) (by decide) (by omega) (by omega) ?_
        by_cases b79 : (S.1 (51, 0, 0) (60 * b + k)) = 104 ∨ (S.1 (51, 0, 0) (60 * b + k)) = 117
        · refine x_top (bI_t b79) ?_
          refine x_if_eq (tgt := 121) dX9_digest_82 (by decide) ⟨by decide, by decide⟩ (fun z => absurd z (by decide)) (fun _ => ?_)
          refine x_ldc2 (v := 31) dX9_digest_85 wd1412 ?_
          refine x_lload_n dX9_digest_88 rfl ?_
          refine x_lmul dX9_digest_89 ?_
          refine x_aload_n dX9_digest_90 rfl ?_
          refine x_get (v := xR (53, 0, 0)) dX9_digest_91 fl_RX9_17 (hp50 S) rfl ?_
          refine x_iload_n dX9_digest_94 rfl ?_
          refine x_aldi (f := S.1 (53, 0, 0)) dX9_digest_95 (hp53 S) (show (53 : Nat) ≠ 99 by decide) (by omega) (by omega) (by decide) ?_
          have f95_10 := wfa53 hw (S := S) (60 * b + k)
          refine x_i2l dX9_digest_96 ?_
          refine x_ladd dX9_digest_97 ?_
          refine x_ldc2 (v := 65521) dX9_digest_98 wd1421 ?_
          refine x_lrem dX9_digest_101 (by decide) ?_
          refine x_topJ (show ((31 * (jI (fCh 13 (C.1 (13, b, k) 2)))) + (jI (S.1 (53, 0, 0) (60 * b + k)))) - ((31 * (jI (fCh 13 (C.1 (13, b, k) 2)))) + (jI (S.1 (53, 0, 0) (60 * b + k)))) / 65521 * 65521 = jI (fCh (fCh 13 (C.1 (13, b, k) 2)) (C.1 (13, b, k) 3)) from by rw [t3]; exact chain_j rfl (fCh_in _ _).1 (fCh_in _ _).2 (by omega) (by omega)) ?_
          refine x_lstore_n (L' := [xR (50, 0, 0), xI (60 * b + k), xJ (jI (fCh (fCh 13 (C.1 (13, b, k) 2)) (C.1 (13, b, k) 3))), none]) dX9_digest_102 (by decide) rfl ?_
          refine x_ldc2 (v := 31) dX9_digest_103 wd1412 ?_
          refine x_lload_n dX9_digest_106 rfl ?_
          refine x_lmul dX9_digest_107 ?_
          refine x_aload_n dX9_digest_108 rfl ?_
          refine x_get (v := xR (54, 0, 0)) dX9_digest_109 fl_RX9_20 (hp50 S) rfl ?_
          refine x_iload_n dX9_digest_112 rfl ?_
          refine x_aldi (f := S.1 (54, 0, 0)) dX9_digest_113 (hp54 S) (show (54 : Nat) ≠ 99 by decide) (by omega) (by omega) (by decide) ?_
          have f113_11 := wfa54 hw (S := S) (60 * b + k)
          refine x_i2l dX9_digest_114 ?_
          refine x_ladd dX9_digest_115 ?_
          refine x_ldc2 (v := 65521) dX9_digest_116 wd1421 ?_
          refine x_lrem dX9_digest_119 (by decide) ?_
          refine x_topJ (show ((31 * (jI (fCh (fCh 13 (C.1 (13, b, k) 2)) (C.1 (13, b, k) 3)))) + (jI (S.1 (54, 0, 0) (60 * b + k)))) - ((31 * (jI (fCh (fCh 13 (C.1 (13, b, k) 2)) (C.1 (13, b, k) 3)))) + (jI (S.1 (54, 0, 0) (60 * b + k)))) / 65521 * 65521 = jI (fCh (fCh (fCh 13 (C.1 (13, b, k) 2)) (C.1 (13, b, k) 3)) (C.1 (13, b, k) 4)) from by rw [t4]; exact chain_j rfl (fCh_in _ _).1 (fCh_in _ _).2 (by omega) (by omega)) ?_
          refine x_lstore_n (L' := [xR (50, 0, 0), xI (60 * b + k), xJ (jI (fCh (fCh (fCh 13 (C.1 (13, b, k) 2)) (C.1 (13, b, k) 3)) (C.1 (13, b, k) 4))), none]) dX9_digest_120 (by decide) rfl ?_
          refine x_lload_n dX9_digest_121 rfl ?_
          refine x_l2i dX9_digest_122 ?_
          exact x_iret dX9_digest_123 rfl (by first | (exfalso; omega) | exact pRI (by rw [jI_i (fCh_in _ _).1 (fCh_in _ _).2]; unfold fDigest; first | (rw [if_pos (by omega), if_pos (by omega)]) | (rw [if_pos (by omega), if_neg (by omega)]) | (rw [if_neg (by omega), if_pos (by omega)]) | (rw [if_neg (by omega), if_neg (by omega)])))
        · refine x_top (bI_f b79) ?_
          refine x_if_eq (tgt := 121) dX9_digest_82 (by decide) ⟨by decide, by decide⟩ (fun _ => ?_) (fun z => absurd z (by decide))
          refine x_lload_n dX9_digest_121 rfl ?_
          refine x_l2i dX9_digest_122 ?_
          exact x_iret dX9_digest_123 rfl (by first | (exfalso; omega) | exact pRI (by rw [jI_i (fCh_in _ _).1 (fCh_in _ _).2]; unfold fDigest; first | (rw [if_pos (by omega), if_pos (by omega)]) | (rw [if_pos (by omega), if_neg (by omega)]) | (rw [if_neg (by omega), if_pos (by omega)]) | (rw [if_neg (by omega), if_neg (by omega)])))
    · refine x_ldc2 (v := 11) dX9_digest_28 wd1418 ?_
      refine x_goto (tgt := 54) dX9_digest_31 (by decide) ?_
      refine x_lstore_n (L' := [xR (50, 0, 0), xI (60 * b + k), xJ 11, none]) dX9_digest_54 (by decide) rfl ?_
      refine x_ldc2 (v := 31) dX9_digest_55 wd1412 ?_
      refine x_lload_n dX9_digest_58 rfl ?_
      refine x_lmul dX9_digest_59 ?_
      refine x_aload_n dX9_digest_60 rfl ?_
      refine x_get (v := xR (52, 0, 0)) dX9_digest_61 fl_RX9_13 (hp50 S) rfl ?_
      refine x_iload_n dX9_digest_64 rfl ?_
      refine x_aldi (f := S.1 (52, 0, 0)) dX9_digest_65 (hp52 S) (show (52 : Nat) ≠ 99 by decide) (by omega) (by omega) (by decide) ?_
      have f65_12 := wfa52 hw (S := S) (60 * b + k)
      refine x_i2l dX9_digest_66 ?_
      refine x_ladd dX9_digest_67 ?_
      refine x_ldc2 (v := 65521) dX9_digest_68 wd1421 ?_
      refine x_lrem dX9_digest_71 (by decide) ?_
      refine x_topJ (show ((31 * 11) + (jI (S.1 (52, 0, 0) (60 * b + k)))) - ((31 * 11) + (jI (S.1 (52, 0, 0) (60 * b + k)))) / 65521 * 65521 = jI (fCh 11 (C.1 (13, b, k) 2)) from by rw [t2]; exact chain_j (s := 11) (by decide) (by decide) (by decide) (by omega) (by omega)) ?_
      refine x_lstore_n (L' := [xR (50, 0, 0), xI (60 * b + k), xJ (jI (fCh 11 (C.1 (13, b, k) 2))), none]) dX9_digest_72 (by decide) rfl ?_
      refine x_aload_n dX9_digest_73 rfl ?_
      refine x_get (v := xR (51, 0, 0)) dX9_digest_74 fl_RX9_9 (hp50 S) rfl ?_
      refine x_iload_n dX9_digest_77 rfl ?_
      refine x_aldc (f := S.1 (51, 0, 0)) dX9_digest_78 (hp51 S) (show (51 : Nat) ≠ 99 by decide) (by omega) (by omega) (by decide) ?_
      have f78_13 := wfa51 hw (S := S) (60 * b + k)
      refine x_callS_r (a := 0) (b := 0) (as := [xI (S.1 (51, 0, 0) (60 * b + k))]) (rest := []) ok_X9_isOfFact dX9_digest_79 wd1230 wd1231 (m_isOfFact S (S.1 (51, 0, 0) (60 * b + k)) (by first | exact hz _ _ | exact hw.1 _ _ | exact zR_of _ | exact bI_z _ | assumption | exact ⟨by omega, by omega⟩)) rfl (Nat.le_of_ble_eq_true rfl) (Nat.le_of_ble_eq_true rfl) (by decide) (by omega) (by omega) ?_
      by_cases b79 : (S.1 (51, 0, 0) (60 * b + k)) = 104 ∨ (S.1 (51, 0, 0) (60 * b + k)) = 117
      · refine x_top (bI_t b79) ?_
        refine x_if_eq (tgt := 121) dX9_digest_82 (by decide) ⟨by decide, by decide⟩ (fun z => absurd z (by decide)) (fun _ => ?_)
        refine x_ldc2 (v := 31) dX9_digest_85 wd1412 ?_
        refine x_lload_n dX9_digest_88 rfl ?_
        refine x_lmul dX9_digest_89 ?_
        refine x_aload_n dX9_digest_90 rfl ?_
        refine x_get (v := xR (53, 0, 0)) dX9_digest_91 fl_RX9_17 (hp50 S) rfl ?_
        refine x_iload_n dX9_digest_94 rfl ?_
        refine x_aldi (f := S.1 (53, 0, 0)) dX9_digest_95 (hp53 S) (show (53 : Nat) ≠ 99 by decide) (by omega) (by omega) (by decide) ?_
        have f95_14 := wfa53 hw (S := S) (60 * b + k)
        refine x_i2l dX9_digest_96 ?_
        refine x_ladd dX9_digest_97 ?_
        refine x_ldc2 (v := 65521) dX9_digest_98 wd1421 ?_
        refine x_lrem dX9_digest_101 (by decide) ?_
        refine x_topJ (show ((31 * (jI (fCh 11 (C.1 (13, b, k) 2)))) + (jI (S.1 (53, 0, 0) (60 * b + k)))) - ((31 * (jI (fCh 11 (C.1 (13, b, k) 2)))) + (jI (S.1 (53, 0, 0) (60 * b + k)))) / 65521 * 65521 = jI (fCh (fCh 11 (C.1 (13, b, k) 2)) (C.1 (13, b, k) 3)) from by rw [t3]; exact chain_j rfl (fCh_in _ _).1 (fCh_in _ _).2 (by omega) (by omega)) ?_
        refine x_lstore_n (L' := [xR (50, 0, 0), xI (60 * b + k), xJ (jI (fCh (fCh 11 (C.1 (13, b, k) 2)) (C.1 (13, b, k) 3))), none]) dX9_digest_102 (by decide) rfl ?_
        refine x_ldc2 (v := 31) dX9_digest_103 wd1412 ?_
        refine x_lload_n dX9_digest_106 rfl ?_
        refine x_lmul dX9_digest_107 ?_
        refine x_aload_n dX9_digest_108 rfl ?_
        refine x_get (v := xR (54, 0, 0)) dX9_digest_109 fl_RX9_20 (hp50 S) rfl ?_
        refine x_iload_n dX9_digest_112 rfl ?_
        refine x_aldi (f := S.1 (54, 0, 0)) dX9_digest_113 (hp54 S) (show (54 : Nat) ≠ 99 by decide) (by omega) (by omega) (by decide) ?_
        have f113_15 := wfa54 hw (S := S) (60 * b + k)
        refine x_i2l dX9_digest_114 ?_
        refine x_ladd dX9_digest_115 ?_
        refine x_ldc2 (v := 65521) dX9_digest_116 wd1421 ?_
        refine x_lrem dX9_digest_119 (by decide) ?_
        refine x_topJ (show ((31 * (jI (fCh (fCh 11 (C.1 (13, b, k) 2)) (C.1 (13, b, k) 3)))) + (jI (S.1 (54, 0, 0) (60 * b + k)))) - ((31 * (jI (fCh (fCh 11 (C.1 (13, b, k) 2)) (C.1 (13, b, k) 3)))) + (jI (S.1 (54, 0, 0) (60 * b + k)))) / 65521 * 65521 = jI (fCh (fCh (fCh 11 (C.1 (13, b, k) 2)) (C.1 (13, b, k) 3)) (C.1 (13, b, k) 4)) from by rw [t4]; exact chain_j rfl (fCh_in _ _).1 (fCh_in _ _).2 (by omega) (by omega)) ?_
        refine x_lstore_n (L' := [xR (50, 0, 0), xI (60 * b + k), xJ (jI (fCh (fCh (fCh 11 (C.1 (13, b, k) 2)) (C.1 (13, b, k) 3)) (C.1 (13, b, k) 4))), none]) dX9_digest_120 (by decide) rfl ?_
        refine x_lload_n dX9_digest_121 rfl ?_
        refine x_l2i dX9_digest_122 ?_
        exact x_iret dX9_digest_123 rfl (by first | (exfalso; omega) | exact pRI (by rw [jI_i (fCh_in _ _).1 (fCh_in _ _).2]; unfold fDigest; first | (rw [if_pos (by omega), if_pos (by omega)]) | (rw [if_pos (by omega), if_neg (by omega)]) | (rw [if_neg (by omega), if_pos (by omega)]) | (rw [if_neg (by omega), if_neg (by omega)])))
      · refine x_top (bI_f b79) ?_
        refine x_if_eq (tgt := 121) dX9_digest_82 (by decide) ⟨by decide, by decide⟩ (fun _ => ?_) (fun z => absurd z (by decide))
        refine x_lload_n dX9_digest_121 rfl ?_
        refine x_l2i dX9_digest_122 ?_
        exact x_iret dX9_digest_123 rfl (by first | (exfalso; omega) | exact pRI (by rw [jI_i (fCh_in _ _).1 (fCh_in _ _).2]; unfold fDigest; first | (rw [if_pos (by omega), if_pos (by omega)]) | (rw [if_pos (by omega), if_neg (by omega)]) | (rw [if_neg (by omega), if_pos (by omega)]) | (rw [if_neg (by omega), if_neg (by omega)])))
  · refine x_ldc2 (v := 7) dX9_digest_11 wd1417 ?_
    refine x_goto (tgt := 54) dX9_digest_14 (by decide) ?_
    refine x_lstore_n (L' := [xR (50, 0, 0), xI (60 * b + k), xJ 7, none]) dX9_digest_54 (by decide) rfl ?_
    refine x_ldc2 (v := 31) dX9_digest_55 wd1412 ?_
    refine x_lload_n dX9_digest_58 rfl ?_
    refine x_lmul dX9_digest_59 ?_
    refine x_aload_n dX9_digest_60 rfl ?_
    refine x_get (v := xR (52, 0, 0)) dX9_digest_61 fl_RX9_13 (hp50 S) rfl ?_
    refine x_iload_n dX9_digest_64 rfl ?_
    refine x_aldi (f := S.1 (52, 0, 0)) dX9_digest_65 (hp52 S) (show (52 : Nat) ≠ 99 by decide) (by omega) (by omega) (by decide) ?_
    have f65_16 := wfa52 hw (S := S) (60 * b + k)
    refine x_i2l dX9_digest_66 ?_
    refine x_ladd dX9_digest_67 ?_
    refine x_ldc2 (v := 65521) dX9_digest_68 wd1421 ?_
    refine x_lrem dX9_digest_71 (by decide) ?_
    refine x_topJ (show ((31 * 7) + (jI (S.1 (52, 0, 0) (60 * b + k)))) - ((31 * 7) + (jI (S.1 (52, 0, 0) (60 * b + k)))) / 65521 * 65521 = jI (fCh 7 (C.1 (13, b, k) 2)) from by rw [t2]; exact chain_j (s := 7) (by decide) (by decide) (by decide) (by omega) (by omega)) ?_
    refine x_lstore_n (L' := [xR (50, 0, 0), xI (60 * b + k), xJ (jI (fCh 7 (C.1 (13, b, k) 2))), none]) dX9_digest_72 (by decide) rfl ?_
    refine x_aload_n dX9_digest_73 rfl ?_
    refine x_get (v := xR (51, 0, 0)) dX9_digest_74 fl_RX9_9 (hp50 S) rfl ?_
    refine x_iload_n dX9_digest_77 rfl ?_
    refine x_aldc (f := S.1 (51, 0, 0)) dX9_digest_78 (hp51 S) (show (51 : Nat) ≠ 99 by decide) (by omega) (by omega) (by decide) ?_
    have f78_17 := wfa51 hw (S := S) (60 * b + k)
    refine x_callS_r (a := 0) (b := 0) (as := [xI (S.1 (51, 0, 0) (60 * b + k))]) (rest := []) ok_X9_isOfFact dX9_digest_79 wd1230 wd1231 (m_isOfFact S (S.1 (51, 0, 0) (60 * b + k)) (by first | exact hz _ _ | exact hw.1 _ _ | exact zR_of _ | exact bI_z _ | assumption | exact ⟨by omega, by omega⟩)) rfl (Nat.le_of_ble_eq_true rfl) (Nat.le_of_ble_eq_true rfl) (by decide) (by omega) (by omega) ?_
    by_cases b79 : (S.1 (51, 0, 0) (60 * b + k)) = 104 ∨ (S.1 (51, 0, 0) (60 * b + k)) = 117
    · refine x_top (bI_t b79) ?_
      refine x_if_eq (tgt := 121) dX9_digest_82 (by decide) ⟨by decide, by decide⟩ (fun z => absurd z (by decide)) (fun _ => ?_)
      refine x_ldc2 (v := 31) dX9_digest_85 wd1412 ?_
      refine x_lload_n dX9_digest_88 rfl ?_
      refine x_lmul dX9_digest_89 ?_
      refine x_aload_n dX9_digest_90 rfl ?_
      refine x_get (v := xR (53, 0, 0)) dX9_digest_91 fl_RX9_17 (hp50 S) rfl ?_
      refine x_iload_n dX9_digest_94 rfl ?_
      refine x_aldi (f := S.1 (53, 0, 0)) dX9_digest_95 (hp53 S) (show (53 : Nat) ≠ 99 by decide) (by omega) (by omega) (by decide) ?_
      have f95_18 := wfa53 hw (S := S) (60 * b + k)
      refine x_i2l dX9_digest_96 ?_
      refine x_ladd dX9_digest_97 ?_
      refine x_ldc2 (v := 65521) dX9_digest_98 wd1421 ?_
      refine x_lrem dX9_digest_101 (by decide) ?_
      refine x_topJ (show ((31 * (jI (fCh 7 (C.1 (13, b, k) 2)))) + (jI (S.1 (53, 0, 0) (60 * b + k)))) - ((31 * (jI (fCh 7 (C.1 (13, b, k) 2)))) + (jI (S.1 (53, 0, 0) (60 * b + k)))) / 65521 * 65521 = jI (fCh (fCh 7 (C.1 (13, b, k) 2)) (C.1 (13, b, k) 3)) from by rw [t3]; exact chain_j rfl (fCh_in _ _).1 (fCh_in _ _).2 (by omega) (by omega)) ?_
      refine x_lstore_n (L' := [xR (50, 0, 0), xI (60 * b + k), xJ (jI (fCh (fCh 7 (C.1 (13, b, k) 2)) (C.1 (13, b, k) 3))), none]) dX9_digest_102 (by decide) rfl ?_
      refine x_ldc2 (v := 31) dX9_digest_103 wd1412 ?_
      refine x_lload_n dX9_digest_106 rfl ?_
      refine x_lmul dX9_digest_107 ?_
      refine x_aload_n dX9_digest_108 rfl ?_
      refine x_get (v := xR (54, 0, 0)) dX9_digest_109 fl_RX9_20 (hp50 S) rfl ?_
      refine x_iload_n dX9_digest_112 rfl ?_
      refine x_aldi (f := S.1 (54, 0, 0)) dX9_digest_113 (hp54 S) (show (54 : Nat) ≠ 99 by decide) (by omega) (by omega) (by decide) ?_
      have f113_19 := wfa54 hw (S := S) (60 * b + k)
      refine x_i2l dX9_digest_114 ?_
      refine x_ladd dX9_digest_115 ?_
      refine x_ldc2 (v := 65521) dX9_digest_116 wd1421 ?_
      refine x_lrem dX9_digest_119 (by decide) ?_
      refine x_topJ (show ((31 * (jI (fCh (fCh 7 (C.1 (13, b, k) 2)) (C.1 (13, b, k) 3)))) + (jI (S.1 (54, 0, 0) (60 * b + k)))) - ((31 * (jI (fCh (fCh 7 (C.1 (13, b, k) 2)) (C.1 (13, b, k) 3)))) + (jI (S.1 (54, 0, 0) (60 * b + k)))) / 65521 * 65521 = jI (fCh (fCh (fCh 7 (C.1 (13, b, k) 2)) (C.1 (13, b, k) 3)) (C.1 (13, b, k) 4)) from by rw [t4]; exact chain_j rfl (fCh_in _ _).1 (fCh_in _ _).2 (by omega) (by omega)) ?_
      refine x_lstore_n (L' := [xR (50, 0, 0), xI (60 * b + k), xJ (jI (fCh (fCh (fCh 7 (C.1 (13, b, k) 2)) (C.1 (13, b, k) 3)) (C.1 (13, b, k) 4))), none]) dX9_digest_120 (by decide) rfl ?_
      refine x_lload_n dX9_digest_121 rfl ?_
      refine x_l2i dX9_digest_122 ?_
      exact x_iret dX9_digest_123 rfl (by first | (exfalso; omega) | exact pRI (by rw [jI_i (fCh_in _ _).1 (fCh_in _ _).2]; unfold fDigest; first | (rw [if_pos (by omega), if_pos (by omega)]) | (rw [if_pos (by omega), if_neg (by omega)]) | (rw [if_neg (by omega), if_pos (by omega)]) | (rw [if_neg (by omega), if_neg (by omega)])))
    · refine x_top (bI_f b79) ?_
      refine x_if_eq (tgt := 121) dX9_digest_82 (by decide) ⟨by decide, by decide⟩ (fun _ => ?_) (fun z => absurd z (by decide))
      refine x_lload_n dX9_digest_121 rfl ?_
      refine x_l2i dX9_digest_122 ?_
      exact x_iret dX9_digest_123 rfl (by first | (exfalso; omega) | exact pRI (by rw [jI_i (fCh_in _ _).1 (fCh_in _ _).2]; unfold fDigest; first | (rw [if_pos (by omega), if_pos (by omega)]) | (rw [if_pos (by omega), if_neg (by omega)]) | (rw [if_neg (by omega), if_pos (by omega)]) | (rw [if_neg (by omega), if_neg (by omega)])))
set_option maxHeartbeats 4000000 in
set_option maxRecDepth 100000 in
theorem l_seal (C S : XS) (hC : CB C) (hw : WI S) (hM : MR C S) (i : Int) (i0 : 0 ≤ i) (i1 : i < 4) (n : Nat) (hn : (n : Int) ≤ C.1 (9, i, 0) 3) : ∀ (nn : Nat) (j : Nat), (n : Int) - j < (nn : Int) → (j ≤ n) → X mX9_seal 19 [xR (50, 0, 0), xI i, xI (n : Int), xJ (jI (slN C i j)), none, xI (60 * i + (j : Int))] [] (hp S) 0 0 (pRet (xI (slN C i n)) (hp S)) := by
  intro nn
  induction nn with
  | zero => intro j hm hj; exfalso; omega
  | succ nn ih =>
    intro j hm hj
    have c9 := wf9_3 hC.1 i0 i1
    have hz := hw.1
    refine x_iload dX9_seal_19 rfl ?_
    refine x_iload_n dX9_seal_21 rfl ?_
    refine x_bipush (v := 60) dX9_seal_22 (by decide) ?_
    refine x_imul dX9_seal_24 ?_
    refine x_iload_n dX9_seal_25 rfl ?_
    refine x_iadd dX9_seal_26 ?_
    refine x_icmp_ge (tgt := 54) dX9_seal_27 (by decide) (by first | exact hz _ _ | exact hw.1 _ _ | exact zR_of _ | exact bI_z _ | assumption | exact ⟨by omega, by omega⟩) (by first | exact hz _ _ | exact hw.1 _ _ | exact zR_of _ | exact bI_z _ | assumption | exact ⟨by omega, by omega⟩) (fun c27 => ?_) (fun c27 => ?_)
    · refine x_lload_n dX9_seal_54 rfl ?_
      refine x_l2i dX9_seal_55 ?_
      exact x_iret dX9_seal_56 rfl (by obtain rfl : j = n := (by omega); exact pRI (jI_i (slN_in C i j).1 (slN_in C i j).2))
    · refine x_ldc2 (v := 31) dX9_seal_30 wd1412 ?_
      refine x_lload_n dX9_seal_33 rfl ?_
      refine x_lmul dX9_seal_34 ?_
      refine x_aload_n dX9_seal_35 rfl ?_
      refine x_iload dX9_seal_36 rfl ?_
      refine x_callV_r (a := 0) (b := 0) (as := [xI (60 * i + (j : Int))]) (rest := [xJ (31 * (jI (slN C i j)))]) ok_X9_digest dX9_seal_38 wd1413 ⟨wd1415, wd44⟩ (hp50 S) rfl rfl (m_digest C S hC.1 hw (hM.q (MdQ.rf S)).1 i (j : Int) (by omega) (by omega) (by omega) (by omega)) rfl (Nat.le_of_ble_eq_true rfl) (Nat.le_of_ble_eq_true rfl) (by decide) (by omega) (by omega) ?_
      refine x_i2l dX9_seal_41 ?_
      refine x_ladd dX9_seal_42 ?_
      refine x_ldc2 (v := 65521) dX9_seal_43 wd1421 ?_
      refine x_lrem dX9_seal_46 (by decide) ?_
      refine x_topJ (show ((31 * (jI (slN C i j))) + (jI (fDigest C (13, i, (j : Int))))) - ((31 * (jI (slN C i j))) + (jI (fDigest C (13, i, (j : Int))))) / 65521 * 65521 = jI (slN C i (j + 1)) from chain_j rfl (slN_in C i j).1 (slN_in C i j).2 (fDigest_in _ _).1 (fDigest_in _ _).2) ?_
      refine x_lstore_n (L' := [xR (50, 0, 0), xI i, xI (n : Int), xJ (jI (slN C i (j + 1))), none, xI (60 * i + (j : Int))]) dX9_seal_47 (by decide) rfl ?_
      refine x_iinc (L' := [xR (50, 0, 0), xI i, xI (n : Int), xJ (jI (slN C i (j + 1))), none, xI ((60 * i + (j : Int)) + 1)]) dX9_seal_48 rfl rfl ?_
      refine x_goto (tgt := 19) dX9_seal_51 (by decide) ?_
      have kk := ih (j + 1) (by omega) (by omega)
      rw [show 60 * i + ((j + 1 : Nat) : Int) = 60 * i + (j : Int) + 1 by omega] at kk
      exact kk
set_option maxHeartbeats 4000000 in
set_option maxRecDepth 100000 in
theorem m_seal (C S : XS) (hC : CB C) (hw : WI S) (hM : MR C S) (i n : Int) (zi : zR i) (zn : zR n) : X mX9_seal 0 (xEnt mX9_seal [xR (50, 0, 0), xI i, xI n]) [] (hp S) 0 0 (pM S (fun k z _T => (z = 0 ∧ ((k = 1 ∧ ¬ ((0 ≤ i ∧ i < C.1 (0, 0, 0) 6) ∧ 0 ≤ n ∧ n < C.1 (9, i, 0) 3 + 1)))) ∨ (k = 0 ∧ ((0 ≤ i ∧ i < C.1 (0, 0, 0) 6) ∧ 0 ≤ n ∧ n < C.1 (9, i, 0) 3 + 1) ∧ z = slN C i n.toNat))) := by
  have c6 := wf0_6 hC.1
  have c4 := wf4_2 hC.1
  have h93 : 0 ≤ i → i < C.1 (0, 0, 0) 6 → 0 ≤ C.1 (9, i, 0) 3 ∧ C.1 (9, i, 0) 3 ≤ 60 := fun a b => wf9_3 hC.1 a (by omega)
  obtain ⟨n11, n12, n13, n24⟩ := hM.2.1
  have hz := hw.1
  show X mX9_seal 0 [xR (50, 0, 0), xI i, xI n, none, none, none] [] (hp S) 0 0 _
  refine x_aload_n dX9_seal_0 rfl ?_
  refine x_iload_n dX9_seal_1 rfl ?_
  refine x_iload_n dX9_seal_2 rfl ?_
  refine x_callV (a := 0) (b := 0) (as := [xI i, xI n]) (rest := []) ok_X9_isNoKnowing dX9_seal_3 wd1331 ⟨wd1333, wd39⟩ (hp50 S) rfl rfl (m_isNoKnowing C S hC hw (hM.q (MdQ.rf S)) i n (by first | exact hz _ _ | exact hw.1 _ _ | exact zR_of _ | exact bI_z _ | assumption | exact ⟨by omega, by omega⟩) (by first | exact hz _ _ | exact hw.1 _ _ | exact zR_of _ | exact bI_z _ | assumption | exact ⟨by omega, by omega⟩)) rfl (Nat.le_of_ble_eq_true rfl) (Nat.le_of_ble_eq_true rfl) (by decide) (by omega) (by omega) (fun _ q => by obtain ⟨_, _, _, y, _⟩ := q; cases y) (fun _ _ q => ?_) (fun _ _ q => by obtain ⟨_, _, _, y, _⟩ := q; cases y)
  obtain ⟨U1, z1, rfl, y1, qU1, wU1, hU1⟩ := q
  cases y1
  have sU1 := (MdQ.rf S).tr qU1
  rcases hU1 with ⟨rfl, hU1⟩ | ⟨rfl, hU1⟩
  · refine x_if_eq (tgt := 11) dX9_seal_6 (by decide) ⟨by decide, by decide⟩ (fun z => absurd z (by decide)) (fun _ => ?_)
    refine x_iconst dX9_seal_9 ?_
    exact x_iret dX9_seal_10 rfl (pM_of sU1 wU1 (by omega))
  · refine x_if_eq (tgt := 11) dX9_seal_6 (by decide) ⟨by decide, by decide⟩ (fun _ => ?_) (fun z => absurd z (by decide))
    refine x_lconst (v := 1) dX9_seal_11 (by decide) ?_
    refine x_lstore_n (L' := [xR (50, 0, 0), xI i, xI n, xJ 1, none, none]) dX9_seal_12 (by decide) rfl ?_
    refine x_iload_n dX9_seal_13 rfl ?_
    refine x_bipush (v := 60) dX9_seal_14 (by decide) ?_
    refine x_imul dX9_seal_16 ?_
    refine x_istore (L' := [xR (50, 0, 0), xI i, xI n, xJ 1, none, xI (i * 60)]) dX9_seal_17 (by decide) rfl ?_
    have k93 := h93 (by omega) (by omega)
    obtain ⟨m, rfl⟩ := Int.eq_ofNat_of_zero_le (show 0 ≤ n by omega)
    have z := l_seal C U1 hC wU1 (hM.q sU1) i (by omega) (by omega) m (by omega) (m + 1) 0 (by omega) (by omega)
    rw [show 60 * i + ((0 : Nat) : Int) = i * 60 by omega, show jI (slN C i 0) = 1 from (by decide : jI 1 = 1)] at z
    refine X.weak z (Nat.le_refl _) (Nat.le_refl _) (fun o h' q => ?_)
    obtain ⟨rfl, rfl⟩ := q
    exact pM_of sU1 wU1 (Or.inr ⟨by omega, by omega, rfl⟩)
