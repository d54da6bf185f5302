/-! the reference: hours, isContrary, isMeant -/
theorem hoursN_t {f : XL → Int → Int} {b : Int} {n : Nat} (h : f (13, b, n) 0 = 0 ∧ f (13, b, n) 6 = 0) : hoursN f b (n + 1) = hoursN f b n + jI (f (13, b, n) 4 - f (13, b, n) 3 + 1) := if_pos h
theorem hoursN_f {f : XL → Int → Int} {b : Int} {n : Nat} (h : ¬ (f (13, b, n) 0 = 0 ∧ f (13, b, n) 6 = 0)) : hoursN f b (n + 1) = hoursN f b n := if_neg h
set_option maxHeartbeats 4000000 in
set_option maxRecDepth 100000 in
theorem l9_hoursK (C S : XS) (hC : WI C) (hw : WI S) (hM : MR C S) (b : Nat) (b1 : (b : Int) < C.1 (0, 0, 0) 6) (KKh : X mX9_hours 9 [xR (50, 0, 0), xJ (hoursS C.1 (b + 1)), none, xI ((b : Int) + 1), none] [] (hp S) 0 0 (pRet (xJ (hoursS C.1 (C.1 (0, 0, 0) 6).toNat)) (hp S))) : ∀ (nn : Nat) (j : Nat), C.1 (9, b, 0) 3 - (j : Int) + 1 < (nn : Int) → ((j : Int) ≤ C.1 (9, b, 0) 3) → X mX9_hours 23 [xR (50, 0, 0), xJ (hoursS C.1 b + hoursN C.1 b j), none, xI (b : Int), xI (60 * (b : Int) + (j : Int))] [] (hp S) 0 0 (pRet (xJ (hoursS C.1 (C.1 (0, 0, 0) 6).toNat)) (hp S)) := by
  intro nn
  induction nn with
  | zero => intro j hm hj; exfalso; omega
  | succ nn ih =>
    intro j hm hj
    have c6 := wf0_6 hC
    have c9 := wf9_3 hC (b := (b : Int)) (by omega) (by omega)
    have mb := (hM.2.2.2.1 b (by omega) (by omega)).1
    have n11 := hM.2.1.1
    have hz := hw.1
    refine x_iload dX9_hours_23 rfl ?_
    refine x_iload_n dX9_hours_25 rfl ?_
    refine x_bipush (v := 60) dX9_hours_26 (by decide) ?_
    refine x_imul dX9_hours_28 ?_
    refine x_aload_n dX9_hours_29 rfl ?_
    refine x_get (v := xR (58, 0, 0)) dX9_hours_30 fl_RX9_33 (hp50 S) rfl ?_
    refine x_iload_n dX9_hours_33 rfl ?_
    refine x_aldi (f := S.1 (58, 0, 0)) dX9_hours_34 (hp58 S) (show (58 : Nat) ≠ 99 by decide) (by omega) (by omega) (by decide) ?_
    have f34_1 := wfa58 hw (S := S) (b : Int)
    refine x_iadd dX9_hours_35 ?_
    refine x_icmp_ge (tgt := 93) dX9_hours_36 (by decide) (by first | exact hz _ _ | exact hw.1 _ _ | exact zR_of _ | exact bI_z _ | assumption | exact ⟨by omega, by omega⟩) (by first | exact hz _ _ | exact hw.1 _ _ | exact zR_of _ | exact bI_z _ | assumption | exact ⟨by omega, by omega⟩) (fun c36 => ?_) (fun c36 => ?_)
    · refine x_iinc (L' := [xR (50, 0, 0), xJ (hoursS C.1 b + hoursN C.1 b j), none, xI ((b : Int) + 1), xI (60 * (b : Int) + (j : Int))]) dX9_hours_93 rfl rfl ?_
      refine x_goto (tgt := 9) dX9_hours_96 (by decide) ?_
      refine X.loc (L' := [xR (50, 0, 0), xJ (hoursS C.1 b + hoursN C.1 b j), none, xI ((b : Int) + 1), none]) ⟨rfl, ⟨rfl, ⟨rfl, trivial⟩⟩⟩ ?_
      rw [show hoursS C.1 b + hoursN C.1 b j = hoursS C.1 (b + 1) from by rw [show j = (C.1 (9, b, 0) 3).toNat by omega]; rfl]
      exact KKh
    · obtain ⟨t1, t2, t3, t4, -, t6⟩ := hM.1 b j (by omega) (by omega) (by omega) (by omega)
      have fi0 := kd_fact (C.1 (13, b, j) 0) (C.1 (13, b, j) 1)
      have e34 : jI (C.1 (13, b, j) 4 - C.1 (13, b, j) 3 + 1) = jI (S.1 (54, 0, 0) (60 * (b : Int) + (j : Int)) - S.1 (53, 0, 0) (60 * (b : Int) + (j : Int)) + 1) := by rw [t3, t4]
      refine x_lload_n dX9_hours_39 rfl ?_
      refine x_aload_n dX9_hours_40 rfl ?_
      refine x_get (v := xR (51, 0, 0)) dX9_hours_41 fl_RX9_9 (hp50 S) rfl ?_
      refine x_iload dX9_hours_44 rfl ?_
      refine x_aldc (f := S.1 (51, 0, 0)) dX9_hours_46 (hp51 S) (show (51 : Nat) ≠ 99 by decide) (by omega) (by omega) (by decide) ?_
      have f46_2 := wfa51 hw (S := S) (60 * (b : Int) + (j : Int))
      refine x_callS_r (a := 0) (b := 0) (as := [xI (S.1 (51, 0, 0) (60 * (b : Int) + (j : Int)))]) (rest := [xJ (hoursS C.1 b + hoursN C.1 b j)]) ok_X9_isOfFact dX9_hours_47 wd1230 wd1231 (m_isOfFact S (S.1 (51, 0, 0) (60 * (b : Int) + (j : Int))) (by first | exact hz _ _ | exact hw.1 _ _ | exact zR_of _ | exact bI_z _ | assumption | exact ⟨by omega, by omega⟩)) rfl (Nat.le_of_ble_eq_true rfl) (Nat.le_of_ble_eq_true rfl) (by decide) (by omega) (by omega) ?_
      by_cases b47 : (S.1 (51, 0, 0) (60 * (b : Int) + (j : Int))) = 104 ∨ (S.1 (51, 0, 0) (60 * (b : Int) + (j : Int))) = 117
      · refine x_top (bI_t b47) ?_
        refine x_if_eq (tgt := 84) dX9_hours_50 (by decide) ⟨by decide, by decide⟩ (fun z => absurd z (by decide)) (fun _ => ?_)
        refine x_aload_n dX9_hours_53 rfl ?_
        refine x_get (v := xR (56, 0, 0)) dX9_hours_54 fl_RX9_26 (hp50 S) rfl ?_
        refine x_iload dX9_hours_57 rfl ?_
        refine x_aldz (f := S.1 (56, 0, 0)) dX9_hours_59 (hp56 S) (show (56 : Nat) ≠ 99 by decide) (by omega) (by omega) (by decide) ?_
        have f59_3 := wfa56 hw (S := S) (60 * (b : Int) + (j : Int))
        refine x_if_ne (tgt := 84) dX9_hours_60 (by decide) (by first | exact hz _ _ | exact hw.1 _ _ | exact zR_of _ | exact bI_z _ | assumption | exact ⟨by omega, by omega⟩) (fun c60 => ?_) (fun c60 => ?_)
        · refine x_lconst (v := 0) dX9_hours_84 (by decide) ?_
          refine x_ladd dX9_hours_85 ?_
          refine x_lstore_n (L' := [xR (50, 0, 0), xJ ((hoursS C.1 b + hoursN C.1 b j) + 0), none, xI (b : Int), xI (60 * (b : Int) + (j : Int))]) dX9_hours_86 (by decide) rfl ?_
          refine x_iinc (L' := [xR (50, 0, 0), xJ ((hoursS C.1 b + hoursN C.1 b j) + 0), none, xI (b : Int), xI ((60 * (b : Int) + (j : Int)) + 1)]) dX9_hours_87 rfl rfl ?_
          refine x_goto (tgt := 23) dX9_hours_90 (by decide) ?_
          have kk := ih (j + 1) (by omega) (by omega)
          rw [show 60 * (b : Int) + ((j + 1 : Nat) : Int) = 60 * (b : Int) + (j : Int) + 1 by omega, show hoursS C.1 b + hoursN C.1 b (j + 1) = (hoursS C.1 b + hoursN C.1 b j) + 0 from by rw [hoursN_f (by omega), Int64.add_zero]] at kk
          exact kk
        · refine x_aload_n dX9_hours_63 rfl ?_
          refine x_get (v := xR (54, 0, 0)) dX9_hours_64 fl_RX9_20 (hp50 S) rfl ?_
          refine x_iload dX9_hours_67 rfl ?_
          refine x_aldi (f := S.1 (54, 0, 0)) dX9_hours_69 (hp54 S) (show (54 : Nat) ≠ 99 by decide) (by omega) (by omega) (by decide) ?_
          have f69_4 := wfa54 hw (S := S) (60 * (b : Int) + (j : Int))
          refine x_aload_n dX9_hours_70 rfl ?_
          refine x_get (v := xR (53, 0, 0)) dX9_hours_71 fl_RX9_17 (hp50 S) rfl ?_
          refine x_iload dX9_hours_74 rfl ?_
          refine x_aldi (f := S.1 (53, 0, 0)) dX9_hours_76 (hp53 S) (show (53 : Nat) ≠ 99 by decide) (by omega) (by omega) (by decide) ?_
          have f76_5 := wfa53 hw (S := S) (60 * (b : Int) + (j : Int))
          refine x_isub dX9_hours_77 ?_
          refine x_iconst dX9_hours_78 ?_
          refine x_iadd dX9_hours_79 ?_
          refine x_i2l dX9_hours_80 ?_
          refine x_goto (tgt := 85) dX9_hours_81 (by decide) ?_
          refine x_ladd dX9_hours_85 ?_
          refine x_lstore_n (L' := [xR (50, 0, 0), xJ ((hoursS C.1 b + hoursN C.1 b j) + (jI (((S.1 (54, 0, 0) (60 * (b : Int) + (j : Int))) - (S.1 (53, 0, 0) (60 * (b : Int) + (j : Int)))) + 1))), none, xI (b : Int), xI (60 * (b : Int) + (j : Int))]) dX9_hours_86 (by decide) rfl ?_
          refine x_iinc (L' := [xR (50, 0, 0), xJ ((hoursS C.1 b + hoursN C.1 b j) + (jI (((S.1 (54, 0, 0) (60 * (b : Int) + (j : Int))) - (S.1 (53, 0, 0) (60 * (b : Int) + (j : Int)))) + 1))), none, xI (b : Int), xI ((60 * (b : Int) + (j : Int)) + 1)]) dX9_hours_87 rfl rfl ?_
          refine x_goto (tgt := 23) dX9_hours_90 (by decide) ?_
          have kk := ih (j + 1) (by omega) (by omega)
          rw [show 60 * (b : Int) + ((j + 1 : Nat) : Int) = 60 * (b : Int) + (j : Int) + 1 by omega, show hoursS C.1 b + hoursN C.1 b (j + 1) = (hoursS C.1 b + hoursN C.1 b j) + (jI (((S.1 (54, 0, 0) (60 * (b : Int) + (j : Int))) - (S.1 (53, 0, 0) (60 * (b : Int) + (j : Int)))) + 1)) from by rw [hoursN_t ⟨by omega, by omega⟩, Int64.add_assoc, e34]] at kk
          exact kk
      · refine x_top (bI_f b47) ?_
        refine x_if_eq (tgt := 84) dX9_hours_50 (by decide) ⟨by decide, by decide⟩ (fun _ => ?_) (fun z => absurd z (by decide))
        refine x_lconst (v := 0) dX9_hours_84 (by decide) ?_
        refine x_ladd dX9_hours_85 ?_
        refine x_lstore_n (L' := [xR (50, 0, 0), xJ ((hoursS C.1 b + hoursN C.1 b j) + 0), none, xI (b : Int), xI (60 * (b : Int) + (j : Int))]) dX9_hours_86 (by decide) rfl ?_
        refine x_iinc (L' := [xR (50, 0, 0), xJ ((hoursS C.1 b + hoursN C.1 b j) + 0), none, xI (b : Int), xI ((60 * (b : Int) + (j : Int)) + 1)]) dX9_hours_87 rfl rfl ?_
        refine x_goto (tgt := 23) dX9_hours_90 (by decide) ?_
        have kk := ih (j + 1) (by omega) (by omega)
        rw [show 60 * (b : Int) + ((j + 1 : Nat) : Int) = 60 * (b : Int) + (j : Int) + 1 by omega, show hoursS C.1 b + hoursN C.1 b (j + 1) = (hoursS C.1 b + hoursN C.1 b j) + 0 from by rw [hoursN_f (by omega), Int64.add_zero]] at kk
        exact kk
set_option maxHeartbeats 4000000 in
set_option maxRecDepth 100000 in
theorem l9_hoursB (C S : XS) (hC : WI C) (hw : WI S) (hM : MR C S) : ∀ (nn : Nat) (b : Nat), C.1 (0, 0, 0) 6 - (b : Int) + 1 < (nn : Int) → ((b : Int) ≤ C.1 (0, 0, 0) 6) → X mX9_hours 9 [xR (50, 0, 0), xJ (hoursS C.1 b), none, xI (b : Int), none] [] (hp S) 0 0 (pRet (xJ (hoursS C.1 (C.1 (0, 0, 0) 6).toNat)) (hp S)) := by
  intro nn
  induction nn with
  | zero => intro b hm hb; exfalso; omega
  | succ nn ih =>
    intro b hm hb
    have c6 := wf0_6 hC
    have n11 := hM.2.1.1
    have hz := hw.1
    refine x_iload_n dX9_hours_9 rfl ?_
    refine x_aload_n dX9_hours_10 rfl ?_
    refine x_get (v := xI (S.1 (50, 0, 0) 11)) dX9_hours_11 fl_RX9_45 (hp50 S) rfl ?_
    have f11_1 := wf50_11 hw (S := S)
    refine x_icmp_ge (tgt := 99) dX9_hours_14 (by decide) (by first | exact hz _ _ | exact hw.1 _ _ | exact zR_of _ | exact bI_z _ | assumption | exact ⟨by omega, by omega⟩) (by first | exact hz _ _ | exact hw.1 _ _ | exact zR_of _ | exact bI_z _ | assumption | exact ⟨by omega, by omega⟩) (fun c14 => ?_) (fun c14 => ?_)
    · refine x_lload_n dX9_hours_99 rfl ?_
      exact x_lret dX9_hours_100 rfl ⟨by rw [show b = (C.1 (0, 0, 0) 6).toNat by omega], rfl⟩
    · refine x_iload_n dX9_hours_17 rfl ?_
      refine x_bipush (v := 60) dX9_hours_18 (by decide) ?_
      refine x_imul dX9_hours_20 ?_
      refine x_istore (L' := [xR (50, 0, 0), xJ (hoursS C.1 b), none, xI (b : Int), xI ((b : Int) * 60)]) dX9_hours_21 (by decide) rfl ?_
      have b1 : (b : Int) < C.1 (0, 0, 0) 6 := by omega
      have c9 := wf9_3 hC (b := (b : Int)) (by omega) (by omega)
      have kk := l9_hoursK C S hC hw hM b b1 (ih (b + 1) (by omega) (by omega)) 65 0 (by omega) (by omega)
      rw [show 60 * (b : Int) + ((0 : Nat) : Int) = (b : Int) * 60 by omega, show hoursS C.1 b + hoursN C.1 b 0 = hoursS C.1 b from Int64.add_zero _] at kk
      exact kk
set_option maxHeartbeats 4000000 in
set_option maxRecDepth 100000 in
theorem m_hours (C S : XS) (hC : WI C) (hw : WI S) (hM : MR C S) : X mX9_hours 0 (xEnt mX9_hours [xR (50, 0, 0)]) [] (hp S) 0 0 (pMx S (fun k v _T => k = 0 ∧ v = xJ (hoursS C.1 (C.1 (0, 0, 0) 6).toNat))) := by
  have hz := hw.1
  show X mX9_hours 0 [xR (50, 0, 0), none, none, none, none] [] (hp S) 0 0 _
  refine x_aload_n dX9_hours_0 rfl ?_
  refine x_iconst dX9_hours_1 ?_
  refine x_put dX9_hours_2 fl_RX9_96 (fun r hr => by cases hr; rfl) (hp50 S) xfit_i (Nat.le_of_ble_eq_true rfl) rfl ?_
  refine x_heq (pu50_25 S 0) ?_
  have hw2_1 : WI (putI S (50, 0, 0) 25 0) := wp50_25 hw (by omega)
  refine x_lconst (v := 0) dX9_hours_5 (by decide) ?_
  refine x_lstore_n (L' := [xR (50, 0, 0), xJ 0, none, none, none]) dX9_hours_6 (by decide) rfl ?_
  refine x_iconst dX9_hours_7 ?_
  refine x_istore_n (L' := [xR (50, 0, 0), xJ 0, none, xI 0, none]) dX9_hours_8 (by decide) rfl ?_
  have kk := l9_hoursB C (putI S (50, 0, 0) 25 0) hC hw2_1 (hM.q ((MdQ.rf S).thr 0)) 6 0 (by have := wf0_6 hC; omega) (by have := wf0_6 hC; omega)
  refine X.weak kk (Nat.le_refl _) (Nat.le_refl _) (fun o h' q => ?_)
  obtain ⟨rfl, rfl⟩ := q
  exact ⟨_, _, rfl, rfl, ((MdQ.rf S).thr 0), hw2_1, by rw [putI_self], rfl⟩
/-- a telling of another branch tells the contrary -/
def Ctr (f : XL → Int → Int) (b k p j : Int) : Prop := f (13, p, j) 6 = 0 ∧ f (13, b, k) 2 = f (13, p, j) 2 ∧ f (13, b, k) 0 = f (13, p, j) 0 ∧ f (13, b, k) 1 ≠ f (13, p, j) 1 ∧ (f (13, b, k) 0 ≠ 0 ∨ f (13, b, k) 3 ≤ f (13, p, j) 4 ∧ f (13, p, j) 3 ≤ f (13, b, k) 4)
theorem kd_in (r s : Int) : kd r s = 104 ∨ kd r s = 117 ∨ kd r s = 110 ∨ kd r s = 102 := by unfold kd; split <;> split <;> omega
theorem kd_same {r s r' s' : Int} (hr : r = 0 ∨ r = 1) (hs : s = 0 ∨ s = 1) (hr' : r' = 0 ∨ r' = 1) (hs' : s' = 0 ∨ s' = 1) : kd r s = kd r' s' ↔ r = r' ∧ s = s' := by
  rcases hr with rfl | rfl <;> rcases hs with rfl | rfl <;> rcases hr' with rfl | rfl <;> rcases hs' with rfl | rfl <;> decide
set_option maxHeartbeats 4000000 in
set_option maxRecDepth 100000 in
theorem m_isContrary (C S : XS) (hC : WI C) (hw : WI S) (ht : MRt C S) (b k p j : Int) (b0 : 0 ≤ b) (b1 : b < 4) (k0 : 0 ≤ k) (k1 : k < C.1 (9, b, 0) 3) (p0 : 0 ≤ p) (p1 : p < 4) (j0 : 0 ≤ j) (j1 : j < C.1 (9, p, 0) 3) : X mX9_isContrary 0 (xEnt mX9_isContrary [xR (50, 0, 0), xI (60 * b + k), xI (60 * p + j)]) [] (hp S) 0 0 (pRet (xI (bI (Ctr C.1 b k p j))) (hp S)) := by
  have c9 := wf9_3 hC b0 b1
  have d9 := wf9_3 hC p0 p1
  obtain ⟨t1, t2, t3, t4, -, t6⟩ := ht b k b0 b1 k0 k1
  obtain ⟨u1, u2, u3, u4, -, u6⟩ := ht p j p0 p1 j0 j1
  have hz := hw.1
  have g0 := wf13_0 hC (b := b) (t := k) (by omega) (by omega) (by omega) (by omega)
  have g1 := wf13_1 hC (b := b) (t := k) (by omega) (by omega) (by omega) (by omega)
  have h0 := wf13_0 hC (b := p) (t := j) (by omega) (by omega) (by omega) (by omega)
  have h1 := wf13_1 hC (b := p) (t := j) (by omega) (by omega) (by omega) (by omega)
  have fi0 := kd_fact (C.1 (13, b, k) 0) (C.1 (13, b, k) 1)
  have fj0 := kd_fact (C.1 (13, p, j) 0) (C.1 (13, p, j) 1)
  have fs := kd_same g0 g1 h0 h1
  have ki := kd_in (C.1 (13, b, k) 0) (C.1 (13, b, k) 1)
  have kj := kd_in (C.1 (13, p, j) 0) (C.1 (13, p, j) 1)
  rw [← t1] at fi0 fs ki
  rw [← u1] at fj0 fs kj
  have vb1 := bI_1 (P := S.1 (51, 0, 0) (60 * b + k) = 104 ∨ S.1 (51, 0, 0) (60 * b + k) = 117)
  have vb0 := bI_01 (S.1 (51, 0, 0) (60 * b + k) = 104 ∨ S.1 (51, 0, 0) (60 * b + k) = 117)
  have vp1 := bI_1 (P := S.1 (51, 0, 0) (60 * p + j) = 104 ∨ S.1 (51, 0, 0) (60 * p + j) = 117)
  have vp0 := bI_01 (S.1 (51, 0, 0) (60 * p + j) = 104 ∨ S.1 (51, 0, 0) (60 * p + j) = 117)
  show X mX9_isContrary 0 [xR (50, 0, 0), xI (60 * b + k), xI (60 * p + j)] [] (hp S) 0 0 _
  refine x_aload_n dX9_isContrary_0 rfl ?_
  refine x_get (v := xR (56, 0, 0)) dX9_isContrary_1 fl_RX9_26 (hp50 S) rfl ?_
  refine x_iload_n dX9_isContrary_4 rfl ?_
  refine x_aldz (f := S.1 (56, 0, 0)) dX9_isContrary_5 (hp56 S) (show (56 : Nat) ≠ 99 by decide) (by omega) (by omega) (by decide) ?_
  have f5_1 := wfa56 hw (S := S) (60 * p + j)
  refine x_if_ne (tgt := 60) dX9_isContrary_6 (by decide) (by first | exact hz _ _ | exact hw.1 _ _ | exact zR_of _ | exact bI_z _ | assumption | exact ⟨by omega, by omega⟩) (fun c6 => ?_) (fun c6 => ?_)
  · refine x_iconst dX9_isContrary_60 ?_
    exact x_zret dX9_isContrary_61 rfl (Or.inl rfl) (pRI (bI_f (by unfold Ctr; omega)).symm)
  · refine x_aload_n dX9_isContrary_9 rfl ?_
    refine x_get (v := xR (52, 0, 0)) dX9_isContrary_10 fl_RX9_13 (hp50 S) rfl ?_
    refine x_iload_n dX9_isContrary_13 rfl ?_
    refine x_aldi (f := S.1 (52, 0, 0)) dX9_isContrary_14 (hp52 S) (show (52 : Nat) ≠ 99 by decide) (by omega) (by omega) (by decide) ?_
    have f14_2 := wfa52 hw (S := S) (60 * b + k)
    refine x_aload_n dX9_isContrary_15 rfl ?_
    refine x_get (v := xR (52, 0, 0)) dX9_isContrary_16 fl_RX9_13 (hp50 S) rfl ?_
    refine x_iload_n dX9_isContrary_19 rfl ?_
    refine x_aldi (f := S.1 (52, 0, 0)) dX9_isContrary_20 (hp52 S) (show (52 : Nat) ≠ 99 by decide) (by omega) (by omega) (by decide) ?_
    have f20_3 := wfa52 hw (S := S) (60 * p + j)
    refine x_icmp_ne (tgt := 60) dX9_isContrary_21 (by decide) (by first | exact hz _ _ | exact hw.1 _ _ | exact zR_of _ | exact bI_z _ | assumption | exact ⟨by omega, by omega⟩) (by first | exact hz _ _ | exact hw.1 _ _ | exact zR_of _ | exact bI_z _ | assumption | exact ⟨by omega, by omega⟩) (fun c21 => ?_) (fun c21 => ?_)
    · refine x_iconst dX9_isContrary_60 ?_
      exact x_zret dX9_isContrary_61 rfl (Or.inl rfl) (pRI (bI_f (by unfold Ctr; omega)).symm)
    · refine x_aload_n dX9_isContrary_24 rfl ?_
      refine x_get (v := xR (51, 0, 0)) dX9_isContrary_25 fl_RX9_9 (hp50 S) rfl ?_
      refine x_iload_n dX9_isContrary_28 rfl ?_
      refine x_aldc (f := S.1 (51, 0, 0)) dX9_isContrary_29 (hp51 S) (show (51 : Nat) ≠ 99 by decide) (by omega) (by omega) (by decide) ?_
      have f29_4 := wfa51 hw (S := S) (60 * b + k)
      refine x_callS_r (a := 0) (b := 0) (as := [xI (S.1 (51, 0, 0) (60 * b + k))]) (rest := []) ok_X9_isOfFact dX9_isContrary_30 wd1230 wd1231 (m_isOfFact S (S.1 (51, 0, 0) (60 * b + k)) (by first | exact hz _ _ | exact hw.1 _ _ | exact zR_of _ | exact bI_z _ | assumption | exact ⟨by omega, by omega⟩)) rfl (Nat.le_of_ble_eq_true rfl) (Nat.le_of_ble_eq_true rfl) (by decide) (by omega) (by omega) ?_
      refine x_aload_n dX9_isContrary_33 rfl ?_
      refine x_get (v := xR (51, 0, 0)) dX9_isContrary_34 fl_RX9_9 (hp50 S) rfl ?_
      refine x_iload_n dX9_isContrary_37 rfl ?_
      refine x_aldc (f := S.1 (51, 0, 0)) dX9_isContrary_38 (hp51 S) (show (51 : Nat) ≠ 99 by decide) (by omega) (by omega) (by decide) ?_
      have f38_5 := wfa51 hw (S := S) (60 * p + j)
      refine x_callS_r (a := 0) (b := 0) (as := [xI (S.1 (51, 0, 0) (60 * p + j))]) (rest := [xI (bI ((S.1 (51, 0, 0) (60 * b + k)) = 104 ∨ (S.1 (51, 0, 0) (60 * b + k)) = 117))]) ok_X9_isOfFact dX9_isContrary_39 wd1230 wd1231 (m_isOfFact S (S.1 (51, 0, 0) (60 * p + j)) (by first | exact hz _ _ | exact hw.1 _ _ | exact zR_of _ | exact bI_z _ | assumption | exact ⟨by omega, by omega⟩)) rfl (Nat.le_of_ble_eq_true rfl) (Nat.le_of_ble_eq_true rfl) (by decide) (by omega) (by omega) ?_
      refine x_icmp_ne (tgt := 60) dX9_isContrary_42 (by decide) (by first | exact hz _ _ | exact hw.1 _ _ | exact zR_of _ | exact bI_z _ | assumption | exact ⟨by omega, by omega⟩) (by first | exact hz _ _ | exact hw.1 _ _ | exact zR_of _ | exact bI_z _ | assumption | exact ⟨by omega, by omega⟩) (fun c42 => ?_) (fun c42 => ?_)
      · refine x_iconst dX9_isContrary_60 ?_
        exact x_zret dX9_isContrary_61 rfl (Or.inl rfl) (pRI (bI_f (by unfold Ctr; omega)).symm)
      · refine x_aload_n dX9_isContrary_45 rfl ?_
        refine x_get (v := xR (51, 0, 0)) dX9_isContrary_46 fl_RX9_9 (hp50 S) rfl ?_
        refine x_iload_n dX9_isContrary_49 rfl ?_
        refine x_aldc (f := S.1 (51, 0, 0)) dX9_isContrary_50 (hp51 S) (show (51 : Nat) ≠ 99 by decide) (by omega) (by omega) (by decide) ?_
        have f50_6 := wfa51 hw (S := S) (60 * b + k)
        refine x_aload_n dX9_isContrary_51 rfl ?_
        refine x_get (v := xR (51, 0, 0)) dX9_isContrary_52 fl_RX9_9 (hp50 S) rfl ?_
        refine x_iload_n dX9_isContrary_55 rfl ?_
        refine x_aldc (f := S.1 (51, 0, 0)) dX9_isContrary_56 (hp51 S) (show (51 : Nat) ≠ 99 by decide) (by omega) (by omega) (by decide) ?_
        have f56_7 := wfa51 hw (S := S) (60 * p + j)
        refine x_icmp_ne (tgt := 62) dX9_isContrary_57 (by decide) (by first | exact hz _ _ | exact hw.1 _ _ | exact zR_of _ | exact bI_z _ | assumption | exact ⟨by omega, by omega⟩) (by first | exact hz _ _ | exact hw.1 _ _ | exact zR_of _ | exact bI_z _ | assumption | exact ⟨by omega, by omega⟩) (fun c57 => ?_) (fun c57 => ?_)
        · refine x_aload_n dX9_isContrary_62 rfl ?_
          refine x_get (v := xR (51, 0, 0)) dX9_isContrary_63 fl_RX9_9 (hp50 S) rfl ?_
          refine x_iload_n dX9_isContrary_66 rfl ?_
          refine x_aldc (f := S.1 (51, 0, 0)) dX9_isContrary_67 (hp51 S) (show (51 : Nat) ≠ 99 by decide) (by omega) (by omega) (by decide) ?_
          have f67_8 := wfa51 hw (S := S) (60 * b + k)
          refine x_callS_r (a := 0) (b := 0) (as := [xI (S.1 (51, 0, 0) (60 * b + k))]) (rest := []) ok_X9_isOfFact dX9_isContrary_68 wd1230 wd1231 (m_isOfFact S (S.1 (51, 0, 0) (60 * b + k)) (by first | exact hz _ _ | exact hw.1 _ _ | exact zR_of _ | exact bI_z _ | assumption | exact ⟨by omega, by omega⟩)) rfl (Nat.le_of_ble_eq_true rfl) (Nat.le_of_ble_eq_true rfl) (by decide) (by omega) (by omega) ?_
          by_cases b68 : (S.1 (51, 0, 0) (60 * b + k)) = 104 ∨ (S.1 (51, 0, 0) (60 * b + k)) = 117
          · refine x_top (bI_t b68) ?_
            refine x_if_eq (tgt := 104) dX9_isContrary_71 (by decide) ⟨by decide, by decide⟩ (fun z => absurd z (by decide)) (fun _ => ?_)
            refine x_aload_n dX9_isContrary_74 rfl ?_
            refine x_get (v := xR (53, 0, 0)) dX9_isContrary_75 fl_RX9_17 (hp50 S) rfl ?_
            refine x_iload_n dX9_isContrary_78 rfl ?_
            refine x_aldi (f := S.1 (53, 0, 0)) dX9_isContrary_79 (hp53 S) (show (53 : Nat) ≠ 99 by decide) (by omega) (by omega) (by decide) ?_
            have f79_9 := wfa53 hw (S := S) (60 * b + k)
            refine x_aload_n dX9_isContrary_80 rfl ?_
            refine x_get (v := xR (54, 0, 0)) dX9_isContrary_81 fl_RX9_20 (hp50 S) rfl ?_
            refine x_iload_n dX9_isContrary_84 rfl ?_
            refine x_aldi (f := S.1 (54, 0, 0)) dX9_isContrary_85 (hp54 S) (show (54 : Nat) ≠ 99 by decide) (by omega) (by omega) (by decide) ?_
            have f85_10 := wfa54 hw (S := S) (60 * p + j)
            refine x_icmp_gt (tgt := 108) dX9_isContrary_86 (by decide) (by first | exact hz _ _ | exact hw.1 _ _ | exact zR_of _ | exact bI_z _ | assumption | exact ⟨by omega, by omega⟩) (by first | exact hz _ _ | exact hw.1 _ _ | exact zR_of _ | exact bI_z _ | assumption | exact ⟨by omega, by omega⟩) (fun c86 => ?_) (fun c86 => ?_)
            · refine x_iconst dX9_isContrary_108 ?_
              exact x_zret dX9_isContrary_109 rfl (Or.inl rfl) (pRI (bI_f (by unfold Ctr; omega)).symm)
            · refine x_aload_n dX9_isContrary_89 rfl ?_
              refine x_get (v := xR (53, 0, 0)) dX9_isContrary_90 fl_RX9_17 (hp50 S) rfl ?_
              refine x_iload_n dX9_isContrary_93 rfl ?_
              refine x_aldi (f := S.1 (53, 0, 0)) dX9_isContrary_94 (hp53 S) (show (53 : Nat) ≠ 99 by decide) (by omega) (by omega) (by decide) ?_
              have f94_11 := wfa53 hw (S := S) (60 * p + j)
              refine x_aload_n dX9_isContrary_95 rfl ?_
              refine x_get (v := xR (54, 0, 0)) dX9_isContrary_96 fl_RX9_20 (hp50 S) rfl ?_
              refine x_iload_n dX9_isContrary_99 rfl ?_
              refine x_aldi (f := S.1 (54, 0, 0)) dX9_isContrary_100 (hp54 S) (show (54 : Nat) ≠ 99 by decide) (by omega) (by omega) (by decide) ?_
              have f100_12 := wfa54 hw (S := S) (60 * b + k)
              refine x_icmp_gt (tgt := 108) dX9_isContrary_101 (by decide) (by first | exact hz _ _ | exact hw.1 _ _ | exact zR_of _ | exact bI_z _ | assumption | exact ⟨by omega, by omega⟩) (by first | exact hz _ _ | exact hw.1 _ _ | exact zR_of _ | exact bI_z _ | assumption | exact ⟨by omega, by omega⟩) (fun c101 => ?_) (fun c101 => ?_)
              · refine x_iconst dX9_isContrary_108 ?_
                exact x_zret dX9_isContrary_109 rfl (Or.inl rfl) (pRI (bI_f (by unfold Ctr; omega)).symm)
              · refine x_iconst dX9_isContrary_104 ?_
                refine x_goto (tgt := 109) dX9_isContrary_105 (by decide) ?_
                exact x_zret dX9_isContrary_109 rfl (Or.inr rfl) (pRI (bI_t (by unfold Ctr; omega)).symm)
          · refine x_top (bI_f b68) ?_
            refine x_if_eq (tgt := 104) dX9_isContrary_71 (by decide) ⟨by decide, by decide⟩ (fun _ => ?_) (fun z => absurd z (by decide))
            refine x_iconst dX9_isContrary_104 ?_
            refine x_goto (tgt := 109) dX9_isContrary_105 (by decide) ?_
            exact x_zret dX9_isContrary_109 rfl (Or.inr rfl) (pRI (bI_t (by unfold Ctr; omega)).symm)
        · refine x_iconst dX9_isContrary_60 ?_
          exact x_zret dX9_isContrary_61 rfl (Or.inl rfl) (pRI (bI_f (by unfold Ctr; omega)).symm)
