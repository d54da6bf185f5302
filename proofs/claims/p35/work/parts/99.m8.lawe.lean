/-! p35: the law: a rule in all ways -/
/-- what isUsed leaves -/
def pIU (C S : XS) (b : Int) (on : Int) (H K : Int → Int64) (g : Int → Int) (L : Int) (r : Nat) : XO → XH → Prop := fun o h' => ∃ T z, h' = hp T ∧ o = .inl (some (xI z)) ∧ NB b S T ∧ WI T ∧ IU C on H K g L r (S.1 (53, b, 0)) z 512 (T.1 (53, b, 0))
theorem NR.nb {C S T : XS} {b : Int} (h : NR C S) (q : NB b S T) : NR C T := by
  unfold NR
  rw [q.1 (50, 0, 0) (nK (by decide) _ _ _ _) (Or.inl (by decide))]
  exact h
theorem NT.nb {C S T : XS} {b : Int} (h : NT C S) (q : NB b S T) : NT C T := by
  unfold NT
  rw [q.1 (50, 0, 0) (nK (by decide) _ _ _ _) (Or.inl (by decide))]
  exact h
theorem Cnt.nb {S T : XS} {b : Int} (h : Cnt S) (q : NB b S T) : Cnt T := ⟨Int.le_trans h.1 (q.2.2.2.1 51), Int.le_trans h.2.1 (q.2.2.2.1 52), Int.le_trans h.2.2.1 (q.2.2.2.1 53), Int.le_trans h.2.2.2.1 (q.2.2.2.1 54), Int.le_trans h.2.2.2.2 (q.2.2.2.1 55)⟩
theorem cf_val (C : XS) {g : Int → Int} {r c x v u w : Int} (hg : ∀ k, 0 ≤ g k ∧ g k ≤ 7) (hw : wG g = w) (hx : C.1 (36, r, c) 0 = x) (hv : C.1 (36, r, c) 2 = 3 * (2 - v) ∧ 0 ≤ v ∧ v ≤ 2) (hu : C.1 (36, r, c) 3 = 3 * (2 - u) ∧ 0 ≤ u ∧ u ≤ 2) : 64 * x + 8 * g v + g u = cfact C.1 r w c := by
  unfold cfact
  rw [← hw, pair_g C.1 hg hv hu, hx]
  omega
theorem hf_val (C : XS) {g : Int → Int} {r x v u w : Int} (hg : ∀ k, 0 ≤ g k ∧ g k ≤ 7) (hw : wG g = w) (hx : C.1 (37, r, 0) 0 = x) (hv : C.1 (37, r, 0) 2 = 3 * (2 - v) ∧ 0 ≤ v ∧ v ≤ 2) (hu : C.1 (37, r, 0) 3 = 3 * (2 - u) ∧ 0 ≤ u ∧ u ≤ 2) : 64 * x + 8 * g v + g u = hfact C.1 r w := by
  rw [← hw, ← hx]
  exact hfact_g C hg hv hu
set_option maxHeartbeats 4000000 in
set_option maxRecDepth 100000 in
theorem l_usedC (C S : XS) (hC : CB C) (hw : WI S) (hr : NR C S) (hcnt : Cnt S) (b : Int) (b0 : 0 ≤ b) (b1 : b < S.2.2.2.1 53) (on : Int) (H K : Int → Int64) (g : Int → Int) (hg : GOk g) (hl : Lay C.1 on g) (hS : Stab C.1 on H K) (L : Int) (hF : FI C on H K g L (S.1 (53, b, 0))) (r : Nat) (r1 : (r : Int) < C.1 (4, 0, 0) 2) (ho : bitI on r) (hL : g (C.1 (37, (r : Int), 0) 0) = L) (U : XS) (eU : NB b S U) (wU : WI U) (cU : S.2.2.2.1 54 < U.2.2.2.1 54) (z w : Int) (w0 : 0 ≤ w) (w1 : w ≤ 511) (hth : U.1 (54, S.2.2.2.1 54, 0) 0 = w / 64 ∧ U.1 (54, S.2.2.2.1 54, 0) 1 = w / 8 % 8 ∧ U.1 (54, S.2.2.2.1 54, 0) 2 = w % 8) (KKc : X mL_isUsed 154 [xR (50, 0, 0), xI (r : Int), xR (53, b, 0), xI z, xI (1600 + 16 * (r : Int)), xR (54, S.2.2.2.1 54, 0), xI w, xI (gvN C.1 (U.1 (53, b, 0)) r w (C.1 (34, (r : Int), 0) 2).toNat), none, none, none] [] (hp U) 0 0 (pIU C S b on H K g L r)) : ∀ (nn : Nat) (c : Nat), ((C.1 (34, (r : Int), 0) 2).toNat : Int) - c + 1 < (nn : Int) → (c ≤ (C.1 (34, (r : Int), 0) 2).toNat) → X mL_isUsed 64 [xR (50, 0, 0), xI (r : Int), xR (53, b, 0), xI z, xI (1600 + 16 * (r : Int)), xR (54, S.2.2.2.1 54, 0), xI w, xI (gvN C.1 (U.1 (53, b, 0)) r w c), xI (c : Int), none, none] [] (hp U) 0 0 (pIU C S b on H K g L r) := by
  intro nn
  induction nn with
  | zero => intro c hm hc; exfalso; omega
  | succ nn ih =>
    intro c hm hc
    have c4 := wf4_2 hC.1
    have c34 := wf34_2 hC.1 (b := (r : Int)) (by omega) (by omega)
    have h54 := hcnt.2.2.2.1
    have hR := (hC.2.1 r r1).1
    have n53 := eU.2.2.2.1 53
    have n54 := eU.2.2.2.1 54
    have hrU := hr.nb eU
    have nl := hrU.2 (r : Int) (by omega) r1
    obtain ⟨q4, qh, -, q6⟩ := nl
    obtain ⟨qh1, qh2, qh3, qh4, qh5⟩ := qh
    have hz := wU.1
    have gi := gvN_in (f := C.1) (rk := U.1 (53, b, 0)) (fun k => wfa53 wU b0 (show b < U.2.2.2.1 53 by omega) k) r w c
    have gz : wG (U.1 (54, S.2.2.2.1 54, 0)) = w := by unfold wG; omega
    refine x_iload dL_isUsed_64 rfl ?_
    refine x_aload_n dL_isUsed_66 rfl ?_
    refine x_iload dL_isUsed_67 rfl ?_
    refine x_aldi (f := U.1 (50, 0, 0)) dL_isUsed_69 (hp50 U) (show (50 : Nat) ≠ 99 by decide) (by omega) (by omega) (by decide) ?_
    refine x_icmp_ge (tgt := 154) dL_isUsed_70 (by decide) (by first | exact hz _ _ | exact hw.1 _ _ | exact zR_of _ | exact bI_z _ | assumption | exact ⟨by omega, by omega⟩) (by first | exact hz _ _ | exact hw.1 _ _ | exact zR_of _ | exact bI_z _ | assumption | exact ⟨by omega, by omega⟩) (fun c70 => ?_) (fun c70 => ?_)
    · refine X.loc (L' := [xR (50, 0, 0), xI (r : Int), xR (53, b, 0), xI z, xI (1600 + 16 * (r : Int)), xR (54, S.2.2.2.1 54, 0), xI w, xI (gvN C.1 (U.1 (53, b, 0)) r w c), none, none, none]) ⟨rfl, ⟨rfl, ⟨rfl, ⟨rfl, ⟨rfl, ⟨rfl, ⟨rfl, ⟨rfl, trivial⟩⟩⟩⟩⟩⟩⟩⟩ ?_
      obtain rfl : c = (C.1 (34, (r : Int), 0) 2).toNat := by omega
      exact KKc
    · obtain ⟨u1, u2, u3, u4, u5, u6⟩ := q6 (c : Int) (by omega) (by omega)
      have cin := cfact_in hC.1 (r := (r : Int)) (by omega) r1 hR (c := (c : Int)) (by omega) (by omega) w0 w1
      have c36 := wf36_1 hC.1 (b := (r : Int)) (t := (c : Int)) (by omega) (by omega) (by omega) (by omega)
      refine x_aload_n dL_isUsed_73 rfl ?_
      refine x_aload_n dL_isUsed_74 rfl ?_
      refine x_iload dL_isUsed_75 rfl ?_
      refine x_iconst dL_isUsed_77 ?_
      refine x_iadd dL_isUsed_78 ?_
      refine x_iconst dL_isUsed_79 ?_
      refine x_iload dL_isUsed_80 rfl ?_
      refine x_imul dL_isUsed_82 ?_
      refine x_iadd dL_isUsed_83 ?_
      refine x_aload dL_isUsed_84 rfl ?_
      refine x_callS_r (a := 0) (b := 0) (as := [xR (50, 0, 0), xI (((1600 + 16 * (r : Int)) + 4) + (4 * (c : Int))), xR (54, S.2.2.2.1 54, 0)]) (rest := [xR (53, b, 0)]) ok_L_fact dL_isUsed_86 wd879 wd880 (c_fact U (1600 + 16 * (r : Int) + 4 + 4 * (c : Int)) (S.2.2.2.1 54) (C.1 (36, (r : Int), (c : Int)) 0) (U.1 (50, 0, 0) (1600 + 16 * (r : Int) + 5 + 4 * (c : Int))) (U.1 (50, 0, 0) (1600 + 16 * (r : Int) + 6 + 4 * (c : Int))) (by omega) (by omega) h54 cU u1 (congrArg _ (by omega)) (congrArg _ (by omega)) u5.1 u5.2 u6.1 u6.2) rfl (Nat.le_of_ble_eq_true rfl) (Nat.le_of_ble_eq_true rfl) (by decide) (by omega) (by omega) ?_
      refine x_top (show 64 * C.1 (36, (r : Int), (c : Int)) 0 + 8 * U.1 (54, S.2.2.2.1 54, 0) (U.1 (50, 0, 0) (1600 + 16 * (r : Int) + 5 + 4 * (c : Int))) + U.1 (54, S.2.2.2.1 54, 0) (U.1 (50, 0, 0) (1600 + 16 * (r : Int) + 6 + 4 * (c : Int))) = cfact C.1 (r : Int) w (c : Int) from cf_val C (fun k => wfa54 wU h54 cU k) gz rfl ⟨u2, u5⟩ ⟨u3, u6⟩) ?_
      refine x_aldi (f := U.1 (53, b, 0)) dL_isUsed_89 (hp53 U (by omega) (by omega)) (show (53 : Nat) ≠ 99 by decide) (by omega) (by omega) (by decide) ?_
      have f89_1 := wfa53 wU (S := U) (b := b) (by omega) (by omega) (cfact C.1 (r : Int) w (c : Int))
      refine x_istore (L' := [xR (50, 0, 0), xI (r : Int), xR (53, b, 0), xI z, xI (1600 + 16 * (r : Int)), xR (54, S.2.2.2.1 54, 0), xI w, xI (gvN C.1 (U.1 (53, b, 0)) r w c), xI (c : Int), xI (U.1 (53, b, 0) (cfact C.1 (r : Int) w (c : Int))), none]) dL_isUsed_90 (by decide) rfl ?_
      refine x_aload_n dL_isUsed_92 rfl ?_
      refine x_iload dL_isUsed_93 rfl ?_
      refine x_bipush (v := 7) dL_isUsed_95 (by decide) ?_
      refine x_iadd dL_isUsed_97 ?_
      refine x_iconst dL_isUsed_98 ?_
      refine x_iload dL_isUsed_99 rfl ?_
      refine x_imul dL_isUsed_101 ?_
      refine x_iadd dL_isUsed_102 ?_
      refine x_aldi (f := U.1 (50, 0, 0)) dL_isUsed_103 (hp50 U) (show (50 : Nat) ≠ 99 by decide) (by omega) (by omega) (by decide) ?_
      refine x_iconst dL_isUsed_104 ?_
      refine x_icmp_ne (tgt := 112) dL_isUsed_105 (by decide) (by first | exact hz _ _ | exact hw.1 _ _ | exact zR_of _ | exact bI_z _ | assumption | exact ⟨by omega, by omega⟩) ⟨by decide, by decide⟩ (fun c105 => ?_) (fun c105 => ?_)
      · refine x_iconst dL_isUsed_112 ?_
        refine x_istore (L' := [xR (50, 0, 0), xI (r : Int), xR (53, b, 0), xI z, xI (1600 + 16 * (r : Int)), xR (54, S.2.2.2.1 54, 0), xI w, xI (gvN C.1 (U.1 (53, b, 0)) r w c), xI (c : Int), xI (U.1 (53, b, 0) (cfact C.1 (r : Int) w (c : Int))), xI 0]) dL_isUsed_113 (by decide) rfl ?_
        refine x_iload dL_isUsed_115 rfl ?_
        refine x_if_eq (tgt := 139) dL_isUsed_117 (by decide) ⟨by decide, by decide⟩ (fun _ => ?_) (fun z => absurd z (by decide))
        refine x_iload dL_isUsed_139 rfl ?_
        refine x_iload dL_isUsed_141 rfl ?_
        refine x_mmax dL_isUsed_143 wd845 ⟨wd390, wd36, wd391⟩ (by decide) (Nat.le_of_ble_eq_true rfl) (by first | exact hz _ _ | exact hw.1 _ _ | exact zR_of _ | exact bI_z _ | assumption | exact ⟨by omega, by omega⟩) (by first | exact hz _ _ | exact hw.1 _ _ | exact zR_of _ | exact bI_z _ | assumption | exact ⟨by omega, by omega⟩) ?_
        refine x_istore (L' := [xR (50, 0, 0), xI (r : Int), xR (53, b, 0), xI z, xI (1600 + 16 * (r : Int)), xR (54, S.2.2.2.1 54, 0), xI w, xI (if (gvN C.1 (U.1 (53, b, 0)) r w c) < (U.1 (53, b, 0) (cfact C.1 (r : Int) w (c : Int))) then (U.1 (53, b, 0) (cfact C.1 (r : Int) w (c : Int))) else (gvN C.1 (U.1 (53, b, 0)) r w c)), xI (c : Int), xI (U.1 (53, b, 0) (cfact C.1 (r : Int) w (c : Int))), xI 0]) dL_isUsed_146 (by decide) rfl ?_
        refine x_iinc (L' := [xR (50, 0, 0), xI (r : Int), xR (53, b, 0), xI z, xI (1600 + 16 * (r : Int)), xR (54, S.2.2.2.1 54, 0), xI w, xI (if (gvN C.1 (U.1 (53, b, 0)) r w c) < (U.1 (53, b, 0) (cfact C.1 (r : Int) w (c : Int))) then (U.1 (53, b, 0) (cfact C.1 (r : Int) w (c : Int))) else (gvN C.1 (U.1 (53, b, 0)) r w c)), xI ((c : Int) + 1), xI (U.1 (53, b, 0) (cfact C.1 (r : Int) w (c : Int))), xI 0]) dL_isUsed_148 rfl rfl ?_
        refine x_goto (tgt := 64) dL_isUsed_151 (by decide) ?_
        refine X.loc (L' := [xR (50, 0, 0), xI (r : Int), xR (53, b, 0), xI z, xI (1600 + 16 * (r : Int)), xR (54, S.2.2.2.1 54, 0), xI w, xI (if (gvN C.1 (U.1 (53, b, 0)) r w c) < (U.1 (53, b, 0) (cfact C.1 (r : Int) w (c : Int))) then (U.1 (53, b, 0) (cfact C.1 (r : Int) w (c : Int))) else (gvN C.1 (U.1 (53, b, 0)) r w c)), xI ((c : Int) + 1), none, none]) ⟨rfl, ⟨rfl, ⟨rfl, ⟨rfl, ⟨rfl, ⟨rfl, ⟨rfl, ⟨rfl, ⟨rfl, trivial⟩⟩⟩⟩⟩⟩⟩⟩⟩ ?_
        have kk := ih (c + 1) (by omega) (by omega)
        rw [show gvN C.1 (U.1 (53, b, 0)) r w (c + 1) = if (gvN C.1 (U.1 (53, b, 0)) r w c) < (U.1 (53, b, 0) (cfact C.1 (r : Int) w (c : Int))) then (U.1 (53, b, 0) (cfact C.1 (r : Int) w (c : Int))) else (gvN C.1 (U.1 (53, b, 0)) r w c) from by rw [gvN_s]; first | (rw [if_pos (by omega)]; done) | (rw [if_pos (by omega)]; first | rw [if_pos (by omega)] | rw [if_neg (by omega)]) | (rw [if_neg (by omega)]; first | rw [if_pos (by omega)] | rw [if_neg (by omega)])] at kk
        exact kk
      · refine x_iconst dL_isUsed_108 ?_
        refine x_goto (tgt := 113) dL_isUsed_109 (by decide) ?_
        refine x_istore (L' := [xR (50, 0, 0), xI (r : Int), xR (53, b, 0), xI z, xI (1600 + 16 * (r : Int)), xR (54, S.2.2.2.1 54, 0), xI w, xI (gvN C.1 (U.1 (53, b, 0)) r w c), xI (c : Int), xI (U.1 (53, b, 0) (cfact C.1 (r : Int) w (c : Int))), xI 1]) dL_isUsed_113 (by decide) rfl ?_
        refine x_iload dL_isUsed_115 rfl ?_
        refine x_if_eq (tgt := 139) dL_isUsed_117 (by decide) ⟨by decide, by decide⟩ (fun z => absurd z (by decide)) (fun _ => ?_)
        refine x_iload dL_isUsed_120 rfl ?_
        refine x_sipush (v := 999) dL_isUsed_122 (by decide) ?_
        refine x_icmp_ge (tgt := 134) dL_isUsed_125 (by decide) (by first | exact hz _ _ | exact hw.1 _ _ | exact zR_of _ | exact bI_z _ | assumption | exact ⟨by omega, by omega⟩) ⟨by decide, by decide⟩ (fun c125 => ?_) (fun c125 => ?_)
        · refine x_iload dL_isUsed_134 rfl ?_
          refine x_goto (tgt := 146) dL_isUsed_136 (by decide) ?_
          refine x_istore (L' := [xR (50, 0, 0), xI (r : Int), xR (53, b, 0), xI z, xI (1600 + 16 * (r : Int)), xR (54, S.2.2.2.1 54, 0), xI w, xI (gvN C.1 (U.1 (53, b, 0)) r w c), xI (c : Int), xI (U.1 (53, b, 0) (cfact C.1 (r : Int) w (c : Int))), xI 1]) dL_isUsed_146 (by decide) rfl ?_
          refine x_iinc (L' := [xR (50, 0, 0), xI (r : Int), xR (53, b, 0), xI z, xI (1600 + 16 * (r : Int)), xR (54, S.2.2.2.1 54, 0), xI w, xI (gvN C.1 (U.1 (53, b, 0)) r w c), xI ((c : Int) + 1), xI (U.1 (53, b, 0) (cfact C.1 (r : Int) w (c : Int))), xI 1]) dL_isUsed_148 rfl rfl ?_
          refine x_goto (tgt := 64) dL_isUsed_151 (by decide) ?_
          refine X.loc (L' := [xR (50, 0, 0), xI (r : Int), xR (53, b, 0), xI z, xI (1600 + 16 * (r : Int)), xR (54, S.2.2.2.1 54, 0), xI w, xI (gvN C.1 (U.1 (53, b, 0)) r w c), xI ((c : Int) + 1), none, none]) ⟨rfl, ⟨rfl, ⟨rfl, ⟨rfl, ⟨rfl, ⟨rfl, ⟨rfl, ⟨rfl, ⟨rfl, trivial⟩⟩⟩⟩⟩⟩⟩⟩⟩ ?_
          have kk := ih (c + 1) (by omega) (by omega)
          rw [show gvN C.1 (U.1 (53, b, 0)) r w (c + 1) = gvN C.1 (U.1 (53, b, 0)) r w c from by rw [gvN_s]; first | (rw [if_pos (by omega)]; done) | (rw [if_pos (by omega)]; first | rw [if_pos (by omega)] | rw [if_neg (by omega)]) | (rw [if_neg (by omega)]; first | rw [if_pos (by omega)] | rw [if_neg (by omega)])] at kk
          exact kk
        · refine x_sipush (v := 999) dL_isUsed_128 (by decide) ?_
          refine x_goto (tgt := 146) dL_isUsed_131 (by decide) ?_
          refine x_istore (L' := [xR (50, 0, 0), xI (r : Int), xR (53, b, 0), xI z, xI (1600 + 16 * (r : Int)), xR (54, S.2.2.2.1 54, 0), xI w, xI 999, xI (c : Int), xI (U.1 (53, b, 0) (cfact C.1 (r : Int) w (c : Int))), xI 1]) dL_isUsed_146 (by decide) rfl ?_
          refine x_iinc (L' := [xR (50, 0, 0), xI (r : Int), xR (53, b, 0), xI z, xI (1600 + 16 * (r : Int)), xR (54, S.2.2.2.1 54, 0), xI w, xI 999, xI ((c : Int) + 1), xI (U.1 (53, b, 0) (cfact C.1 (r : Int) w (c : Int))), xI 1]) dL_isUsed_148 rfl rfl ?_
          refine x_goto (tgt := 64) dL_isUsed_151 (by decide) ?_
          refine X.loc (L' := [xR (50, 0, 0), xI (r : Int), xR (53, b, 0), xI z, xI (1600 + 16 * (r : Int)), xR (54, S.2.2.2.1 54, 0), xI w, xI 999, xI ((c : Int) + 1), none, none]) ⟨rfl, ⟨rfl, ⟨rfl, ⟨rfl, ⟨rfl, ⟨rfl, ⟨rfl, ⟨rfl, ⟨rfl, trivial⟩⟩⟩⟩⟩⟩⟩⟩⟩ ?_
          have kk := ih (c + 1) (by omega) (by omega)
          rw [show gvN C.1 (U.1 (53, b, 0)) r w (c + 1) = 999 from by rw [gvN_s]; first | (rw [if_pos (by omega)]; done) | (rw [if_pos (by omega)]; first | rw [if_pos (by omega)] | rw [if_neg (by omega)]) | (rw [if_neg (by omega)]; first | rw [if_pos (by omega)] | rw [if_neg (by omega)])] at kk
          exact kk
theorem th_3 (U : XS) (l : XL) (x y z : Int) : (putI (putI (putI U l 0 x) l 1 y) l 2 z).1 l 0 = x ∧ (putI (putI (putI U l 0 x) l 1 y) l 2 z).1 l 1 = y ∧ (putI (putI (putI U l 0 x) l 1 y) l 2 z).1 l 2 = z := ⟨by simp [putI, xUpd], by simp [putI, xUpd], by simp [putI, xUpd]⟩
theorem th_o (U : XS) {l l' : XL} (h : l' ≠ l) (x y z : Int) : (putI (putI (putI U l 0 x) l 1 y) l 2 z).1 l' = U.1 l' := by rw [putI_o h, putI_o h, putI_o h]
set_option maxHeartbeats 4000000 in
set_option maxRecDepth 100000 in
theorem l_usedH (C S : XS) (hC : CB C) (hw : WI S) (hr : NR C S) (hcnt : Cnt S) (b : Int) (b0 : 0 ≤ b) (b1 : b < S.2.2.2.1 53) (on : Int) (H K : Int → Int64) (g : Int → Int) (hg : GOk g) (hl : Lay C.1 on g) (hS : Stab C.1 on H K) (L : Int) (hF : FI C on H K g L (S.1 (53, b, 0))) (r : Nat) (r1 : (r : Int) < C.1 (4, 0, 0) 2) (ho : bitI on r) (hL : g (C.1 (37, (r : Int), 0) 0) = L) (V : XS) (eU : NB b S V) (wU : WI V) (cU : S.2.2.2.1 54 < V.2.2.2.1 54) (z w : Int) (w0 : 0 ≤ w) (w1 : w ≤ 511) (hth : V.1 (54, S.2.2.2.1 54, 0) 0 = w / 64 ∧ V.1 (54, S.2.2.2.1 54, 0) 1 = w / 8 % 8 ∧ V.1 (54, S.2.2.2.1 54, 0) 2 = w % 8) (hI : IU C on H K g L r (S.1 (53, b, 0)) z w (V.1 (53, b, 0))) (KKw : ∀ (W : XS) (z2 : Int), NB b S W → WI W → S.2.2.2.1 54 < W.2.2.2.1 54 → IU C on H K g L r (S.1 (53, b, 0)) z2 (w + 1) (W.1 (53, b, 0)) → X mL_isUsed 20 [xR (50, 0, 0), xI (r : Int), xR (53, b, 0), xI z2, xI (1600 + 16 * (r : Int)), xR (54, S.2.2.2.1 54, 0), xI (w + 1), none, none, none, none] [] (hp W) 0 0 (pIU C S b on H K g L r)) : X mL_isUsed 154 [xR (50, 0, 0), xI (r : Int), xR (53, b, 0), xI z, xI (1600 + 16 * (r : Int)), xR (54, S.2.2.2.1 54, 0), xI w, xI (gvN C.1 (V.1 (53, b, 0)) r w (C.1 (34, (r : Int), 0) 2).toNat), none, none, none] [] (hp V) 0 0 (pIU C S b on H K g L r) := by
  have c4 := wf4_2 hC.1
  have c34 := wf34_2 hC.1 (b := (r : Int)) (by omega) (by omega)
  have h54 := hcnt.2.2.2.1
  have hR := (hC.2.1 r r1).1
  have n53 := eU.2.2.2.1 53
  have n54 := eU.2.2.2.1 54
  have hrU := hr.nb eU
  have nl := hrU.2 (r : Int) (by omega) r1
  obtain ⟨q4, qh, -, q6⟩ := nl
  obtain ⟨qh1, qh2, qh3, qh4, qh5⟩ := qh
  have hz := wU.1
  have nl0 := hrU.2 (r : Int) (by omega) r1
  have gi := gvN_in (f := C.1) (rk := V.1 (53, b, 0)) (fun k => wfa53 wU b0 (show b < V.2.2.2.1 53 by omega) k) r w (C.1 (34, (r : Int), 0) 2).toNat
  have gz : wG (V.1 (54, S.2.2.2.1 54, 0)) = w := by unfold wG; omega
  have hin := hfact_in hC.1 (r := (r : Int)) (by omega) r1 hR w0 w1
  have rin := wfa53 wU b0 (show b < V.2.2.2.1 53 by omega) (hfact C.1 (r : Int) w)
  refine x_aload_n dL_isUsed_154 rfl ?_
  refine x_iload dL_isUsed_155 rfl ?_
  refine x_iconst dL_isUsed_157 ?_
  refine x_iadd dL_isUsed_158 ?_
  refine x_aload dL_isUsed_159 rfl ?_
  refine x_callS_r (a := 0) (b := 0) (as := [xR (50, 0, 0), xI ((1600 + 16 * (r : Int)) + 1), xR (54, S.2.2.2.1 54, 0)]) (rest := []) ok_L_fact dL_isUsed_161 wd879 wd880 (c_fact V (1600 + 16 * (r : Int) + 1) (S.2.2.2.1 54) (C.1 (37, (r : Int), 0) 0) (V.1 (50, 0, 0) (1600 + 16 * (r : Int) + 2)) (V.1 (50, 0, 0) (1600 + 16 * (r : Int) + 3)) (by omega) (by omega) h54 cU qh1 (congrArg _ (by omega)) (congrArg _ (by omega)) qh4.1 qh4.2 qh5.1 qh5.2) rfl (Nat.le_of_ble_eq_true rfl) (Nat.le_of_ble_eq_true rfl) (by decide) (by omega) (by omega) ?_
  refine x_top (show 64 * C.1 (37, (r : Int), 0) 0 + 8 * V.1 (54, S.2.2.2.1 54, 0) (V.1 (50, 0, 0) (1600 + 16 * (r : Int) + 2)) + V.1 (54, S.2.2.2.1 54, 0) (V.1 (50, 0, 0) (1600 + 16 * (r : Int) + 3)) = hfact C.1 (r : Int) w from hf_val C (fun k => wfa54 wU h54 cU k) gz rfl ⟨qh2, qh4⟩ ⟨qh3, qh5⟩) ?_
  refine x_istore (L' := [xR (50, 0, 0), xI (r : Int), xR (53, b, 0), xI z, xI (1600 + 16 * (r : Int)), xR (54, S.2.2.2.1 54, 0), xI w, xI (gvN C.1 (V.1 (53, b, 0)) r w (C.1 (34, (r : Int), 0) 2).toNat), xI (hfact C.1 (r : Int) w), none, none]) dL_isUsed_164 (by decide) rfl ?_
  refine x_iload dL_isUsed_166 rfl ?_
  refine x_sipush (v := 999) dL_isUsed_168 (by decide) ?_
  refine x_icmp_ge (tgt := 195) dL_isUsed_171 (by decide) (by first | exact hz _ _ | exact hw.1 _ _ | exact zR_of _ | exact bI_z _ | assumption | exact ⟨by omega, by omega⟩) ⟨by decide, by decide⟩ (fun c171 => ?_) (fun c171 => ?_)
  · refine x_iinc (L' := [xR (50, 0, 0), xI (r : Int), xR (53, b, 0), xI z, xI (1600 + 16 * (r : Int)), xR (54, S.2.2.2.1 54, 0), xI (w + 1), xI (gvN C.1 (V.1 (53, b, 0)) r w (C.1 (34, (r : Int), 0) 2).toNat), xI (hfact C.1 (r : Int) w), none, none]) dL_isUsed_195 rfl rfl ?_
    refine x_goto (tgt := 20) dL_isUsed_198 (by decide) ?_
    refine X.loc (L' := [xR (50, 0, 0), xI (r : Int), xR (53, b, 0), xI z, xI (1600 + 16 * (r : Int)), xR (54, S.2.2.2.1 54, 0), xI (w + 1), none, none, none, none]) ⟨rfl, ⟨rfl, ⟨rfl, ⟨rfl, ⟨rfl, ⟨rfl, ⟨rfl, trivial⟩⟩⟩⟩⟩⟩⟩ ?_
    exact KKw V z eU wU cU (IU.same hC hl hF hI r1 ho hL w0 w1 (by unfold gvV; split <;> omega))
  · refine x_iload dL_isUsed_174 rfl ?_
    refine x_iconst dL_isUsed_176 ?_
    refine x_iadd dL_isUsed_177 ?_
    refine x_aload_n dL_isUsed_178 rfl ?_
    refine x_iload dL_isUsed_179 rfl ?_
    refine x_aldi (f := V.1 (53, b, 0)) dL_isUsed_181 (hp53 V (by omega) (by omega)) (show (53 : Nat) ≠ 99 by decide) (by omega) (by omega) (by decide) ?_
    have f181_1 := wfa53 wU (S := V) (b := b) (by omega) (by omega) (hfact C.1 (r : Int) w)
    refine x_icmp_ge (tgt := 195) dL_isUsed_182 (by decide) (by first | exact hz _ _ | exact hw.1 _ _ | exact zR_of _ | exact bI_z _ | assumption | exact ⟨by omega, by omega⟩) (by first | exact hz _ _ | exact hw.1 _ _ | exact zR_of _ | exact bI_z _ | assumption | exact ⟨by omega, by omega⟩) (fun c182 => ?_) (fun c182 => ?_)
    · refine x_iinc (L' := [xR (50, 0, 0), xI (r : Int), xR (53, b, 0), xI z, xI (1600 + 16 * (r : Int)), xR (54, S.2.2.2.1 54, 0), xI (w + 1), xI (gvN C.1 (V.1 (53, b, 0)) r w (C.1 (34, (r : Int), 0) 2).toNat), xI (hfact C.1 (r : Int) w), none, none]) dL_isUsed_195 rfl rfl ?_
      refine x_goto (tgt := 20) dL_isUsed_198 (by decide) ?_
      refine X.loc (L' := [xR (50, 0, 0), xI (r : Int), xR (53, b, 0), xI z, xI (1600 + 16 * (r : Int)), xR (54, S.2.2.2.1 54, 0), xI (w + 1), none, none, none, none]) ⟨rfl, ⟨rfl, ⟨rfl, ⟨rfl, ⟨rfl, ⟨rfl, ⟨rfl, trivial⟩⟩⟩⟩⟩⟩⟩ ?_
      exact KKw V z eU wU cU (IU.same hC hl hF hI r1 ho hL w0 w1 (by unfold gvV; split <;> omega))
    · refine x_aload_n dL_isUsed_185 rfl ?_
      refine x_iload dL_isUsed_186 rfl ?_
      refine x_iload dL_isUsed_188 rfl ?_
      refine x_iconst dL_isUsed_190 ?_
      refine x_iadd dL_isUsed_191 ?_
      refine x_asti dL_isUsed_192 (hp53 V (by omega) (by omega)) (show (53 : Nat) ≠ 99 by decide) (by omega) (by omega) (by decide) ?_
      refine x_heq (pa53 V (by omega) (by omega) (hfact C.1 (r : Int) w) ((gvN C.1 (V.1 (53, b, 0)) r w (C.1 (34, (r : Int), 0) 2).toNat) + 1)) ?_
      have hw192_2 : WI (putI V (53, b, 0) (hfact C.1 (r : Int) w) ((gvN C.1 (V.1 (53, b, 0)) r w (C.1 (34, (r : Int), 0) 2).toNat) + 1)) := wpa53 wU (by omega) (by omega) (by omega)
      refine x_iconst dL_isUsed_193 ?_
      refine x_istore_n (L' := [xR (50, 0, 0), xI (r : Int), xR (53, b, 0), xI 1, xI (1600 + 16 * (r : Int)), xR (54, S.2.2.2.1 54, 0), xI w, xI (gvN C.1 (V.1 (53, b, 0)) r w (C.1 (34, (r : Int), 0) 2).toNat), xI (hfact C.1 (r : Int) w), none, none]) dL_isUsed_194 (by decide) rfl ?_
      refine x_iinc (L' := [xR (50, 0, 0), xI (r : Int), xR (53, b, 0), xI 1, xI (1600 + 16 * (r : Int)), xR (54, S.2.2.2.1 54, 0), xI (w + 1), xI (gvN C.1 (V.1 (53, b, 0)) r w (C.1 (34, (r : Int), 0) 2).toNat), xI (hfact C.1 (r : Int) w), none, none]) dL_isUsed_195 rfl rfl ?_
      refine x_goto (tgt := 20) dL_isUsed_198 (by decide) ?_
      refine X.loc (L' := [xR (50, 0, 0), xI (r : Int), xR (53, b, 0), xI 1, xI (1600 + 16 * (r : Int)), xR (54, S.2.2.2.1 54, 0), xI (w + 1), none, none, none, none]) ⟨rfl, ⟨rfl, ⟨rfl, ⟨rfl, ⟨rfl, ⟨rfl, ⟨rfl, trivial⟩⟩⟩⟩⟩⟩⟩ ?_
      have gl := IU.low hC hg hl hS hF hI r1 nl0 ho hL w0 w1 (by unfold gvV; rw [if_neg (by omega)]; omega)
      rw [show gvV C.1 (V.1 (53, b, 0)) r w (C.1 (34, (r : Int), 0) 2).toNat = gvN C.1 (V.1 (53, b, 0)) r w (C.1 (34, (r : Int), 0) 2).toNat + 1 from if_neg (by omega)] at gl
      exact KKw (putI V (53, b, 0) (hfact C.1 (r : Int) w) ((gvN C.1 (V.1 (53, b, 0)) r w (C.1 (34, (r : Int), 0) 2).toNat) + 1)) 1 (eU.row _ _) (wpa53 wU b0 (show b < V.2.2.2.1 53 by omega) (by omega)) cU (by rw [putI_row]; exact gl)
set_option maxHeartbeats 4000000 in
set_option maxRecDepth 100000 in
theorem l_usedW (C S : XS) (hC : CB C) (hw : WI S) (hr : NR C S) (hcnt : Cnt S) (b : Int) (b0 : 0 ≤ b) (b1 : b < S.2.2.2.1 53) (on : Int) (H K : Int → Int64) (g : Int → Int) (hg : GOk g) (hl : Lay C.1 on g) (hS : Stab C.1 on H K) (L : Int) (hF : FI C on H K g L (S.1 (53, b, 0))) (r : Nat) (r1 : (r : Int) < C.1 (4, 0, 0) 2) (ho : bitI on r) (hL : g (C.1 (37, (r : Int), 0) 0) = L) : ∀ (nn : Nat) (U : XS) (w : Nat) (z : Int), 513 - (w : Int) < (nn : Int) → (NB b S U) → (WI U) → (S.2.2.2.1 54 < U.2.2.2.1 54) → (IU C on H K g L r (S.1 (53, b, 0)) z (w : Int) (U.1 (53, b, 0))) → (w ≤ 512) → X mL_isUsed 20 [xR (50, 0, 0), xI (r : Int), xR (53, b, 0), xI z, xI (1600 + 16 * (r : Int)), xR (54, S.2.2.2.1 54, 0), xI (w : Int), none, none, none, none] [] (hp U) 0 0 (pIU C S b on H K g L r) := by
  intro nn
  induction nn with
  | zero => intro U w z hm eU wU cU hI hw5; exfalso; omega
  | succ nn ih =>
    intro U w z hm eU wU cU hI hw5
    have c4 := wf4_2 hC.1
    have c34 := wf34_2 hC.1 (b := (r : Int)) (by omega) (by omega)
    have h54 := hcnt.2.2.2.1
    have hR := (hC.2.1 r r1).1
    have n53 := eU.2.2.2.1 53
    have n54 := eU.2.2.2.1 54
    have hrU := hr.nb eU
    have nl := hrU.2 (r : Int) (by omega) r1
    obtain ⟨q4, qh, -, q6⟩ := nl
    obtain ⟨qh1, qh2, qh3, qh4, qh5⟩ := qh
    have hz := wU.1
    have z01 := hI.2.1
    refine x_iload dL_isUsed_20 rfl ?_
    refine x_sipush (v := 512) dL_isUsed_22 (by decide) ?_
    refine x_icmp_ge (tgt := 201) dL_isUsed_25 (by decide) (by first | exact hz _ _ | exact hw.1 _ _ | exact zR_of _ | exact bI_z _ | assumption | exact ⟨by omega, by omega⟩) ⟨by decide, by decide⟩ (fun c25 => ?_) (fun c25 => ?_)
    · refine x_iload_n dL_isUsed_201 rfl ?_
      exact x_zret dL_isUsed_202 rfl z01 (by obtain rfl : w = 512 := (by omega); exact ⟨U, z, rfl, rfl, eU, wU, hI⟩)
    · refine x_aload dL_isUsed_28 rfl ?_
      refine x_iconst dL_isUsed_30 ?_
      refine x_iload dL_isUsed_31 rfl ?_
      refine x_bipush (v := 64) dL_isUsed_33 (by decide) ?_
      refine x_idiv dL_isUsed_35 (by omega) (by omega) (by omega) (by omega) ?_
      refine x_asti dL_isUsed_36 (hp54 U (by omega) (by omega)) (show (54 : Nat) ≠ 99 by decide) (by omega) (by omega) (by decide) ?_
      refine x_heq (pa54 U (by omega) (by omega) 0 ((w : Int) / 64)) ?_
      have hw36_1 : WI (putI U (54, S.2.2.2.1 54, 0) 0 ((w : Int) / 64)) := wpa54 wU (by omega) (by omega) (by omega)
      refine x_aload dL_isUsed_37 rfl ?_
      refine x_iconst dL_isUsed_39 ?_
      refine x_iload dL_isUsed_40 rfl ?_
      refine x_bipush (v := 8) dL_isUsed_42 (by decide) ?_
      refine x_idiv dL_isUsed_44 (by omega) (by omega) (by omega) (by omega) ?_
      refine x_bipush (v := 8) dL_isUsed_45 (by decide) ?_
      refine x_irem dL_isUsed_47 (by omega) (by omega) (by omega) (by omega) ?_
      refine x_asti dL_isUsed_48 (hp54 (putI U (54, S.2.2.2.1 54, 0) 0 ((w : Int) / 64)) (by omega) (by first | omega | (show _ < U.2.2.2.1 54; omega))) (show (54 : Nat) ≠ 99 by decide) (by omega) (by omega) (by decide) ?_
      refine x_heq (pa54 (putI U (54, S.2.2.2.1 54, 0) 0 ((w : Int) / 64)) (by omega) (by first | omega | (show _ < U.2.2.2.1 54; omega)) 1 (((w : Int) / 8) % 8)) ?_
      have hw48_2 : WI (putI (putI U (54, S.2.2.2.1 54, 0) 0 ((w : Int) / 64)) (54, S.2.2.2.1 54, 0) 1 (((w : Int) / 8) % 8)) := wpa54 hw36_1 (by omega) (by first | omega | (show _ < U.2.2.2.1 54; omega)) (by omega)
      refine x_aload dL_isUsed_49 rfl ?_
      refine x_iconst dL_isUsed_51 ?_
      refine x_iload dL_isUsed_52 rfl ?_
      refine x_bipush (v := 8) dL_isUsed_54 (by decide) ?_
      refine x_irem dL_isUsed_56 (by omega) (by omega) (by omega) (by omega) ?_
      refine x_asti dL_isUsed_57 (hp54 (putI (putI U (54, S.2.2.2.1 54, 0) 0 ((w : Int) / 64)) (54, S.2.2.2.1 54, 0) 1 (((w : Int) / 8) % 8)) (by omega) (by first | omega | (show _ < U.2.2.2.1 54; omega))) (show (54 : Nat) ≠ 99 by decide) (by omega) (by omega) (by decide) ?_
      refine x_heq (pa54 (putI (putI U (54, S.2.2.2.1 54, 0) 0 ((w : Int) / 64)) (54, S.2.2.2.1 54, 0) 1 (((w : Int) / 8) % 8)) (by omega) (by first | omega | (show _ < U.2.2.2.1 54; omega)) 2 ((w : Int) % 8)) ?_
      have hw57_3 : WI (putI (putI (putI U (54, S.2.2.2.1 54, 0) 0 ((w : Int) / 64)) (54, S.2.2.2.1 54, 0) 1 (((w : Int) / 8) % 8)) (54, S.2.2.2.1 54, 0) 2 ((w : Int) % 8)) := wpa54 hw48_2 (by omega) (by first | omega | (show _ < U.2.2.2.1 54; omega)) (by omega)
      refine x_iconst dL_isUsed_58 ?_
      refine x_istore (L' := [xR (50, 0, 0), xI (r : Int), xR (53, b, 0), xI z, xI (1600 + 16 * (r : Int)), xR (54, S.2.2.2.1 54, 0), xI (w : Int), xI 0, none, none, none]) dL_isUsed_59 (by decide) rfl ?_
      refine x_iconst dL_isUsed_61 ?_
      refine x_istore (L' := [xR (50, 0, 0), xI (r : Int), xR (53, b, 0), xI z, xI (1600 + 16 * (r : Int)), xR (54, S.2.2.2.1 54, 0), xI (w : Int), xI 0, xI 0, none, none]) dL_isUsed_62 (by decide) rfl ?_
      have e53 : (putI (putI (putI U (54, S.2.2.2.1 54, 0) 0 ((w : Int) / 64)) (54, S.2.2.2.1 54, 0) 1 (((w : Int) / 8) % 8)) (54, S.2.2.2.1 54, 0) 2 ((w : Int) % 8)).1 (53, b, 0) = U.1 (53, b, 0) := th_o U (nK (by decide) _ _ _ _) _ _ _
      have eV : NB b S (putI (putI (putI U (54, S.2.2.2.1 54, 0) 0 ((w : Int) / 64)) (54, S.2.2.2.1 54, 0) 1 (((w : Int) / 8) % 8)) (54, S.2.2.2.1 54, 0) 2 ((w : Int) % 8)) := ((eU.put ⟨by decide, by decide⟩ (Int.le_refl _) _ _).put ⟨by decide, by decide⟩ (Int.le_refl _) _ _).put ⟨by decide, by decide⟩ (Int.le_refl _) _ _
      have t3 := th_3 U (54, S.2.2.2.1 54, 0) ((w : Int) / 64) ((w : Int) / 8 % 8) ((w : Int) % 8)
      have hI2 : IU C on H K g L r (S.1 (53, b, 0)) z (w : Int) ((putI (putI (putI U (54, S.2.2.2.1 54, 0) 0 ((w : Int) / 64)) (54, S.2.2.2.1 54, 0) 1 (((w : Int) / 8) % 8)) (54, S.2.2.2.1 54, 0) 2 ((w : Int) % 8)).1 (53, b, 0)) := by rw [e53]; exact hI
      exact l_usedC C S hC hw hr hcnt b b0 b1 on H K g hg hl hS L hF r r1 ho hL (putI (putI (putI U (54, S.2.2.2.1 54, 0) 0 ((w : Int) / 64)) (54, S.2.2.2.1 54, 0) 1 (((w : Int) / 8) % 8)) (54, S.2.2.2.1 54, 0) 2 ((w : Int) % 8)) eV hw57_3 cU z (w : Int) (by omega) (by omega) t3 (l_usedH C S hC hw hr hcnt b b0 b1 on H K g hg hl hS L hF r r1 ho hL (putI (putI (putI U (54, S.2.2.2.1 54, 0) 0 ((w : Int) / 64)) (54, S.2.2.2.1 54, 0) 1 (((w : Int) / 8) % 8)) (54, S.2.2.2.1 54, 0) 2 ((w : Int) % 8)) eV hw57_3 cU z (w : Int) (by omega) (by omega) t3 hI2 (fun W z2 k1 k2 k3 k4 => ih W (w + 1) z2 (by omega) k1 k2 k3 k4 (by omega))) ((C.1 (34, (r : Int), 0) 2).toNat + 2) 0 (by omega) (by omega)
set_option maxHeartbeats 4000000 in
set_option maxRecDepth 100000 in
theorem c_isUsed (C S : XS) (hC : CB C) (hw : WI S) (hr : NR C S) (hcnt : Cnt S) (b : Int) (b0 : 0 ≤ b) (b1 : b < S.2.2.2.1 53) (on : Int) (H K : Int → Int64) (g : Int → Int) (hg : GOk g) (hl : Lay C.1 on g) (hS : Stab C.1 on H K) (L : Int) (hF : FI C on H K g L (S.1 (53, b, 0))) (r : Nat) (r1 : (r : Int) < C.1 (4, 0, 0) 2) (ho : bitI on r) (hL : g (C.1 (37, (r : Int), 0) 0) = L) : X mL_isUsed 0 (xEnt mL_isUsed [xR (50, 0, 0), xI (r : Int), xR (53, b, 0)]) [] (hp S) 1 3 (pIU C S b on H K g L r) := by
  have h54 := hcnt.2.2.2.1
  show X mL_isUsed 0 [xR (50, 0, 0), xI (r : Int), xR (53, b, 0), none, none, none, none, none, none, none, none] [] (hp S) 1 3 _
  refine x_iconst dL_isUsed_0 ?_
  refine x_istore_n (L' := [xR (50, 0, 0), xI (r : Int), xR (53, b, 0), xI 0, none, none, none, none, none, none, none]) dL_isUsed_1 (by decide) rfl ?_
  refine x_sipush (v := 1600) dL_isUsed_2 (by decide) ?_
  refine x_bipush (v := 16) dL_isUsed_5 (by decide) ?_
  refine x_iload_n dL_isUsed_7 rfl ?_
  refine x_imul dL_isUsed_8 ?_
  refine x_iadd dL_isUsed_9 ?_
  refine x_istore (L' := [xR (50, 0, 0), xI (r : Int), xR (53, b, 0), xI 0, xI (1600 + (16 * (r : Int))), none, none, none, none, none, none]) dL_isUsed_10 (by decide) rfl ?_
  refine x_iconst dL_isUsed_12 ?_
  refine x_newarray (54, S.2.2.2.1 54, 0) (t := 0) (n := 3) (N := 3) dL_isUsed_13 rfl wd89 (free54 S) (show (54 : Nat) ≠ 99 by decide) rfl (by decide) (by omega) (by omega) ?_
  refine x_heq (hp_n54 (by first | omega | exact hcnt.2.2.2.1)) ?_
  refine x_astore (L' := [xR (50, 0, 0), xI (r : Int), xR (53, b, 0), xI 0, xI (1600 + (16 * (r : Int))), xR (54, S.2.2.2.1 54, 0), none, none, none, none, none]) dL_isUsed_15 (by decide) rfl ?_
  refine x_iconst dL_isUsed_17 ?_
  refine x_istore (L' := [xR (50, 0, 0), xI (r : Int), xR (53, b, 0), xI 0, xI (1600 + (16 * (r : Int))), xR (54, S.2.2.2.1 54, 0), xI 0, none, none, none, none]) dL_isUsed_18 (by decide) rfl ?_
  have e53 : (sN54 S).1 (53, b, 0) = S.1 (53, b, 0) := (NQ.n54 S).1 _ (Or.inr (Or.inr b1))
  exact X.weak (l_usedW C S hC hw hr hcnt b b0 b1 on H K g hg hl hS L hF r r1 ho hL 514 (sN54 S) 0 0 (by omega) ((NQ.n54 S).nb b) (wi_n54 hw) (by rw [n54_c]; omega) (by rw [e53]; exact IU.start hF) (by omega)) (Nat.zero_le _) (Nat.zero_le _) (fun _ _ q => q)
