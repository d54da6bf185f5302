/-! the reference: listeners hear -/
theorem HI.start {C S : XS} {b l r : Int} {n : Nat} {t : Int} {v o : Int64} {L0 : List Int} {U : XS} (e : MdF S U) (w : WI U) (f : FinR C b n t (U.1 (73, 0, 0))) (hL : LR S l L0) (h7 : ∀ j : Nat, j < 64 → S.1 (70, 0, 0) (64 * l + j) = bI (bitJ o j)) : HI C S b l r n t v o L0 0 U := by
  obtain ⟨a1, a2, a3, a4, a5⟩ := e.hr l
  refine ⟨a1, w, f, fun j hj => ?_, ?_, fun _ => by rw [a2], fun q => ?_⟩
  · rw [if_neg (by omega), a4]; exact h7 j hj
  · rw [chgN, List.append_nil]
    exact hL.congr (by rw [a2]) (by rw [a3]) (by rw [a1.k (k := 69) rfl (by decide) (by decide) (by decide) (by decide)]) (a5 _)
  · obtain ⟨p1, p2, p3, p4, p5, p6⟩ := hL
    rw [a3] at q
    omega
noncomputable def hrB (S : XS) (l : Int) (N : Nat) : Nat := haveI := Classical.propDecidable; if (chLen (S.2.2.2.1 l) : Nat) < S.1 (68, 0, 0) l + N then 2 * chLen (S.2.2.2.1 l) else 0
/-- a listener's first hearing; the first k pairs are done -/
def HJ (C S : XS) (b l : Int) (n : Nat) (t : Int) (v : Int64) (k : Nat) (T : XS) : Prop := HrE l S T ∧ WI T ∧ FinR C b n t (T.1 (73, 0, 0)) ∧ (∀ j : Nat, j < k → T.1 (70, 0, 0) (64 * l + j) = bI (bitJ v j)) ∧ T.1 (68, 0, 0) = S.1 (68, 0, 0) ∧ T.2.2.2.1 = S.2.2.2.1 ∧ ∀ u : Int, T.1 (81, l, u) = S.1 (81, l, u)
theorem HJ.step {C S : XS} {b l : Int} {n : Nat} {t : Int} {v : Int64} {k : Nat} {T : XS} (h : HJ C S b l n t v k T) (hk : k < 64) {z : Int} (hz : z = bI (bitJ v k)) : HJ C S b l n t v (k + 1) (putI T (70, 0, 0) (64 * l + k) z) := by
  obtain ⟨h1, h2, h3, h4, h5, h6, h7⟩ := h
  refine ⟨h1.p70 (by omega) (by omega) z, wpa70 h2 (by rw [hz]; exact bI_01 _), h3, fun j hj => ?_, h5, h6, h7⟩
  rw [putI_at]
  by_cases y : j = k
  · subst y; rw [if_pos rfl, hz]
  · rw [if_neg (by omega), h4 j (by omega)]
set_option maxHeartbeats 4000000 in
set_option maxRecDepth 100000 in
theorem l_hears1 (C S : XS) (hC : CB C) (l b r a s t : Int) (l0 : 0 ≤ l) (l1 : l < 5) (b0 : 0 ≤ b) (b1 : b < C.1 (0, 0, 0) 6) (r0 : 0 ≤ r) (r1 : r ≤ 5) (a0 : -1 ≤ a) (s0 : -1 ≤ s) (n : Nat) (hn9 : (n : Int) ≤ C.1 (9, b, 0) 3) (e1 : S.1 (67, 0, 0) (5 * l + 1) = r) (e2 : S.1 (67, 0, 0) (5 * l + 2) = a) (e3 : S.1 (67, 0, 0) (5 * l + 3) = s) (v : Int64) (hv : v = hl C.1 b n t r &&& pairsN a s 64) : ∀ (nn : Nat) (T : XS) (k : Nat), 65 - (k : Int) < (nn : Int) → (HJ C S b l n t v k T) → (k ≤ 64) → X mX9_hears 37 [xR (50, 0, 0), xI l, xI 1, xI (k : Int), none, none] [] (hp T) 0 0 (fun o' h' => o' = .inl none ∧ ∃ T, h' = hp T ∧ HJ C S b l n t v 64 T) := by
  intro nn
  induction nn with
  | zero => intro T k hm hI hk; exfalso; omega
  | succ nn ih =>
    intro T k hm hI hk
    have wT := hI.2.1
    have hz := wT.1
    have hF := hI.2.2.1
    have e67 := hI.1.k (k := 67) rfl (by decide) (by decide) (by decide) (by decide) 0 0
    refine x_iload_n dX9_hears_37 rfl ?_
    refine x_bipush (v := 64) dX9_hears_38 (by decide) ?_
    refine x_icmp_ge (tgt := 150) dX9_hears_40 (by decide) (by first | exact hz _ _ | exact hw.1 _ _ | exact zR_of _ | exact bI_z _ | assumption | exact ⟨by omega, by omega⟩) ⟨by decide, by decide⟩ (fun c40 => ?_) (fun c40 => ?_)
    · exact x_vret dX9_hears_150 rfl ⟨rfl, T, rfl, by rw [show (64 : Nat) = k by omega]; exact hI⟩
    · have hk64 : k < 64 := by omega
      have fb := hF.hb hC b0 b1 hn9 (q := 64 * r + (k : Int)) (by omega) (by omega)
      have bit := hr_bit hv a0 s0 (k := k) (by omega)
      rw [← fb.1] at bit
      have v01 := bI_01 (bitJ v k)
      rw [← e2, ← e3, ← e67] at bit
      refine x_bipush (v := 64) dX9_hears_43 (by decide) ?_
      refine x_aload_n dX9_hears_45 rfl ?_
      refine x_get (v := xR (67, 0, 0)) dX9_hears_46 fl_RX9_64 (hp50 T) rfl ?_
      refine x_iconst dX9_hears_49 ?_
      refine x_iload_n dX9_hears_50 rfl ?_
      refine x_imul dX9_hears_51 ?_
      refine x_iconst dX9_hears_52 ?_
      refine x_iadd dX9_hears_53 ?_
      refine x_aldi (f := T.1 (67, 0, 0)) dX9_hears_54 (hp67 T) (show (67 : Nat) ≠ 99 by decide) (by omega) (by omega) (by decide) ?_
      have f54_1 := wfa67 wT (S := T) ((5 * l) + 1)
      refine x_imul dX9_hears_55 ?_
      refine x_iload_n dX9_hears_56 rfl ?_
      refine x_iadd dX9_hears_57 ?_
      refine x_top (show (64 * (T.1 (67, 0, 0) ((5 * l) + 1))) + (k : Int) = 64 * r + (k : Int) from by rw [e67, e1]) ?_
      refine x_istore (L' := [xR (50, 0, 0), xI l, xI 1, xI (k : Int), xI (64 * r + (k : Int)), none]) dX9_hears_58 (by decide) rfl ?_
      refine x_aload_n dX9_hears_60 rfl ?_
      refine x_get (v := xR (73, 0, 0)) dX9_hears_61 fl_RX9_87 (hp50 T) rfl ?_
      refine x_iload dX9_hears_64 rfl ?_
      refine x_aldi (f := T.1 (73, 0, 0)) dX9_hears_66 (hp73 T) (show (73 : Nat) ≠ 99 by decide) (by omega) (by omega) (by decide) ?_
      have f66_2 := wfa73 wT (S := T) (64 * r + (k : Int))
      refine x_sipush (v := 9999) dX9_hears_67 (by decide) ?_
      refine x_icmp_ge (tgt := 87) dX9_hears_70 (by decide) (by first | exact hz _ _ | exact hw.1 _ _ | exact zR_of _ | exact bI_z _ | assumption | exact ⟨by omega, by omega⟩) ⟨by decide, by decide⟩ (fun c70 => ?_) (fun c70 => ?_)
      · refine x_iconst dX9_hears_87 ?_
        have hzv : (0 : Int) = bI (bitJ v k) := by exact (bI_f (fun y => by have := bit.mp y; omega)).symm
        refine x_istore (L' := [xR (50, 0, 0), xI l, xI 1, xI (k : Int), xI (64 * r + (k : Int)), xI 0]) dX9_hears_88 (by decide) rfl ?_
        refine x_iload dX9_hears_90 rfl ?_
        refine x_aload_n dX9_hears_92 rfl ?_
        refine x_get (v := xR (70, 0, 0)) dX9_hears_93 fl_RX9_78 (hp50 T) rfl ?_
        refine x_bipush (v := 64) dX9_hears_96 (by decide) ?_
        refine x_iload_n dX9_hears_98 rfl ?_
        refine x_imul dX9_hears_99 ?_
        refine x_iload_n dX9_hears_100 rfl ?_
        refine x_iadd dX9_hears_101 ?_
        refine x_aldz (f := T.1 (70, 0, 0)) dX9_hears_102 (hp70 T) (show (70 : Nat) ≠ 99 by decide) (by omega) (by omega) (by decide) ?_
        have f102_3 := wfa70 wT (S := T) ((64 * l) + (k : Int))
        refine x_icmp_eq (tgt := 131) dX9_hears_103 (by decide) ⟨by decide, by decide⟩ (by first | exact hz _ _ | exact hw.1 _ _ | exact zR_of _ | exact bI_z _ | assumption | exact ⟨by omega, by omega⟩) (fun c103 => ?_) (fun c103 => ?_)
        · refine x_aload_n dX9_hears_131 rfl ?_
          refine x_get (v := xR (70, 0, 0)) dX9_hears_132 fl_RX9_78 (hp50 T) rfl ?_
          refine x_bipush (v := 64) dX9_hears_135 (by decide) ?_
          refine x_iload_n dX9_hears_137 rfl ?_
          refine x_imul dX9_hears_138 ?_
          refine x_iload_n dX9_hears_139 rfl ?_
          refine x_iadd dX9_hears_140 ?_
          refine x_iload dX9_hears_141 rfl ?_
          refine x_astz dX9_hears_143 (hp70 T) (show (70 : Nat) ≠ 99 by decide) (by omega) (by omega) (by decide) (Or.inl rfl) ?_
          refine x_heq (pa70 T ((64 * l) + (k : Int)) 0) ?_
          have hw143_4 : WI (putI T (70, 0, 0) ((64 * l) + (k : Int)) 0) := wpa70 wT (Or.inl rfl)
          refine x_iinc (L' := [xR (50, 0, 0), xI l, xI 1, xI ((k : Int) + 1), xI (64 * r + (k : Int)), xI 0]) dX9_hears_144 rfl rfl ?_
          refine x_goto (tgt := 37) dX9_hears_147 (by decide) ?_
          refine X.loc (L' := [xR (50, 0, 0), xI l, xI 1, xI ((k : Int) + 1), none, none]) ⟨rfl, ⟨rfl, ⟨rfl, ⟨rfl, trivial⟩⟩⟩⟩ ?_
          exact ih (putI T (70, 0, 0) ((64 * l) + (k : Int)) 0) (k + 1) (by omega) (hI.step (by omega) hzv) (by omega)
        · refine x_iload_n dX9_hears_106 rfl ?_
          refine x_if_ne (tgt := 131) dX9_hears_107 (by decide) ⟨by decide, by decide⟩ (fun _ => ?_) (fun z => absurd z (by decide))
          refine x_aload_n dX9_hears_131 rfl ?_
          refine x_get (v := xR (70, 0, 0)) dX9_hears_132 fl_RX9_78 (hp50 T) rfl ?_
          refine x_bipush (v := 64) dX9_hears_135 (by decide) ?_
          refine x_iload_n dX9_hears_137 rfl ?_
          refine x_imul dX9_hears_138 ?_
          refine x_iload_n dX9_hears_139 rfl ?_
          refine x_iadd dX9_hears_140 ?_
          refine x_iload dX9_hears_141 rfl ?_
          refine x_astz dX9_hears_143 (hp70 T) (show (70 : Nat) ≠ 99 by decide) (by omega) (by omega) (by decide) (Or.inl rfl) ?_
          refine x_heq (pa70 T ((64 * l) + (k : Int)) 0) ?_
          have hw143_5 : WI (putI T (70, 0, 0) ((64 * l) + (k : Int)) 0) := wpa70 wT (Or.inl rfl)
          refine x_iinc (L' := [xR (50, 0, 0), xI l, xI 1, xI ((k : Int) + 1), xI (64 * r + (k : Int)), xI 0]) dX9_hears_144 rfl rfl ?_
          refine x_goto (tgt := 37) dX9_hears_147 (by decide) ?_
          refine X.loc (L' := [xR (50, 0, 0), xI l, xI 1, xI ((k : Int) + 1), none, none]) ⟨rfl, ⟨rfl, ⟨rfl, ⟨rfl, trivial⟩⟩⟩⟩ ?_
          exact ih (putI T (70, 0, 0) ((64 * l) + (k : Int)) 0) (k + 1) (by omega) (hI.step (by omega) hzv) (by omega)
      · refine x_aload_n dX9_hears_73 rfl ?_
        refine x_iload_n dX9_hears_74 rfl ?_
        refine x_iload dX9_hears_75 rfl ?_
        refine x_callV_r (a := 0) (b := 0) (as := [xI l, xI (64 * r + (k : Int))]) (rest := []) ok_X9_isMeant dX9_hears_77 wd1284 ⟨wd1286, wd34⟩ (hp50 T) rfl rfl (m_isMeant T wT l (64 * r + (k : Int)) l0 l1 (by omega) (by omega)) rfl (Nat.le_of_ble_eq_true rfl) (Nat.le_of_ble_eq_true rfl) (by decide) (by omega) (by omega) ?_
        by_cases b77 : (T.1 (67, 0, 0) (5 * l + 2) < 0 ∨ (64 * r + (k : Int)) / 8 % 8 = T.1 (67, 0, 0) (5 * l + 2)) ∧ (T.1 (67, 0, 0) (5 * l + 3) < 0 ∨ (64 * r + (k : Int)) % 8 = T.1 (67, 0, 0) (5 * l + 3))
        · refine x_top (bI_t b77) ?_
          refine x_if_eq (tgt := 87) dX9_hears_80 (by decide) ⟨by decide, by decide⟩ (fun z => absurd z (by decide)) (fun _ => ?_)
          refine x_iconst dX9_hears_83 ?_
          refine x_goto (tgt := 88) dX9_hears_84 (by decide) ?_
          have hzv : (1 : Int) = bI (bitJ v k) := by exact (bI_t (bit.mpr (by omega))).symm
          refine x_istore (L' := [xR (50, 0, 0), xI l, xI 1, xI (k : Int), xI (64 * r + (k : Int)), xI 1]) dX9_hears_88 (by decide) rfl ?_
          refine x_iload dX9_hears_90 rfl ?_
          refine x_aload_n dX9_hears_92 rfl ?_
          refine x_get (v := xR (70, 0, 0)) dX9_hears_93 fl_RX9_78 (hp50 T) rfl ?_
          refine x_bipush (v := 64) dX9_hears_96 (by decide) ?_
          refine x_iload_n dX9_hears_98 rfl ?_
          refine x_imul dX9_hears_99 ?_
          refine x_iload_n dX9_hears_100 rfl ?_
          refine x_iadd dX9_hears_101 ?_
          refine x_aldz (f := T.1 (70, 0, 0)) dX9_hears_102 (hp70 T) (show (70 : Nat) ≠ 99 by decide) (by omega) (by omega) (by decide) ?_
          have f102_6 := wfa70 wT (S := T) ((64 * l) + (k : Int))
          refine x_icmp_eq (tgt := 131) dX9_hears_103 (by decide) ⟨by decide, by decide⟩ (by first | exact hz _ _ | exact hw.1 _ _ | exact zR_of _ | exact bI_z _ | assumption | exact ⟨by omega, by omega⟩) (fun c103 => ?_) (fun c103 => ?_)
          · refine x_aload_n dX9_hears_131 rfl ?_
            refine x_get (v := xR (70, 0, 0)) dX9_hears_132 fl_RX9_78 (hp50 T) rfl ?_
            refine x_bipush (v := 64) dX9_hears_135 (by decide) ?_
            refine x_iload_n dX9_hears_137 rfl ?_
            refine x_imul dX9_hears_138 ?_
            refine x_iload_n dX9_hears_139 rfl ?_
            refine x_iadd dX9_hears_140 ?_
            refine x_iload dX9_hears_141 rfl ?_
            refine x_astz dX9_hears_143 (hp70 T) (show (70 : Nat) ≠ 99 by decide) (by omega) (by omega) (by decide) (Or.inr rfl) ?_
            refine x_heq (pa70 T ((64 * l) + (k : Int)) 1) ?_
            have hw143_7 : WI (putI T (70, 0, 0) ((64 * l) + (k : Int)) 1) := wpa70 wT (Or.inr rfl)
            refine x_iinc (L' := [xR (50, 0, 0), xI l, xI 1, xI ((k : Int) + 1), xI (64 * r + (k : Int)), xI 1]) dX9_hears_144 rfl rfl ?_
            refine x_goto (tgt := 37) dX9_hears_147 (by decide) ?_
            refine X.loc (L' := [xR (50, 0, 0), xI l, xI 1, xI ((k : Int) + 1), none, none]) ⟨rfl, ⟨rfl, ⟨rfl, ⟨rfl, trivial⟩⟩⟩⟩ ?_
            exact ih (putI T (70, 0, 0) ((64 * l) + (k : Int)) 1) (k + 1) (by omega) (hI.step (by omega) hzv) (by omega)
          · refine x_iload_n dX9_hears_106 rfl ?_
            refine x_if_ne (tgt := 131) dX9_hears_107 (by decide) ⟨by decide, by decide⟩ (fun _ => ?_) (fun z => absurd z (by decide))
            refine x_aload_n dX9_hears_131 rfl ?_
            refine x_get (v := xR (70, 0, 0)) dX9_hears_132 fl_RX9_78 (hp50 T) rfl ?_
            refine x_bipush (v := 64) dX9_hears_135 (by decide) ?_
            refine x_iload_n dX9_hears_137 rfl ?_
            refine x_imul dX9_hears_138 ?_
            refine x_iload_n dX9_hears_139 rfl ?_
            refine x_iadd dX9_hears_140 ?_
            refine x_iload dX9_hears_141 rfl ?_
            refine x_astz dX9_hears_143 (hp70 T) (show (70 : Nat) ≠ 99 by decide) (by omega) (by omega) (by decide) (Or.inr rfl) ?_
            refine x_heq (pa70 T ((64 * l) + (k : Int)) 1) ?_
            have hw143_8 : WI (putI T (70, 0, 0) ((64 * l) + (k : Int)) 1) := wpa70 wT (Or.inr rfl)
            refine x_iinc (L' := [xR (50, 0, 0), xI l, xI 1, xI ((k : Int) + 1), xI (64 * r + (k : Int)), xI 1]) dX9_hears_144 rfl rfl ?_
            refine x_goto (tgt := 37) dX9_hears_147 (by decide) ?_
            refine X.loc (L' := [xR (50, 0, 0), xI l, xI 1, xI ((k : Int) + 1), none, none]) ⟨rfl, ⟨rfl, ⟨rfl, ⟨rfl, trivial⟩⟩⟩⟩ ?_
            exact ih (putI T (70, 0, 0) ((64 * l) + (k : Int)) 1) (k + 1) (by omega) (hI.step (by omega) hzv) (by omega)
        · refine x_top (bI_f b77) ?_
          refine x_if_eq (tgt := 87) dX9_hears_80 (by decide) ⟨by decide, by decide⟩ (fun _ => ?_) (fun z => absurd z (by decide))
          refine x_iconst dX9_hears_87 ?_
          have hzv : (0 : Int) = bI (bitJ v k) := by exact (bI_f (fun y => by have := bit.mp y; omega)).symm
          refine x_istore (L' := [xR (50, 0, 0), xI l, xI 1, xI (k : Int), xI (64 * r + (k : Int)), xI 0]) dX9_hears_88 (by decide) rfl ?_
          refine x_iload dX9_hears_90 rfl ?_
          refine x_aload_n dX9_hears_92 rfl ?_
          refine x_get (v := xR (70, 0, 0)) dX9_hears_93 fl_RX9_78 (hp50 T) rfl ?_
          refine x_bipush (v := 64) dX9_hears_96 (by decide) ?_
          refine x_iload_n dX9_hears_98 rfl ?_
          refine x_imul dX9_hears_99 ?_
          refine x_iload_n dX9_hears_100 rfl ?_
          refine x_iadd dX9_hears_101 ?_
          refine x_aldz (f := T.1 (70, 0, 0)) dX9_hears_102 (hp70 T) (show (70 : Nat) ≠ 99 by decide) (by omega) (by omega) (by decide) ?_
          have f102_9 := wfa70 wT (S := T) ((64 * l) + (k : Int))
          refine x_icmp_eq (tgt := 131) dX9_hears_103 (by decide) ⟨by decide, by decide⟩ (by first | exact hz _ _ | exact hw.1 _ _ | exact zR_of _ | exact bI_z _ | assumption | exact ⟨by omega, by omega⟩) (fun c103 => ?_) (fun c103 => ?_)
          · refine x_aload_n dX9_hears_131 rfl ?_
            refine x_get (v := xR (70, 0, 0)) dX9_hears_132 fl_RX9_78 (hp50 T) rfl ?_
            refine x_bipush (v := 64) dX9_hears_135 (by decide) ?_
            refine x_iload_n dX9_hears_137 rfl ?_
            refine x_imul dX9_hears_138 ?_
            refine x_iload_n dX9_hears_139 rfl ?_
            refine x_iadd dX9_hears_140 ?_
            refine x_iload dX9_hears_141 rfl ?_
            refine x_astz dX9_hears_143 (hp70 T) (show (70 : Nat) ≠ 99 by decide) (by omega) (by omega) (by decide) (Or.inl rfl) ?_
            refine x_heq (pa70 T ((64 * l) + (k : Int)) 0) ?_
            have hw143_10 : WI (putI T (70, 0, 0) ((64 * l) + (k : Int)) 0) := wpa70 wT (Or.inl rfl)
            refine x_iinc (L' := [xR (50, 0, 0), xI l, xI 1, xI ((k : Int) + 1), xI (64 * r + (k : Int)), xI 0]) dX9_hears_144 rfl rfl ?_
            refine x_goto (tgt := 37) dX9_hears_147 (by decide) ?_
            refine X.loc (L' := [xR (50, 0, 0), xI l, xI 1, xI ((k : Int) + 1), none, none]) ⟨rfl, ⟨rfl, ⟨rfl, ⟨rfl, trivial⟩⟩⟩⟩ ?_
            exact ih (putI T (70, 0, 0) ((64 * l) + (k : Int)) 0) (k + 1) (by omega) (hI.step (by omega) hzv) (by omega)
          · refine x_iload_n dX9_hears_106 rfl ?_
            refine x_if_ne (tgt := 131) dX9_hears_107 (by decide) ⟨by decide, by decide⟩ (fun _ => ?_) (fun z => absurd z (by decide))
            refine x_aload_n dX9_hears_131 rfl ?_
            refine x_get (v := xR (70, 0, 0)) dX9_hears_132 fl_RX9_78 (hp50 T) rfl ?_
            refine x_bipush (v := 64) dX9_hears_135 (by decide) ?_
            refine x_iload_n dX9_hears_137 rfl ?_
            refine x_imul dX9_hears_138 ?_
            refine x_iload_n dX9_hears_139 rfl ?_
            refine x_iadd dX9_hears_140 ?_
            refine x_iload dX9_hears_141 rfl ?_
            refine x_astz dX9_hears_143 (hp70 T) (show (70 : Nat) ≠ 99 by decide) (by omega) (by omega) (by decide) (Or.inl rfl) ?_
            refine x_heq (pa70 T ((64 * l) + (k : Int)) 0) ?_
            have hw143_11 : WI (putI T (70, 0, 0) ((64 * l) + (k : Int)) 0) := wpa70 wT (Or.inl rfl)
            refine x_iinc (L' := [xR (50, 0, 0), xI l, xI 1, xI ((k : Int) + 1), xI (64 * r + (k : Int)), xI 0]) dX9_hears_144 rfl rfl ?_
            refine x_goto (tgt := 37) dX9_hears_147 (by decide) ?_
            refine X.loc (L' := [xR (50, 0, 0), xI l, xI 1, xI ((k : Int) + 1), none, none]) ⟨rfl, ⟨rfl, ⟨rfl, ⟨rfl, trivial⟩⟩⟩⟩ ?_
            exact ih (putI T (70, 0, 0) ((64 * l) + (k : Int)) 0) (k + 1) (by omega) (hI.step (by omega) hzv) (by omega)
set_option maxHeartbeats 4000000 in
set_option maxRecDepth 100000 in
theorem m_hears0 (C S : XS) (hC : CB C) (hw : WI S) (hM : MR C S) (l b r a s t : Int) (l0 : 0 ≤ l) (l1 : l < 5) (b0 : 0 ≤ b) (b1 : b < C.1 (0, 0, 0) 6) (r0 : 0 ≤ r) (r1 : r ≤ 5) (a0 : -1 ≤ a) (s0 : -1 ≤ s) (t0 : 0 ≤ t) (t1 : t < 24) (n : Nat) (hn9 : (n : Int) = C.1 (9, b, 0) 3) (e0 : S.1 (67, 0, 0) (5 * l) = b) (e1 : S.1 (67, 0, 0) (5 * l + 1) = r) (e2 : S.1 (67, 0, 0) (5 * l + 2) = a) (e3 : S.1 (67, 0, 0) (5 * l + 3) = s) (e4 : S.1 (67, 0, 0) (5 * l + 4) = t) (v : Int64) (hv : v = hl C.1 b n t r &&& pairsN a s 64) (o : Int64) (L0 : List Int) (hL : LR S l L0) (h70 : ∀ j : Nat, j < 64 → S.1 (70, 0, 0) (64 * l + j) = bI (bitJ o j)) (h7 : S.1 (68, 0, 0) l + ((chgN r (jCm v o) (jGn v o) 64).length : Nat) ≤ 7680) : X mX9_hears 0 (xEnt mX9_hears [xR (50, 0, 0), xI l, xI 0]) [] (hp S) 1 (hrB S l (chgN r (jCm v o) (jGn v o) 64).length) (fun o' h' => o' = .inl none ∧ ∃ T, h' = hp T ∧ HI C S b l r n t v o L0 64 T) := by
  have c6 := wf0_6 hC.1
  have c9 := wf9_3 hC.1 b0 (show b < 4 by omega)
  have mb := (hM.2.2.2.1 b b0 (by omega)).1
  have hz := hw.1
  have hS := hL.2.2.2.1
  have hSc := hL.2.2.2.2.1
  show X mX9_hears 0 [xR (50, 0, 0), xI l, xI 0, none, none, none] [] (hp S) 1 (hrB S l (chgN r (jCm v o) (jGn v o) 64).length) _
  refine x_aload_n dX9_hears_0 rfl ?_
  refine x_aload_n dX9_hears_1 rfl ?_
  refine x_get (v := xR (67, 0, 0)) dX9_hears_2 fl_RX9_64 (hp50 S) rfl ?_
  refine x_iconst dX9_hears_5 ?_
  refine x_iload_n dX9_hears_6 rfl ?_
  refine x_imul dX9_hears_7 ?_
  refine x_aldi (f := S.1 (67, 0, 0)) dX9_hears_8 (hp67 S) (show (67 : Nat) ≠ 99 by decide) (by omega) (by omega) (by decide) ?_
  have f8_1 := wfa67 hw (S := S) (5 * l)
  refine x_top (show S.1 (67, 0, 0) (5 * l) = b from e0) ?_
  refine x_aload_n dX9_hears_9 rfl ?_
  refine x_get (v := xR (58, 0, 0)) dX9_hears_10 fl_RX9_33 (hp50 S) rfl ?_
  refine x_aload_n dX9_hears_13 rfl ?_
  refine x_get (v := xR (67, 0, 0)) dX9_hears_14 fl_RX9_64 (hp50 S) rfl ?_
  refine x_iconst dX9_hears_17 ?_
  refine x_iload_n dX9_hears_18 rfl ?_
  refine x_imul dX9_hears_19 ?_
  refine x_aldi (f := S.1 (67, 0, 0)) dX9_hears_20 (hp67 S) (show (67 : Nat) ≠ 99 by decide) (by omega) (by omega) (by decide) ?_
  have f20_2 := wfa67 hw (S := S) (5 * l)
  refine x_top (show S.1 (67, 0, 0) (5 * l) = b from e0) ?_
  refine x_aldi (f := S.1 (58, 0, 0)) dX9_hears_21 (hp58 S) (show (58 : Nat) ≠ 99 by decide) (by omega) (by omega) (by decide) ?_
  have f21_3 := wfa58 hw (S := S) b
  refine x_top (show S.1 (58, 0, 0) b = (n : Int) from by rw [mb, hn9]) ?_
  refine x_aload_n dX9_hears_22 rfl ?_
  refine x_get (v := xR (67, 0, 0)) dX9_hears_23 fl_RX9_64 (hp50 S) rfl ?_
  refine x_iconst dX9_hears_26 ?_
  refine x_iload_n dX9_hears_27 rfl ?_
  refine x_imul dX9_hears_28 ?_
  refine x_iconst dX9_hears_29 ?_
  refine x_iadd dX9_hears_30 ?_
  refine x_aldi (f := S.1 (67, 0, 0)) dX9_hears_31 (hp67 S) (show (67 : Nat) ≠ 99 by decide) (by omega) (by omega) (by decide) ?_
  have f31_4 := wfa67 hw (S := S) ((5 * l) + 4)
  refine x_top (show S.1 (67, 0, 0) ((5 * l) + 4) = t from e4) ?_
  refine x_callV (a := 0) (b := 0) (as := [xI b, xI (n : Int), xI t]) (rest := []) ok_X9_finds dX9_hears_32 wd1245 ⟨wd1247, wd26⟩ (hp50 S) rfl rfl (m_finds C S hC hw hM.1 hM.2.1 hM.2.2.1 b b0 b1 n (by omega) t t0 t1) rfl (Nat.le_of_ble_eq_true rfl) (Nat.le_of_ble_eq_true rfl) (by decide) (by omega) (by omega) (fun _ q => ?_) (fun _ _ q => by cases q.1) (fun _ _ q => by cases q.1)
  obtain ⟨-, U, rfl, eU, wU, fU, -, -⟩ := q
  refine x_iconst dX9_hears_35 ?_
  refine x_istore_n (L' := [xR (50, 0, 0), xI l, xI 0, xI 0, none, none]) dX9_hears_36 (by decide) rfl ?_
  refine l_hears C S hC l b r a s t l0 l1 b0 b1 r0 r1 a0 s0 n (by omega) e1 e2 e3 v hv o L0 hS hL.1 hSc h7 66 U 0 _ _ (by omega) (HI.start eU wU fU hL h70) ?_ (by omega)
  intro q1 q2
  have e68 := (eU.hr l).2.2.1
  rw [hrB, if_pos q2]
  exact ⟨Nat.le_refl _, Nat.le_refl _⟩
set_option maxHeartbeats 4000000 in
set_option maxRecDepth 100000 in
theorem m_hears1 (C S : XS) (hC : CB C) (hw : WI S) (hM : MR C S) (l b r a s t : Int) (l0 : 0 ≤ l) (l1 : l < 5) (b0 : 0 ≤ b) (b1 : b < C.1 (0, 0, 0) 6) (r0 : 0 ≤ r) (r1 : r ≤ 5) (a0 : -1 ≤ a) (s0 : -1 ≤ s) (t0 : 0 ≤ t) (t1 : t < 24) (n : Nat) (hn9 : (n : Int) = C.1 (9, b, 0) 3) (e0 : S.1 (67, 0, 0) (5 * l) = b) (e1 : S.1 (67, 0, 0) (5 * l + 1) = r) (e2 : S.1 (67, 0, 0) (5 * l + 2) = a) (e3 : S.1 (67, 0, 0) (5 * l + 3) = s) (e4 : S.1 (67, 0, 0) (5 * l + 4) = t) (v : Int64) (hv : v = hl C.1 b n t r &&& pairsN a s 64) : X mX9_hears 0 (xEnt mX9_hears [xR (50, 0, 0), xI l, xI 1]) [] (hp S) 0 0 (fun o' h' => o' = .inl none ∧ ∃ T, h' = hp T ∧ HJ C S b l n t v 64 T) := by
  have c6 := wf0_6 hC.1
  have c9 := wf9_3 hC.1 b0 (show b < 4 by omega)
  have mb := (hM.2.2.2.1 b b0 (by omega)).1
  have hz := hw.1
  show X mX9_hears 0 [xR (50, 0, 0), xI l, xI 1, none, none, none] [] (hp S) 0 0 _
  refine x_aload_n dX9_hears_0 rfl ?_
  refine x_aload_n dX9_hears_1 rfl ?_
  refine x_get (v := xR (67, 0, 0)) dX9_hears_2 fl_RX9_64 (hp50 S) rfl ?_
  refine x_iconst dX9_hears_5 ?_
  refine x_iload_n dX9_hears_6 rfl ?_
  refine x_imul dX9_hears_7 ?_
  refine x_aldi (f := S.1 (67, 0, 0)) dX9_hears_8 (hp67 S) (show (67 : Nat) ≠ 99 by decide) (by omega) (by omega) (by decide) ?_
  have f8_1 := wfa67 hw (S := S) (5 * l)
  refine x_top (show S.1 (67, 0, 0) (5 * l) = b from e0) ?_
  refine x_aload_n dX9_hears_9 rfl ?_
  refine x_get (v := xR (58, 0, 0)) dX9_hears_10 fl_RX9_33 (hp50 S) rfl ?_
  refine x_aload_n dX9_hears_13 rfl ?_
  refine x_get (v := xR (67, 0, 0)) dX9_hears_14 fl_RX9_64 (hp50 S) rfl ?_
  refine x_iconst dX9_hears_17 ?_
  refine x_iload_n dX9_hears_18 rfl ?_
  refine x_imul dX9_hears_19 ?_
  refine x_aldi (f := S.1 (67, 0, 0)) dX9_hears_20 (hp67 S) (show (67 : Nat) ≠ 99 by decide) (by omega) (by omega) (by decide) ?_
  have f20_2 := wfa67 hw (S := S) (5 * l)
  refine x_top (show S.1 (67, 0, 0) (5 * l) = b from e0) ?_
  refine x_aldi (f := S.1 (58, 0, 0)) dX9_hears_21 (hp58 S) (show (58 : Nat) ≠ 99 by decide) (by omega) (by omega) (by decide) ?_
  have f21_3 := wfa58 hw (S := S) b
  refine x_top (show S.1 (58, 0, 0) b = (n : Int) from by rw [mb, hn9]) ?_
  refine x_aload_n dX9_hears_22 rfl ?_
  refine x_get (v := xR (67, 0, 0)) dX9_hears_23 fl_RX9_64 (hp50 S) rfl ?_
  refine x_iconst dX9_hears_26 ?_
  refine x_iload_n dX9_hears_27 rfl ?_
  refine x_imul dX9_hears_28 ?_
  refine x_iconst dX9_hears_29 ?_
  refine x_iadd dX9_hears_30 ?_
  refine x_aldi (f := S.1 (67, 0, 0)) dX9_hears_31 (hp67 S) (show (67 : Nat) ≠ 99 by decide) (by omega) (by omega) (by decide) ?_
  have f31_4 := wfa67 hw (S := S) ((5 * l) + 4)
  refine x_top (show S.1 (67, 0, 0) ((5 * l) + 4) = t from e4) ?_
  refine x_callV (a := 0) (b := 0) (as := [xI b, xI (n : Int), xI t]) (rest := []) ok_X9_finds dX9_hears_32 wd1245 ⟨wd1247, wd26⟩ (hp50 S) rfl rfl (m_finds C S hC hw hM.1 hM.2.1 hM.2.2.1 b b0 b1 n (by omega) t t0 t1) rfl (Nat.le_of_ble_eq_true rfl) (Nat.le_of_ble_eq_true rfl) (by decide) (by omega) (by omega) (fun _ q => ?_) (fun _ _ q => by cases q.1) (fun _ _ q => by cases q.1)
  obtain ⟨-, U, rfl, eU, wU, fU, -, -⟩ := q
  refine x_iconst dX9_hears_35 ?_
  refine x_istore_n (L' := [xR (50, 0, 0), xI l, xI 1, xI 0, none, none]) dX9_hears_36 (by decide) rfl ?_
  exact l_hears1 C S hC l b r a s t l0 l1 b0 b1 r0 r1 a0 s0 n (by omega) e1 e2 e3 v hv 66 U 0 (by omega) ⟨(eU.hr l).1, wU, fU, fun j hj => absurd hj (by omega), (eU.hr l).2.2.1, (eU.hr l).2.1, (eU.hr l).2.2.2.2⟩ (by omega)
/-- alike but for listeners and what the reference works on -/
def HsE (S T : XS) : Prop := (∀ l' : XL, mI l'.1 = false → l'.1 ≠ 50 → l'.1 ≠ 68 → l'.1 ≠ 70 → l'.1 ≠ 81 → T.1 l' = S.1 l') ∧ T.2.1 = S.2.1 ∧ T.2.2.1 = S.2.2.1 ∧ T.2.2.2.2.2 = S.2.2.2.2.2 ∧ S.2.2.2.2.1 ≤ T.2.2.2.2.1 ∧ T.1 (50, 0, 0) = S.1 (50, 0, 0)
theorem HsE.rf (S : XS) : HsE S S := ⟨fun _ _ _ _ _ _ => rfl, rfl, rfl, rfl, Int.le_refl _, rfl⟩
theorem HsE.tr {S T U : XS} (h : HsE S T) (k : HsE T U) : HsE S U := ⟨fun l' a b c d e => (k.1 l' a b c d e).trans (h.1 l' a b c d e), k.2.1.trans h.2.1, k.2.2.1.trans h.2.2.1, k.2.2.2.1.trans h.2.2.2.1, Int.le_trans h.2.2.2.2.1 k.2.2.2.2.1, k.2.2.2.2.2.trans h.2.2.2.2.2⟩
theorem HrE.hs {l : Int} {S T : XS} (h : HrE l S T) : HsE S T := ⟨fun l' a b c d e => h.1 l' a b (fun z => c (by rw [z])) (fun z => d (by rw [z])) (fun t z => e (by rw [z])), h.2.2.2.1, h.2.2.2.2.1, h.2.2.2.2.2.2.1, h.2.2.2.2.2.2.2.1, h.2.2.2.2.2.2.2.2⟩
theorem HsE.k {S T : XS} (h : HsE S T) {k : Nat} (h0 : mI k = false) (h1 : k ≠ 50) (h2 : k ≠ 68) (h3 : k ≠ 70) (h4 : k ≠ 81) (x y : Int) : T.1 (k, x, y) = S.1 (k, x, y) := h.1 _ h0 h1 h2 h3 h4
theorem MR.rows {C S T : XS} (h : MR C S) (e : ∀ k : Nat, 51 ≤ k → k ≤ 66 → T.1 (k, 0, 0) = S.1 (k, 0, 0)) (e50 : ∀ j : Int, j ≠ 25 → T.1 (50, 0, 0) j = S.1 (50, 0, 0) j) : MR C T := by
  obtain ⟨h1, h2, h3, h4, h5⟩ := h
  have e2 := e 62 (by decide) (by decide)
  have e3 := e 63 (by decide) (by decide)
  refine ⟨fun b k b0 b1 k0 k1 => ?_, ?_, fun r r0 r1 => ?_, fun b b0 b1 => ?_, fun r r0 r1 => ?_⟩
  · rw [e 51 (by decide) (by decide), e 52 (by decide) (by decide), e 53 (by decide) (by decide), e 54 (by decide) (by decide), e 55 (by decide) (by decide), e 56 (by decide) (by decide)]
    exact h1 b k b0 b1 k0 k1
  · unfold MRn
    rw [e50 11 (by decide), e50 12 (by decide), e50 13 (by decide), e50 24 (by decide)]
    exact h2
  · rw [e2, e3, e 64 (by decide) (by decide), e 65 (by decide) (by decide), e 66 (by decide) (by decide)]
    simp only [UsN_congr e2 e3]
    exact h3 r r0 r1
  · rw [e 58 (by decide) (by decide), e 59 (by decide) (by decide), e 60 (by decide) (by decide), e 61 (by decide) (by decide)]
    exact h4 b b0 b1
  · rw [e 57 (by decide) (by decide)]
    exact h5 r r0 r1
theorem mI_low {k : Nat} (h : k ≤ 70) : mI k = false := by
  unfold mI
  simp only [List.contains_eq_mem, List.mem_cons, List.not_mem_nil, or_false, decide_eq_false_iff_not]
  omega
theorem MR.hs {C S T : XS} (h : MR C S) (q : HsE S T) : MR C T := h.rows (fun k a b => q.k (mI_low (by omega)) (by omega) (by omega) (by omega) (by omega) 0 0) (fun j _ => by rw [q.2.2.2.2.2])
