/-! p35: the law: ranks -/
/-- what ranks leaves -/
def pRk (C S : XS) (n : Nat) (t : Int) : XO → XH → Prop := fun o h' => o = .inl (some (xR (53, S.2.2.2.1 53, 0))) ∧ ∃ T, h' = hp T ∧ NQ S T ∧ WI T ∧ S.2.2.2.1 53 < T.2.2.2.1 53 ∧ FinR C 0 n t (T.1 (53, S.2.2.2.1 53, 0))
/-- the ranks at first: what is told by the first i tellings -/
def R0 (C : XS) (t : Int) (i : Nat) (rk : Int → Int) : Prop := ∀ j : Int, 0 ≤ j → j < 384 → rk j = if bI (sB (toldN C.1 0 t i) j) = 0 then 999 else 0
theorem R0.zero {C : XS} {t : Int} {rk : Int → Int} (h : ∀ j : Int, 0 ≤ j → j < 384 → rk j = 999) : R0 C t 0 rk := fun j j0 j1 => by
  rw [h j j0 j1, bI_f (told_0 C.1 t j0), if_pos rfl]
theorem R0.step {C : XS} (hC : WI C) {t : Int} {i : Nat} (hi : (i : Int) < C.1 (9, 0, 0) 3) {rk rk' : Int → Int} (h : R0 C t i rk) (h' : ∀ j : Int, 0 ≤ j → j < 384 → rk' j = if C.1 (13, 0, (i : Int)) 0 = 0 ∧ C.1 (13, 0, (i : Int)) 6 = 0 ∧ C.1 (13, 0, (i : Int)) 3 ≤ t ∧ t ≤ C.1 (13, 0, (i : Int)) 4 ∧ C.1 (13, 0, (i : Int)) 2 = j then (if C.1 (13, 0, (i : Int)) 1 ≠ 0 then 0 else 999) else rk j) : R0 C t (i + 1) rk' := fun j j0 j1 => by
  have c9 := wf9_3 hC (b := 0) (by omega) (by omega)
  have a0 := wf13_2 hC (b := 0) (t := (i : Int)) (by omega) (by omega) (by omega) (by omega)
  have s := told_step C.1 0 t i j0 j1 (by omega) (by omega)
  rw [h' j j0 j1, bI_c s]
  split
  · split
    · rename_i y; rw [bI_t y, if_neg (by decide)]
    · rename_i y; rw [bI_f y, if_pos rfl]
  · exact h j j0 j1
theorem NT.at {C S : XS} (h : NT C S) {k : Int} (k0 : 0 ≤ k) (k1 : k < C.1 (9, 0, 0) 3) : S.1 (50, 0, 0) (100 + 6 * k) = 2 * C.1 (13, 0, k) 0 + C.1 (13, 0, k) 1 ∧ S.1 (50, 0, 0) (100 + 6 * k + 1) = C.1 (13, 0, k) 2 ∧ S.1 (50, 0, 0) (100 + 6 * k + 2) = C.1 (13, 0, k) 3 ∧ S.1 (50, 0, 0) (100 + 6 * k + 3) = C.1 (13, 0, k) 4 ∧ S.1 (50, 0, 0) (100 + 6 * k + 4) = C.1 (13, 0, k) 6 := h.2 k k0 k1
set_option maxHeartbeats 4000000 in
set_option maxRecDepth 100000 in
theorem l_rkF (C S : XS) (hC : CB C) (hb1 : 1 ≤ C.1 (0, 0, 0) 6) (hw : WI S) (ht : NT C S) (hr : NR C S) (hcnt : Cnt S) (n : Nat) (hn : (n : Int) ≤ C.1 (9, 0, 0) 3) (t : Int) (zt : zR t) (kc ks : Nat) (KKt : ∀ U : XS, NQ S U → WI U → S.2.2.2.1 53 < U.2.2.2.1 53 → R0 C t 0 (U.1 (53, S.2.2.2.1 53, 0)) → X mL_ranks 35 [xR (50, 0, 0), xI 0, xI (n : Int), xI t, xR (53, S.2.2.2.1 53, 0), xI 0, none, none, none, none] [] (hp U) kc ks (pRk C S n t)) : ∀ (nn : Nat) (U : XS) (i : Nat), 385 - (i : Int) < (nn : Int) → (i ≤ 384) → (NQ S U) → (WI U) → (S.2.2.2.1 53 < U.2.2.2.1 53) → (∀ j : Int, 0 ≤ j → j < i → (U.1 (53, S.2.2.2.1 53, 0)) j = 999) → X mL_ranks 10 [xR (50, 0, 0), xI 0, xI (n : Int), xI t, xR (53, S.2.2.2.1 53, 0), xI (i : Int), none, none, none, none] [] (hp U) kc ks (pRk C S n t) := by
  intro nn
  induction nn with
  | zero => intro U i hm hi eU wU cU hf; exfalso; omega
  | succ nn ih =>
    intro U i hm hi eU wU cU hf
    have c4 := wf4_2 hC.1
    have c9 := wf9_3 hC.1 (b := 0) (by omega) (by omega)
    have h53 := hcnt.2.2.1
    have hz := wU.1
    refine x_iload dL_ranks_10 rfl ?_
    refine x_sipush (v := 384) dL_ranks_12 (by decide) ?_
    refine x_icmp_ge (tgt := 32) dL_ranks_15 (by decide) (by first | exact hz _ _ | exact hw.1 _ _ | exact zR_of _ | exact bI_z _ | assumption | exact ⟨by omega, by omega⟩) ⟨by decide, by decide⟩ (fun c15 => ?_) (fun c15 => ?_)
    · refine x_iconst dL_ranks_32 ?_
      refine x_istore (L' := [xR (50, 0, 0), xI 0, xI (n : Int), xI t, xR (53, S.2.2.2.1 53, 0), xI 0, none, none, none, none]) dL_ranks_33 (by decide) rfl ?_
      exact KKt U eU wU cU (R0.zero (fun j j0 j1 => hf j j0 (by omega)))
    · refine x_aload dL_ranks_18 rfl ?_
      refine x_iload dL_ranks_20 rfl ?_
      refine x_sipush (v := 999) dL_ranks_22 (by decide) ?_
      refine x_asti dL_ranks_25 (hp53 U (by omega) (by omega)) (show (53 : Nat) ≠ 99 by decide) (by omega) (by omega) (by decide) ?_
      refine x_heq (pa53 U (by omega) (by omega) (i : Int) 999) ?_
      have hw25_1 : WI (putI U (53, S.2.2.2.1 53, 0) (i : Int) 999) := wpa53 wU (by omega) (by omega) (by omega)
      refine x_iinc (L' := [xR (50, 0, 0), xI 0, xI (n : Int), xI t, xR (53, S.2.2.2.1 53, 0), xI ((i : Int) + 1), none, none, none, none]) dL_ranks_26 rfl rfl ?_
      refine x_goto (tgt := 10) dL_ranks_29 (by decide) ?_
      exact ih (putI U (53, S.2.2.2.1 53, 0) (i : Int) 999) (i + 1) (by omega) (by omega) (eU.put ⟨by decide, by decide⟩ (Int.le_refl _) _ _) hw25_1 cU (fun j j0 j1 => by rw [putI_at]; split; rfl; exact hf j j0 (by omega))
set_option maxHeartbeats 4000000 in
set_option maxRecDepth 100000 in
theorem l_rkT (C S : XS) (hC : CB C) (hb1 : 1 ≤ C.1 (0, 0, 0) 6) (hw : WI S) (ht : NT C S) (hr : NR C S) (hcnt : Cnt S) (n : Nat) (hn : (n : Int) ≤ C.1 (9, 0, 0) 3) (t : Int) (zt : zR t) (kc ks : Nat) (KKr : ∀ U : XS, NQ S U → WI U → S.2.2.2.1 53 < U.2.2.2.1 53 → R0 C t n (U.1 (53, S.2.2.2.1 53, 0)) → X mL_ranks 116 [xR (50, 0, 0), xI 0, xI (n : Int), xI t, xR (53, S.2.2.2.1 53, 0), none, none, none, none, none] [] (hp U) kc ks (pRk C S n t)) : ∀ (nn : Nat) (U : XS) (i : Nat), (n : Int) - i + 1 < (nn : Int) → (i ≤ n) → (NQ S U) → (WI U) → (S.2.2.2.1 53 < U.2.2.2.1 53) → (R0 C t i (U.1 (53, S.2.2.2.1 53, 0))) → X mL_ranks 35 [xR (50, 0, 0), xI 0, xI (n : Int), xI t, xR (53, S.2.2.2.1 53, 0), xI (i : Int), none, none, none, none] [] (hp U) kc ks (pRk C S n t) := by
  intro nn
  induction nn with
  | zero => intro U i hm hi eU wU cU hR; exfalso; omega
  | succ nn ih =>
    intro U i hm hi eU wU cU hR
    have c4 := wf4_2 hC.1
    have c9 := wf9_3 hC.1 (b := 0) (by omega) (by omega)
    have h53 := hcnt.2.2.1
    have hz := wU.1
    refine x_iload dL_ranks_35 rfl ?_
    refine x_iload_n dL_ranks_37 rfl ?_
    refine x_icmp_ge (tgt := 116) dL_ranks_38 (by decide) (by first | exact hz _ _ | exact hw.1 _ _ | exact zR_of _ | exact bI_z _ | assumption | exact ⟨by omega, by omega⟩) (by first | exact hz _ _ | exact hw.1 _ _ | exact zR_of _ | exact bI_z _ | assumption | exact ⟨by omega, by omega⟩) (fun c38 => ?_) (fun c38 => ?_)
    · refine X.loc (L' := [xR (50, 0, 0), xI 0, xI (n : Int), xI t, xR (53, S.2.2.2.1 53, 0), none, none, none, none, none]) ⟨rfl, ⟨rfl, ⟨rfl, ⟨rfl, ⟨rfl, trivial⟩⟩⟩⟩⟩ ?_
      obtain rfl : i = n := by omega
      exact KKr U eU wU cU hR
    · have lt : (i : Int) < C.1 (9, 0, 0) 3 := by omega
      obtain ⟨a0, a1, a2, a3, a4⟩ := (ht.q eU).at (k := (i : Int)) (by omega) lt
      have d0 := wf13_0 hC.1 (b := 0) (t := (i : Int)) (by omega) (by omega) (by omega) (by omega)
      have d1 := wf13_1 hC.1 (b := 0) (t := (i : Int)) (by omega) (by omega) (by omega) (by omega)
      have d2 := wf13_2 hC.1 (b := 0) (t := (i : Int)) (by omega) (by omega) (by omega) (by omega)
      have d6 := wf13_6 hC.1 (b := 0) (t := (i : Int)) (by omega) (by omega) (by omega) (by omega)
      refine x_iload_n dL_ranks_41 rfl ?_
      refine x_iload dL_ranks_42 rfl ?_
      refine x_callS_r (a := 0) (b := 0) (as := [xI 0, xI (i : Int)]) (rest := []) ok_L_at dL_ranks_44 wd836 wd837 (c_at U (i : Int)) rfl (Nat.le_of_ble_eq_true rfl) (Nat.le_of_ble_eq_true rfl) (by decide) (by omega) (by omega) ?_
      refine x_istore (L' := [xR (50, 0, 0), xI 0, xI (n : Int), xI t, xR (53, S.2.2.2.1 53, 0), xI (i : Int), xI (100 + 6 * (i : Int)), none, none, none]) dL_ranks_47 (by decide) rfl ?_
      refine x_aload_n dL_ranks_49 rfl ?_
      refine x_iload dL_ranks_50 rfl ?_
      refine x_aldi (f := U.1 (50, 0, 0)) dL_ranks_52 (hp50 U) (show (50 : Nat) ≠ 99 by decide) (by omega) (by omega) (by decide) ?_
      refine x_iconst dL_ranks_53 ?_
      refine x_icmp_ge (tgt := 110) dL_ranks_54 (by decide) (by first | exact hz _ _ | exact hw.1 _ _ | exact zR_of _ | exact bI_z _ | assumption | exact ⟨by omega, by omega⟩) ⟨by decide, by decide⟩ (fun c54 => ?_) (fun c54 => ?_)
      · refine x_iinc (L' := [xR (50, 0, 0), xI 0, xI (n : Int), xI t, xR (53, S.2.2.2.1 53, 0), xI ((i : Int) + 1), xI (100 + 6 * (i : Int)), none, none, none]) dL_ranks_110 rfl rfl ?_
        refine x_goto (tgt := 35) dL_ranks_113 (by decide) ?_
        refine X.loc (L' := [xR (50, 0, 0), xI 0, xI (n : Int), xI t, xR (53, S.2.2.2.1 53, 0), xI ((i : Int) + 1), none, none, none, none]) ⟨rfl, ⟨rfl, ⟨rfl, ⟨rfl, ⟨rfl, ⟨rfl, trivial⟩⟩⟩⟩⟩⟩ ?_
        exact ih U (i + 1) (by omega) (by omega) eU wU cU (hR.step hC.1 (by omega) (fun j j0 j1 => (if_neg (by omega)).symm))
      · refine x_aload_n dL_ranks_57 rfl ?_
        refine x_iload dL_ranks_58 rfl ?_
        refine x_iconst dL_ranks_60 ?_
        refine x_iadd dL_ranks_61 ?_
        refine x_aldi (f := U.1 (50, 0, 0)) dL_ranks_62 (hp50 U) (show (50 : Nat) ≠ 99 by decide) (by omega) (by omega) (by decide) ?_
        refine x_iload_n dL_ranks_63 rfl ?_
        refine x_icmp_gt (tgt := 110) dL_ranks_64 (by decide) (by first | exact hz _ _ | exact hw.1 _ _ | exact zR_of _ | exact bI_z _ | assumption | exact ⟨by omega, by omega⟩) (by first | exact hz _ _ | exact hw.1 _ _ | exact zR_of _ | exact bI_z _ | assumption | exact ⟨by omega, by omega⟩) (fun c64 => ?_) (fun c64 => ?_)
        · refine x_iinc (L' := [xR (50, 0, 0), xI 0, xI (n : Int), xI t, xR (53, S.2.2.2.1 53, 0), xI ((i : Int) + 1), xI (100 + 6 * (i : Int)), none, none, none]) dL_ranks_110 rfl rfl ?_
          refine x_goto (tgt := 35) dL_ranks_113 (by decide) ?_
          refine X.loc (L' := [xR (50, 0, 0), xI 0, xI (n : Int), xI t, xR (53, S.2.2.2.1 53, 0), xI ((i : Int) + 1), none, none, none, none]) ⟨rfl, ⟨rfl, ⟨rfl, ⟨rfl, ⟨rfl, ⟨rfl, trivial⟩⟩⟩⟩⟩⟩ ?_
          exact ih U (i + 1) (by omega) (by omega) eU wU cU (hR.step hC.1 (by omega) (fun j j0 j1 => (if_neg (by omega)).symm))
        · refine x_iload_n dL_ranks_67 rfl ?_
          refine x_aload_n dL_ranks_68 rfl ?_
          refine x_iload dL_ranks_69 rfl ?_
          refine x_iconst dL_ranks_71 ?_
          refine x_iadd dL_ranks_72 ?_
          refine x_aldi (f := U.1 (50, 0, 0)) dL_ranks_73 (hp50 U) (show (50 : Nat) ≠ 99 by decide) (by omega) (by omega) (by decide) ?_
          refine x_icmp_gt (tgt := 110) dL_ranks_74 (by decide) (by first | exact hz _ _ | exact hw.1 _ _ | exact zR_of _ | exact bI_z _ | assumption | exact ⟨by omega, by omega⟩) (by first | exact hz _ _ | exact hw.1 _ _ | exact zR_of _ | exact bI_z _ | assumption | exact ⟨by omega, by omega⟩) (fun c74 => ?_) (fun c74 => ?_)
          · refine x_iinc (L' := [xR (50, 0, 0), xI 0, xI (n : Int), xI t, xR (53, S.2.2.2.1 53, 0), xI ((i : Int) + 1), xI (100 + 6 * (i : Int)), none, none, none]) dL_ranks_110 rfl rfl ?_
            refine x_goto (tgt := 35) dL_ranks_113 (by decide) ?_
            refine X.loc (L' := [xR (50, 0, 0), xI 0, xI (n : Int), xI t, xR (53, S.2.2.2.1 53, 0), xI ((i : Int) + 1), none, none, none, none]) ⟨rfl, ⟨rfl, ⟨rfl, ⟨rfl, ⟨rfl, ⟨rfl, trivial⟩⟩⟩⟩⟩⟩ ?_
            exact ih U (i + 1) (by omega) (by omega) eU wU cU (hR.step hC.1 (by omega) (fun j j0 j1 => (if_neg (by omega)).symm))
          · refine x_aload_n dL_ranks_77 rfl ?_
            refine x_iload dL_ranks_78 rfl ?_
            refine x_iconst dL_ranks_80 ?_
            refine x_iadd dL_ranks_81 ?_
            refine x_aldi (f := U.1 (50, 0, 0)) dL_ranks_82 (hp50 U) (show (50 : Nat) ≠ 99 by decide) (by omega) (by omega) (by decide) ?_
            refine x_if_ne (tgt := 110) dL_ranks_83 (by decide) (by first | exact hz _ _ | exact hw.1 _ _ | exact zR_of _ | exact bI_z _ | assumption | exact ⟨by omega, by omega⟩) (fun c83 => ?_) (fun c83 => ?_)
            · refine x_iinc (L' := [xR (50, 0, 0), xI 0, xI (n : Int), xI t, xR (53, S.2.2.2.1 53, 0), xI ((i : Int) + 1), xI (100 + 6 * (i : Int)), none, none, none]) dL_ranks_110 rfl rfl ?_
              refine x_goto (tgt := 35) dL_ranks_113 (by decide) ?_
              refine X.loc (L' := [xR (50, 0, 0), xI 0, xI (n : Int), xI t, xR (53, S.2.2.2.1 53, 0), xI ((i : Int) + 1), none, none, none, none]) ⟨rfl, ⟨rfl, ⟨rfl, ⟨rfl, ⟨rfl, ⟨rfl, trivial⟩⟩⟩⟩⟩⟩ ?_
              exact ih U (i + 1) (by omega) (by omega) eU wU cU (hR.step hC.1 (by omega) (fun j j0 j1 => (if_neg (by omega)).symm))
            · refine x_aload dL_ranks_86 rfl ?_
              refine x_aload_n dL_ranks_88 rfl ?_
              refine x_iload dL_ranks_89 rfl ?_
              refine x_iconst dL_ranks_91 ?_
              refine x_iadd dL_ranks_92 ?_
              refine x_aldi (f := U.1 (50, 0, 0)) dL_ranks_93 (hp50 U) (show (50 : Nat) ≠ 99 by decide) (by omega) (by omega) (by decide) ?_
              refine x_top (show U.1 (50, 0, 0) ((100 + 6 * (i : Int)) + 1) = C.1 (13, 0, (i : Int)) 2 from a1) ?_
              refine x_aload_n dL_ranks_94 rfl ?_
              refine x_iload dL_ranks_95 rfl ?_
              refine x_aldi (f := U.1 (50, 0, 0)) dL_ranks_97 (hp50 U) (show (50 : Nat) ≠ 99 by decide) (by omega) (by omega) (by decide) ?_
              refine x_iconst dL_ranks_98 ?_
              refine x_icmp_ne (tgt := 106) dL_ranks_99 (by decide) (by first | exact hz _ _ | exact hw.1 _ _ | exact zR_of _ | exact bI_z _ | assumption | exact ⟨by omega, by omega⟩) ⟨by decide, by decide⟩ (fun c99 => ?_) (fun c99 => ?_)
              · refine x_sipush (v := 999) dL_ranks_106 (by decide) ?_
                refine x_asti dL_ranks_109 (hp53 U (by omega) (by omega)) (show (53 : Nat) ≠ 99 by decide) (by omega) (by omega) (by decide) ?_
                refine x_heq (pa53 U (by omega) (by omega) (C.1 (13, 0, (i : Int)) 2) 999) ?_
                have hw109_1 : WI (putI U (53, S.2.2.2.1 53, 0) (C.1 (13, 0, (i : Int)) 2) 999) := wpa53 wU (by omega) (by omega) (by omega)
                refine x_iinc (L' := [xR (50, 0, 0), xI 0, xI (n : Int), xI t, xR (53, S.2.2.2.1 53, 0), xI ((i : Int) + 1), xI (100 + 6 * (i : Int)), none, none, none]) dL_ranks_110 rfl rfl ?_
                refine x_goto (tgt := 35) dL_ranks_113 (by decide) ?_
                refine X.loc (L' := [xR (50, 0, 0), xI 0, xI (n : Int), xI t, xR (53, S.2.2.2.1 53, 0), xI ((i : Int) + 1), none, none, none, none]) ⟨rfl, ⟨rfl, ⟨rfl, ⟨rfl, ⟨rfl, ⟨rfl, trivial⟩⟩⟩⟩⟩⟩ ?_
                refine ih (putI U (53, S.2.2.2.1 53, 0) (C.1 (13, 0, (i : Int)) 2) 999) (i + 1) (by omega) (by omega) (eU.put ⟨by decide, by decide⟩ (Int.le_refl _) _ _) hw109_1 cU (hR.step hC.1 (by omega) (fun j j0 j1 => ?_))
                rw [putI_at]
                by_cases e : j = C.1 (13, 0, (i : Int)) 2
                · rw [if_pos e, if_pos (show _ ∧ _ ∧ _ ∧ _ ∧ _ from ⟨by omega, by omega, by omega, by omega, e.symm⟩)]; first | rw [if_pos (by omega)] | rw [if_neg (by omega)]
                · rw [if_neg e, if_neg (fun z => e z.2.2.2.2.symm)]
              · refine x_iconst dL_ranks_102 ?_
                refine x_goto (tgt := 109) dL_ranks_103 (by decide) ?_
                refine x_asti dL_ranks_109 (hp53 U (by omega) (by omega)) (show (53 : Nat) ≠ 99 by decide) (by omega) (by omega) (by decide) ?_
                refine x_heq (pa53 U (by omega) (by omega) (C.1 (13, 0, (i : Int)) 2) 0) ?_
                have hw109_2 : WI (putI U (53, S.2.2.2.1 53, 0) (C.1 (13, 0, (i : Int)) 2) 0) := wpa53 wU (by omega) (by omega) (by omega)
                refine x_iinc (L' := [xR (50, 0, 0), xI 0, xI (n : Int), xI t, xR (53, S.2.2.2.1 53, 0), xI ((i : Int) + 1), xI (100 + 6 * (i : Int)), none, none, none]) dL_ranks_110 rfl rfl ?_
                refine x_goto (tgt := 35) dL_ranks_113 (by decide) ?_
                refine X.loc (L' := [xR (50, 0, 0), xI 0, xI (n : Int), xI t, xR (53, S.2.2.2.1 53, 0), xI ((i : Int) + 1), none, none, none, none]) ⟨rfl, ⟨rfl, ⟨rfl, ⟨rfl, ⟨rfl, ⟨rfl, trivial⟩⟩⟩⟩⟩⟩ ?_
                refine ih (putI U (53, S.2.2.2.1 53, 0) (C.1 (13, 0, (i : Int)) 2) 0) (i + 1) (by omega) (by omega) (eU.put ⟨by decide, by decide⟩ (Int.le_refl _) _ _) hw109_2 cU (hR.step hC.1 (by omega) (fun j j0 j1 => ?_))
                rw [putI_at]
                by_cases e : j = C.1 (13, 0, (i : Int)) 2
                · rw [if_pos e, if_pos (show _ ∧ _ ∧ _ ∧ _ ∧ _ from ⟨by omega, by omega, by omega, by omega, e.symm⟩)]; first | rw [if_pos (by omega)] | rw [if_neg (by omega)]
                · rw [if_neg e, if_neg (fun z => e z.2.2.2.2.symm)]
set_option maxHeartbeats 4000000 in
set_option maxRecDepth 100000 in
theorem l_rkR (C S : XS) (hC : CB C) (hb1 : 1 ≤ C.1 (0, 0, 0) 6) (hw : WI S) (ht : NT C S) (hr : NR C S) (hcnt : Cnt S) (n : Nat) (hn : (n : Int) ≤ C.1 (9, 0, 0) 3) (t : Int) (zt : zR t) (V : XS) (eV : NQ S V) (cV : S.2.2.2.1 53 < V.2.2.2.1 53) (a : Int) (a0 : 0 ≤ a) (a1 : a < V.2.2.2.1 51) (hO : OnR C V a (onN C.1 0 n)) (d : Int) (d0 : 0 ≤ d) (d1 : d < V.2.2.2.1 52) (hG : LyG C.1 (onN C.1 0 n) (V.1 (52, d, 0))) (hS : Stab C.1 (onN C.1 0 n) (toldN C.1 0 t n) (hl C.1 0 n t)) (y : Nat) (hy : y < 7) (rk0 : Int → Int) (hF0 : FI C (onN C.1 0 n) (toldN C.1 0 t n) (hl C.1 0 n t) (V.1 (52, d, 0)) (y : Int) rk0) (N : Nat) (hN : C.1 (4, 0, 0) 2 = N) (kc0 ks0 : Nat) (KKw : ∀ (U : XS) (ch : Int) (kc ks : Nat), NB (S.2.2.2.1 53) V U → WI U → RV C (onN C.1 0 n) (toldN C.1 0 t n) (hl C.1 0 n t) (V.1 (52, d, 0)) (y : Int) rk0 ch N (U.1 (53, S.2.2.2.1 53, 0)) → kc0 ≤ kc → ks0 ≤ ks → X mL_ranks 145 [xR (50, 0, 0), xI 0, xI (n : Int), xI t, xR (53, S.2.2.2.1 53, 0), xR (51, a, 0), xR (52, d, 0), xI (y : Int), xI ch, none] [] (hp U) kc ks (pRk C S n t)) : ∀ (nn : Nat) (U : XS) (i : Nat) (ch : Int) (kc ks : Nat), (N : Int) - i + 1 < (nn : Int) → (i ≤ N) → (kc0 + (N - i) ≤ kc) → (ks0 + 3 * (N - i) ≤ ks) → (NB (S.2.2.2.1 53) V U) → (WI U) → (RV C (onN C.1 0 n) (toldN C.1 0 t n) (hl C.1 0 n t) (V.1 (52, d, 0)) (y : Int) rk0 ch i (U.1 (53, S.2.2.2.1 53, 0))) → X mL_ranks 156 [xR (50, 0, 0), xI 0, xI (n : Int), xI t, xR (53, S.2.2.2.1 53, 0), xR (51, a, 0), xR (52, d, 0), xI (y : Int), xI ch, xI (i : Int)] [] (hp U) kc ks (pRk C S n t) := by
  intro nn
  induction nn with
  | zero => intro U i ch kc ks hm hi hk hks eU wU hV; exfalso; omega
  | succ nn ih =>
    intro U i ch kc ks hm hi hk hks eU wU hV
    have c4 := wf4_2 hC.1
    have c9 := wf9_3 hC.1 (b := 0) (by omega) (by omega)
    have h53 := hcnt.2.2.1
    have hz := wU.1
    have eS : NQ S U := eV.b (Int.le_refl _) eU
    have n51 := eU.2.2.2.1 51
    have n52 := eU.2.2.2.1 52
    have n53 := eU.2.2.2.1 53
    have hrU := hr.q eS
    have n5 := hrU.1
    have oU : OnR C U a (onN C.1 0 n) := fun r hr => by rw [eU.1 (51, a, 0) (nK (by decide) _ _ _ _) (Or.inr (Or.inr a1))]; exact hO r hr
    have gU : U.1 (52, d, 0) = (V.1 (52, d, 0)) := eU.1 (52, d, 0) (nK (by decide) _ _ _ _) (Or.inr (Or.inr d1))
    have ch01 := hV.2.1
    refine x_iload dL_ranks_156 rfl ?_
    refine x_aload_n dL_ranks_158 rfl ?_
    refine x_iconst dL_ranks_159 ?_
    refine x_aldi (f := U.1 (50, 0, 0)) dL_ranks_160 (hp50 U) (show (50 : Nat) ≠ 99 by decide) (by omega) (by omega) (by decide) ?_
    refine x_icmp_ge (tgt := 218) dL_ranks_161 (by decide) (by first | exact hz _ _ | exact hw.1 _ _ | exact zR_of _ | exact bI_z _ | assumption | exact ⟨by omega, by omega⟩) (by first | exact hz _ _ | exact hw.1 _ _ | exact zR_of _ | exact bI_z _ | assumption | exact ⟨by omega, by omega⟩) (fun c161 => ?_) (fun c161 => ?_)
    · refine x_goto (tgt := 145) dL_ranks_218 (by decide) ?_
      refine X.loc (L' := [xR (50, 0, 0), xI 0, xI (n : Int), xI t, xR (53, S.2.2.2.1 53, 0), xR (51, a, 0), xR (52, d, 0), xI (y : Int), xI ch, none]) ⟨rfl, ⟨rfl, ⟨rfl, ⟨rfl, ⟨rfl, ⟨rfl, ⟨rfl, ⟨rfl, ⟨rfl, trivial⟩⟩⟩⟩⟩⟩⟩⟩⟩ ?_
      obtain rfl : i = N := by omega
      exact KKw U ch kc ks eU wU hV (by omega) (by omega)
    · have il : (i : Int) < C.1 (4, 0, 0) 2 := by omega
      have a37 := wf37_0 hC.1 (b := (i : Int)) (by omega) (by omega)
      have b01 := bI_01 (bitI (onN C.1 0 n) (i : Int))
      have nl := hrU.2 (i : Int) (by omega) il
      have gin := hG.1 _ a37.1 a37.2
      refine x_iload dL_ranks_164 rfl ?_
      refine x_aload dL_ranks_166 rfl ?_
      refine x_iload dL_ranks_168 rfl ?_
      refine x_aldz (f := U.1 (51, a, 0)) dL_ranks_170 (hp51 U (by omega) (by omega)) (show (51 : Nat) ≠ 99 by decide) (by omega) (by omega) (by decide) ?_
      have f170_1 := wfa51 wU (S := U) (b := a) (by omega) (by omega) (i : Int)
      refine x_top (show U.1 (51, a, 0) (i : Int) = bI (bitI (onN C.1 0 n) (i : Int)) from oU i il) ?_
      refine x_if_eq (tgt := 208) dL_ranks_171 (by decide) (by first | exact hz _ _ | exact hw.1 _ _ | exact zR_of _ | exact bI_z _ | assumption | exact ⟨by omega, by omega⟩) (fun c171 => ?_) (fun c171 => ?_)
      · refine x_iconst dL_ranks_208 ?_
        refine x_ior dL_ranks_209 ?_
        refine x_istore (L' := [xR (50, 0, 0), xI 0, xI (n : Int), xI t, xR (53, S.2.2.2.1 53, 0), xR (51, a, 0), xR (52, d, 0), xI (y : Int), xI (zOr ch 0), xI (i : Int)]) dL_ranks_210 (by decide) rfl ?_
        refine x_iinc (L' := [xR (50, 0, 0), xI 0, xI (n : Int), xI t, xR (53, S.2.2.2.1 53, 0), xR (51, a, 0), xR (52, d, 0), xI (y : Int), xI (zOr ch 0), xI ((i : Int) + 1)]) dL_ranks_212 rfl rfl ?_
        refine x_goto (tgt := 156) dL_ranks_215 (by decide) ?_
        refine ih U (i + 1) (zOr ch 0) kc ks (by omega) (by omega) (by omega) (by omega) eU wU ?_
        rw [show zOr ch 0 = ch from by rcases hV.2.1 with y1 | y1 <;> rw [y1] <;> decide]
        exact hV.skip (fun y1 => by first | exact absurd (bI_t y1.1) (by omega) | exact absurd y1.2 (by omega))
      · refine x_aload dL_ranks_174 rfl ?_
        refine x_aload_n dL_ranks_176 rfl ?_
        refine x_sipush (v := 1601) dL_ranks_177 (by decide) ?_
        refine x_bipush (v := 16) dL_ranks_180 (by decide) ?_
        refine x_iload dL_ranks_182 rfl ?_
        refine x_imul dL_ranks_184 ?_
        refine x_iadd dL_ranks_185 ?_
        refine x_aldi (f := U.1 (50, 0, 0)) dL_ranks_186 (hp50 U) (show (50 : Nat) ≠ 99 by decide) (by omega) (by omega) (by decide) ?_
        refine x_top (show U.1 (50, 0, 0) (1601 + (16 * (i : Int))) = C.1 (37, (i : Int), 0) 0 from by rw [show (1601 : Int) + 16 * (i : Int) = 1600 + 16 * (i : Int) + 1 by omega]; exact nl.2.1.1) ?_
        refine x_aldi (f := U.1 (52, d, 0)) dL_ranks_187 (hp52 U (by omega) (by omega)) (show (52 : Nat) ≠ 99 by decide) (by omega) (by omega) (by decide) ?_
        refine x_top (show U.1 (52, d, 0) (C.1 (37, (i : Int), 0) 0) = (V.1 (52, d, 0)) (C.1 (37, (i : Int), 0) 0) from by rw [gU]) ?_
        refine x_iload dL_ranks_188 rfl ?_
        refine x_icmp_ne (tgt := 208) dL_ranks_190 (by decide) (by first | exact hz _ _ | exact hw.1 _ _ | exact zR_of _ | exact bI_z _ | assumption | exact ⟨by omega, by omega⟩) (by first | exact hz _ _ | exact hw.1 _ _ | exact zR_of _ | exact bI_z _ | assumption | exact ⟨by omega, by omega⟩) (fun c190 => ?_) (fun c190 => ?_)
        · refine x_iconst dL_ranks_208 ?_
          refine x_ior dL_ranks_209 ?_
          refine x_istore (L' := [xR (50, 0, 0), xI 0, xI (n : Int), xI t, xR (53, S.2.2.2.1 53, 0), xR (51, a, 0), xR (52, d, 0), xI (y : Int), xI (zOr ch 0), xI (i : Int)]) dL_ranks_210 (by decide) rfl ?_
          refine x_iinc (L' := [xR (50, 0, 0), xI 0, xI (n : Int), xI t, xR (53, S.2.2.2.1 53, 0), xR (51, a, 0), xR (52, d, 0), xI (y : Int), xI (zOr ch 0), xI ((i : Int) + 1)]) dL_ranks_212 rfl rfl ?_
          refine x_goto (tgt := 156) dL_ranks_215 (by decide) ?_
          refine ih U (i + 1) (zOr ch 0) kc ks (by omega) (by omega) (by omega) (by omega) eU wU ?_
          rw [show zOr ch 0 = ch from by rcases hV.2.1 with y1 | y1 <;> rw [y1] <;> decide]
          exact hV.skip (fun y1 => by first | exact absurd (bI_t y1.1) (by omega) | exact absurd y1.2 (by omega))
        · have ho : bitI (onN C.1 0 n) (i : Int) := bI_1.mp (by omega)
          have hL : (V.1 (52, d, 0)) (C.1 (37, (i : Int), 0) 0) = (y : Int) := by omega
          refine x_aload_n dL_ranks_193 rfl ?_
          refine x_iload dL_ranks_194 rfl ?_
          refine x_aload dL_ranks_196 rfl ?_
          refine x_callS (a := 1) (b := 3) (as := [xR (50, 0, 0), xI (i : Int), xR (53, S.2.2.2.1 53, 0)]) (rest := [xI ch]) ok_L_isUsed dL_ranks_198 wd876 wd877 (c_isUsed C U hC wU hrU (hcnt.q eS) (S.2.2.2.1 53) h53 (by omega) (onN C.1 0 n) (toldN C.1 0 t n) (hl C.1 0 n t) (V.1 (52, d, 0)) hG.1 hG.2.1 hS (y : Int) hV.1 i (by omega) ho hL) rfl (Nat.le_of_ble_eq_true rfl) (Nat.le_of_ble_eq_true rfl) (by decide) (by omega) (by omega) (fun _ q => by obtain ⟨_, _, _, q, _⟩ := q; cases q) (fun _ _ q => ?_) (fun _ _ q => by obtain ⟨_, _, _, q, _⟩ := q; cases q)
          obtain ⟨W, z, rfl, yy, eW, wW, hI⟩ := q
          cases yy
          have z01 := hI.2.1
          refine x_if_eq (tgt := 208) dL_ranks_201 (by decide) (by first | exact hz _ _ | exact hw.1 _ _ | exact zR_of _ | exact bI_z _ | assumption | exact ⟨by omega, by omega⟩) (fun c201 => ?_) (fun c201 => ?_)
          · refine x_iconst dL_ranks_208 ?_
            refine x_ior dL_ranks_209 ?_
            refine x_istore (L' := [xR (50, 0, 0), xI 0, xI (n : Int), xI t, xR (53, S.2.2.2.1 53, 0), xR (51, a, 0), xR (52, d, 0), xI (y : Int), xI (zOr ch 0), xI (i : Int)]) dL_ranks_210 (by decide) rfl ?_
            refine x_iinc (L' := [xR (50, 0, 0), xI 0, xI (n : Int), xI t, xR (53, S.2.2.2.1 53, 0), xR (51, a, 0), xR (52, d, 0), xI (y : Int), xI (zOr ch 0), xI ((i : Int) + 1)]) dL_ranks_212 rfl rfl ?_
            refine x_goto (tgt := 156) dL_ranks_215 (by decide) ?_
            refine ih W (i + 1) (zOr ch 0) (kc - 1) (ks - 3) (by omega) (by omega) (by omega) (by omega) (eU.tr eW) wW ?_
            exact hV.used hC hG.2.1 hF0 (by omega) ho hL hI (by rcases hV.2.1 with y1 | y1 <;> rw [y1] <;> first | exact Or.inl ⟨by decide, rfl, by omega⟩ | exact Or.inr ⟨by decide, by omega⟩)
          · refine x_iconst dL_ranks_204 ?_
            refine x_goto (tgt := 209) dL_ranks_205 (by decide) ?_
            refine x_ior dL_ranks_209 ?_
            refine x_istore (L' := [xR (50, 0, 0), xI 0, xI (n : Int), xI t, xR (53, S.2.2.2.1 53, 0), xR (51, a, 0), xR (52, d, 0), xI (y : Int), xI (zOr ch 1), xI (i : Int)]) dL_ranks_210 (by decide) rfl ?_
            refine x_iinc (L' := [xR (50, 0, 0), xI 0, xI (n : Int), xI t, xR (53, S.2.2.2.1 53, 0), xR (51, a, 0), xR (52, d, 0), xI (y : Int), xI (zOr ch 1), xI ((i : Int) + 1)]) dL_ranks_212 rfl rfl ?_
            refine x_goto (tgt := 156) dL_ranks_215 (by decide) ?_
            refine ih W (i + 1) (zOr ch 1) (kc - 1) (ks - 3) (by omega) (by omega) (by omega) (by omega) (eU.tr eW) wW ?_
            exact hV.used hC hG.2.1 hF0 (by omega) ho hL hI (by rcases hV.2.1 with y1 | y1 <;> rw [y1] <;> first | exact Or.inl ⟨by decide, rfl, by omega⟩ | exact Or.inr ⟨by decide, by omega⟩)
set_option maxHeartbeats 4000000 in
set_option maxRecDepth 100000 in
theorem l_rkW (C S : XS) (hC : CB C) (hb1 : 1 ≤ C.1 (0, 0, 0) 6) (hw : WI S) (ht : NT C S) (hr : NR C S) (hcnt : Cnt S) (n : Nat) (hn : (n : Int) ≤ C.1 (9, 0, 0) 3) (t : Int) (zt : zR t) (V : XS) (eV : NQ S V) (cV : S.2.2.2.1 53 < V.2.2.2.1 53) (a : Int) (a0 : 0 ≤ a) (a1 : a < V.2.2.2.1 51) (hO : OnR C V a (onN C.1 0 n)) (d : Int) (d0 : 0 ≤ d) (d1 : d < V.2.2.2.1 52) (hG : LyG C.1 (onN C.1 0 n) (V.1 (52, d, 0))) (hS : Stab C.1 (onN C.1 0 n) (toldN C.1 0 t n) (hl C.1 0 n t)) (N : Nat) (hN : C.1 (4, 0, 0) 2 = N) (hN4 : N ≤ 4) (y : Nat) (hy : y < 7) (kc0 ks0 : Nat) (KKl : ∀ (U : XS) (kc ks : Nat), NB (S.2.2.2.1 53) V U → WI U → FI C (onN C.1 0 n) (toldN C.1 0 t n) (hl C.1 0 n t) (V.1 (52, d, 0)) ((y : Int) + 1) (U.1 (53, S.2.2.2.1 53, 0)) → kc0 ≤ kc → ks0 ≤ ks → X mL_ranks 135 [xR (50, 0, 0), xI 0, xI (n : Int), xI t, xR (53, S.2.2.2.1 53, 0), xR (51, a, 0), xR (52, d, 0), xI ((y : Int) + 1), none, none] [] (hp U) kc ks (pRk C S n t)) : ∀ (nn : Nat) (U : XS) (j : Nat) (ch : Int) (kc ks : Nat), 387 - (j : Int) < (nn : Int) → (j ≤ 386) → (kc0 + 4 * (387 - j) ≤ kc) → (ks0 + 12 * (387 - j) ≤ ks) → (NB (S.2.2.2.1 53) V U) → (WI U) → (LV C (onN C.1 0 n) (toldN C.1 0 t n) (hl C.1 0 n t) (V.1 (52, d, 0)) (y : Int) ch j (U.1 (53, S.2.2.2.1 53, 0))) → X mL_ranks 145 [xR (50, 0, 0), xI 0, xI (n : Int), xI t, xR (53, S.2.2.2.1 53, 0), xR (51, a, 0), xR (52, d, 0), xI (y : Int), xI ch, none] [] (hp U) kc ks (pRk C S n t) := by
  intro nn
  induction nn with
  | zero => intro U j ch kc ks hm hj hk hks eU wU hV; exfalso; omega
  | succ nn ih =>
    intro U j ch kc ks hm hj hk hks eU wU hV
    have c4 := wf4_2 hC.1
    have c9 := wf9_3 hC.1 (b := 0) (by omega) (by omega)
    have h53 := hcnt.2.2.1
    have hz := wU.1
    have eS : NQ S U := eV.b (Int.le_refl _) eU
    have n51 := eU.2.2.2.1 51
    have n52 := eU.2.2.2.1 52
    have n53 := eU.2.2.2.1 53
    have hrU := hr.q eS
    have n5 := hrU.1
    have oU : OnR C U a (onN C.1 0 n) := fun r hr => by rw [eU.1 (51, a, 0) (nK (by decide) _ _ _ _) (Or.inr (Or.inr a1))]; exact hO r hr
    have gU : U.1 (52, d, 0) = (V.1 (52, d, 0)) := eU.1 (52, d, 0) (nK (by decide) _ _ _ _) (Or.inr (Or.inr d1))
    have ch01 := hV.2.2.1
    refine x_iload dL_ranks_145 rfl ?_
    refine x_if_eq (tgt := 221) dL_ranks_147 (by decide) (by first | exact hz _ _ | exact hw.1 _ _ | exact zR_of _ | exact bI_z _ | assumption | exact ⟨by omega, by omega⟩) (fun c147 => ?_) (fun c147 => ?_)
    · refine x_iinc (L' := [xR (50, 0, 0), xI 0, xI (n : Int), xI t, xR (53, S.2.2.2.1 53, 0), xR (51, a, 0), xR (52, d, 0), xI ((y : Int) + 1), xI ch, none]) dL_ranks_221 rfl rfl ?_
      refine x_goto (tgt := 135) dL_ranks_224 (by decide) ?_
      refine X.loc (L' := [xR (50, 0, 0), xI 0, xI (n : Int), xI t, xR (53, S.2.2.2.1 53, 0), xR (51, a, 0), xR (52, d, 0), xI ((y : Int) + 1), none, none]) ⟨rfl, ⟨rfl, ⟨rfl, ⟨rfl, ⟨rfl, ⟨rfl, ⟨rfl, ⟨rfl, trivial⟩⟩⟩⟩⟩⟩⟩⟩ ?_
      exact KKl U kc ks eU wU (hV.2.2.2.2 (by omega)) (by omega) (by omega)
    · refine x_iconst dL_ranks_150 ?_
      refine x_istore (L' := [xR (50, 0, 0), xI 0, xI (n : Int), xI t, xR (53, S.2.2.2.1 53, 0), xR (51, a, 0), xR (52, d, 0), xI (y : Int), xI 0, none]) dL_ranks_151 (by decide) rfl ?_
      refine x_iconst dL_ranks_153 ?_
      refine x_istore (L' := [xR (50, 0, 0), xI 0, xI (n : Int), xI t, xR (53, S.2.2.2.1 53, 0), xR (51, a, 0), xR (52, d, 0), xI (y : Int), xI 0, xI 0]) dL_ranks_154 (by decide) rfl ?_
      have jj := hV.2.2.2.1 (by omega)
      exact l_rkR C S hC hb1 hw ht hr hcnt n hn t zt V eV cV a a0 a1 hO d d0 d1 hG hS y hy (U.1 (53, S.2.2.2.1 53, 0)) hV.1 N hN (kc - 4) (ks - 12) (fun W ch2 kc2 ks2 k1 k2 k3 k4 k5 => ih W (j + 1) ch2 kc2 ks2 (by omega) (by omega) (by omega) (by omega) k1 k2 (hV.round hC hG.1 hG.2.1 hS (show ch = 1 by omega) (by omega) k3)) (N + 2) U 0 0 kc ks (by omega) (by omega) (by omega) (by omega) eU wU (RV.start hV.1)
set_option maxHeartbeats 4000000 in
set_option maxRecDepth 100000 in
theorem l_rkL (C S : XS) (hC : CB C) (hb1 : 1 ≤ C.1 (0, 0, 0) 6) (hw : WI S) (ht : NT C S) (hr : NR C S) (hcnt : Cnt S) (n : Nat) (hn : (n : Int) ≤ C.1 (9, 0, 0) 3) (t : Int) (zt : zR t) (V : XS) (eV : NQ S V) (cV : S.2.2.2.1 53 < V.2.2.2.1 53) (a : Int) (a0 : 0 ≤ a) (a1 : a < V.2.2.2.1 51) (hO : OnR C V a (onN C.1 0 n)) (d : Int) (d0 : 0 ≤ d) (d1 : d < V.2.2.2.1 52) (hG : LyG C.1 (onN C.1 0 n) (V.1 (52, d, 0))) (hS : Stab C.1 (onN C.1 0 n) (toldN C.1 0 t n) (hl C.1 0 n t)) (N : Nat) (hN : C.1 (4, 0, 0) 2 = N) (hN4 : N ≤ 4) : ∀ (nn : Nat) (U : XS) (y : Nat) (kc ks : Nat), 8 - (y : Int) < (nn : Int) → (y ≤ 7) → (1548 * (7 - y) ≤ kc) → (4644 * (7 - y) ≤ ks) → (NB (S.2.2.2.1 53) V U) → (WI U) → (FI C (onN C.1 0 n) (toldN C.1 0 t n) (hl C.1 0 n t) (V.1 (52, d, 0)) (y : Int) (U.1 (53, S.2.2.2.1 53, 0))) → X mL_ranks 135 [xR (50, 0, 0), xI 0, xI (n : Int), xI t, xR (53, S.2.2.2.1 53, 0), xR (51, a, 0), xR (52, d, 0), xI (y : Int), none, none] [] (hp U) kc ks (pRk C S n t) := by
  intro nn
  induction nn with
  | zero => intro U y kc ks hm hy hk hks eU wU hF; exfalso; omega
  | succ nn ih =>
    intro U y kc ks hm hy hk hks eU wU hF
    have c4 := wf4_2 hC.1
    have c9 := wf9_3 hC.1 (b := 0) (by omega) (by omega)
    have h53 := hcnt.2.2.1
    have hz := wU.1
    have eS : NQ S U := eV.b (Int.le_refl _) eU
    have n51 := eU.2.2.2.1 51
    have n52 := eU.2.2.2.1 52
    have n53 := eU.2.2.2.1 53
    have hrU := hr.q eS
    have n5 := hrU.1
    have oU : OnR C U a (onN C.1 0 n) := fun r hr => by rw [eU.1 (51, a, 0) (nK (by decide) _ _ _ _) (Or.inr (Or.inr a1))]; exact hO r hr
    have gU : U.1 (52, d, 0) = (V.1 (52, d, 0)) := eU.1 (52, d, 0) (nK (by decide) _ _ _ _) (Or.inr (Or.inr d1))
    refine x_iload dL_ranks_135 rfl ?_
    refine x_bipush (v := 7) dL_ranks_137 (by decide) ?_
    refine x_icmp_ge (tgt := 227) dL_ranks_139 (by decide) (by first | exact hz _ _ | exact hw.1 _ _ | exact zR_of _ | exact bI_z _ | assumption | exact ⟨by omega, by omega⟩) ⟨by decide, by decide⟩ (fun c139 => ?_) (fun c139 => ?_)
    · refine x_aload dL_ranks_227 rfl ?_
      exact x_aretA dL_ranks_229 rfl (by obtain rfl : y = 7 := (by omega); exact ⟨rfl, U, rfl, eS, wU, by omega, hF.fin hC.1 hC.2.1 hG.1 (by decide)⟩)
    · refine x_iconst dL_ranks_142 ?_
      refine x_istore (L' := [xR (50, 0, 0), xI 0, xI (n : Int), xI t, xR (53, S.2.2.2.1 53, 0), xR (51, a, 0), xR (52, d, 0), xI (y : Int), xI 1, none]) dL_ranks_143 (by decide) rfl ?_
      exact l_rkW C S hC hb1 hw ht hr hcnt n hn t zt V eV cV a a0 a1 hO d d0 d1 hG hS N hN hN4 y (by omega) (1548 * (6 - y)) (4644 * (6 - y)) (fun W kc2 ks2 k1 k2 k3 k4 k5 => ih W (y + 1) kc2 ks2 (by omega) (by omega) (by omega) (by omega) k1 k2 k3) 400 U 0 1 kc ks (by omega) (by omega) (by omega) (by omega) eU wU (LV.start hF)
set_option maxHeartbeats 4000000 in
set_option maxRecDepth 100000 in
theorem l_rkM (C S : XS) (hC : CB C) (hb1 : 1 ≤ C.1 (0, 0, 0) 6) (hw : WI S) (ht : NT C S) (hr : NR C S) (hcnt : Cnt S) (n : Nat) (hn : (n : Int) ≤ C.1 (9, 0, 0) 3) (t : Int) (zt : zR t) (N : Nat) (hN : C.1 (4, 0, 0) 2 = N) (hN4 : N ≤ 4) (W0 : XS) (eW : NQ S W0) (wW : WI W0) (cW : S.2.2.2.1 53 < W0.2.2.2.1 53) (hR : R0 C t n (W0.1 (53, S.2.2.2.1 53, 0))) : X mL_ranks 116 [xR (50, 0, 0), xI 0, xI (n : Int), xI t, xR (53, S.2.2.2.1 53, 0), none, none, none, none, none] [] (hp W0) 10838 32525 (pRk C S n t) := by
  have c4 := wf4_2 hC.1
  have c9 := wf9_3 hC.1 (b := 0) (by omega) (by omega)
  have h53 := hcnt.2.2.1
  refine x_aload_n dL_ranks_116 rfl ?_
  refine x_iload_n dL_ranks_117 rfl ?_
  refine x_iload_n dL_ranks_118 rfl ?_
  refine x_callS (a := 1) (b := 10) (as := [xR (50, 0, 0), xI 0, xI (n : Int)]) (rest := []) ok_L_rules dL_ranks_119 wd846 wd847 (c_rules C W0 hC wW (ht.q eW) (hr.q eW) (hcnt.q eW) n hn) rfl (Nat.le_of_ble_eq_true rfl) (Nat.le_of_ble_eq_true rfl) (by decide) (by omega) (by omega) (fun _ q => by cases q.1) (fun _ _ q => ?_) (fun _ _ q => by cases q.1)
  obtain ⟨y, U, rfl, eU, wU, cU, oU⟩ := q
  cases y
  refine x_astore (L' := [xR (50, 0, 0), xI 0, xI (n : Int), xI t, xR (53, S.2.2.2.1 53, 0), xR (51, W0.2.2.2.1 51, 0), none, none, none, none]) dL_ranks_122 (by decide) rfl ?_
  refine x_aload_n dL_ranks_124 rfl ?_
  refine x_aload dL_ranks_125 rfl ?_
  refine x_callS (a := 1) (b := 7) (as := [xR (50, 0, 0), xR (51, W0.2.2.2.1 51, 0)]) (rest := []) ok_L_layers dL_ranks_127 wd842 wd843 (c_layers C U hC.1 wU ((hr.q eW).q eU) ((hcnt.q eW).q eU) (W0.2.2.2.1 51) (hcnt.q eW).1 (by omega) (onN C.1 0 n) oU) rfl (Nat.le_of_ble_eq_true rfl) (Nat.le_of_ble_eq_true rfl) (by decide) (by omega) (by omega) (fun _ q => by cases q.1) (fun _ _ q => ?_) (fun _ _ q => by cases q.1)
  obtain ⟨y, V, rfl, ⟨eV, wV, cV⟩, hV⟩ := q
  cases y
  refine x_astore (L' := [xR (50, 0, 0), xI 0, xI (n : Int), xI t, xR (53, S.2.2.2.1 53, 0), xR (51, W0.2.2.2.1 51, 0), xR (52, U.2.2.2.1 52, 0), none, none, none]) dL_ranks_130 (by decide) rfl ?_
  refine x_iconst dL_ranks_132 ?_
  refine x_istore (L' := [xR (50, 0, 0), xI 0, xI (n : Int), xI t, xR (53, S.2.2.2.1 53, 0), xR (51, W0.2.2.2.1 51, 0), xR (52, U.2.2.2.1 52, 0), xI 0, none, none]) dL_ranks_133 (by decide) rfl ?_
  have eV1 := (eW.tr eU).tr eV
  have e53 : V.1 (53, S.2.2.2.1 53, 0) = W0.1 (53, S.2.2.2.1 53, 0) := ((eU.tr eV).1 (53, S.2.2.2.1 53, 0) (Or.inr (Or.inr cW)))
  have c53 := (eU.tr eV).2.2.2.1 53
  have c51 := eV.2.2.2.1 51
  have h52 := ((hcnt.q eW).q eU).2.1
  have ly : LyG C.1 (onN C.1 0 n) (V.1 (52, U.2.2.2.1 52, 0)) := by
    rcases hV with k | ⟨-, k⟩
    · exact k.2
    · obtain ⟨g, g1, g2⟩ := hC.2.2.2.1 0 (by omega) (by omega) n hn
      exact absurd g2 (k g g1)
  have st9 := hl_stab hC (b := 0) (by omega) (by omega) n hn t
  exact X.weak (l_rkL C S hC hb1 hw ht hr hcnt n hn t zt V eV1 (by omega) (W0.2.2.2.1 51) (hcnt.q eW).1 (by omega) (fun r hr9 => by rw [eV.1 (51, W0.2.2.2.1 51, 0) (Or.inr (Or.inr (show W0.2.2.2.1 51 < U.2.2.2.1 51 by omega)))]; exact oU r hr9) (U.2.2.2.1 52) h52 (by omega) ly st9 N hN hN4 9 V 0 10836 32508 (by omega) (by omega) (by omega) (by omega) ((NQ.rf V).nb _) wV (FI.start ly.1 (fun k => wfa53 wV (show 0 ≤ S.2.2.2.1 53 by omega) (by omega) k) (by rw [e53]; exact hR))) (by omega) (by omega) (fun _ _ q => q)
set_option maxHeartbeats 4000000 in
set_option maxRecDepth 100000 in
theorem c_ranks (C S : XS) (hC : CB C) (hb1 : 1 ≤ C.1 (0, 0, 0) 6) (hw : WI S) (ht : NT C S) (hr : NR C S) (hcnt : Cnt S) (n : Nat) (hn : (n : Int) ≤ C.1 (9, 0, 0) 3) (t : Int) (zt : zR t) (N : Nat) (hN : C.1 (4, 0, 0) 2 = N) (hN4 : N ≤ 4) : X mL_ranks 0 (xEnt mL_ranks [xR (50, 0, 0), xI 0, xI (n : Int), xI t]) [] (hp S) 10839 32909 (pRk C S n t) := by
  have c9 := wf9_3 hC.1 (b := 0) (by omega) (by omega)
  show X mL_ranks 0 [xR (50, 0, 0), xI 0, xI (n : Int), xI t, none, none, none, none, none, none] [] (hp S) 10839 32909 _
  refine x_sipush (v := 384) dL_ranks_0 (by decide) ?_
  refine x_newarray (53, S.2.2.2.1 53, 0) (t := 0) (n := 384) (N := 384) dL_ranks_3 rfl wd89 (free53 S) (show (53 : Nat) ≠ 99 by decide) rfl (by decide) (by omega) (by omega) ?_
  refine x_heq (hp_n53 (by first | omega | exact hcnt.2.2.1)) ?_
  refine x_astore (L' := [xR (50, 0, 0), xI 0, xI (n : Int), xI t, xR (53, S.2.2.2.1 53, 0), none, none, none, none, none]) dL_ranks_5 (by decide) rfl ?_
  refine x_iconst dL_ranks_7 ?_
  refine x_istore (L' := [xR (50, 0, 0), xI 0, xI (n : Int), xI t, xR (53, S.2.2.2.1 53, 0), xI 0, none, none, none, none]) dL_ranks_8 (by decide) rfl ?_
  refine X.weak (l_rkF C S hC hb1 hw ht hr hcnt n hn t zt 10838 32525 (fun U k1 k2 k3 k4 => l_rkT C S hC hb1 hw ht hr hcnt n hn t zt 10838 32525 (fun U2 j1 j2 j3 j4 => l_rkM C S hC hb1 hw ht hr hcnt n hn t zt N hN hN4 U2 j1 j2 j3 j4) (n + 2) U 0 (by omega) (by omega) k1 k2 k3 k4) 386 (sN53 S) 0 (by omega) (by omega) (NQ.n53 S) (wi_n53 hw) (by rw [n53_c]; omega) (fun j j0 j1 => by omega)) (by omega) (by omega) (fun _ _ q => q)
