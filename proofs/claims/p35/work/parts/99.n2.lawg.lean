/-! p35: the law: a rule is made -/
/-- the four numbers of a condition -/
def sR4 (S : XS) (a c x y z w : Int) : XS := putI (putI (putI (putI S (50, 0, 0) (a + 4 + 4 * c) x) (50, 0, 0) (a + 5 + 4 * c) y) (50, 0, 0) (a + 6 + 4 * c) z) (50, 0, 0) (a + 7 + 4 * c) w
theorem sR4_50 (S : XS) (a c x y z w j : Int) : (sR4 S a c x y z w).1 (50, 0, 0) j = if j = a + 7 + 4 * c then w else if j = a + 6 + 4 * c then z else if j = a + 5 + 4 * c then y else if j = a + 4 + 4 * c then x else S.1 (50, 0, 0) j := by
  unfold sR4
  rw [putI_at, putI_at, putI_at, putI_at]
theorem sR4_r (S : XS) (a c x y z w : Int) : (sR4 S a c x y z w).1 (50, 0, 0) (a + 4 + 4 * c) = x ∧ (sR4 S a c x y z w).1 (50, 0, 0) (a + 5 + 4 * c) = y ∧ (sR4 S a c x y z w).1 (50, 0, 0) (a + 6 + 4 * c) = z ∧ (sR4 S a c x y z w).1 (50, 0, 0) (a + 7 + 4 * c) = w := by
  rw [sR4_50, sR4_50, sR4_50, sR4_50]
  refine ⟨?_, ?_, ?_, ?_⟩
  · rw [if_neg (by omega), if_neg (by omega), if_neg (by omega), if_pos rfl]
  · rw [if_neg (by omega), if_neg (by omega), if_pos rfl]
  · rw [if_neg (by omega), if_pos rfl]
  · rw [if_pos rfl]
theorem sR4_o (S : XS) (a c x y z w : Int) {l : XL} (h : l ≠ (50, 0, 0)) : (sR4 S a c x y z w).1 l = S.1 l := by
  unfold sR4
  rw [putI_o h, putI_o h, putI_o h, putI_o h]
theorem LW.r4 {S : XS} (h : LW S) {k c x y z w : Int} (hk : S.1 (4, 0, 0) 2 = k) (c0 : 0 ≤ c) (zx : zR x) (zy : zR y) (zz : zR z) (zw : zR w) : LW (sR4 S (1600 + 16 * k) c x y z w) := by
  unfold sR4
  refine (((h.net (by omega) zx).net ?_ zy).net ?_ zz).net ?_ zw <;> (simp only [putI_o (show ((4, 0, 0) : XL) ≠ (50, 0, 0) from nK (by decide) _ _ _ _)]; omega)
theorem LR.r4 {S : XS} {k c x y z w : Int} (h : LR S k c) (k0 : 0 ≤ k) (zx : zR x) (zy : zR y) (zz : zR z) (zw : zR w) : LR (sR4 S (1600 + 16 * k) c x y z w) k c := by
  unfold sR4
  exact (((h.net k0 (by omega) zx).net k0 (by omega) zy).net k0 (by omega) zz).net k0 (by omega) zw
/-- what isRule leaves -/
def pIR (S : XS) : XO → XH → Prop := fun o h' => o = .inl (some (xI 1)) ∧ ∃ T, h' = hp T ∧ LW T ∧ T.1 (4, 0, 0) 2 = S.1 (4, 0, 0) 2 + 1 ∧ T.2.2.2 = S.2.2.2 ∧ T.1 (9, 0, 0) 3 = S.1 (9, 0, 0) 3
set_option maxHeartbeats 4000000 in
set_option maxRecDepth 100000 in
theorem l_isRuleC (S0 : XS) (k : Int) (k0 : 0 ≤ k) (k10 : k < 10) (hk : S0.1 (4, 0, 0) 2 = k) (hn0 : S0.2.2.2.2.2 < 1000000) (i : Int) (i0 : 0 ≤ i) (i1 : i < 1000) (mm : Int) (m1 : 1 ≤ mm) (m3 : mm ≤ 3) : ∀ (nn : Nat) (U : XS) (c : Nat) (kc ks : Nat), 4 - (c : Int) < (nn : Int) → (1 ≤ c) → ((c : Int) ≤ mm) → (LR U k c) → (U.2.2.2 = S0.2.2.2) → (U.1 (9, 0, 0) 3 = S0.1 (9, 0, 0) 3) → (6 * (3 - c) ≤ kc ∧ 36 * (3 - c) ≤ ks) → X mL_isRule 72 [xR (0, 0, 0), xR (50, 0, 0), xR (99, 0, 0), xI i, xI k, xI (1600 + 16 * k), xI mm, xI (c : Int), none] [] (hp U) kc ks (pIR S0) := by
  intro nn
  induction nn with
  | zero => intro U c kc ks hm hc1 hc hL eG e9 hk9; exfalso; omega
  | succ nn ih =>
    intro U c kc ks hm hc1 hc hL eG e9 hk9
    have hw := hL.1.1
    have hz := hw.1
    obtain ⟨-, -, -, -, l5, l6, l7, l8, l9, l10, l11, lu⟩ := id hL
    have hn : U.2.2.2.2.2 < 1000000 := by rw [eG]; exact hn0
    refine x_iload dL_isRule_72 rfl ?_
    refine x_iload dL_isRule_74 rfl ?_
    refine x_icmp_ge (tgt := 367) dL_isRule_76 (by decide) (by first | exact hz _ _ | exact hw.1 _ _ | exact zR_of _ | exact bI_z _ | assumption | exact ⟨by omega, by omega⟩) (by first | exact hz _ _ | exact hw.1 _ _ | exact zR_of _ | exact bI_z _ | assumption | exact ⟨by omega, by omega⟩) (fun c76 => ?_) (fun c76 => ?_)
    · refine x_aload_n dL_isRule_367 rfl ?_
      refine x_iconst dL_isRule_368 ?_
      refine x_dup2 dL_isRule_369 rfl rfl ?_
      refine x_aldi (f := U.1 (50, 0, 0)) dL_isRule_370 (hp50 U) (show (50 : Nat) ≠ 99 by decide) (by omega) (by omega) (by decide) ?_
      refine x_top (show U.1 (50, 0, 0) 5 = k from l8) ?_
      refine x_iconst dL_isRule_371 ?_
      refine x_iadd dL_isRule_372 ?_
      refine x_asti dL_isRule_373 (hp50 U) (show (50 : Nat) ≠ 99 by decide) (by omega) (by omega) (by decide) ?_
      refine x_heq (pa50 U 5 (k + 1)) ?_
      have hw373_1 : WI (putI U (50, 0, 0) 5 (k + 1)) := hw.put (by first | exact hz _ _ | exact hw.1 _ _ | exact zR_of _ | exact bI_z _ | assumption | exact ⟨by omega, by omega⟩) trivial
      refine x_iconst dL_isRule_374 ?_
      exact x_zret dL_isRule_375 rfl (Or.inr rfl) ⟨rfl, _, rfl, hL.fin k0, by rw [putI_o (nK (by decide) _ _ _ _), l7, hk], eG, by rw [putI_o (nK (by decide) _ _ _ _)]; exact e9⟩
    · refine x_aload_n dL_isRule_79 rfl ?_
      refine x_iload dL_isRule_80 rfl ?_
      refine x_iconst dL_isRule_82 ?_
      refine x_iadd dL_isRule_83 ?_
      refine x_iconst dL_isRule_84 ?_
      refine x_iload dL_isRule_85 rfl ?_
      refine x_imul dL_isRule_87 ?_
      refine x_iadd dL_isRule_88 ?_
      refine x_aload_n dL_isRule_89 rfl ?_
      refine x_iload_n dL_isRule_90 rfl ?_
      refine x_iconst dL_isRule_91 ?_
      refine x_iadd dL_isRule_92 ?_
      refine x_iconst dL_isRule_93 ?_
      refine x_iload dL_isRule_94 rfl ?_
      refine x_imul dL_isRule_96 ?_
      refine x_iadd dL_isRule_97 ?_
      refine x_iconst dL_isRule_98 ?_
      refine x_callS (a := 0) (b := 0) (as := [xR (99, 0, 0), xI ((i + 4) + (4 * (c : Int))), xI 5]) (rest := [xI (((1600 + 16 * k) + 4) + (4 * (c : Int))), xR (50, 0, 0)]) ok_L_in dL_isRule_99 wd824 wd825 (c_in U hw hn ((i + 4) + (4 * (c : Int))) 5 (by omega) (by omega) (by omega) (by omega)) rfl (Nat.le_of_ble_eq_true rfl) (Nat.le_of_ble_eq_true rfl) (by decide) (by omega) (by omega) (fun _ q => by obtain ⟨_, _, q, _⟩ := q; cases q) (fun _ _ q => ?_) (fun _ _ q => by obtain ⟨_, _, q, _⟩ := q; cases q)
      obtain ⟨v99, hv99, y, rfl⟩ := q
      cases y
      refine x_asti dL_isRule_102 (hp50 U) (show (50 : Nat) ≠ 99 by decide) (by omega) (by omega) (by decide) ?_
      refine x_heq (pa50 U (((1600 + 16 * k) + 4) + (4 * (c : Int))) v99) ?_
      have hw102_2 : WI (putI U (50, 0, 0) (((1600 + 16 * k) + 4) + (4 * (c : Int))) v99) := hw.put (by first | exact hz _ _ | exact hw.1 _ _ | exact zR_of _ | exact bI_z _ | assumption | exact ⟨by omega, by omega⟩) trivial
      refine x_aload_n dL_isRule_103 rfl ?_
      refine x_iload dL_isRule_104 rfl ?_
      refine x_iconst dL_isRule_106 ?_
      refine x_iadd dL_isRule_107 ?_
      refine x_iconst dL_isRule_108 ?_
      refine x_iload dL_isRule_109 rfl ?_
      refine x_imul dL_isRule_111 ?_
      refine x_iadd dL_isRule_112 ?_
      refine x_iload dL_isRule_113 rfl ?_
      refine x_if_ne (tgt := 122) dL_isRule_115 (by decide) (by first | exact hz _ _ | exact hw.1 _ _ | exact zR_of _ | exact bI_z _ | assumption | exact ⟨by omega, by omega⟩) (fun c115 => ?_) (fun c115 => by exfalso; omega)
      refine x_aload_n dL_isRule_122 rfl ?_
      refine x_iload_n dL_isRule_123 rfl ?_
      refine x_iconst dL_isRule_124 ?_
      refine x_iadd dL_isRule_125 ?_
      refine x_iconst dL_isRule_126 ?_
      refine x_iload dL_isRule_127 rfl ?_
      refine x_imul dL_isRule_129 ?_
      refine x_iadd dL_isRule_130 ?_
      refine x_iconst dL_isRule_131 ?_
      refine x_callS (a := 0) (b := 0) (as := [xR (99, 0, 0), xI ((i + 5) + (4 * (c : Int))), xI 3]) (rest := [xI (((1600 + 16 * k) + 5) + (4 * (c : Int))), xR (50, 0, 0)]) ok_L_in dL_isRule_132 wd824 wd825 (c_in (putI U (50, 0, 0) (((1600 + 16 * k) + 4) + (4 * (c : Int))) v99) hw102_2 hn ((i + 5) + (4 * (c : Int))) 3 (by omega) (by omega) (by omega) (by omega)) rfl (Nat.le_of_ble_eq_true rfl) (Nat.le_of_ble_eq_true rfl) (by decide) (by omega) (by omega) (fun _ q => by obtain ⟨_, _, q, _⟩ := q; cases q) (fun _ _ q => ?_) (fun _ _ q => by obtain ⟨_, _, q, _⟩ := q; cases q)
      obtain ⟨v132, hv132, y, rfl⟩ := q
      cases y
      refine x_asti dL_isRule_135 (hp50 (putI U (50, 0, 0) (((1600 + 16 * k) + 4) + (4 * (c : Int))) v99)) (show (50 : Nat) ≠ 99 by decide) (by omega) (by omega) (by decide) ?_
      refine x_heq (pa50 (putI U (50, 0, 0) (((1600 + 16 * k) + 4) + (4 * (c : Int))) v99) (((1600 + 16 * k) + 5) + (4 * (c : Int))) v132) ?_
      have hw135_3 : WI (putI (putI U (50, 0, 0) (((1600 + 16 * k) + 4) + (4 * (c : Int))) v99) (50, 0, 0) (((1600 + 16 * k) + 5) + (4 * (c : Int))) v132) := hw102_2.put (by first | exact hz _ _ | exact hw.1 _ _ | exact zR_of _ | exact bI_z _ | assumption | exact ⟨by omega, by omega⟩) trivial
      refine x_aload_n dL_isRule_136 rfl ?_
      refine x_iload dL_isRule_137 rfl ?_
      refine x_bipush (v := 6) dL_isRule_139 (by decide) ?_
      refine x_iadd dL_isRule_141 ?_
      refine x_iconst dL_isRule_142 ?_
      refine x_iload dL_isRule_143 rfl ?_
      refine x_imul dL_isRule_145 ?_
      refine x_iadd dL_isRule_146 ?_
      refine x_iload dL_isRule_147 rfl ?_
      refine x_if_ne (tgt := 166) dL_isRule_149 (by decide) (by first | exact hz _ _ | exact hw.1 _ _ | exact zR_of _ | exact bI_z _ | assumption | exact ⟨by omega, by omega⟩) (fun c149 => ?_) (fun c149 => by exfalso; omega)
      refine x_aload_n dL_isRule_166 rfl ?_
      refine x_iload_n dL_isRule_167 rfl ?_
      refine x_bipush (v := 6) dL_isRule_168 (by decide) ?_
      refine x_iadd dL_isRule_170 ?_
      refine x_iconst dL_isRule_171 ?_
      refine x_iload dL_isRule_172 rfl ?_
      refine x_imul dL_isRule_174 ?_
      refine x_iadd dL_isRule_175 ?_
      refine x_iconst dL_isRule_176 ?_
      refine x_callS (a := 0) (b := 0) (as := [xR (99, 0, 0), xI ((i + 6) + (4 * (c : Int))), xI 3]) (rest := [xI (((1600 + 16 * k) + 6) + (4 * (c : Int))), xR (50, 0, 0)]) ok_L_in dL_isRule_177 wd824 wd825 (c_in (putI (putI U (50, 0, 0) (((1600 + 16 * k) + 4) + (4 * (c : Int))) v99) (50, 0, 0) (((1600 + 16 * k) + 5) + (4 * (c : Int))) v132) hw135_3 hn ((i + 6) + (4 * (c : Int))) 3 (by omega) (by omega) (by omega) (by omega)) rfl (Nat.le_of_ble_eq_true rfl) (Nat.le_of_ble_eq_true rfl) (by decide) (by omega) (by omega) (fun _ q => by obtain ⟨_, _, q, _⟩ := q; cases q) (fun _ _ q => ?_) (fun _ _ q => by obtain ⟨_, _, q, _⟩ := q; cases q)
      obtain ⟨v177, hv177, y, rfl⟩ := q
      cases y
      refine x_asti dL_isRule_180 (hp50 (putI (putI U (50, 0, 0) (((1600 + 16 * k) + 4) + (4 * (c : Int))) v99) (50, 0, 0) (((1600 + 16 * k) + 5) + (4 * (c : Int))) v132)) (show (50 : Nat) ≠ 99 by decide) (by omega) (by omega) (by decide) ?_
      refine x_heq (pa50 (putI (putI U (50, 0, 0) (((1600 + 16 * k) + 4) + (4 * (c : Int))) v99) (50, 0, 0) (((1600 + 16 * k) + 5) + (4 * (c : Int))) v132) (((1600 + 16 * k) + 6) + (4 * (c : Int))) v177) ?_
      have hw180_4 : WI (putI (putI (putI U (50, 0, 0) (((1600 + 16 * k) + 4) + (4 * (c : Int))) v99) (50, 0, 0) (((1600 + 16 * k) + 5) + (4 * (c : Int))) v132) (50, 0, 0) (((1600 + 16 * k) + 6) + (4 * (c : Int))) v177) := hw135_3.put (by first | exact hz _ _ | exact hw.1 _ _ | exact zR_of _ | exact bI_z _ | assumption | exact ⟨by omega, by omega⟩) trivial
      refine x_aload_n dL_isRule_181 rfl ?_
      refine x_iload dL_isRule_182 rfl ?_
      refine x_bipush (v := 7) dL_isRule_184 (by decide) ?_
      refine x_iadd dL_isRule_186 ?_
      refine x_iconst dL_isRule_187 ?_
      refine x_iload dL_isRule_188 rfl ?_
      refine x_imul dL_isRule_190 ?_
      refine x_iadd dL_isRule_191 ?_
      refine x_iload dL_isRule_192 rfl ?_
      refine x_if_eq (tgt := 214) dL_isRule_194 (by decide) (by first | exact hz _ _ | exact hw.1 _ _ | exact zR_of _ | exact bI_z _ | assumption | exact ⟨by omega, by omega⟩) (fun c194 => by exfalso; omega) (fun c194 => ?_)
      refine x_aload_n dL_isRule_197 rfl ?_
      refine x_iload_n dL_isRule_198 rfl ?_
      refine x_bipush (v := 7) dL_isRule_199 (by decide) ?_
      refine x_iadd dL_isRule_201 ?_
      refine x_iconst dL_isRule_202 ?_
      refine x_iload dL_isRule_203 rfl ?_
      refine x_imul dL_isRule_205 ?_
      refine x_iadd dL_isRule_206 ?_
      refine x_iconst dL_isRule_207 ?_
      refine x_callS (a := 0) (b := 0) (as := [xR (99, 0, 0), xI ((i + 7) + (4 * (c : Int))), xI 3]) (rest := [xI (((1600 + 16 * k) + 7) + (4 * (c : Int))), xR (50, 0, 0)]) ok_L_in dL_isRule_208 wd824 wd825 (c_in (putI (putI (putI U (50, 0, 0) (((1600 + 16 * k) + 4) + (4 * (c : Int))) v99) (50, 0, 0) (((1600 + 16 * k) + 5) + (4 * (c : Int))) v132) (50, 0, 0) (((1600 + 16 * k) + 6) + (4 * (c : Int))) v177) hw180_4 hn ((i + 7) + (4 * (c : Int))) 3 (by omega) (by omega) (by omega) (by omega)) rfl (Nat.le_of_ble_eq_true rfl) (Nat.le_of_ble_eq_true rfl) (by decide) (by omega) (by omega) (fun _ q => by obtain ⟨_, _, q, _⟩ := q; cases q) (fun _ _ q => ?_) (fun _ _ q => by obtain ⟨_, _, q, _⟩ := q; cases q)
      obtain ⟨v208, hv208, y, rfl⟩ := q
      cases y
      refine x_if_le (tgt := 218) dL_isRule_211 (by decide) (by first | exact hz _ _ | exact hw.1 _ _ | exact zR_of _ | exact bI_z _ | assumption | exact ⟨by omega, by omega⟩) (fun c211 => ?_) (fun c211 => ?_)
      · refine x_iconst dL_isRule_218 ?_
        refine x_asti dL_isRule_219 (hp50 (putI (putI (putI U (50, 0, 0) (((1600 + 16 * k) + 4) + (4 * (c : Int))) v99) (50, 0, 0) (((1600 + 16 * k) + 5) + (4 * (c : Int))) v132) (50, 0, 0) (((1600 + 16 * k) + 6) + (4 * (c : Int))) v177)) (show (50 : Nat) ≠ 99 by decide) (by omega) (by omega) (by decide) ?_
        refine x_heq (pa50 (putI (putI (putI U (50, 0, 0) (((1600 + 16 * k) + 4) + (4 * (c : Int))) v99) (50, 0, 0) (((1600 + 16 * k) + 5) + (4 * (c : Int))) v132) (50, 0, 0) (((1600 + 16 * k) + 6) + (4 * (c : Int))) v177) (((1600 + 16 * k) + 7) + (4 * (c : Int))) 1) ?_
        have hw219_5 : WI (putI (putI (putI (putI U (50, 0, 0) (((1600 + 16 * k) + 4) + (4 * (c : Int))) v99) (50, 0, 0) (((1600 + 16 * k) + 5) + (4 * (c : Int))) v132) (50, 0, 0) (((1600 + 16 * k) + 6) + (4 * (c : Int))) v177) (50, 0, 0) (((1600 + 16 * k) + 7) + (4 * (c : Int))) 1) := hw180_4.put (by first | exact hz _ _ | exact hw.1 _ _ | exact zR_of _ | exact bI_z _ | assumption | exact ⟨by omega, by omega⟩) trivial
        refine x_heq (show hp (sR4 U (1600 + 16 * k) (c : Int) v99 v132 v177 1) = hp (putI (putI (putI (putI U (50, 0, 0) (((1600 + 16 * k) + 4) + (4 * (c : Int))) v99) (50, 0, 0) (((1600 + 16 * k) + 5) + (4 * (c : Int))) v132) (50, 0, 0) (((1600 + 16 * k) + 6) + (4 * (c : Int))) v177) (50, 0, 0) (((1600 + 16 * k) + 7) + (4 * (c : Int))) 1) from rfl) ?_
        have zx : zR v99 := ⟨by omega, by omega⟩
        have zy : zR v132 := ⟨by omega, by omega⟩
        have zz : zR v177 := ⟨by omega, by omega⟩
        have zw : zR 1 := ⟨by omega, by omega⟩
        have r4 := sR4_r U (1600 + 16 * k) (c : Int) v99 v132 v177 1
        have o34 := congrFun (sR4_o U (1600 + 16 * k) (c : Int) v99 v132 v177 1 (l := (34, k, 0)) (nK (by decide) _ _ _ _))
        have o4 := congrFun (sR4_o U (1600 + 16 * k) (c : Int) v99 v132 v177 1 (l := (4, 0, 0)) (nK (by decide) _ _ _ _)) 2
        have o342 := o34 2
        have o345 := o34 5
        have hR4 := hL.r4 k0 zx zy zz zw
        refine x_iload dL_isRule_220 rfl ?_
        refine x_if_ne (tgt := 269) dL_isRule_222 (by decide) (by first | exact hz _ _ | exact hw.1 _ _ | exact zR_of _ | exact bI_z _ | assumption | exact ⟨by omega, by omega⟩) (fun c222 => ?_) (fun c222 => by exfalso; omega)
        refine x_aload_n dL_isRule_269 rfl ?_
        refine x_iload dL_isRule_270 rfl ?_
        refine x_aload_n dL_isRule_272 rfl ?_
        refine x_iload dL_isRule_273 rfl ?_
        refine x_iconst dL_isRule_275 ?_
        refine x_iadd dL_isRule_276 ?_
        refine x_iconst dL_isRule_277 ?_
        refine x_iload dL_isRule_278 rfl ?_
        refine x_imul dL_isRule_280 ?_
        refine x_iadd dL_isRule_281 ?_
        refine x_aldi (f := (sR4 U (1600 + 16 * k) (c : Int) v99 v132 v177 1).1 (50, 0, 0)) dL_isRule_282 (hp50 (sR4 U (1600 + 16 * k) (c : Int) v99 v132 v177 1)) (show (50 : Nat) ≠ 99 by decide) (by omega) (by omega) (by decide) ?_
        refine x_top (show (sR4 U (1600 + 16 * k) (c : Int) v99 v132 v177 1).1 (50, 0, 0) (((1600 + 16 * k) + 4) + (4 * (c : Int))) = v99 from r4.1) ?_
        refine x_aload_n dL_isRule_283 rfl ?_
        refine x_iload dL_isRule_284 rfl ?_
        refine x_iconst dL_isRule_286 ?_
        refine x_iadd dL_isRule_287 ?_
        refine x_iconst dL_isRule_288 ?_
        refine x_iload dL_isRule_289 rfl ?_
        refine x_imul dL_isRule_291 ?_
        refine x_iadd dL_isRule_292 ?_
        refine x_aldi (f := (sR4 U (1600 + 16 * k) (c : Int) v99 v132 v177 1).1 (50, 0, 0)) dL_isRule_293 (hp50 (sR4 U (1600 + 16 * k) (c : Int) v99 v132 v177 1)) (show (50 : Nat) ≠ 99 by decide) (by omega) (by omega) (by decide) ?_
        refine x_top (show (sR4 U (1600 + 16 * k) (c : Int) v99 v132 v177 1).1 (50, 0, 0) (((1600 + 16 * k) + 5) + (4 * (c : Int))) = v132 from r4.2.1) ?_
        refine x_aload_n dL_isRule_294 rfl ?_
        refine x_iload dL_isRule_295 rfl ?_
        refine x_bipush (v := 6) dL_isRule_297 (by decide) ?_
        refine x_iadd dL_isRule_299 ?_
        refine x_iconst dL_isRule_300 ?_
        refine x_iload dL_isRule_301 rfl ?_
        refine x_imul dL_isRule_303 ?_
        refine x_iadd dL_isRule_304 ?_
        refine x_aldi (f := (sR4 U (1600 + 16 * k) (c : Int) v99 v132 v177 1).1 (50, 0, 0)) dL_isRule_305 (hp50 (sR4 U (1600 + 16 * k) (c : Int) v99 v132 v177 1)) (show (50 : Nat) ≠ 99 by decide) (by omega) (by omega) (by decide) ?_
        refine x_top (show (sR4 U (1600 + 16 * k) (c : Int) v99 v132 v177 1).1 (50, 0, 0) (((1600 + 16 * k) + 6) + (4 * (c : Int))) = v177 from r4.2.2.1) ?_
        refine x_aload_n dL_isRule_306 rfl ?_
        refine x_iload dL_isRule_307 rfl ?_
        refine x_bipush (v := 7) dL_isRule_309 (by decide) ?_
        refine x_iadd dL_isRule_311 ?_
        refine x_iconst dL_isRule_312 ?_
        refine x_iload dL_isRule_313 rfl ?_
        refine x_imul dL_isRule_315 ?_
        refine x_iadd dL_isRule_316 ?_
        refine x_aldi (f := (sR4 U (1600 + 16 * k) (c : Int) v99 v132 v177 1).1 (50, 0, 0)) dL_isRule_317 (hp50 (sR4 U (1600 + 16 * k) (c : Int) v99 v132 v177 1)) (show (50 : Nat) ≠ 99 by decide) (by omega) (by omega) (by decide) ?_
        refine x_top (show (sR4 U (1600 + 16 * k) (c : Int) v99 v132 v177 1).1 (50, 0, 0) (((1600 + 16 * k) + 7) + (4 * (c : Int))) = 1 from r4.2.2.2) ?_
        refine x_iconst dL_isRule_318 ?_
        refine x_icmp_ne (tgt := 326) dL_isRule_319 (by decide) ⟨by decide, by decide⟩ ⟨by decide, by decide⟩ (fun z => absurd z (by decide)) (fun _ => ?_)
        refine x_iconst dL_isRule_322 ?_
        refine x_goto (tgt := 327) dL_isRule_323 (by decide) ?_
        refine x_callSH (a := 6) (b := 36) (as := [xR (0, 0, 0), xI k, xI v99, xI v132, xI v177, xI 1]) (rest := []) ok_L_addCondition dL_isRule_327 wd668 wd669 (wo_addCondition (sR4 U (1600 + 16 * k) (c : Int) v99 v132 v177 1) hR4.i k v99 v132 v177 1 ⟨by omega, by omega⟩ ⟨by omega, by omega⟩ ⟨by omega, by omega⟩ ⟨by omega, by omega⟩ (Or.inr rfl)) rfl (Nat.le_of_ble_eq_true rfl) (Nat.le_of_ble_eq_true rfl) (by decide) (by omega) (by omega) (fun _ q => by obtain ⟨_, _, _, _, _, q, _⟩ := q; cases q) (fun _ _ q => ?_) (fun _ _ q => by obtain ⟨_, _, _, _, _, q, _⟩ := q; cases q)
        obtain ⟨S1, D, kk, vv, rfl, yy, qq, cb, em, ji, hR⟩ := q
        cases yy
        rcases hR with ⟨rfl, g1, g2, g3, rfl, hD⟩ | ⟨rfl, g1, -⟩ | ⟨rfl, g1, g2, -⟩ | ⟨rfl, g1, g2, g3, -⟩
        rotate_left
        · exfalso; omega
        · exfalso; omega
        · exfalso; omega
        refine x_top (show _ = (c : Int) + 1 from by rw [if_pos rfl]; omega) ?_
        refine x_istore (L' := [xR (0, 0, 0), xR (50, 0, 0), xR (99, 0, 0), xI i, xI k, xI (1600 + 16 * k), xI mm, xI (c : Int), xI ((c : Int) + 1)]) dL_isRule_330 (by decide) rfl ?_
        refine x_aload_n dL_isRule_332 rfl ?_
        refine x_iload dL_isRule_333 rfl ?_
        refine x_iload dL_isRule_335 rfl ?_
        refine x_iconst dL_isRule_337 ?_
        refine x_iadd dL_isRule_338 ?_
        refine x_asti dL_isRule_339 (hp50 S1) (show (50 : Nat) ≠ 99 by decide) (by omega) (by omega) (by decide) ?_
        refine x_heq (pa50 S1 (1600 + 16 * k) ((c : Int) + 1)) ?_
        have hw339_6 : WI (putI S1 (50, 0, 0) (1600 + 16 * k) ((c : Int) + 1)) := cb.1.put (by first | exact hz _ _ | exact hw.1 _ _ | exact zR_of _ | exact bI_z _ | assumption | exact ⟨by omega, by omega⟩) trivial
        refine x_iload dL_isRule_340 rfl ?_
        refine x_iload dL_isRule_342 rfl ?_
        refine x_if_ne (tgt := 352) dL_isRule_344 (by decide) (by first | exact hz _ _ | exact hw.1 _ _ | exact zR_of _ | exact bI_z _ | assumption | exact ⟨by omega, by omega⟩) (fun c344 => ?_) (fun c344 => by exfalso; omega)
        refine x_iload dL_isRule_352 rfl ?_
        refine x_iconst dL_isRule_354 ?_
        refine x_iadd dL_isRule_355 ?_
        refine x_icmp_eq (tgt := 361) dL_isRule_356 (by decide) (by first | exact hz _ _ | exact hw.1 _ _ | exact zR_of _ | exact bI_z _ | assumption | exact ⟨by omega, by omega⟩) (by first | exact hz _ _ | exact hw.1 _ _ | exact zR_of _ | exact bI_z _ | assumption | exact ⟨by omega, by omega⟩) (fun c356 => ?_) (fun c356 => by exfalso; omega)
        refine x_iinc (L' := [xR (0, 0, 0), xR (50, 0, 0), xR (99, 0, 0), xI i, xI k, xI (1600 + 16 * k), xI mm, xI ((c : Int) + 1), xI ((c : Int) + 1)]) dL_isRule_361 rfl rfl ?_
        refine x_goto (tgt := 72) dL_isRule_364 (by decide) ?_
        refine X.loc (L' := [xR (0, 0, 0), xR (50, 0, 0), xR (99, 0, 0), xI i, xI k, xI (1600 + 16 * k), xI mm, xI ((c : Int) + 1), none]) ⟨rfl, ⟨rfl, ⟨rfl, ⟨rfl, ⟨rfl, ⟨rfl, ⟨rfl, ⟨rfl, trivial⟩⟩⟩⟩⟩⟩⟩⟩ ?_
        exact ih (putI S1 (50, 0, 0) (1600 + 16 * k) ((c : Int) + 1)) (c + 1) (kc - 6) (ks - 36) (by omega) (by omega) (by omega) (hR4.more k0 (by omega) hD em qq cb ji r4.1 r4.2.1 r4.2.2.1 r4.2.2.2 (by omega) (by omega)) (((congrArg (fun x => x.2) qq.2.2).trans em.2).trans eG) (((congrFun (qq.1 (9, 0, 0) rfl) 3).trans (by rw [← hD, sCond_o _ _ _ _ _ _ (nK (by decide) _ _ _ _) (nK (by decide) _ _ _ _), sR4_o _ _ _ _ _ _ _ (nK (by decide) _ _ _ _)])).trans e9) (by omega)
      · refine x_iconst dL_isRule_214 ?_
        refine x_goto (tgt := 219) dL_isRule_215 (by decide) ?_
        refine x_asti dL_isRule_219 (hp50 (putI (putI (putI U (50, 0, 0) (((1600 + 16 * k) + 4) + (4 * (c : Int))) v99) (50, 0, 0) (((1600 + 16 * k) + 5) + (4 * (c : Int))) v132) (50, 0, 0) (((1600 + 16 * k) + 6) + (4 * (c : Int))) v177)) (show (50 : Nat) ≠ 99 by decide) (by omega) (by omega) (by decide) ?_
        refine x_heq (pa50 (putI (putI (putI U (50, 0, 0) (((1600 + 16 * k) + 4) + (4 * (c : Int))) v99) (50, 0, 0) (((1600 + 16 * k) + 5) + (4 * (c : Int))) v132) (50, 0, 0) (((1600 + 16 * k) + 6) + (4 * (c : Int))) v177) (((1600 + 16 * k) + 7) + (4 * (c : Int))) 0) ?_
        have hw219_7 : WI (putI (putI (putI (putI U (50, 0, 0) (((1600 + 16 * k) + 4) + (4 * (c : Int))) v99) (50, 0, 0) (((1600 + 16 * k) + 5) + (4 * (c : Int))) v132) (50, 0, 0) (((1600 + 16 * k) + 6) + (4 * (c : Int))) v177) (50, 0, 0) (((1600 + 16 * k) + 7) + (4 * (c : Int))) 0) := hw180_4.put (by first | exact hz _ _ | exact hw.1 _ _ | exact zR_of _ | exact bI_z _ | assumption | exact ⟨by omega, by omega⟩) trivial
        refine x_heq (show hp (sR4 U (1600 + 16 * k) (c : Int) v99 v132 v177 0) = hp (putI (putI (putI (putI U (50, 0, 0) (((1600 + 16 * k) + 4) + (4 * (c : Int))) v99) (50, 0, 0) (((1600 + 16 * k) + 5) + (4 * (c : Int))) v132) (50, 0, 0) (((1600 + 16 * k) + 6) + (4 * (c : Int))) v177) (50, 0, 0) (((1600 + 16 * k) + 7) + (4 * (c : Int))) 0) from rfl) ?_
        have zx : zR v99 := ⟨by omega, by omega⟩
        have zy : zR v132 := ⟨by omega, by omega⟩
        have zz : zR v177 := ⟨by omega, by omega⟩
        have zw : zR 0 := ⟨by omega, by omega⟩
        have r4 := sR4_r U (1600 + 16 * k) (c : Int) v99 v132 v177 0
        have o34 := congrFun (sR4_o U (1600 + 16 * k) (c : Int) v99 v132 v177 0 (l := (34, k, 0)) (nK (by decide) _ _ _ _))
        have o4 := congrFun (sR4_o U (1600 + 16 * k) (c : Int) v99 v132 v177 0 (l := (4, 0, 0)) (nK (by decide) _ _ _ _)) 2
        have o342 := o34 2
        have o345 := o34 5
        have hR4 := hL.r4 k0 zx zy zz zw
        refine x_iload dL_isRule_220 rfl ?_
        refine x_if_ne (tgt := 269) dL_isRule_222 (by decide) (by first | exact hz _ _ | exact hw.1 _ _ | exact zR_of _ | exact bI_z _ | assumption | exact ⟨by omega, by omega⟩) (fun c222 => ?_) (fun c222 => by exfalso; omega)
        refine x_aload_n dL_isRule_269 rfl ?_
        refine x_iload dL_isRule_270 rfl ?_
        refine x_aload_n dL_isRule_272 rfl ?_
        refine x_iload dL_isRule_273 rfl ?_
        refine x_iconst dL_isRule_275 ?_
        refine x_iadd dL_isRule_276 ?_
        refine x_iconst dL_isRule_277 ?_
        refine x_iload dL_isRule_278 rfl ?_
        refine x_imul dL_isRule_280 ?_
        refine x_iadd dL_isRule_281 ?_
        refine x_aldi (f := (sR4 U (1600 + 16 * k) (c : Int) v99 v132 v177 0).1 (50, 0, 0)) dL_isRule_282 (hp50 (sR4 U (1600 + 16 * k) (c : Int) v99 v132 v177 0)) (show (50 : Nat) ≠ 99 by decide) (by omega) (by omega) (by decide) ?_
        refine x_top (show (sR4 U (1600 + 16 * k) (c : Int) v99 v132 v177 0).1 (50, 0, 0) (((1600 + 16 * k) + 4) + (4 * (c : Int))) = v99 from r4.1) ?_
        refine x_aload_n dL_isRule_283 rfl ?_
        refine x_iload dL_isRule_284 rfl ?_
        refine x_iconst dL_isRule_286 ?_
        refine x_iadd dL_isRule_287 ?_
        refine x_iconst dL_isRule_288 ?_
        refine x_iload dL_isRule_289 rfl ?_
        refine x_imul dL_isRule_291 ?_
        refine x_iadd dL_isRule_292 ?_
        refine x_aldi (f := (sR4 U (1600 + 16 * k) (c : Int) v99 v132 v177 0).1 (50, 0, 0)) dL_isRule_293 (hp50 (sR4 U (1600 + 16 * k) (c : Int) v99 v132 v177 0)) (show (50 : Nat) ≠ 99 by decide) (by omega) (by omega) (by decide) ?_
        refine x_top (show (sR4 U (1600 + 16 * k) (c : Int) v99 v132 v177 0).1 (50, 0, 0) (((1600 + 16 * k) + 5) + (4 * (c : Int))) = v132 from r4.2.1) ?_
        refine x_aload_n dL_isRule_294 rfl ?_
        refine x_iload dL_isRule_295 rfl ?_
        refine x_bipush (v := 6) dL_isRule_297 (by decide) ?_
        refine x_iadd dL_isRule_299 ?_
        refine x_iconst dL_isRule_300 ?_
        refine x_iload dL_isRule_301 rfl ?_
        refine x_imul dL_isRule_303 ?_
        refine x_iadd dL_isRule_304 ?_
        refine x_aldi (f := (sR4 U (1600 + 16 * k) (c : Int) v99 v132 v177 0).1 (50, 0, 0)) dL_isRule_305 (hp50 (sR4 U (1600 + 16 * k) (c : Int) v99 v132 v177 0)) (show (50 : Nat) ≠ 99 by decide) (by omega) (by omega) (by decide) ?_
        refine x_top (show (sR4 U (1600 + 16 * k) (c : Int) v99 v132 v177 0).1 (50, 0, 0) (((1600 + 16 * k) + 6) + (4 * (c : Int))) = v177 from r4.2.2.1) ?_
        refine x_aload_n dL_isRule_306 rfl ?_
        refine x_iload dL_isRule_307 rfl ?_
        refine x_bipush (v := 7) dL_isRule_309 (by decide) ?_
        refine x_iadd dL_isRule_311 ?_
        refine x_iconst dL_isRule_312 ?_
        refine x_iload dL_isRule_313 rfl ?_
        refine x_imul dL_isRule_315 ?_
        refine x_iadd dL_isRule_316 ?_
        refine x_aldi (f := (sR4 U (1600 + 16 * k) (c : Int) v99 v132 v177 0).1 (50, 0, 0)) dL_isRule_317 (hp50 (sR4 U (1600 + 16 * k) (c : Int) v99 v132 v177 0)) (show (50 : Nat) ≠ 99 by decide) (by omega) (by omega) (by decide) ?_
        refine x_top (show (sR4 U (1600 + 16 * k) (c : Int) v99 v132 v177 0).1 (50, 0, 0) (((1600 + 16 * k) + 7) + (4 * (c : Int))) = 0 from r4.2.2.2) ?_
        refine x_iconst dL_isRule_318 ?_
        refine x_icmp_ne (tgt := 326) dL_isRule_319 (by decide) ⟨by decide, by decide⟩ ⟨by decide, by decide⟩ (fun _ => ?_) (fun z => absurd z (by decide))
        refine x_iconst dL_isRule_326 ?_
        refine x_callSH (a := 6) (b := 36) (as := [xR (0, 0, 0), xI k, xI v99, xI v132, xI v177, xI 0]) (rest := []) ok_L_addCondition dL_isRule_327 wd668 wd669 (wo_addCondition (sR4 U (1600 + 16 * k) (c : Int) v99 v132 v177 0) hR4.i k v99 v132 v177 0 ⟨by omega, by omega⟩ ⟨by omega, by omega⟩ ⟨by omega, by omega⟩ ⟨by omega, by omega⟩ (Or.inl rfl)) rfl (Nat.le_of_ble_eq_true rfl) (Nat.le_of_ble_eq_true rfl) (by decide) (by omega) (by omega) (fun _ q => by obtain ⟨_, _, _, _, _, q, _⟩ := q; cases q) (fun _ _ q => ?_) (fun _ _ q => by obtain ⟨_, _, _, _, _, q, _⟩ := q; cases q)
        obtain ⟨S1, D, kk, vv, rfl, yy, qq, cb, em, ji, hR⟩ := q
        cases yy
        rcases hR with ⟨rfl, g1, g2, g3, rfl, hD⟩ | ⟨rfl, g1, -⟩ | ⟨rfl, g1, g2, -⟩ | ⟨rfl, g1, g2, g3, -⟩
        rotate_left
        · exfalso; omega
        · exfalso; omega
        · exfalso; omega
        refine x_top (show _ = (c : Int) + 1 from by rw [if_pos rfl]; omega) ?_
        refine x_istore (L' := [xR (0, 0, 0), xR (50, 0, 0), xR (99, 0, 0), xI i, xI k, xI (1600 + 16 * k), xI mm, xI (c : Int), xI ((c : Int) + 1)]) dL_isRule_330 (by decide) rfl ?_
        refine x_aload_n dL_isRule_332 rfl ?_
        refine x_iload dL_isRule_333 rfl ?_
        refine x_iload dL_isRule_335 rfl ?_
        refine x_iconst dL_isRule_337 ?_
        refine x_iadd dL_isRule_338 ?_
        refine x_asti dL_isRule_339 (hp50 S1) (show (50 : Nat) ≠ 99 by decide) (by omega) (by omega) (by decide) ?_
        refine x_heq (pa50 S1 (1600 + 16 * k) ((c : Int) + 1)) ?_
        have hw339_8 : WI (putI S1 (50, 0, 0) (1600 + 16 * k) ((c : Int) + 1)) := cb.1.put (by first | exact hz _ _ | exact hw.1 _ _ | exact zR_of _ | exact bI_z _ | assumption | exact ⟨by omega, by omega⟩) trivial
        refine x_iload dL_isRule_340 rfl ?_
        refine x_iload dL_isRule_342 rfl ?_
        refine x_if_ne (tgt := 352) dL_isRule_344 (by decide) (by first | exact hz _ _ | exact hw.1 _ _ | exact zR_of _ | exact bI_z _ | assumption | exact ⟨by omega, by omega⟩) (fun c344 => ?_) (fun c344 => by exfalso; omega)
        refine x_iload dL_isRule_352 rfl ?_
        refine x_iconst dL_isRule_354 ?_
        refine x_iadd dL_isRule_355 ?_
        refine x_icmp_eq (tgt := 361) dL_isRule_356 (by decide) (by first | exact hz _ _ | exact hw.1 _ _ | exact zR_of _ | exact bI_z _ | assumption | exact ⟨by omega, by omega⟩) (by first | exact hz _ _ | exact hw.1 _ _ | exact zR_of _ | exact bI_z _ | assumption | exact ⟨by omega, by omega⟩) (fun c356 => ?_) (fun c356 => by exfalso; omega)
        refine x_iinc (L' := [xR (0, 0, 0), xR (50, 0, 0), xR (99, 0, 0), xI i, xI k, xI (1600 + 16 * k), xI mm, xI ((c : Int) + 1), xI ((c : Int) + 1)]) dL_isRule_361 rfl rfl ?_
        refine x_goto (tgt := 72) dL_isRule_364 (by decide) ?_
        refine X.loc (L' := [xR (0, 0, 0), xR (50, 0, 0), xR (99, 0, 0), xI i, xI k, xI (1600 + 16 * k), xI mm, xI ((c : Int) + 1), none]) ⟨rfl, ⟨rfl, ⟨rfl, ⟨rfl, ⟨rfl, ⟨rfl, ⟨rfl, ⟨rfl, trivial⟩⟩⟩⟩⟩⟩⟩⟩ ?_
        exact ih (putI S1 (50, 0, 0) (1600 + 16 * k) ((c : Int) + 1)) (c + 1) (kc - 6) (ks - 36) (by omega) (by omega) (by omega) (hR4.more k0 (by omega) hD em qq cb ji r4.1 r4.2.1 r4.2.2.1 r4.2.2.2 (by omega) (by omega)) (((congrArg (fun x => x.2) qq.2.2).trans em.2).trans eG) (((congrFun (qq.1 (9, 0, 0) rfl) 3).trans (by rw [← hD, sCond_o _ _ _ _ _ _ (nK (by decide) _ _ _ _) (nK (by decide) _ _ _ _), sR4_o _ _ _ _ _ _ _ (nK (by decide) _ _ _ _)])).trans e9) (by omega)
set_option maxHeartbeats 4000000 in
set_option maxRecDepth 100000 in
theorem l_isRule0 (S0 : XS) (k : Int) (k0 : 0 ≤ k) (k10 : k < 10) (hk : S0.1 (4, 0, 0) 2 = k) (hn0 : S0.2.2.2.2.2 < 1000000) (i : Int) (i0 : 0 ≤ i) (i1 : i < 1000) (mm : Int) (m1 : 1 ≤ mm) (m3 : mm ≤ 3) (U : XS) (h : LW U) (hkU : U.1 (4, 0, 0) 2 = k) (hd a b : Int) (n1 : U.1 (50, 0, 0) (1600 + 16 * k + 1) = hd) (n2 : U.1 (50, 0, 0) (1600 + 16 * k + 2) = a) (n3 : U.1 (50, 0, 0) (1600 + 16 * k + 3) = b) (gh : 0 ≤ hd ∧ hd < 6) (ga : 0 ≤ a ∧ a < 2) (gb : 0 ≤ b ∧ b < 3) (eG : U.2.2.2 = S0.2.2.2) (e9 : U.1 (9, 0, 0) 3 = S0.1 (9, 0, 0) 3) : X mL_isRule 72 [xR (0, 0, 0), xR (50, 0, 0), xR (99, 0, 0), xI i, xI k, xI (1600 + 16 * k), xI mm, xI 0, none] [] (hp U) 18 108 (pIR S0) := by
  have hw := h.1.1
  have hz := hw.1
  have hn : U.2.2.2.2.2 < 1000000 := by rw [eG]; exact hn0
  refine x_iload dL_isRule_72 rfl ?_
  refine x_iload dL_isRule_74 rfl ?_
  refine x_icmp_ge (tgt := 367) dL_isRule_76 (by decide) ⟨by decide, by decide⟩ (by first | exact hz _ _ | exact hw.1 _ _ | exact zR_of _ | exact bI_z _ | assumption | exact ⟨by omega, by omega⟩) (fun c76 => by exfalso; omega) (fun c76 => ?_)
  refine x_aload_n dL_isRule_79 rfl ?_
  refine x_iload dL_isRule_80 rfl ?_
  refine x_iconst dL_isRule_82 ?_
  refine x_iadd dL_isRule_83 ?_
  refine x_iconst dL_isRule_84 ?_
  refine x_iload dL_isRule_85 rfl ?_
  refine x_imul dL_isRule_87 ?_
  refine x_iadd dL_isRule_88 ?_
  refine x_aload_n dL_isRule_89 rfl ?_
  refine x_iload_n dL_isRule_90 rfl ?_
  refine x_iconst dL_isRule_91 ?_
  refine x_iadd dL_isRule_92 ?_
  refine x_iconst dL_isRule_93 ?_
  refine x_iload dL_isRule_94 rfl ?_
  refine x_imul dL_isRule_96 ?_
  refine x_iadd dL_isRule_97 ?_
  refine x_iconst dL_isRule_98 ?_
  refine x_callS (a := 0) (b := 0) (as := [xR (99, 0, 0), xI ((i + 4) + (4 * 0)), xI 5]) (rest := [xI (((1600 + 16 * k) + 4) + (4 * 0)), xR (50, 0, 0)]) ok_L_in dL_isRule_99 wd824 wd825 (c_in U hw hn ((i + 4) + (4 * 0)) 5 (by omega) (by omega) (by omega) (by omega)) rfl (Nat.le_of_ble_eq_true rfl) (Nat.le_of_ble_eq_true rfl) (by decide) (by omega) (by omega) (fun _ q => by obtain ⟨_, _, q, _⟩ := q; cases q) (fun _ _ q => ?_) (fun _ _ q => by obtain ⟨_, _, q, _⟩ := q; cases q)
  obtain ⟨v99, hv99, y, rfl⟩ := q
  cases y
  refine x_asti dL_isRule_102 (hp50 U) (show (50 : Nat) ≠ 99 by decide) (by omega) (by omega) (by decide) ?_
  refine x_heq (pa50 U (((1600 + 16 * k) + 4) + (4 * 0)) v99) ?_
  have hw102_1 : WI (putI U (50, 0, 0) (((1600 + 16 * k) + 4) + (4 * 0)) v99) := hw.put (by first | exact hz _ _ | exact hw.1 _ _ | exact zR_of _ | exact bI_z _ | assumption | exact ⟨by omega, by omega⟩) trivial
  refine x_aload_n dL_isRule_103 rfl ?_
  refine x_iload dL_isRule_104 rfl ?_
  refine x_iconst dL_isRule_106 ?_
  refine x_iadd dL_isRule_107 ?_
  refine x_iconst dL_isRule_108 ?_
  refine x_iload dL_isRule_109 rfl ?_
  refine x_imul dL_isRule_111 ?_
  refine x_iadd dL_isRule_112 ?_
  refine x_iload dL_isRule_113 rfl ?_
  refine x_if_ne (tgt := 122) dL_isRule_115 (by decide) ⟨by decide, by decide⟩ (fun z => absurd z (by decide)) (fun _ => ?_)
  refine x_iconst dL_isRule_118 ?_
  refine x_goto (tgt := 135) dL_isRule_119 (by decide) ?_
  refine x_asti dL_isRule_135 (hp50 (putI U (50, 0, 0) (((1600 + 16 * k) + 4) + (4 * 0)) v99)) (show (50 : Nat) ≠ 99 by decide) (by omega) (by omega) (by decide) ?_
  refine x_heq (pa50 (putI U (50, 0, 0) (((1600 + 16 * k) + 4) + (4 * 0)) v99) (((1600 + 16 * k) + 5) + (4 * 0)) 0) ?_
  have hw135_2 : WI (putI (putI U (50, 0, 0) (((1600 + 16 * k) + 4) + (4 * 0)) v99) (50, 0, 0) (((1600 + 16 * k) + 5) + (4 * 0)) 0) := hw102_1.put (by first | exact hz _ _ | exact hw.1 _ _ | exact zR_of _ | exact bI_z _ | assumption | exact ⟨by omega, by omega⟩) trivial
  refine x_aload_n dL_isRule_136 rfl ?_
  refine x_iload dL_isRule_137 rfl ?_
  refine x_bipush (v := 6) dL_isRule_139 (by decide) ?_
  refine x_iadd dL_isRule_141 ?_
  refine x_iconst dL_isRule_142 ?_
  refine x_iload dL_isRule_143 rfl ?_
  refine x_imul dL_isRule_145 ?_
  refine x_iadd dL_isRule_146 ?_
  refine x_iload dL_isRule_147 rfl ?_
  refine x_if_ne (tgt := 166) dL_isRule_149 (by decide) ⟨by decide, by decide⟩ (fun z => absurd z (by decide)) (fun _ => ?_)
  refine x_iconst dL_isRule_152 ?_
  refine x_aload_n dL_isRule_153 rfl ?_
  refine x_iload_n dL_isRule_154 rfl ?_
  refine x_bipush (v := 6) dL_isRule_155 (by decide) ?_
  refine x_iadd dL_isRule_157 ?_
  refine x_iconst dL_isRule_158 ?_
  refine x_callS (a := 0) (b := 0) (as := [xR (99, 0, 0), xI (i + 6), xI 2]) (rest := [xI 1, xI (((1600 + 16 * k) + 6) + (4 * 0)), xR (50, 0, 0)]) ok_L_in dL_isRule_159 wd824 wd825 (c_in (putI (putI U (50, 0, 0) (((1600 + 16 * k) + 4) + (4 * 0)) v99) (50, 0, 0) (((1600 + 16 * k) + 5) + (4 * 0)) 0) hw135_2 hn (i + 6) 2 (by omega) (by omega) (by omega) (by omega)) rfl (Nat.le_of_ble_eq_true rfl) (Nat.le_of_ble_eq_true rfl) (by decide) (by omega) (by omega) (fun _ q => by obtain ⟨_, _, q, _⟩ := q; cases q) (fun _ _ q => ?_) (fun _ _ q => by obtain ⟨_, _, q, _⟩ := q; cases q)
  obtain ⟨v159, hv159, y, rfl⟩ := q
  cases y
  refine x_iadd dL_isRule_162 ?_
  refine x_goto (tgt := 180) dL_isRule_163 (by decide) ?_
  refine x_asti dL_isRule_180 (hp50 (putI (putI U (50, 0, 0) (((1600 + 16 * k) + 4) + (4 * 0)) v99) (50, 0, 0) (((1600 + 16 * k) + 5) + (4 * 0)) 0)) (show (50 : Nat) ≠ 99 by decide) (by omega) (by omega) (by decide) ?_
  refine x_heq (pa50 (putI (putI U (50, 0, 0) (((1600 + 16 * k) + 4) + (4 * 0)) v99) (50, 0, 0) (((1600 + 16 * k) + 5) + (4 * 0)) 0) (((1600 + 16 * k) + 6) + (4 * 0)) (1 + v159)) ?_
  have hw180_3 : WI (putI (putI (putI U (50, 0, 0) (((1600 + 16 * k) + 4) + (4 * 0)) v99) (50, 0, 0) (((1600 + 16 * k) + 5) + (4 * 0)) 0) (50, 0, 0) (((1600 + 16 * k) + 6) + (4 * 0)) (1 + v159)) := hw135_2.put (by first | exact hz _ _ | exact hw.1 _ _ | exact zR_of _ | exact bI_z _ | assumption | exact ⟨by omega, by omega⟩) trivial
  refine x_aload_n dL_isRule_181 rfl ?_
  refine x_iload dL_isRule_182 rfl ?_
  refine x_bipush (v := 7) dL_isRule_184 (by decide) ?_
  refine x_iadd dL_isRule_186 ?_
  refine x_iconst dL_isRule_187 ?_
  refine x_iload dL_isRule_188 rfl ?_
  refine x_imul dL_isRule_190 ?_
  refine x_iadd dL_isRule_191 ?_
  refine x_iload dL_isRule_192 rfl ?_
  refine x_if_eq (tgt := 214) dL_isRule_194 (by decide) ⟨by decide, by decide⟩ (fun _ => ?_) (fun z => absurd z (by decide))
  refine x_iconst dL_isRule_214 ?_
  refine x_goto (tgt := 219) dL_isRule_215 (by decide) ?_
  refine x_asti dL_isRule_219 (hp50 (putI (putI (putI U (50, 0, 0) (((1600 + 16 * k) + 4) + (4 * 0)) v99) (50, 0, 0) (((1600 + 16 * k) + 5) + (4 * 0)) 0) (50, 0, 0) (((1600 + 16 * k) + 6) + (4 * 0)) (1 + v159))) (show (50 : Nat) ≠ 99 by decide) (by omega) (by omega) (by decide) ?_
  refine x_heq (pa50 (putI (putI (putI U (50, 0, 0) (((1600 + 16 * k) + 4) + (4 * 0)) v99) (50, 0, 0) (((1600 + 16 * k) + 5) + (4 * 0)) 0) (50, 0, 0) (((1600 + 16 * k) + 6) + (4 * 0)) (1 + v159)) (((1600 + 16 * k) + 7) + (4 * 0)) 0) ?_
  have hw219_4 : WI (putI (putI (putI (putI U (50, 0, 0) (((1600 + 16 * k) + 4) + (4 * 0)) v99) (50, 0, 0) (((1600 + 16 * k) + 5) + (4 * 0)) 0) (50, 0, 0) (((1600 + 16 * k) + 6) + (4 * 0)) (1 + v159)) (50, 0, 0) (((1600 + 16 * k) + 7) + (4 * 0)) 0) := hw180_3.put (by first | exact hz _ _ | exact hw.1 _ _ | exact zR_of _ | exact bI_z _ | assumption | exact ⟨by omega, by omega⟩) trivial
  refine x_heq (show hp (sR4 U (1600 + 16 * k) 0 v99 0 (1 + v159) 0) = hp (putI (putI (putI (putI U (50, 0, 0) (((1600 + 16 * k) + 4) + (4 * 0)) v99) (50, 0, 0) (((1600 + 16 * k) + 5) + (4 * 0)) 0) (50, 0, 0) (((1600 + 16 * k) + 6) + (4 * 0)) (1 + v159)) (50, 0, 0) (((1600 + 16 * k) + 7) + (4 * 0)) 0) from rfl) ?_
  have zx : zR v99 := ⟨by omega, by omega⟩
  have zy : zR 0 := ⟨by omega, by omega⟩
  have zz : zR (1 + v159) := ⟨by omega, by omega⟩
  have zw : zR 0 := ⟨by omega, by omega⟩
  have r4 := sR4_r U (1600 + 16 * k) 0 v99 0 (1 + v159) 0
  have o34 := congrFun (sR4_o U (1600 + 16 * k) 0 v99 0 (1 + v159) 0 (l := (34, k, 0)) (nK (by decide) _ _ _ _))
  have o4 := congrFun (sR4_o U (1600 + 16 * k) 0 v99 0 (1 + v159) 0 (l := (4, 0, 0)) (nK (by decide) _ _ _ _)) 2
  have o342 := o34 2
  have o345 := o34 5
  have hR4 := h.r4 hkU (Int.le_refl 0) zx zy zz zw
  have n1R : (sR4 U (1600 + 16 * k) 0 v99 0 (1 + v159) 0).1 (50, 0, 0) (1600 + 16 * k + 1) = hd := by rw [sR4_50, if_neg (by omega), if_neg (by omega), if_neg (by omega), if_neg (by omega)]; exact n1
  have n2R : (sR4 U (1600 + 16 * k) 0 v99 0 (1 + v159) 0).1 (50, 0, 0) (1600 + 16 * k + 2) = a := by rw [sR4_50, if_neg (by omega), if_neg (by omega), if_neg (by omega), if_neg (by omega)]; exact n2
  have n3R : (sR4 U (1600 + 16 * k) 0 v99 0 (1 + v159) 0).1 (50, 0, 0) (1600 + 16 * k + 3) = b := by rw [sR4_50, if_neg (by omega), if_neg (by omega), if_neg (by omega), if_neg (by omega)]; exact n3
  refine x_iload dL_isRule_220 rfl ?_
  refine x_if_ne (tgt := 269) dL_isRule_222 (by decide) ⟨by decide, by decide⟩ (fun z => absurd z (by decide)) (fun _ => ?_)
  refine x_aload_n dL_isRule_225 rfl ?_
  refine x_aload_n dL_isRule_226 rfl ?_
  refine x_iload dL_isRule_227 rfl ?_
  refine x_iconst dL_isRule_229 ?_
  refine x_iadd dL_isRule_230 ?_
  refine x_aldi (f := (sR4 U (1600 + 16 * k) 0 v99 0 (1 + v159) 0).1 (50, 0, 0)) dL_isRule_231 (hp50 (sR4 U (1600 + 16 * k) 0 v99 0 (1 + v159) 0)) (show (50 : Nat) ≠ 99 by decide) (by omega) (by omega) (by decide) ?_
  refine x_top (show (sR4 U (1600 + 16 * k) 0 v99 0 (1 + v159) 0).1 (50, 0, 0) ((1600 + 16 * k) + 1) = hd from n1R) ?_
  refine x_aload_n dL_isRule_232 rfl ?_
  refine x_iload dL_isRule_233 rfl ?_
  refine x_iconst dL_isRule_235 ?_
  refine x_iadd dL_isRule_236 ?_
  refine x_aldi (f := (sR4 U (1600 + 16 * k) 0 v99 0 (1 + v159) 0).1 (50, 0, 0)) dL_isRule_237 (hp50 (sR4 U (1600 + 16 * k) 0 v99 0 (1 + v159) 0)) (show (50 : Nat) ≠ 99 by decide) (by omega) (by omega) (by decide) ?_
  refine x_top (show (sR4 U (1600 + 16 * k) 0 v99 0 (1 + v159) 0).1 (50, 0, 0) ((1600 + 16 * k) + 2) = a from n2R) ?_
  refine x_aload_n dL_isRule_238 rfl ?_
  refine x_iload dL_isRule_239 rfl ?_
  refine x_iconst dL_isRule_241 ?_
  refine x_iadd dL_isRule_242 ?_
  refine x_aldi (f := (sR4 U (1600 + 16 * k) 0 v99 0 (1 + v159) 0).1 (50, 0, 0)) dL_isRule_243 (hp50 (sR4 U (1600 + 16 * k) 0 v99 0 (1 + v159) 0)) (show (50 : Nat) ≠ 99 by decide) (by omega) (by omega) (by decide) ?_
  refine x_top (show (sR4 U (1600 + 16 * k) 0 v99 0 (1 + v159) 0).1 (50, 0, 0) ((1600 + 16 * k) + 3) = b from n3R) ?_
  refine x_aload_n dL_isRule_244 rfl ?_
  refine x_iload dL_isRule_245 rfl ?_
  refine x_iconst dL_isRule_247 ?_
  refine x_iadd dL_isRule_248 ?_
  refine x_aldi (f := (sR4 U (1600 + 16 * k) 0 v99 0 (1 + v159) 0).1 (50, 0, 0)) dL_isRule_249 (hp50 (sR4 U (1600 + 16 * k) 0 v99 0 (1 + v159) 0)) (show (50 : Nat) ≠ 99 by decide) (by omega) (by omega) (by decide) ?_
  refine x_top (show (sR4 U (1600 + 16 * k) 0 v99 0 (1 + v159) 0).1 (50, 0, 0) ((1600 + 16 * k) + 4) = v99 from by rw [show (1600 + 16 * k) + 4 = 1600 + 16 * k + 4 + 4 * 0 by omega]; exact r4.1) ?_
  refine x_aload_n dL_isRule_250 rfl ?_
  refine x_iload dL_isRule_251 rfl ?_
  refine x_iconst dL_isRule_253 ?_
  refine x_iadd dL_isRule_254 ?_
  refine x_aldi (f := (sR4 U (1600 + 16 * k) 0 v99 0 (1 + v159) 0).1 (50, 0, 0)) dL_isRule_255 (hp50 (sR4 U (1600 + 16 * k) 0 v99 0 (1 + v159) 0)) (show (50 : Nat) ≠ 99 by decide) (by omega) (by omega) (by decide) ?_
  refine x_top (show (sR4 U (1600 + 16 * k) 0 v99 0 (1 + v159) 0).1 (50, 0, 0) ((1600 + 16 * k) + 5) = 0 from by rw [show (1600 + 16 * k) + 5 = 1600 + 16 * k + 5 + 4 * 0 by omega]; exact r4.2.1) ?_
  refine x_aload_n dL_isRule_256 rfl ?_
  refine x_iload dL_isRule_257 rfl ?_
  refine x_bipush (v := 6) dL_isRule_259 (by decide) ?_
  refine x_iadd dL_isRule_261 ?_
  refine x_aldi (f := (sR4 U (1600 + 16 * k) 0 v99 0 (1 + v159) 0).1 (50, 0, 0)) dL_isRule_262 (hp50 (sR4 U (1600 + 16 * k) 0 v99 0 (1 + v159) 0)) (show (50 : Nat) ≠ 99 by decide) (by omega) (by omega) (by decide) ?_
  refine x_top (show (sR4 U (1600 + 16 * k) 0 v99 0 (1 + v159) 0).1 (50, 0, 0) ((1600 + 16 * k) + 6) = 1 + v159 from by rw [show (1600 + 16 * k) + 6 = 1600 + 16 * k + 6 + 4 * 0 by omega]; exact r4.2.2.1) ?_
  refine x_callSH (a := 6) (b := 36) (as := [xR (0, 0, 0), xI hd, xI a, xI b, xI v99, xI 0, xI (1 + v159)]) (rest := []) ok_L_addRule dL_isRule_263 wd637 wd638 (wo_addRule (sR4 U (1600 + 16 * k) 0 v99 0 (1 + v159) 0) hR4.i hd a b v99 0 (1 + v159) ⟨by omega, by omega⟩ ⟨by omega, by omega⟩ ⟨by omega, by omega⟩ ⟨by omega, by omega⟩ ⟨by omega, by omega⟩ ⟨by omega, by omega⟩) rfl (Nat.le_of_ble_eq_true rfl) (Nat.le_of_ble_eq_true rfl) (by decide) (by omega) (by omega) (fun _ q => by obtain ⟨_, _, _, _, _, q, _⟩ := q; cases q) (fun _ _ q => ?_) (fun _ _ q => by obtain ⟨_, _, _, _, _, q, _⟩ := q; cases q)
  obtain ⟨S1, D, kk, vv, rfl, yy, qq, cb, em, ji, hR⟩ := q
  cases yy
  rcases hR with ⟨rfl, g1, g2, rfl, hD⟩ | ⟨rfl, g1, -⟩ | ⟨rfl, g1, g2, -⟩
  rotate_left
  · exfalso; omega
  · exfalso; omega
  refine x_top (show _ = k from by rw [if_pos rfl]; omega) ?_
  refine x_goto (tgt := 330) dL_isRule_266 (by decide) ?_
  refine x_istore (L' := [xR (0, 0, 0), xR (50, 0, 0), xR (99, 0, 0), xI i, xI k, xI (1600 + 16 * k), xI mm, xI 0, xI k]) dL_isRule_330 (by decide) rfl ?_
  refine x_aload_n dL_isRule_332 rfl ?_
  refine x_iload dL_isRule_333 rfl ?_
  refine x_iload dL_isRule_335 rfl ?_
  refine x_iconst dL_isRule_337 ?_
  refine x_iadd dL_isRule_338 ?_
  refine x_asti dL_isRule_339 (hp50 S1) (show (50 : Nat) ≠ 99 by decide) (by omega) (by omega) (by decide) ?_
  refine x_heq (pa50 S1 (1600 + 16 * k) (0 + 1)) ?_
  have hw339_5 : WI (putI S1 (50, 0, 0) (1600 + 16 * k) (0 + 1)) := cb.1.put (by first | exact hz _ _ | exact hw.1 _ _ | exact zR_of _ | exact bI_z _ | assumption | exact ⟨by omega, by omega⟩) trivial
  refine x_iload dL_isRule_340 rfl ?_
  refine x_iload dL_isRule_342 rfl ?_
  refine x_if_ne (tgt := 352) dL_isRule_344 (by decide) ⟨by decide, by decide⟩ (fun z => absurd z (by decide)) (fun _ => ?_)
  refine x_iload dL_isRule_347 rfl ?_
  refine x_goto (tgt := 356) dL_isRule_349 (by decide) ?_
  refine x_icmp_eq (tgt := 361) dL_isRule_356 (by decide) (by first | exact hz _ _ | exact hw.1 _ _ | exact zR_of _ | exact bI_z _ | assumption | exact ⟨by omega, by omega⟩) (by first | exact hz _ _ | exact hw.1 _ _ | exact zR_of _ | exact bI_z _ | assumption | exact ⟨by omega, by omega⟩) (fun c356 => ?_) (fun c356 => by exfalso; omega)
  refine x_iinc (L' := [xR (0, 0, 0), xR (50, 0, 0), xR (99, 0, 0), xI i, xI k, xI (1600 + 16 * k), xI mm, xI (0 + 1), xI k]) dL_isRule_361 rfl rfl ?_
  refine x_goto (tgt := 72) dL_isRule_364 (by decide) ?_
  refine X.loc (L' := [xR (0, 0, 0), xR (50, 0, 0), xR (99, 0, 0), xI i, xI k, xI (1600 + 16 * k), xI mm, xI (0 + 1), none]) ⟨rfl, ⟨rfl, ⟨rfl, ⟨rfl, ⟨rfl, ⟨rfl, ⟨rfl, ⟨rfl, trivial⟩⟩⟩⟩⟩⟩⟩⟩ ?_
  exact l_isRuleC S0 k k0 k10 hk hn0 i i0 i1 mm m1 m3 5 (putI S1 (50, 0, 0) (1600 + 16 * k) (0 + 1)) 1 12 72 (by omega) (by omega) (by omega) (LR.first hR4 (by omega) k10 hD em qq cb ji n1R n2R n3R r4.1 r4.2.1 r4.2.2.1 r4.2.2.2 (by omega) (by omega) (by omega) (by omega)) (((congrArg (fun x => x.2) qq.2.2).trans em.2).trans eG) (((congrFun (qq.1 (9, 0, 0) rfl) 3).trans (by rw [← hD, addR_o _ _ _ _ _ _ _ (nK (by decide) _ _ _ _) (Or.inl (show (9 : Nat) ≠ 36 by decide)) (nK (by decide) _ _ _ _) (nK (by decide) _ _ _ _), sR4_o _ _ _ _ _ _ _ (nK (by decide) _ _ _ _)])).trans e9) (by omega)
set_option maxHeartbeats 4000000 in
set_option maxRecDepth 100000 in
theorem c_isRule (S0 : XS) (h : LW S0) (k : Int) (k10 : k < 10) (hk : S0.1 (4, 0, 0) 2 = k) (hn0 : S0.2.2.2.2.2 < 1000000) (i : Int) (i0 : 0 ≤ i) (i1 : i < 1000) : X mL_isRule 0 (xEnt mL_isRule [xR (0, 0, 0), xR (50, 0, 0), xR (99, 0, 0), xI i]) [] (hp S0) 18 108 (pIR S0) := by
  have hw := h.1.1
  have hz := hw.1
  have hn := hn0
  have c4 := wf4_2 hw
  have k0 : 0 ≤ k := by omega
  have n5 := h.2.2.2.1.1
  show X mL_isRule 0 [xR (0, 0, 0), xR (50, 0, 0), xR (99, 0, 0), xI i, none, none, none, none, none] [] (hp S0) 18 108 _
  refine x_aload_n dL_isRule_0 rfl ?_
  refine x_iconst dL_isRule_1 ?_
  refine x_aldi (f := S0.1 (50, 0, 0)) dL_isRule_2 (hp50 S0) (show (50 : Nat) ≠ 99 by decide) (by omega) (by omega) (by decide) ?_
  refine x_top (show S0.1 (50, 0, 0) 5 = k from by omega) ?_
  refine x_istore (L' := [xR (0, 0, 0), xR (50, 0, 0), xR (99, 0, 0), xI i, xI k, none, none, none, none]) dL_isRule_3 (by decide) rfl ?_
  refine x_sipush (v := 1600) dL_isRule_5 (by decide) ?_
  refine x_bipush (v := 16) dL_isRule_8 (by decide) ?_
  refine x_iload dL_isRule_10 rfl ?_
  refine x_imul dL_isRule_12 ?_
  refine x_iadd dL_isRule_13 ?_
  refine x_istore (L' := [xR (0, 0, 0), xR (50, 0, 0), xR (99, 0, 0), xI i, xI k, xI (1600 + (16 * k)), none, none, none]) dL_isRule_14 (by decide) rfl ?_
  refine x_iconst dL_isRule_16 ?_
  refine x_aload_n dL_isRule_17 rfl ?_
  refine x_iload_n dL_isRule_18 rfl ?_
  refine x_iconst dL_isRule_19 ?_
  refine x_callS (a := 0) (b := 0) (as := [xR (99, 0, 0), xI i, xI 3]) (rest := [xI 1]) ok_L_in dL_isRule_20 wd824 wd825 (c_in S0 hw hn i 3 (by omega) (by omega) (by omega) (by omega)) rfl (Nat.le_of_ble_eq_true rfl) (Nat.le_of_ble_eq_true rfl) (by decide) (by omega) (by omega) (fun _ q => by obtain ⟨_, _, q, _⟩ := q; cases q) (fun _ _ q => ?_) (fun _ _ q => by obtain ⟨_, _, q, _⟩ := q; cases q)
  obtain ⟨v20, hv20, y, rfl⟩ := q
  cases y
  refine x_iadd dL_isRule_23 ?_
  refine x_istore (L' := [xR (0, 0, 0), xR (50, 0, 0), xR (99, 0, 0), xI i, xI k, xI (1600 + (16 * k)), xI (1 + v20), none, none]) dL_isRule_24 (by decide) rfl ?_
  refine x_aload_n dL_isRule_26 rfl ?_
  refine x_iload dL_isRule_27 rfl ?_
  refine x_iconst dL_isRule_29 ?_
  refine x_iadd dL_isRule_30 ?_
  refine x_aload_n dL_isRule_31 rfl ?_
  refine x_iload_n dL_isRule_32 rfl ?_
  refine x_iconst dL_isRule_33 ?_
  refine x_iadd dL_isRule_34 ?_
  refine x_bipush (v := 6) dL_isRule_35 (by decide) ?_
  refine x_callS (a := 0) (b := 0) (as := [xR (99, 0, 0), xI (i + 1), xI 6]) (rest := [xI ((1600 + (16 * k)) + 1), xR (50, 0, 0)]) ok_L_in dL_isRule_37 wd824 wd825 (c_in S0 hw hn (i + 1) 6 (by omega) (by omega) (by omega) (by omega)) rfl (Nat.le_of_ble_eq_true rfl) (Nat.le_of_ble_eq_true rfl) (by decide) (by omega) (by omega) (fun _ q => by obtain ⟨_, _, q, _⟩ := q; cases q) (fun _ _ q => ?_) (fun _ _ q => by obtain ⟨_, _, q, _⟩ := q; cases q)
  obtain ⟨v37, hv37, y, rfl⟩ := q
  cases y
  refine x_asti dL_isRule_40 (hp50 S0) (show (50 : Nat) ≠ 99 by decide) (by omega) (by omega) (by decide) ?_
  refine x_heq (pa50 S0 ((1600 + (16 * k)) + 1) v37) ?_
  have hw40_1 : WI (putI S0 (50, 0, 0) ((1600 + (16 * k)) + 1) v37) := hw.put (by first | exact hz _ _ | exact hw.1 _ _ | exact zR_of _ | exact bI_z _ | assumption | exact ⟨by omega, by omega⟩) trivial
  refine x_aload_n dL_isRule_41 rfl ?_
  refine x_iload dL_isRule_42 rfl ?_
  refine x_iconst dL_isRule_44 ?_
  refine x_iadd dL_isRule_45 ?_
  refine x_aload_n dL_isRule_46 rfl ?_
  refine x_iload_n dL_isRule_47 rfl ?_
  refine x_iconst dL_isRule_48 ?_
  refine x_iadd dL_isRule_49 ?_
  refine x_iconst dL_isRule_50 ?_
  refine x_callS (a := 0) (b := 0) (as := [xR (99, 0, 0), xI (i + 2), xI 2]) (rest := [xI ((1600 + (16 * k)) + 2), xR (50, 0, 0)]) ok_L_in dL_isRule_51 wd824 wd825 (c_in (putI S0 (50, 0, 0) ((1600 + (16 * k)) + 1) v37) hw40_1 hn (i + 2) 2 (by omega) (by omega) (by omega) (by omega)) rfl (Nat.le_of_ble_eq_true rfl) (Nat.le_of_ble_eq_true rfl) (by decide) (by omega) (by omega) (fun _ q => by obtain ⟨_, _, q, _⟩ := q; cases q) (fun _ _ q => ?_) (fun _ _ q => by obtain ⟨_, _, q, _⟩ := q; cases q)
  obtain ⟨v51, hv51, y, rfl⟩ := q
  cases y
  refine x_asti dL_isRule_54 (hp50 (putI S0 (50, 0, 0) ((1600 + (16 * k)) + 1) v37)) (show (50 : Nat) ≠ 99 by decide) (by omega) (by omega) (by decide) ?_
  refine x_heq (pa50 (putI S0 (50, 0, 0) ((1600 + (16 * k)) + 1) v37) ((1600 + (16 * k)) + 2) v51) ?_
  have hw54_2 : WI (putI (putI S0 (50, 0, 0) ((1600 + (16 * k)) + 1) v37) (50, 0, 0) ((1600 + (16 * k)) + 2) v51) := hw40_1.put (by first | exact hz _ _ | exact hw.1 _ _ | exact zR_of _ | exact bI_z _ | assumption | exact ⟨by omega, by omega⟩) trivial
  refine x_aload_n dL_isRule_55 rfl ?_
  refine x_iload dL_isRule_56 rfl ?_
  refine x_iconst dL_isRule_58 ?_
  refine x_iadd dL_isRule_59 ?_
  refine x_aload_n dL_isRule_60 rfl ?_
  refine x_iload_n dL_isRule_61 rfl ?_
  refine x_iconst dL_isRule_62 ?_
  refine x_iadd dL_isRule_63 ?_
  refine x_iconst dL_isRule_64 ?_
  refine x_callS (a := 0) (b := 0) (as := [xR (99, 0, 0), xI (i + 3), xI 3]) (rest := [xI ((1600 + (16 * k)) + 3), xR (50, 0, 0)]) ok_L_in dL_isRule_65 wd824 wd825 (c_in (putI (putI S0 (50, 0, 0) ((1600 + (16 * k)) + 1) v37) (50, 0, 0) ((1600 + (16 * k)) + 2) v51) hw54_2 hn (i + 3) 3 (by omega) (by omega) (by omega) (by omega)) rfl (Nat.le_of_ble_eq_true rfl) (Nat.le_of_ble_eq_true rfl) (by decide) (by omega) (by omega) (fun _ q => by obtain ⟨_, _, q, _⟩ := q; cases q) (fun _ _ q => ?_) (fun _ _ q => by obtain ⟨_, _, q, _⟩ := q; cases q)
  obtain ⟨v65, hv65, y, rfl⟩ := q
  cases y
  refine x_asti dL_isRule_68 (hp50 (putI (putI S0 (50, 0, 0) ((1600 + (16 * k)) + 1) v37) (50, 0, 0) ((1600 + (16 * k)) + 2) v51)) (show (50 : Nat) ≠ 99 by decide) (by omega) (by omega) (by decide) ?_
  refine x_heq (pa50 (putI (putI S0 (50, 0, 0) ((1600 + (16 * k)) + 1) v37) (50, 0, 0) ((1600 + (16 * k)) + 2) v51) ((1600 + (16 * k)) + 3) v65) ?_
  have hw68_3 : WI (putI (putI (putI S0 (50, 0, 0) ((1600 + (16 * k)) + 1) v37) (50, 0, 0) ((1600 + (16 * k)) + 2) v51) (50, 0, 0) ((1600 + (16 * k)) + 3) v65) := hw54_2.put (by first | exact hz _ _ | exact hw.1 _ _ | exact zR_of _ | exact bI_z _ | assumption | exact ⟨by omega, by omega⟩) trivial
  refine x_iconst dL_isRule_69 ?_
  refine x_istore (L' := [xR (0, 0, 0), xR (50, 0, 0), xR (99, 0, 0), xI i, xI k, xI (1600 + (16 * k)), xI (1 + v20), xI 0, none]) dL_isRule_70 (by decide) rfl ?_
  have o4 : (putI (putI (putI S0 (50, 0, 0) ((1600 + (16 * k)) + 1) v37) (50, 0, 0) ((1600 + (16 * k)) + 2) v51) (50, 0, 0) ((1600 + (16 * k)) + 3) v65).1 (4, 0, 0) 2 = k := by rw [putI_o (nK (by decide) _ _ _ _), putI_o (nK (by decide) _ _ _ _), putI_o (nK (by decide) _ _ _ _)]; exact hk
  have h3 : LW (putI (putI (putI S0 (50, 0, 0) ((1600 + (16 * k)) + 1) v37) (50, 0, 0) ((1600 + (16 * k)) + 2) v51) (50, 0, 0) ((1600 + (16 * k)) + 3) v65) := by
    refine ((h.net (by omega) ⟨by omega, by omega⟩).net ?_ ⟨by omega, by omega⟩).net ?_ ⟨by omega, by omega⟩ <;> (simp only [putI_o (show ((4, 0, 0) : XL) ≠ (50, 0, 0) from nK (by decide) _ _ _ _)]; omega)
  exact l_isRule0 S0 k k0 k10 hk hn0 i i0 i1 (1 + v20) (by omega) (by omega) (putI (putI (putI S0 (50, 0, 0) ((1600 + (16 * k)) + 1) v37) (50, 0, 0) ((1600 + (16 * k)) + 2) v51) (50, 0, 0) ((1600 + (16 * k)) + 3) v65) h3 o4 v37 v51 v65 (by rw [putI_at, putI_at, putI_at, if_neg (by omega), if_neg (by omega), if_pos rfl]) (by rw [putI_at, putI_at, if_neg (by omega), if_pos rfl]) (by rw [putI_at, if_pos rfl]) (by omega) (by omega) (by omega) rfl (by rw [putI_o (nK (by decide) _ _ _ _), putI_o (nK (by decide) _ _ _ _), putI_o (nK (by decide) _ _ _ _)])
def pBg (S : XS) : XO → XH → Prop := fun o h' => o = .inl (some (xI 1)) ∧ ∃ T, h' = hp T ∧ LW T ∧ (1 ≤ T.1 (4, 0, 0) 2 ∧ T.1 (4, 0, 0) 2 ≤ 4) ∧ T.2.2.2 = S.2.2.2 ∧ T.1 (9, 0, 0) 3 = S.1 (9, 0, 0) 3
set_option maxHeartbeats 4000000 in
set_option maxRecDepth 100000 in
theorem l_isBegun (S0 : XS) (hn0 : S0.2.2.2.2.2 < 1000000) : ∀ (nn : Nat) (U : XS) (n : Nat) (kc ks : Nat), (n : Int)+1 < (nn : Int) → (U.1 (4, 0, 0) 2 + n ≤ 4) → (1 ≤ U.1 (4, 0, 0) 2 + n) → (LW U) → (U.2.2.2 = S0.2.2.2) → (U.1 (9, 0, 0) 3 = S0.1 (9, 0, 0) 3) → (18 * n ≤ kc ∧ 108 * n ≤ ks) → X mL_isBegun 12 [xR (0, 0, 0), xR (50, 0, 0), xR (99, 0, 0), xI 1, xI (n : Int)] [] (hp U) kc ks (pBg S0) := by
  intro nn
  induction nn with
  | zero => intro U n kc ks hm hn4 hn1 hU eG e9 hk9; exfalso; omega
  | succ nn ih =>
    intro U n kc ks hm hn4 hn1 hU eG e9 hk9
    have hw := hU.1.1
    have hz := hw.1
    have c4 := wf4_2 hw
    refine x_iload dL_isBegun_12 rfl ?_
    refine x_if_le (tgt := 39) dL_isBegun_14 (by decide) (by first | exact hz _ _ | exact hw.1 _ _ | exact zR_of _ | exact bI_z _ | assumption | exact ⟨by omega, by omega⟩) (fun c14 => ?_) (fun c14 => ?_)
    · refine x_iload_n dL_isBegun_39 rfl ?_
      exact x_zret dL_isBegun_40 rfl (Or.inr rfl) ⟨rfl, U, rfl, hU, by omega, eG, e9⟩
    · refine x_iload_n dL_isBegun_17 rfl ?_
      refine x_aload_n dL_isBegun_18 rfl ?_
      refine x_aload_n dL_isBegun_19 rfl ?_
      refine x_aload_n dL_isBegun_20 rfl ?_
      refine x_iconst dL_isBegun_21 ?_
      refine x_bipush (v := 18) dL_isBegun_22 (by decide) ?_
      refine x_iload dL_isBegun_24 rfl ?_
      refine x_imul dL_isBegun_26 ?_
      refine x_iadd dL_isBegun_27 ?_
      refine x_callS (a := 18) (b := 108) (as := [xR (0, 0, 0), xR (50, 0, 0), xR (99, 0, 0), xI (2 + (18 * (n : Int)))]) (rest := [xI 1]) ok_L_isRule dL_isBegun_28 wd867 wd868 (c_isRule U hU (U.1 (4, 0, 0) 2) (by omega) rfl (by rw [eG]; exact hn0) (2 + (18 * (n : Int))) (by omega) (by omega)) rfl (Nat.le_of_ble_eq_true rfl) (Nat.le_of_ble_eq_true rfl) (by decide) (by omega) (by omega) (fun _ q => by cases q.1) (fun _ _ q => ?_) (fun _ _ q => by cases q.1)
      obtain ⟨yy, V, rfl, hV, f4, fG, f9⟩ := q
      cases yy
      refine x_iand dL_isBegun_31 ?_
      refine x_top (show zAnd 1 1 = 1 from by decide) ?_
      refine x_istore_n (L' := [xR (0, 0, 0), xR (50, 0, 0), xR (99, 0, 0), xI 1, xI (n : Int)]) dL_isBegun_32 (by decide) rfl ?_
      refine x_iinc (L' := [xR (0, 0, 0), xR (50, 0, 0), xR (99, 0, 0), xI 1, xI ((n : Int) + (-1))]) dL_isBegun_33 rfl rfl ?_
      refine x_goto (tgt := 12) dL_isBegun_36 (by decide) ?_
      have kk := ih V (n - 1) (kc - 18) (ks - 108) (by omega) (by omega) (by omega) hV (fG.trans eG) (f9.trans e9) (by omega)
      rw [show ((n - 1 : Nat) : Int) = (n : Int) + (-1) by omega] at kk
      exact kk
set_option maxHeartbeats 4000000 in
set_option maxRecDepth 100000 in
theorem c_isBegun (S0 : XS) (hn0 : S0.2.2.2.2.2 < 1000000) (h : LW S0) (h4 : S0.1 (4, 0, 0) 2 = 0) : X mL_isBegun 0 (xEnt mL_isBegun [xR (0, 0, 0), xR (50, 0, 0), xR (99, 0, 0)]) [] (hp S0) 72 432 (pBg S0) := by
  have hw := h.1.1
  have hn := hn0
  show X mL_isBegun 0 [xR (0, 0, 0), xR (50, 0, 0), xR (99, 0, 0), none, none] [] (hp S0) 72 432 _
  refine x_iconst dL_isBegun_0 ?_
  refine x_istore_n (L' := [xR (0, 0, 0), xR (50, 0, 0), xR (99, 0, 0), xI 1, none]) dL_isBegun_1 (by decide) rfl ?_
  refine x_iconst dL_isBegun_2 ?_
  refine x_aload_n dL_isBegun_3 rfl ?_
  refine x_iconst dL_isBegun_4 ?_
  refine x_iconst dL_isBegun_5 ?_
  refine x_callS (a := 0) (b := 0) (as := [xR (99, 0, 0), xI 0, xI 4]) (rest := [xI 1]) ok_L_in dL_isBegun_6 wd824 wd825 (c_in S0 hw hn 0 4 (by omega) (by omega) (by omega) (by omega)) rfl (Nat.le_of_ble_eq_true rfl) (Nat.le_of_ble_eq_true rfl) (by decide) (by omega) (by omega) (fun _ q => by obtain ⟨_, _, q, _⟩ := q; cases q) (fun _ _ q => ?_) (fun _ _ q => by obtain ⟨_, _, q, _⟩ := q; cases q)
  obtain ⟨v6, hv6, y, rfl⟩ := q
  cases y
  refine x_iadd dL_isBegun_9 ?_
  refine x_istore (L' := [xR (0, 0, 0), xR (50, 0, 0), xR (99, 0, 0), xI 1, xI (1 + v6)]) dL_isBegun_10 (by decide) rfl ?_
  have kk := l_isBegun S0 hn0 6 S0 (1 + v6).toNat 72 432 (by omega) (by omega) (by omega) h rfl rfl (by omega)
  rw [show (((1 + v6).toNat : Nat) : Int) = 1 + v6 by omega] at kk
  exact kk
