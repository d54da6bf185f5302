/-! p35: the law: layers -/
/-- behind the start of layers: its row is made -/
def LyT (S T : XS) : Prop := NQ S T ∧ WI T ∧ T.2.2.2.1 52 = S.2.2.2.1 52 + 1
/-- the answer: a row with the layers and a 0 behind them, or a 1 if there are none -/
def pLs (C S : XS) (on : Int) : XO → XH → Prop := fun o h' => o = .inl (some (xR (52, S.2.2.2.1 52, 0))) ∧ ∃ T, h' = hp T ∧ LyT S T ∧ ((T.1 (52, S.2.2.2.1 52, 0) 6 = 0 ∧ LyG C.1 on (T.1 (52, S.2.2.2.1 52, 0))) ∨ (T.1 (52, S.2.2.2.1 52, 0) 6 = 1 ∧ ∀ g', GOk g' → ¬ Lay C.1 on g'))
theorem LyT.put {S T : XS} (h : LyT S T) (h0 : 0 ≤ S.2.2.2.1 52) (i : Int) {v : Int} (hv : zR v) : LyT S (putI T (52, S.2.2.2.1 52, 0) i v) := ⟨h.1.put ⟨by decide, by decide⟩ (Int.le_refl _) _ _, h.2.1.put hv trivial, h.2.2⟩
theorem Lay.congr {f : XL → Int → Int} {on : Int} {g g' : Int → Int} (e : ∀ x : Int, 0 ≤ x → x ≤ 5 → g' x = g x) (h1 : ∀ j : Nat, (j : Int) < f (4, 0, 0) 2 → 0 ≤ f (37, j, 0) 0 ∧ f (37, j, 0) 0 ≤ 5) (h2 : ∀ j c : Nat, (j : Int) < f (4, 0, 0) 2 → c < (f (34, j, 0) 2).toNat → 0 ≤ f (36, j, c) 0 ∧ f (36, j, c) 0 ≤ 5) (h : Lay f on g) : Lay f on g' := fun j hj ho => by
  obtain ⟨k1, k2⟩ := (leastG_le _ _ _ _ _).mp (h j hj ho)
  rw [e _ (h1 j hj).1 (h1 j hj).2]
  refine (leastG_le _ _ _ _ _).mpr ⟨k1, fun c hc => ?_⟩
  have q := k2 c hc
  unfold cval at q ⊢
  rw [e _ (h2 j c hj hc).1 (h2 j c hj hc).2]
  exact q
theorem LyG.congr2 {C : XS} (hC : WI C) {on : Int} {g g' : Int → Int} (e : ∀ x : Int, 0 ≤ x → x ≤ 5 → g' x = g x) (h : LyG C.1 on g) : LyG C.1 on g' := by
  have c4 := wf4_2 hC
  refine ⟨fun x x0 x1 => by rw [e x x0 x1]; exact h.1 x x0 x1, Lay.congr e (fun j hj => wf37_0 hC (by omega) (by omega)) (fun j c hj hc => dl_rel hC hj (by omega)) h.2.1, fun g2 g0 hl x x0 x1 => by rw [e x x0 x1]; exact h.2.2 g2 g0 hl x x0 x1⟩
set_option maxHeartbeats 4000000 in
set_option maxRecDepth 100000 in
theorem l_layC (C S : XS) (hC : WI C) (hw : WI S) (hr : NR C S) (hcnt : Cnt S) (a : Int) (a0 : 0 ≤ a) (a1 : a < S.2.2.2.1 51) (on : Int) (hO : OnR C S a on) (p : Int) (p0 : 0 ≤ p) (p1 : p < 60) (r : Nat) (hr1 : (r : Int) < C.1 (4, 0, 0) 2) (KKr : ∀ T : XS, LyT S T → T.1 (52, S.2.2.2.1 52, 0) 6 = 0 → PI C on (T.1 (52, S.2.2.2.1 52, 0)) p (r + 1) 0 → X mL_layers 16 [xR (50, 0, 0), xR (51, a, 0), xR (52, S.2.2.2.1 52, 0), xI p, xI ((r : Int) + 1), none, none, none] [] (hp T) 0 0 (pLs C S on)) : ∀ (nn : Nat) (T : XS) (c : Nat), 4 - (c : Int) < (nn : Int) → ((c : Int) ≤ C.1 (34, (r : Int), 0) 2) → (c ≤ 3) → (LyT S T) → (T.1 (52, S.2.2.2.1 52, 0) 6 = 0) → (PI C on (T.1 (52, S.2.2.2.1 52, 0)) p r c) → X mL_layers 38 [xR (50, 0, 0), xR (51, a, 0), xR (52, S.2.2.2.1 52, 0), xI p, xI (r : Int), xI (1600 + 16 * (r : Int)), xI (c : Int), none] [] (hp T) 0 0 (pLs C S on) := by
  intro nn
  induction nn with
  | zero => intro T c hm hc hc3 hT h6 hP; exfalso; omega
  | succ nn ih =>
    intro T c hm hc hc3 hT h6 hP
    have hz := hT.2.1.1
    have hw := hT.2.1
    have c4 := wf4_2 hC
    have h52 := hcnt.2.1
    have c52 := hT.2.2
    have c51 := hT.1.2.2.2.1 51
    have s34 := wf34_2 hC (b := (r : Int)) (by omega) (by omega)
    have nr := (hr.q hT.1).2 (r : Int) (by omega) hr1
    have n0 := nr.1
    have n1 := nr.2.1.1
    have nc := fun (h : (c : Int) < C.1 (34, (r : Int), 0) 2) => nr.2.2.2 (c : Int) (by omega) h
    have hon : T.1 (51, a, 0) (r : Int) = bI (bitI on (r : Int)) := by rw [hT.1.1 (51, a, 0) (Or.inr (Or.inr a1))]; exact hO r hr1
    have a37 := wf37_0 hC (b := (r : Int)) (by omega) (by omega)
    have b01 := bI_01 (bitI on (r : Int))
    have hbd := hP.1
    refine x_iload dL_layers_38 rfl ?_
    refine x_aload_n dL_layers_40 rfl ?_
    refine x_iload dL_layers_41 rfl ?_
    refine x_aldi (f := T.1 (50, 0, 0)) dL_layers_43 (hp50 T) (show (50 : Nat) ≠ 99 by decide) (by omega) (by omega) (by decide) ?_
    refine x_icmp_ge (tgt := 109) dL_layers_44 (by decide) (by first | exact hz _ _ | exact hw.1 _ _ | exact zR_of _ | exact bI_z _ | assumption | exact ⟨by omega, by omega⟩) (by first | exact hz _ _ | exact hw.1 _ _ | exact zR_of _ | exact bI_z _ | assumption | exact ⟨by omega, by omega⟩) (fun c44 => ?_) (fun c44 => ?_)
    · refine x_iinc (L' := [xR (50, 0, 0), xR (51, a, 0), xR (52, S.2.2.2.1 52, 0), xI p, xI ((r : Int) + 1), xI (1600 + 16 * (r : Int)), xI (c : Int), none]) dL_layers_109 rfl rfl ?_
      refine x_goto (tgt := 16) dL_layers_112 (by decide) ?_
      refine X.loc (L' := [xR (50, 0, 0), xR (51, a, 0), xR (52, S.2.2.2.1 52, 0), xI p, xI ((r : Int) + 1), none, none, none]) ⟨rfl, ⟨rfl, ⟨rfl, ⟨rfl, ⟨rfl, trivial⟩⟩⟩⟩⟩ ?_
      exact KKr T hT h6 (hP.rule hC hr1 hc3 (by first | (intro ho; omega) | (intro ho; exfalso; have := bI_t ho; omega)))
    · refine x_aload_n dL_layers_47 rfl ?_
      refine x_iload dL_layers_48 rfl ?_
      refine x_aldz (f := T.1 (51, a, 0)) dL_layers_50 (hp51 T (by omega) (by omega)) (show (51 : Nat) ≠ 99 by decide) (by omega) (by omega) (by decide) ?_
      have f50_1 := wfa51 hw (S := T) (b := a) (by omega) (by omega) (r : Int)
      have hcc : (c : Int) < C.1 (34, (r : Int), 0) 2 := by omega
      refine x_top (show T.1 (51, a, 0) (r : Int) = bI (bitI on (r : Int)) from hon) ?_
      refine x_if_eq (tgt := 109) dL_layers_51 (by decide) (by first | exact hz _ _ | exact hw.1 _ _ | exact zR_of _ | exact bI_z _ | assumption | exact ⟨by omega, by omega⟩) (fun c51 => ?_) (fun c51 => ?_)
      · refine x_iinc (L' := [xR (50, 0, 0), xR (51, a, 0), xR (52, S.2.2.2.1 52, 0), xI p, xI ((r : Int) + 1), xI (1600 + 16 * (r : Int)), xI (c : Int), none]) dL_layers_109 rfl rfl ?_
        refine x_goto (tgt := 16) dL_layers_112 (by decide) ?_
        refine X.loc (L' := [xR (50, 0, 0), xR (51, a, 0), xR (52, S.2.2.2.1 52, 0), xI p, xI ((r : Int) + 1), none, none, none]) ⟨rfl, ⟨rfl, ⟨rfl, ⟨rfl, ⟨rfl, trivial⟩⟩⟩⟩⟩ ?_
        exact KKr T hT h6 (hP.rule hC hr1 hc3 (by first | (intro ho; omega) | (intro ho; exfalso; have := bI_t ho; omega)))
      · have ho : bitI on (r : Int) := bI_1.mp (by omega)
        have q := nc hcc
        have b36 := dl_rel hC hr1 hcc
        have k36 := wf36_1 hC (b := (r : Int)) (t := (c : Int)) (by omega) (by omega) (by omega) (by omega)
        have y1 := hbd _ b36.1 b36.2
        have y2 := hbd _ a37.1 a37.2
        have y3 : 0 ≤ cval C.1 (T.1 (52, S.2.2.2.1 52, 0)) (r : Int) (c : Int) ∧ cval C.1 (T.1 (52, S.2.2.2.1 52, 0)) (r : Int) (c : Int) ≤ 2000 := by unfold cval; split <;> omega
        refine x_aload_n dL_layers_54 rfl ?_
        refine x_aload_n dL_layers_55 rfl ?_
        refine x_iload dL_layers_56 rfl ?_
        refine x_iconst dL_layers_58 ?_
        refine x_iadd dL_layers_59 ?_
        refine x_iconst dL_layers_60 ?_
        refine x_iload dL_layers_61 rfl ?_
        refine x_imul dL_layers_63 ?_
        refine x_iadd dL_layers_64 ?_
        refine x_aldi (f := T.1 (50, 0, 0)) dL_layers_65 (hp50 T) (show (50 : Nat) ≠ 99 by decide) (by omega) (by omega) (by decide) ?_
        refine x_top (show T.1 (50, 0, 0) (((1600 + 16 * (r : Int)) + 4) + (4 * (c : Int))) = C.1 (36, (r : Int), (c : Int)) 0 from q.1) ?_
        refine x_aldi (f := T.1 (52, S.2.2.2.1 52, 0)) dL_layers_66 (hp52 T (by omega) (by omega)) (show (52 : Nat) ≠ 99 by decide) (by omega) (by omega) (by decide) ?_
        refine x_aload_n dL_layers_67 rfl ?_
        refine x_iload dL_layers_68 rfl ?_
        refine x_bipush (v := 7) dL_layers_70 (by decide) ?_
        refine x_iadd dL_layers_72 ?_
        refine x_iconst dL_layers_73 ?_
        refine x_iload dL_layers_74 rfl ?_
        refine x_imul dL_layers_76 ?_
        refine x_iadd dL_layers_77 ?_
        refine x_aldi (f := T.1 (50, 0, 0)) dL_layers_78 (hp50 T) (show (50 : Nat) ≠ 99 by decide) (by omega) (by omega) (by decide) ?_
        refine x_top (show T.1 (50, 0, 0) (((1600 + 16 * (r : Int)) + 7) + (4 * (c : Int))) = C.1 (36, (r : Int), (c : Int)) 1 from q.2.2.2.1) ?_
        refine x_iadd dL_layers_79 ?_
        refine x_top (show (T.1 (52, S.2.2.2.1 52, 0) (C.1 (36, (r : Int), (c : Int)) 0)) + (C.1 (36, (r : Int), (c : Int)) 1) = cval C.1 (T.1 (52, S.2.2.2.1 52, 0)) (r : Int) (c : Int) from by unfold cval; split <;> omega) ?_
        refine x_istore (L' := [xR (50, 0, 0), xR (51, a, 0), xR (52, S.2.2.2.1 52, 0), xI p, xI (r : Int), xI (1600 + 16 * (r : Int)), xI (c : Int), xI (cval C.1 (T.1 (52, S.2.2.2.1 52, 0)) (r : Int) (c : Int))]) dL_layers_80 (by decide) rfl ?_
        refine x_aload_n dL_layers_82 rfl ?_
        refine x_aload_n dL_layers_83 rfl ?_
        refine x_iload dL_layers_84 rfl ?_
        refine x_iconst dL_layers_86 ?_
        refine x_iadd dL_layers_87 ?_
        refine x_aldi (f := T.1 (50, 0, 0)) dL_layers_88 (hp50 T) (show (50 : Nat) ≠ 99 by decide) (by omega) (by omega) (by decide) ?_
        refine x_top (show T.1 (50, 0, 0) ((1600 + 16 * (r : Int)) + 1) = C.1 (37, (r : Int), 0) 0 from n1) ?_
        refine x_aload_n dL_layers_89 rfl ?_
        refine x_aload_n dL_layers_90 rfl ?_
        refine x_iload dL_layers_91 rfl ?_
        refine x_iconst dL_layers_93 ?_
        refine x_iadd dL_layers_94 ?_
        refine x_aldi (f := T.1 (50, 0, 0)) dL_layers_95 (hp50 T) (show (50 : Nat) ≠ 99 by decide) (by omega) (by omega) (by decide) ?_
        refine x_top (show T.1 (50, 0, 0) ((1600 + 16 * (r : Int)) + 1) = C.1 (37, (r : Int), 0) 0 from n1) ?_
        refine x_aldi (f := T.1 (52, S.2.2.2.1 52, 0)) dL_layers_96 (hp52 T (by omega) (by omega)) (show (52 : Nat) ≠ 99 by decide) (by omega) (by omega) (by decide) ?_
        refine x_iload dL_layers_97 rfl ?_
        refine x_mmax dL_layers_99 wd845 ⟨wd390, wd36, wd391⟩ (by decide) (Nat.le_of_ble_eq_true rfl) (by first | exact hz _ _ | exact hw.1 _ _ | exact zR_of _ | exact bI_z _ | assumption | exact ⟨by omega, by omega⟩) (by first | exact hz _ _ | exact hw.1 _ _ | exact zR_of _ | exact bI_z _ | assumption | exact ⟨by omega, by omega⟩) ?_
        refine x_asti dL_layers_102 (hp52 T (by omega) (by omega)) (show (52 : Nat) ≠ 99 by decide) (by omega) (by omega) (by decide) ?_
        refine x_heq (pa52 T (by omega) (by omega) (C.1 (37, (r : Int), 0) 0) (if (T.1 (52, S.2.2.2.1 52, 0) (C.1 (37, (r : Int), 0) 0)) < (cval C.1 (T.1 (52, S.2.2.2.1 52, 0)) (r : Int) (c : Int)) then (cval C.1 (T.1 (52, S.2.2.2.1 52, 0)) (r : Int) (c : Int)) else (T.1 (52, S.2.2.2.1 52, 0) (C.1 (37, (r : Int), 0) 0)))) ?_
        have hw102_2 : WI (putI T (52, S.2.2.2.1 52, 0) (C.1 (37, (r : Int), 0) 0) (if (T.1 (52, S.2.2.2.1 52, 0) (C.1 (37, (r : Int), 0) 0)) < (cval C.1 (T.1 (52, S.2.2.2.1 52, 0)) (r : Int) (c : Int)) then (cval C.1 (T.1 (52, S.2.2.2.1 52, 0)) (r : Int) (c : Int)) else (T.1 (52, S.2.2.2.1 52, 0) (C.1 (37, (r : Int), 0) 0)))) := hw.put (by first | exact hz _ _ | exact hw.1 _ _ | exact zR_of _ | exact bI_z _ | assumption | exact ⟨by omega, by omega⟩) trivial
        refine x_iinc (L' := [xR (50, 0, 0), xR (51, a, 0), xR (52, S.2.2.2.1 52, 0), xI p, xI (r : Int), xI (1600 + 16 * (r : Int)), xI ((c : Int) + 1), xI (cval C.1 (T.1 (52, S.2.2.2.1 52, 0)) (r : Int) (c : Int))]) dL_layers_103 rfl rfl ?_
        refine x_goto (tgt := 38) dL_layers_106 (by decide) ?_
        refine X.loc (L' := [xR (50, 0, 0), xR (51, a, 0), xR (52, S.2.2.2.1 52, 0), xI p, xI (r : Int), xI (1600 + 16 * (r : Int)), xI ((c : Int) + 1), none]) ⟨rfl, ⟨rfl, ⟨rfl, ⟨rfl, ⟨rfl, ⟨rfl, ⟨rfl, trivial⟩⟩⟩⟩⟩⟩⟩ ?_
        have st9 := hP.step hC hr1 ho hcc
        exact ih (putI T (52, S.2.2.2.1 52, 0) (C.1 (37, (r : Int), 0) 0) (if (T.1 (52, S.2.2.2.1 52, 0) (C.1 (37, (r : Int), 0) 0)) < (cval C.1 (T.1 (52, S.2.2.2.1 52, 0)) (r : Int) (c : Int)) then (cval C.1 (T.1 (52, S.2.2.2.1 52, 0)) (r : Int) (c : Int)) else (T.1 (52, S.2.2.2.1 52, 0) (C.1 (37, (r : Int), 0) 0)))) (c + 1) (by omega) (by omega) (by omega) (hT.put h52 _ (by split <;> exact ⟨by omega, by omega⟩)) (by rw [putI_at, if_neg (by omega)]; exact h6) (by rw [putI_row]; exact st9)
set_option maxHeartbeats 4000000 in
set_option maxRecDepth 100000 in
theorem l_layR (C S : XS) (hC : WI C) (hw : WI S) (hr : NR C S) (hcnt : Cnt S) (a : Int) (a0 : 0 ≤ a) (a1 : a < S.2.2.2.1 51) (on : Int) (hO : OnR C S a on) (p : Int) (p0 : 0 ≤ p) (p1 : p < 60) (KKp : ∀ T : XS, LyT S T → T.1 (52, S.2.2.2.1 52, 0) 6 = 0 → PI C on (T.1 (52, S.2.2.2.1 52, 0)) (p + 1) 0 0 → X mL_layers 7 [xR (50, 0, 0), xR (51, a, 0), xR (52, S.2.2.2.1 52, 0), xI (p + 1), none, none, none, none] [] (hp T) 0 0 (pLs C S on)) : ∀ (nn : Nat) (T : XS) (r : Nat), C.1 (4, 0, 0) 2 - (r : Int) < (nn : Int) → ((r : Int) ≤ C.1 (4, 0, 0) 2) → (LyT S T) → (T.1 (52, S.2.2.2.1 52, 0) 6 = 0) → (PI C on (T.1 (52, S.2.2.2.1 52, 0)) p r 0) → X mL_layers 16 [xR (50, 0, 0), xR (51, a, 0), xR (52, S.2.2.2.1 52, 0), xI p, xI (r : Int), none, none, none] [] (hp T) 0 0 (pLs C S on) := by
  intro nn
  induction nn with
  | zero => intro T r hm hrc hT h6 hP; exfalso; omega
  | succ nn ih =>
    intro T r hm hrc hT h6 hP
    have hz := hT.2.1.1
    have hw := hT.2.1
    have c4 := wf4_2 hC
    have h52 := hcnt.2.1
    have c52 := hT.2.2
    have c51 := hT.1.2.2.2.1 51
    have n5 : T.1 (50, 0, 0) 5 = C.1 (4, 0, 0) 2 := (hr.q hT.1).1
    refine x_iload dL_layers_16 rfl ?_
    refine x_aload_n dL_layers_18 rfl ?_
    refine x_iconst dL_layers_19 ?_
    refine x_aldi (f := T.1 (50, 0, 0)) dL_layers_20 (hp50 T) (show (50 : Nat) ≠ 99 by decide) (by omega) (by omega) (by decide) ?_
    refine x_icmp_ge (tgt := 115) dL_layers_21 (by decide) (by first | exact hz _ _ | exact hw.1 _ _ | exact zR_of _ | exact bI_z _ | assumption | exact ⟨by omega, by omega⟩) (by first | exact hz _ _ | exact hw.1 _ _ | exact zR_of _ | exact bI_z _ | assumption | exact ⟨by omega, by omega⟩) (fun c21 => ?_) (fun c21 => ?_)
    · refine x_iinc (L' := [xR (50, 0, 0), xR (51, a, 0), xR (52, S.2.2.2.1 52, 0), xI (p + 1), xI (r : Int), none, none, none]) dL_layers_115 rfl rfl ?_
      refine x_goto (tgt := 7) dL_layers_118 (by decide) ?_
      refine X.loc (L' := [xR (50, 0, 0), xR (51, a, 0), xR (52, S.2.2.2.1 52, 0), xI (p + 1), none, none, none, none]) ⟨rfl, ⟨rfl, ⟨rfl, ⟨rfl, trivial⟩⟩⟩⟩ ?_
      exact KKp T hT h6 (hP.pass (by omega) (by omega))
    · refine x_sipush (v := 1600) dL_layers_24 (by decide) ?_
      refine x_bipush (v := 16) dL_layers_27 (by decide) ?_
      refine x_iload dL_layers_29 rfl ?_
      refine x_imul dL_layers_31 ?_
      refine x_iadd dL_layers_32 ?_
      refine x_istore (L' := [xR (50, 0, 0), xR (51, a, 0), xR (52, S.2.2.2.1 52, 0), xI p, xI (r : Int), xI (1600 + (16 * (r : Int))), none, none]) dL_layers_33 (by decide) rfl ?_
      refine x_iconst dL_layers_35 ?_
      refine x_istore (L' := [xR (50, 0, 0), xR (51, a, 0), xR (52, S.2.2.2.1 52, 0), xI p, xI (r : Int), xI (1600 + (16 * (r : Int))), xI 0, none]) dL_layers_36 (by decide) rfl ?_
      have s34 := wf34_2 hC (b := (r : Int)) (by omega) (by omega)
      exact l_layC C S hC (by assumption) hr hcnt a a0 a1 on hO p p0 p1 r (by omega) (fun T2 t1 t2 t3 => ih T2 (r + 1) (by omega) (by omega) t1 t2 t3) 5 T 0 (by omega) (by omega) (by omega) hT h6 hP
set_option maxHeartbeats 4000000 in
set_option maxRecDepth 100000 in
theorem l_layP (C S : XS) (hC : WI C) (hw : WI S) (hr : NR C S) (hcnt : Cnt S) (a : Int) (a0 : 0 ≤ a) (a1 : a < S.2.2.2.1 51) (on : Int) (hO : OnR C S a on) (KKf : ∀ T : XS, LyT S T → T.1 (52, S.2.2.2.1 52, 0) 6 = 0 → PI C on (T.1 (52, S.2.2.2.1 52, 0)) 60 0 0 → X mL_layers 123 [xR (50, 0, 0), xR (51, a, 0), xR (52, S.2.2.2.1 52, 0), xI 0, none, none, none, none] [] (hp T) 0 0 (pLs C S on)) : ∀ (nn : Nat) (T : XS) (p : Nat), 60 - (p : Int) < (nn : Int) → (p ≤ 60) → (LyT S T) → (T.1 (52, S.2.2.2.1 52, 0) 6 = 0) → (PI C on (T.1 (52, S.2.2.2.1 52, 0)) (p : Int) 0 0) → X mL_layers 7 [xR (50, 0, 0), xR (51, a, 0), xR (52, S.2.2.2.1 52, 0), xI (p : Int), none, none, none, none] [] (hp T) 0 0 (pLs C S on) := by
  intro nn
  induction nn with
  | zero => intro T p hm hp1 hT h6 hP; exfalso; omega
  | succ nn ih =>
    intro T p hm hp1 hT h6 hP
    have hz := hT.2.1.1
    have hw := hT.2.1
    have c4 := wf4_2 hC
    have h52 := hcnt.2.1
    have c52 := hT.2.2
    have c51 := hT.1.2.2.2.1 51
    refine x_iload_n dL_layers_7 rfl ?_
    refine x_bipush (v := 60) dL_layers_8 (by decide) ?_
    refine x_icmp_ge (tgt := 121) dL_layers_10 (by decide) (by first | exact hz _ _ | exact hw.1 _ _ | exact zR_of _ | exact bI_z _ | assumption | exact ⟨by omega, by omega⟩) ⟨by decide, by decide⟩ (fun c10 => ?_) (fun c10 => ?_)
    · refine x_iconst dL_layers_121 ?_
      refine x_istore_n (L' := [xR (50, 0, 0), xR (51, a, 0), xR (52, S.2.2.2.1 52, 0), xI 0, none, none, none, none]) dL_layers_122 (by decide) rfl ?_
      obtain rfl : p = 60 := by omega
      exact KKf T hT h6 hP
    · refine x_iconst dL_layers_13 ?_
      refine x_istore (L' := [xR (50, 0, 0), xR (51, a, 0), xR (52, S.2.2.2.1 52, 0), xI (p : Int), xI 0, none, none, none]) dL_layers_14 (by decide) rfl ?_
      exact l_layR C S hC (by assumption) hr hcnt a a0 a1 on hO (p : Int) (by omega) (by omega) (fun T2 t1 t2 t3 => ih T2 (p + 1) (by omega) (by omega) t1 t2 t3) 11 T 0 (by omega) (by omega) hT h6 hP
set_option maxHeartbeats 4000000 in
set_option maxRecDepth 100000 in
theorem l_layF (C S : XS) (hC : WI C) (hw : WI S) (hr : NR C S) (hcnt : Cnt S) (a : Int) (a0 : 0 ≤ a) (a1 : a < S.2.2.2.1 51) (on : Int) (hO : OnR C S a on) : ∀ (nn : Nat) (T : XS) (k : Nat), 6 - (k : Int) < (nn : Int) → (k ≤ 6) → (LyT S T) → (∀ x : Int, 0 ≤ x → x ≤ 5 → 0 ≤ (T.1 (52, S.2.2.2.1 52, 0)) x ∧ (T.1 (52, S.2.2.2.1 52, 0)) x ≤ 100000) → ((T.1 (52, S.2.2.2.1 52, 0)) 6 = bI (∃ x : Int, 0 ≤ x ∧ x < (k : Int) ∧ 6 < (T.1 (52, S.2.2.2.1 52, 0)) x)) → (LyG C.1 on (T.1 (52, S.2.2.2.1 52, 0)) ∨ ((∃ x : Int, 0 ≤ x ∧ x ≤ 5 ∧ 6 < (T.1 (52, S.2.2.2.1 52, 0)) x) ∧ ∀ g', GOk g' → ¬ Lay C.1 on g')) → X mL_layers 123 [xR (50, 0, 0), xR (51, a, 0), xR (52, S.2.2.2.1 52, 0), xI (k : Int), none, none, none, none] [] (hp T) 0 0 (pLs C S on) := by
  intro nn
  induction nn with
  | zero => intro T k hm hk hT hg h6 hF; exfalso; omega
  | succ nn ih =>
    intro T k hm hk hT hg h6 hF
    have hz := hT.2.1.1
    have hw := hT.2.1
    have c4 := wf4_2 hC
    have h52 := hcnt.2.1
    have c52 := hT.2.2
    have c51 := hT.1.2.2.2.1 51
    have b01 := bI_01 (∃ x : Int, 0 ≤ x ∧ x < (k : Int) ∧ 6 < (T.1 (52, S.2.2.2.1 52, 0)) x)
    refine x_iload_n dL_layers_123 rfl ?_
    refine x_bipush (v := 6) dL_layers_124 (by decide) ?_
    refine x_icmp_ge (tgt := 155) dL_layers_126 (by decide) (by first | exact hz _ _ | exact hw.1 _ _ | exact zR_of _ | exact bI_z _ | assumption | exact ⟨by omega, by omega⟩) ⟨by decide, by decide⟩ (fun c126 => ?_) (fun c126 => ?_)
    · refine x_aload_n dL_layers_155 rfl ?_
      exact x_aretA dL_layers_156 rfl (by obtain rfl : k = 6 := (by omega); exact ⟨rfl, T, rfl, hT, by rcases hF with hF | ⟨⟨x, x0, x1, x2⟩, hN⟩; exact Or.inl ⟨by rw [h6]; exact bI_f (fun ⟨x, x0, x1, x2⟩ => by have := (hF.1 x x0 (by omega)).2; omega), hF⟩; exact Or.inr ⟨by rw [h6]; exact bI_t ⟨x, x0, by omega, x2⟩, hN⟩⟩)
    · refine x_aload_n dL_layers_129 rfl ?_
      refine x_bipush (v := 6) dL_layers_130 (by decide) ?_
      refine x_aload_n dL_layers_132 rfl ?_
      refine x_iload_n dL_layers_133 rfl ?_
      refine x_aldi (f := T.1 (52, S.2.2.2.1 52, 0)) dL_layers_134 (hp52 T (by omega) (by omega)) (show (52 : Nat) ≠ 99 by decide) (by omega) (by omega) (by decide) ?_
      refine x_bipush (v := 6) dL_layers_135 (by decide) ?_
      refine x_icmp_le (tgt := 144) dL_layers_137 (by decide) (by first | exact hz _ _ | exact hw.1 _ _ | exact zR_of _ | exact bI_z _ | assumption | exact ⟨by omega, by omega⟩) ⟨by decide, by decide⟩ (fun c137 => ?_) (fun c137 => ?_)
      · refine x_aload_n dL_layers_144 rfl ?_
        refine x_bipush (v := 6) dL_layers_145 (by decide) ?_
        refine x_aldi (f := T.1 (52, S.2.2.2.1 52, 0)) dL_layers_147 (hp52 T (by omega) (by omega)) (show (52 : Nat) ≠ 99 by decide) (by omega) (by omega) (by decide) ?_
        refine x_asti dL_layers_148 (hp52 T (by omega) (by omega)) (show (52 : Nat) ≠ 99 by decide) (by omega) (by omega) (by decide) ?_
        refine x_heq (pa52 T (by omega) (by omega) 6 (T.1 (52, S.2.2.2.1 52, 0) 6)) ?_
        have hw148_1 : WI (putI T (52, S.2.2.2.1 52, 0) 6 (T.1 (52, S.2.2.2.1 52, 0) 6)) := hw.put (by first | exact hz _ _ | exact hw.1 _ _ | exact zR_of _ | exact bI_z _ | assumption | exact ⟨by omega, by omega⟩) trivial
        refine x_iinc (L' := [xR (50, 0, 0), xR (51, a, 0), xR (52, S.2.2.2.1 52, 0), xI ((k : Int) + 1), none, none, none, none]) dL_layers_149 rfl rfl ?_
        refine x_goto (tgt := 123) dL_layers_152 (by decide) ?_
        have y1 := hg (k : Int) (by omega) (by omega)
        refine ih _ (k + 1) (by omega) (by omega) (hT.put h52 _ (by first | exact ⟨by omega, by omega⟩)) (fun x x0 x1 => by rw [putI_row]; simp only [xUpd]; rw [if_neg (by omega)]; exact hg x x0 x1) ?_ ?_
        · rw [putI_row]; simp only [xUpd, if_true]
          first
          | (rw [h6]; refine bI_c ⟨fun ⟨x, x0, x1, x2⟩ => ⟨x, x0, by omega, by rw [if_neg (by omega)]; exact x2⟩, fun ⟨x, x0, x1, x2⟩ => ?_⟩; rw [if_neg (by omega)] at x2; exact ⟨x, x0, (by rcases Int.lt_or_eq_of_le (show x ≤ (k : Int) by omega) with e | e; exact e; (exfalso; rw [e] at x2; omega)), x2⟩)
          | (refine (bI_t ?_).symm; exact ⟨(k : Int), by omega, by omega, by rw [if_neg (by omega)]; omega⟩)
        · have e9 : ∀ x : Int, 0 ≤ x → x ≤ 5 → (putI T (52, S.2.2.2.1 52, 0) 6 ((T.1 (52, S.2.2.2.1 52, 0) 6))).1 (52, S.2.2.2.1 52, 0) x = (T.1 (52, S.2.2.2.1 52, 0)) x := fun x x0 x1 => by rw [putI_row]; simp only [xUpd]; rw [if_neg (by omega)]
          rcases hF with hF | ⟨⟨x, x0, x1, x2⟩, hN⟩
          · exact Or.inl (LyG.congr2 hC e9 hF)
          · exact Or.inr ⟨⟨x, x0, x1, by rw [e9 x x0 x1]; exact x2⟩, hN⟩
      · refine x_iconst dL_layers_140 ?_
        refine x_goto (tgt := 148) dL_layers_141 (by decide) ?_
        refine x_asti dL_layers_148 (hp52 T (by omega) (by omega)) (show (52 : Nat) ≠ 99 by decide) (by omega) (by omega) (by decide) ?_
        refine x_heq (pa52 T (by omega) (by omega) 6 1) ?_
        have hw148_2 : WI (putI T (52, S.2.2.2.1 52, 0) 6 1) := hw.put (by first | exact hz _ _ | exact hw.1 _ _ | exact zR_of _ | exact bI_z _ | assumption | exact ⟨by omega, by omega⟩) trivial
        refine x_iinc (L' := [xR (50, 0, 0), xR (51, a, 0), xR (52, S.2.2.2.1 52, 0), xI ((k : Int) + 1), none, none, none, none]) dL_layers_149 rfl rfl ?_
        refine x_goto (tgt := 123) dL_layers_152 (by decide) ?_
        have y1 := hg (k : Int) (by omega) (by omega)
        refine ih _ (k + 1) (by omega) (by omega) (hT.put h52 _ (by first | exact ⟨by omega, by omega⟩)) (fun x x0 x1 => by rw [putI_row]; simp only [xUpd]; rw [if_neg (by omega)]; exact hg x x0 x1) ?_ ?_
        · rw [putI_row]; simp only [xUpd, if_true]
          first
          | (rw [h6]; refine bI_c ⟨fun ⟨x, x0, x1, x2⟩ => ⟨x, x0, by omega, by rw [if_neg (by omega)]; exact x2⟩, fun ⟨x, x0, x1, x2⟩ => ?_⟩; rw [if_neg (by omega)] at x2; exact ⟨x, x0, (by rcases Int.lt_or_eq_of_le (show x ≤ (k : Int) by omega) with e | e; exact e; (exfalso; rw [e] at x2; omega)), x2⟩)
          | (refine (bI_t ?_).symm; exact ⟨(k : Int), by omega, by omega, by rw [if_neg (by omega)]; omega⟩)
        · have e9 : ∀ x : Int, 0 ≤ x → x ≤ 5 → (putI T (52, S.2.2.2.1 52, 0) 6 (1)).1 (52, S.2.2.2.1 52, 0) x = (T.1 (52, S.2.2.2.1 52, 0)) x := fun x x0 x1 => by rw [putI_row]; simp only [xUpd]; rw [if_neg (by omega)]
          rcases hF with hF | ⟨⟨x, x0, x1, x2⟩, hN⟩
          · exact Or.inl (LyG.congr2 hC e9 hF)
          · exact Or.inr ⟨⟨x, x0, x1, by rw [e9 x x0 x1]; exact x2⟩, hN⟩
set_option maxHeartbeats 4000000 in
set_option maxRecDepth 100000 in
theorem c_layers (C S : XS) (hC : WI C) (hw : WI S) (hr : NR C S) (hcnt : Cnt S) (a : Int) (a0 : 0 ≤ a) (a1 : a < S.2.2.2.1 51) (on : Int) (hO : OnR C S a on) : X mL_layers 0 (xEnt mL_layers [xR (50, 0, 0), xR (51, a, 0)]) [] (hp S) 1 7 (pLs C S on) := by
  show X mL_layers 0 [xR (50, 0, 0), xR (51, a, 0), none, none, none, none, none, none] [] (hp S) 1 7 _
  refine x_bipush (v := 7) dL_layers_0 (by decide) ?_
  refine x_newarray (52, S.2.2.2.1 52, 0) (t := 0) (n := 7) (N := 7) dL_layers_2 rfl wd89 (free52 S) (show (52 : Nat) ≠ 99 by decide) rfl (by decide) (by omega) (by omega) ?_
  refine x_heq (hp_n52 (by first | omega | exact hcnt.2.1)) ?_
  refine x_astore_n (L' := [xR (50, 0, 0), xR (51, a, 0), xR (52, S.2.2.2.1 52, 0), none, none, none, none, none]) dL_layers_4 (by decide) rfl ?_
  refine x_iconst dL_layers_5 ?_
  refine x_istore_n (L' := [xR (50, 0, 0), xR (51, a, 0), xR (52, S.2.2.2.1 52, 0), xI 0, none, none, none, none]) dL_layers_6 (by decide) rfl ?_
  refine X.weak (l_layP C S hC hw hr hcnt a a0 a1 on hO (fun T t1 t2 t3 => l_layF C S hC hw hr hcnt a a0 a1 on hO 7 T 0 (by omega) (by omega) t1 (fun x x0 x1 => by have := t3.1 x x0 x1; omega) (by rw [t2]; exact (bI_f (fun ⟨x, x0, x1, _⟩ => by omega)).symm) (t3.fin hC)) 61 (sN52 S) 0 (by omega) (by omega) ⟨NQ.n52 S, wi_n52 hw, n52_c S⟩ (by simp [sN52]) ⟨fun x x0 x1 => by simp [sN52], fun g' g0 hl x x0 x1 => by simp only [sN52, if_true]; exact g0 x x0 x1, Or.inr (Or.inr ⟨by simp [sN52, gsum], fun j hj => by omega, fun c hc => by omega⟩)⟩) (Nat.zero_le _) (Nat.zero_le _) (fun _ _ q => q)
