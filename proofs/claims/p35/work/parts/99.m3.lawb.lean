/-! p35: the law: the rules that are on, a fact by the things -/
theorem NT.q {C S T : XS} (h : NT C S) (q : NQ S T) : NT C T := by
  unfold NT
  rw [q.1 (50, 0, 0) (Or.inl (by decide))]
  exact h
theorem NR.q {C S T : XS} (h : NR C S) (q : NQ S T) : NR C T := by
  unfold NR
  rw [q.1 (50, 0, 0) (Or.inl (by decide))]
  exact h
theorem Cnt.q {S T : XS} (h : Cnt S) (q : NQ S T) : Cnt T := ⟨Int.le_trans h.1 (q.2.2.2.1 51), Int.le_trans h.2.1 (q.2.2.2.1 52), Int.le_trans h.2.2.1 (q.2.2.2.1 53), Int.le_trans h.2.2.2.1 (q.2.2.2.1 54), Int.le_trans h.2.2.2.2 (q.2.2.2.1 55)⟩
/-- the row b says which rules are on -/
def OnR (C T : XS) (b on : Int) : Prop := ∀ r : Nat, (r : Int) < C.1 (4, 0, 0) 2 → T.1 (51, b, 0) r = bI (bitI on r)
def pRu (C S : XS) (n : Nat) : XO → XH → Prop := fun o h' => o = .inl (some (xR (51, S.2.2.2.1 51, 0))) ∧ ∃ T, h' = hp T ∧ NQ S T ∧ WI T ∧ T.2.2.2.1 51 = S.2.2.2.1 51 + 1 ∧ OnR C T (S.2.2.2.1 51) (onN C.1 0 n)
set_option maxHeartbeats 4000000 in
set_option maxRecDepth 100000 in
theorem l_rulesR (C S : XS) (hC : CB C) (hw : WI S) (ht : NT C S) (hr : NR C S) (hcnt : Cnt S) (n : Nat) (hn : (n : Int) ≤ C.1 (9, 0, 0) 3) : ∀ (nn : Nat) (T : XS) (i : Nat), C.1 (4, 0, 0) 2 - i < (nn : Int) → ((i : Int) ≤ C.1 (4, 0, 0) 2) → (NQ S T) → (WI T) → (T.2.2.2.1 51 = S.2.2.2.1 51 + 1) → (∀ r : Nat, r < i → T.1 (51, S.2.2.2.1 51, 0) r = bI (bitI (onN C.1 0 n) r)) → X mL_rules 8 [xR (50, 0, 0), xI 0, xI (n : Int), xR (51, S.2.2.2.1 51, 0), xI (i : Int)] [] (hp T) 0 0 (pRu C S n) := by
  intro nn
  induction nn with
  | zero => intro T i hm hi eT wT cT rT; exfalso; omega
  | succ nn ih =>
    intro T i hm hi eT wT cT rT
    have hz := wT.1
    have c4 := wf4_2 hC.1
    have h51 := hcnt.1
    have n5 : T.1 (50, 0, 0) 5 = C.1 (4, 0, 0) 2 := (hr.q eT).1
    refine x_iload dL_rules_8 rfl ?_
    refine x_aload_n dL_rules_10 rfl ?_
    refine x_iconst dL_rules_11 ?_
    refine x_aldi (f := T.1 (50, 0, 0)) dL_rules_12 (hp50 T) (show (50 : Nat) ≠ 99 by decide) (by omega) (by omega) (by decide) ?_
    refine x_icmp_ge (tgt := 34) dL_rules_13 (by decide) (by first | exact hz _ _ | exact hw.1 _ _ | exact zR_of _ | exact bI_z _ | assumption | exact ⟨by omega, by omega⟩) (by first | exact hz _ _ | exact hw.1 _ _ | exact zR_of _ | exact bI_z _ | assumption | exact ⟨by omega, by omega⟩) (fun c13 => ?_) (fun c13 => ?_)
    · refine x_aload_n dL_rules_34 rfl ?_
      exact x_aretA dL_rules_35 rfl ⟨rfl, T, rfl, eT, wT, cT, fun r hr => rT r (by omega)⟩
    · refine x_aload_n dL_rules_16 rfl ?_
      refine x_iload dL_rules_17 rfl ?_
      refine x_aload_n dL_rules_19 rfl ?_
      refine x_iload_n dL_rules_20 rfl ?_
      refine x_iload_n dL_rules_21 rfl ?_
      refine x_iload dL_rules_22 rfl ?_
      refine x_callS_r (a := 0) (b := 0) (as := [xR (50, 0, 0), xI 0, xI (n : Int), xI (i : Int)]) (rest := [xI (i : Int), xR (51, S.2.2.2.1 51, 0)]) ok_L_isRuled dL_rules_24 wd839 wd840 (c_isRuledN C T hC wT (ht.q eT) n hn i (by omega)) rfl (Nat.le_of_ble_eq_true rfl) (Nat.le_of_ble_eq_true rfl) (by decide) (by omega) (by omega) ?_
      refine x_astz dL_rules_27 (hp51 T (by omega) (by omega)) (show (51 : Nat) ≠ 99 by decide) (by omega) (by omega) (by decide) (bI_01 _) ?_
      refine x_heq (pa51 T (by omega) (by omega) (i : Int) (bI (bitI (onN C.1 0 n) (i : Int)))) ?_
      have hw27_1 : WI (putI T (51, S.2.2.2.1 51, 0) (i : Int) (bI (bitI (onN C.1 0 n) (i : Int)))) := wpa51 wT (by omega) (by omega) (bI_01 _)
      refine x_iinc (L' := [xR (50, 0, 0), xI 0, xI (n : Int), xR (51, S.2.2.2.1 51, 0), xI ((i : Int) + 1)]) dL_rules_28 rfl rfl ?_
      refine x_goto (tgt := 8) dL_rules_31 (by decide) ?_
      refine ih (putI T (51, S.2.2.2.1 51, 0) (i : Int) (bI (bitI (onN C.1 0 n) (i : Int)))) (i + 1) (by omega) (by omega) (eT.put (k := 51) ⟨by decide, by decide⟩ (Int.le_refl _) _ _) hw27_1 cT (fun r hr => ?_)
      rw [putI_at]
      by_cases e : (r : Int) = (i : Int)
      · rw [if_pos e, e]
      · rw [if_neg e]; exact rT r (by omega)
set_option maxHeartbeats 4000000 in
set_option maxRecDepth 100000 in
theorem c_rules (C S : XS) (hC : CB C) (hw : WI S) (ht : NT C S) (hr : NR C S) (hcnt : Cnt S) (n : Nat) (hn : (n : Int) ≤ C.1 (9, 0, 0) 3) : X mL_rules 0 (xEnt mL_rules [xR (50, 0, 0), xI 0, xI (n : Int)]) [] (hp S) 1 10 (pRu C S n) := by
  show X mL_rules 0 [xR (50, 0, 0), xI 0, xI (n : Int), none, none] [] (hp S) 1 10 _
  refine x_bipush (v := 10) dL_rules_0 (by decide) ?_
  refine x_newarray (51, S.2.2.2.1 51, 0) (t := 2) (n := 10) (N := 10) dL_rules_2 rfl wd88 (free51 S) (show (51 : Nat) ≠ 99 by decide) rfl (by decide) (by omega) (by omega) ?_
  refine x_heq (hp_n51 (by first | omega | exact hcnt.1)) ?_
  refine x_astore_n (L' := [xR (50, 0, 0), xI 0, xI (n : Int), xR (51, S.2.2.2.1 51, 0), none]) dL_rules_4 (by decide) rfl ?_
  refine x_iconst dL_rules_5 ?_
  refine x_istore (L' := [xR (50, 0, 0), xI 0, xI (n : Int), xR (51, S.2.2.2.1 51, 0), xI 0]) dL_rules_6 (by decide) rfl ?_
  refine X.weak (l_rulesR C S hC hw ht hr hcnt n hn 11 (sN51 S) 0 (by have := wf4_2 hC.1; omega) (by have := wf4_2 hC.1; omega) (NQ.n51 S) (wi_n51 hw) (n51_c S) (fun r hr => by omega)) (Nat.zero_le _) (Nat.zero_le _) (fun _ _ q => q)
set_option maxHeartbeats 4000000 in
set_option maxRecDepth 100000 in
theorem c_fact (S : XS) (a b x v u : Int) (a0 : 0 ≤ a) (a1 : a < 1790) (b0 : 0 ≤ b) (b1 : b < S.2.2.2.1 54) (hx : S.1 (50, 0, 0) a = x) (hv : S.1 (50, 0, 0) (a + 1) = v) (hu : S.1 (50, 0, 0) (a + 2) = u) (v0 : 0 ≤ v) (v1 : v ≤ 2) (u0 : 0 ≤ u) (u1 : u ≤ 2) : X mL_fact 0 (xEnt mL_fact [xR (50, 0, 0), xI a, xR (54, b, 0)]) [] (hp S) 0 0 (pRet (xI (64 * x + 8 * S.1 (54, b, 0) v + S.1 (54, b, 0) u)) (hp S)) := by
  show X mL_fact 0 [xR (50, 0, 0), xI a, xR (54, b, 0)] [] (hp S) 0 0 _
  refine x_bipush (v := 64) dL_fact_0 (by decide) ?_
  refine x_aload_n dL_fact_2 rfl ?_
  refine x_iload_n dL_fact_3 rfl ?_
  refine x_aldi (f := S.1 (50, 0, 0)) dL_fact_4 (hp50 S) (show (50 : Nat) ≠ 99 by decide) (by omega) (by omega) (by decide) ?_
  refine x_top (show S.1 (50, 0, 0) a = x from hx) ?_
  refine x_imul dL_fact_5 ?_
  refine x_bipush (v := 8) dL_fact_6 (by decide) ?_
  refine x_aload_n dL_fact_8 rfl ?_
  refine x_aload_n dL_fact_9 rfl ?_
  refine x_iload_n dL_fact_10 rfl ?_
  refine x_iconst dL_fact_11 ?_
  refine x_iadd dL_fact_12 ?_
  refine x_aldi (f := S.1 (50, 0, 0)) dL_fact_13 (hp50 S) (show (50 : Nat) ≠ 99 by decide) (by omega) (by omega) (by decide) ?_
  refine x_top (show S.1 (50, 0, 0) (a + 1) = v from hv) ?_
  refine x_aldi (f := S.1 (54, b, 0)) dL_fact_14 (hp54 S (by omega) (by omega)) (show (54 : Nat) ≠ 99 by decide) (by omega) (by omega) (by decide) ?_
  refine x_imul dL_fact_15 ?_
  refine x_iadd dL_fact_16 ?_
  refine x_aload_n dL_fact_17 rfl ?_
  refine x_aload_n dL_fact_18 rfl ?_
  refine x_iload_n dL_fact_19 rfl ?_
  refine x_iconst dL_fact_20 ?_
  refine x_iadd dL_fact_21 ?_
  refine x_aldi (f := S.1 (50, 0, 0)) dL_fact_22 (hp50 S) (show (50 : Nat) ≠ 99 by decide) (by omega) (by omega) (by decide) ?_
  refine x_top (show S.1 (50, 0, 0) (a + 2) = u from hu) ?_
  refine x_aldi (f := S.1 (54, b, 0)) dL_fact_23 (hp54 S (by omega) (by omega)) (show (54 : Nat) ≠ 99 by decide) (by omega) (by omega) (by decide) ?_
  refine x_iadd dL_fact_24 ?_
  exact x_iret dL_fact_25 rfl (pRI (by omega))
