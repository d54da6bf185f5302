/-! reasons: what is asked of them -/
set_option maxHeartbeats 4000000 in
set_option maxRecDepth 100000 in
theorem c_ruleOf (S : XS) (hw : WI S) (q : Int) (q0 : 0 ≤ q) (q1 : q < 384) : X mX3_ruleOf 0 (xEnt mX3_ruleOf [xR (5, 0, 0), xI q]) [] (hp S) 0 0 (pRet (xI (if 0 < S.1 (40, 0, 0) q then S.1 (41, 0, 0) q else -1)) (hp S)) := by
  show X mX3_ruleOf 0 [xR (5, 0, 0), xI q] [] (hp S) 0 0 _
  refine x_aload_n dX3_ruleOf_0 rfl ?_
  refine x_get (v := xR (40, 0, 0)) dX3_ruleOf_1 fl_RX3_18 (hp5 S) rfl ?_
  refine x_iload_n dX3_ruleOf_4 rfl ?_
  refine x_aldi (f := S.1 (40, 0, 0)) dX3_ruleOf_5 (hp40 S) (show (40 : Nat) ≠ 99 by decide) (by omega) (by omega) (by decide) ?_
  have f5_1 := wfa40 hw (S := S) q
  refine x_if_le (tgt := 18) dX3_ruleOf_6 (by decide) (by first | exact hz _ _ | exact hw.1 _ _ | exact zR_of _ | assumption | exact ⟨by omega, by omega⟩) (fun c6 => ?_) (fun c6 => ?_)
  · refine x_iconst dX3_ruleOf_18 ?_
    exact x_iret dX3_ruleOf_19 rfl (pRI (by first | rw [if_pos (by omega)] | rw [if_neg (by omega)]))
  · refine x_aload_n dX3_ruleOf_9 rfl ?_
    refine x_get (v := xR (41, 0, 0)) dX3_ruleOf_10 fl_RX3_22 (hp5 S) rfl ?_
    refine x_iload_n dX3_ruleOf_13 rfl ?_
    refine x_aldi (f := S.1 (41, 0, 0)) dX3_ruleOf_14 (hp41 S) (show (41 : Nat) ≠ 99 by decide) (by omega) (by omega) (by decide) ?_
    have f14_2 := wfa41 hw (S := S) q
    refine x_goto (tgt := 19) dX3_ruleOf_15 (by decide) ?_
    exact x_iret dX3_ruleOf_19 rfl (pRI (by first | rw [if_pos (by omega)] | rw [if_neg (by omega)]))
/-- how many of a rule's first conditions are straight -/
def strN (f : XL → Int → Int) (r : Int) : Nat → Int
  | 0 => 0
  | n + 1 => if f (36, r, n) 1 = 0 then strN f r n + 1 else strN f r n
/-- the fact of the straight condition of a number, or -1 -/
def premN (f : XL → Int → Int) (r w k : Int) : Nat → Int
  | 0 => -1
  | n + 1 => if f (36, r, n) 1 = 0 ∧ strN f r n = k then 64 * f (36, r, n) 0 + pairF f (36, r, n) w else premN f r w k n
theorem strN_le (f : XL → Int → Int) (r : Int) (n : Nat) : 0 ≤ strN f r n ∧ strN f r n ≤ n := by
  induction n with
  | zero => simp [strN]
  | succ n ih => simp only [strN]; split <;> omega
theorem strN_mono (f : XL → Int → Int) (r : Int) (n m : Nat) (h : n ≤ m) : strN f r n ≤ strN f r m := by
  induction m with
  | zero => rw [show n = 0 by omega]; exact Int.le_refl _
  | succ m ih =>
    rcases Nat.lt_or_eq_of_le h with z | z
    · have := ih (by omega)
      simp only [strN]; split <;> omega
    · rw [z]; exact Int.le_refl _
theorem premN_none (f : XL → Int → Int) (r w k : Int) (n : Nat) (h : ∀ j : Nat, j < n → ¬ (f (36, r, j) 1 = 0 ∧ strN f r j = k)) : premN f r w k n = -1 := by
  induction n with
  | zero => rfl
  | succ n ih =>
    simp only [premN]
    rw [if_neg (h n (by omega))]
    exact ih (fun j hj => h j (by omega))
theorem premN_at (f : XL → Int → Int) (r w k : Int) (i n : Nat) (hi : i < n) (h : f (36, r, i) 1 = 0 ∧ strN f r i = k) : premN f r w k n = 64 * f (36, r, i) 0 + pairF f (36, r, i) w := by
  induction n with
  | zero => omega
  | succ n ih =>
    simp only [premN]
    rcases Nat.lt_or_eq_of_le (show i ≤ n by omega) with z | z
    · rw [if_neg ?_]
      · exact ih z
      · rintro ⟨a, b⟩
        have c := strN_mono f r (i + 1) n z
        simp only [strN] at c
        rw [if_pos h.1] at c
        omega
    · subst z
      rw [if_pos h]
set_option maxHeartbeats 4000000 in
set_option maxRecDepth 100000 in
theorem l_premise (S : XS) (hw : WI S) (q : Int) (q0 : 0 ≤ q) (q1 : q < 384) (k : Int) (k0 : zR k) (kw : -2147483645 ≤ k) (hp0 : 0 < S.1 (40, 0, 0) q) (n : Nat) (hn : S.1 (34, S.1 (41, 0, 0) q, 0) 2 = n) : ∀ (nn : Nat) (i : Nat), (n : Int) - i < (nn : Int) → (i ≤ n) → (∀ j : Nat, j < i → ¬ (S.1 (36, S.1 (41, 0, 0) q, j) 1 = 0 ∧ strN S.1 (S.1 (41, 0, 0) q) j = k)) → X mX3_premise 30 [xR (5, 0, 0), xR (4, 0, 0), xI q, xI k, xR (34, (S.1 (41, 0, 0) q), 0), xI (k - strN S.1 (S.1 (41, 0, 0) q) i), xI (i : Int)] [] (hp S) 0 0 (pRet (xI (premN S.1 (S.1 (41, 0, 0) q) (S.1 (42, 0, 0) q) k (S.1 (34, S.1 (41, 0, 0) q, 0) 2).toNat)) (hp S)) := by
  intro nn
  induction nn with
  | zero => intro i hm hi hj2; exfalso; omega
  | succ nn ih =>
    intro i hm hi hj2
    have hz := hw.1
    have f41 := wfa41 hw q
    have sn := strN_le S.1 (S.1 (41, 0, 0) q) i
    have k1 := k0
    unfold zR at k1
    have hn3 := wf34_2 hw (b := S.1 (41, 0, 0) q) (by omega) (by omega)
    refine x_iload dX3_premise_30 rfl ?_
    refine x_aload dX3_premise_32 rfl ?_
    refine x_get (v := xI (S.1 (34, (S.1 (41, 0, 0) q), 0) 2)) dX3_premise_34 fl_RX3_121 (hp34 S (by omega) (by omega)) rfl ?_
    have f34_1 := wf34_2 hw (S := S) (b := (S.1 (41, 0, 0) q)) (by omega) (by omega)
    refine x_icmp_ge (tgt := 86) dX3_premise_37 (by decide) (by first | exact hz _ _ | exact hw.1 _ _ | exact zR_of _ | assumption | exact ⟨by omega, by omega⟩) (by first | exact hz _ _ | exact hw.1 _ _ | exact zR_of _ | assumption | exact ⟨by omega, by omega⟩) (fun c37 => ?_) (fun c37 => ?_)
    · refine x_iconst dX3_premise_86 ?_
      exact x_iret dX3_premise_87 rfl (pRI (premN_none S.1 (S.1 (41, 0, 0) q) (S.1 (42, 0, 0) q) k _ (fun j hj => hj2 j (by omega))).symm)
    · refine x_aload dX3_premise_40 rfl ?_
      refine x_get (v := xR (35, (S.1 (41, 0, 0) q), 0)) dX3_premise_42 fl_RX3_122 (hp34 S (by omega) (by omega)) rfl ?_
      refine x_iload dX3_premise_45 rfl ?_
      refine x_alda (l2 := (36, (S.1 (41, 0, 0) q), (i : Int))) dX3_premise_47 (hp35 S (by omega) (by omega)) (show (35 : Nat) ≠ 99 by decide) (by decide) (by decide) (by omega) (by omega) (by decide) rfl ?_
      refine x_get (v := xI (S.1 (36, (S.1 (41, 0, 0) q), (i : Int)) 1)) dX3_premise_48 fl_RX3_126 (hp36 S (by omega) (by omega) (by omega) (by omega)) rfl ?_
      have f48_2 := wf36_1 hw (S := S) (b := (S.1 (41, 0, 0) q)) (t := (i : Int)) (by omega) (by omega) (by omega) (by omega)
      refine x_if_ne (tgt := 80) dX3_premise_51 (by decide) (by first | exact hz _ _ | exact hw.1 _ _ | exact zR_of _ | assumption | exact ⟨by omega, by omega⟩) (fun c51 => ?_) (fun c51 => ?_)
      · refine x_iinc (L' := [xR (5, 0, 0), xR (4, 0, 0), xI q, xI k, xR (34, (S.1 (41, 0, 0) q), 0), xI (k - strN S.1 (S.1 (41, 0, 0) q) i), xI ((i : Int) + 1)]) dX3_premise_80 rfl rfl ?_
        refine x_goto (tgt := 30) dX3_premise_83 (by decide) ?_
        have kk := ih (i + 1) (by omega) (by omega) (fun j hj z => by rcases Nat.lt_or_eq_of_le (show j ≤ i by omega) with y | y; exact hj2 j y z; subst y; omega)
        rw [show k - strN S.1 (S.1 (41, 0, 0) q) (i + 1) = k - strN S.1 (S.1 (41, 0, 0) q) i from by simp only [strN]; (repeat' split) <;> omega] at kk
        exact kk
      · refine x_iload dX3_premise_54 rfl ?_
        refine x_if_ne (tgt := 77) dX3_premise_56 (by decide) (by first | exact hz _ _ | exact hw.1 _ _ | exact zR_of _ | assumption | exact ⟨by omega, by omega⟩) (fun c56 => ?_) (fun c56 => ?_)
        · refine x_iinc (L' := [xR (5, 0, 0), xR (4, 0, 0), xI q, xI k, xR (34, (S.1 (41, 0, 0) q), 0), xI ((k - strN S.1 (S.1 (41, 0, 0) q) i) + (-1)), xI (i : Int)]) dX3_premise_77 rfl rfl ?_
          refine x_iinc (L' := [xR (5, 0, 0), xR (4, 0, 0), xI q, xI k, xR (34, (S.1 (41, 0, 0) q), 0), xI ((k - strN S.1 (S.1 (41, 0, 0) q) i) + (-1)), xI ((i : Int) + 1)]) dX3_premise_80 rfl rfl ?_
          refine x_goto (tgt := 30) dX3_premise_83 (by decide) ?_
          have kk := ih (i + 1) (by omega) (by omega) (fun j hj z => by rcases Nat.lt_or_eq_of_le (show j ≤ i by omega) with y | y; exact hj2 j y z; subst y; omega)
          rw [show k - strN S.1 (S.1 (41, 0, 0) q) (i + 1) = (k - strN S.1 (S.1 (41, 0, 0) q) i) + (-1) from by simp only [strN]; (repeat' split) <;> omega] at kk
          exact kk
        · refine x_aload dX3_premise_59 rfl ?_
          refine x_get (v := xR (35, (S.1 (41, 0, 0) q), 0)) dX3_premise_61 fl_RX3_122 (hp34 S (by omega) (by omega)) rfl ?_
          refine x_iload dX3_premise_64 rfl ?_
          refine x_alda (l2 := (36, (S.1 (41, 0, 0) q), (i : Int))) dX3_premise_66 (hp35 S (by omega) (by omega)) (show (35 : Nat) ≠ 99 by decide) (by decide) (by decide) (by omega) (by omega) (by decide) rfl ?_
          refine x_aload_n dX3_premise_67 rfl ?_
          refine x_get (v := xR (42, 0, 0)) dX3_premise_68 fl_RX3_25 (hp5 S) rfl ?_
          refine x_iload_n dX3_premise_71 rfl ?_
          refine x_aldi (f := S.1 (42, 0, 0)) dX3_premise_72 (hp42 S) (show (42 : Nat) ≠ 99 by decide) (by omega) (by omega) (by decide) ?_
          have f72_3 := wfa42 hw (S := S) q
          refine x_callV_r (a := 0) (b := 0) (as := [xI (S.1 (42, 0, 0) q)]) (rest := []) ok_X2_factOf dX3_premise_73 wd898 ⟨wd899, wd900⟩ (hp36 S (by omega) (by omega) (by omega) (by omega)) rfl rfl (c_factOf36 S hw (S.1 (41, 0, 0) q) (i : Int) (by omega) (by omega) (by omega) (by omega) (S.1 (42, 0, 0) q)) rfl (Nat.le_of_ble_eq_true rfl) (Nat.le_of_ble_eq_true rfl) (by decide) (by omega) (by omega) ?_
          exact x_iret dX3_premise_76 rfl (pRI (premN_at S.1 (S.1 (41, 0, 0) q) (S.1 (42, 0, 0) q) k i _ (by omega) ⟨by assumption, by omega⟩).symm)
set_option maxHeartbeats 4000000 in
set_option maxRecDepth 100000 in
theorem c_premise (S : XS) (hw : WI S) (q : Int) (q0 : 0 ≤ q) (q1 : q < 384) (k : Int) (k0 : zR k) (kw : -2147483645 ≤ k) : X mX3_premise 0 (xEnt mX3_premise [xR (5, 0, 0), xR (4, 0, 0), xI q, xI k]) [] (hp S) 0 0 (pRet (xI (if 0 < S.1 (40, 0, 0) q then premN S.1 (S.1 (41, 0, 0) q) (S.1 (42, 0, 0) q) k (S.1 (34, S.1 (41, 0, 0) q, 0) 2).toNat else -1)) (hp S)) := by
  show X mX3_premise 0 [xR (5, 0, 0), xR (4, 0, 0), xI q, xI k, none, none, none] [] (hp S) 0 0 _
  refine x_aload_n dX3_premise_0 rfl ?_
  refine x_get (v := xR (40, 0, 0)) dX3_premise_1 fl_RX3_18 (hp5 S) rfl ?_
  refine x_iload_n dX3_premise_4 rfl ?_
  refine x_aldi (f := S.1 (40, 0, 0)) dX3_premise_5 (hp40 S) (show (40 : Nat) ≠ 99 by decide) (by omega) (by omega) (by decide) ?_
  have f5_1 := wfa40 hw (S := S) q
  refine x_if_gt (tgt := 11) dX3_premise_6 (by decide) (by first | exact hz _ _ | exact hw.1 _ _ | exact zR_of _ | assumption | exact ⟨by omega, by omega⟩) (fun c6 => ?_) (fun c6 => ?_)
  · refine x_aload_n dX3_premise_11 rfl ?_
    refine x_get (v := xR (32, 0, 0)) dX3_premise_12 fl_RX3_71 (hp4 S) rfl ?_
    refine x_aload_n dX3_premise_15 rfl ?_
    refine x_get (v := xR (41, 0, 0)) dX3_premise_16 fl_RX3_22 (hp5 S) rfl ?_
    refine x_iload_n dX3_premise_19 rfl ?_
    refine x_aldi (f := S.1 (41, 0, 0)) dX3_premise_20 (hp41 S) (show (41 : Nat) ≠ 99 by decide) (by omega) (by omega) (by decide) ?_
    have f20_2 := wfa41 hw (S := S) q
    refine x_alda (l2 := (34, S.1 (41, 0, 0) q, 0)) dX3_premise_21 (hp32 S) (show (32 : Nat) ≠ 99 by decide) (by decide) (by decide) (by omega) (by omega) (by decide) rfl ?_
    refine x_astore (L' := [xR (5, 0, 0), xR (4, 0, 0), xI q, xI k, xR (34, S.1 (41, 0, 0) q, 0), none, none]) dX3_premise_22 (by decide) rfl ?_
    refine x_iload_n dX3_premise_24 rfl ?_
    refine x_istore (L' := [xR (5, 0, 0), xR (4, 0, 0), xI q, xI k, xR (34, S.1 (41, 0, 0) q, 0), xI k, none]) dX3_premise_25 (by decide) rfl ?_
    refine x_iconst dX3_premise_27 ?_
    refine x_istore (L' := [xR (5, 0, 0), xR (4, 0, 0), xI q, xI k, xR (34, S.1 (41, 0, 0) q, 0), xI k, xI 0]) dX3_premise_28 (by decide) rfl ?_
    have f41 := wfa41 hw q
    have hn3 := wf34_2 hw (b := S.1 (41, 0, 0) q) (by omega) (by omega)
    rw [if_pos (by omega)]
    have kk := l_premise S hw q q0 q1 k k0 kw (by omega) (S.1 (34, S.1 (41, 0, 0) q, 0) 2).toNat (by omega) 61 0 (by omega) (by omega) (fun j hj => by omega)
    rw [show k - strN S.1 (S.1 (41, 0, 0) q) 0 = k from by simp [strN]] at kk
    exact kk
  · refine x_iconst dX3_premise_9 ?_
    exact x_iret dX3_premise_10 rfl (pRI (by rw [if_neg (by omega)]))
