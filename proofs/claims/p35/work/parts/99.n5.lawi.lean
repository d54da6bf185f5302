/-! p35: the law: ranks beside the class -/
/-- of the facts of the relation x below k, so many have a rank -/
noncomputable def cnR (rk : Int → Int) (x : Nat) (k : Int) : Nat := cntN (fun p : Nat => rk (64 * (x : Int) + p) < 999) (if k ≤ 64 * x then 0 else if 64 * (x : Int) + 64 ≤ k then 64 else (k - 64 * x).toNat)
theorem cnR_0 (rk : Int → Int) (x : Nat) : cnR rk x 0 = 0 := by
  unfold cnR
  rw [if_pos (by omega)]
  rfl
theorem cnR_end (rk : Int → Int) (x : Nat) (hx : x < 6) : cnR rk x 384 = cntN (fun p : Nat => rk (64 * (x : Int) + p) < 999) 64 := by
  unfold cnR
  rw [if_neg (by omega), if_pos (by omega)]
theorem cnR_s (rk : Int → Int) (x : Nat) (k : Nat) : ((cnR rk x ((k : Int) + 1) : Nat) : Int) = if (k : Int) / 64 = x then ((cnR rk x k : Nat) : Int) + (if rk k < 999 then 1 else 0) else ((cnR rk x k : Nat) : Int) := by
  unfold cnR
  by_cases e : (k : Int) / 64 = x
  · rw [if_pos e]
    have a : (if (k : Int) + 1 ≤ 64 * (x : Int) then 0 else if 64 * (x : Int) + 64 ≤ (k : Int) + 1 then 64 else ((k : Int) + 1 - 64 * x).toNat) = (k - 64 * x) + 1 := by
      rw [if_neg (by omega)]
      split <;> omega
    have b : (if (k : Int) ≤ 64 * (x : Int) then 0 else if 64 * (x : Int) + 64 ≤ (k : Int) then 64 else ((k : Int) - 64 * x).toNat) = (k - 64 * x) := by
      split
      · omega
      · rw [if_neg (by omega)]; omega
    rw [a, b]
    have ek : 64 * (x : Int) + ((k - 64 * x : Nat) : Int) = k := by omega
    by_cases q : rk k < 999
    · rw [cntN_t (by rw [ek]; exact q), if_pos q]; rfl
    · rw [cntN_f (by rw [ek]; exact q), if_neg q]; omega
  · rw [if_neg e]
    have a : (if (k : Int) + 1 ≤ 64 * (x : Int) then 0 else if 64 * (x : Int) + 64 ≤ (k : Int) + 1 then 64 else ((k : Int) + 1 - 64 * x).toNat) = (if (k : Int) ≤ 64 * (x : Int) then 0 else if 64 * (x : Int) + 64 ≤ (k : Int) then 64 else ((k : Int) - 64 * x).toNat) := by
      by_cases u : (k : Int) + 1 ≤ 64 * (x : Int)
      · rw [if_pos u, if_pos (by omega)]
      · rw [if_neg u, if_pos (by omega), if_neg (by omega), if_pos (by omega)]
    rw [a]
theorem cnR_hl {C : XS} (hC : CB C) (hC6 : C.1 (0, 0, 0) 6 = 1) {n : Nat} (hn : (n : Int) ≤ C.1 (9, 0, 0) 3) {t : Int} {rk : Int → Int} (hF : FinR C 0 n t rk) (x : Nat) (hx : x < 6) : ((cnR rk x 384 : Nat) : Int) = fBits (hl C.1 0 n t x) := by
  rw [cnR_end rk x hx, fBits_cnt]
  congr 1
  refine cntN_eq 64 (fun p hp => ?_)
  have f := (hF.hb hC (b := 0) (by omega) (by omega) hn (q := 64 * (x : Int) + p) (by omega) (by omega)).1
  rw [f]
  exact hB_at hp
/-- while questions are asked: C is what is told -/
def PH (C S : XS) : Prop := LW C ∧ LW S ∧ KQ C S ∧ C.1 (4, 0, 0) 2 ≤ 4 ∧ C.2.2.2.2.2 < 1000000
theorem PH.q {C S T : XS} (h : PH C S) (q : QEq S T) (cb : CB T) : PH C T := ⟨h.1, h.2.1.k q.kq cb, h.2.2.1.tr q.kq, h.2.2.2⟩
theorem PH.n {C S T : XS} (h : PH C S) (q : NQ S T) (w : WI T) : PH C T := ⟨h.1, h.2.1.k q.kq (h.2.1.1.nq q w), h.2.2.1.tr q.kq, h.2.2.2⟩
theorem PH.hn {C S : XS} (h : PH C S) : S.2.2.2.2.2 < 1000000 := by rw [h.2.2.1.2.2.2.2]; exact h.2.2.2.2
/-- the answer is 1, and nothing told has changed -/
def pP (C : XS) : XO → XH → Prop := fun o h' => o = .inl (some (xI 1)) ∧ ∃ T, h' = hp T ∧ PH C T
/-- the row d of counts alone has changed -/
def N5 (d : Int) (S T : XS) : Prop := (∀ l : XL, l ≠ (55, d, 0) → T.1 l = S.1 l) ∧ T.2 = S.2
theorem N5.rf (d : Int) (S : XS) : N5 d S S := ⟨fun _ _ => rfl, rfl⟩
theorem N5.put {d : Int} {S T : XS} (h : N5 d S T) (i v : Int) : N5 d S (putI T (55, d, 0) i v) := ⟨fun l e => (putI_o e).trans (h.1 l e), h.2⟩
theorem NQ.n5 {S T U : XS} {d : Int} (h : NQ S T) (hd : S.2.2.2.1 55 ≤ d) (k : N5 d T U) : NQ S U := ⟨fun l a => (k.1 l (fun z => by rw [z] at a; rcases a with a | a | a; exact absurd (show (55 : Nat) < 51 from a) (by decide); exact absurd (show 55 < (55 : Nat) from a) (by decide); exact absurd (show d < S.2.2.2.1 55 from a) (by omega))).trans (h.1 l a), by rw [k.2]; exact h.2.1, by rw [k.2]; exact h.2.2.1, fun j => by rw [k.2]; exact h.2.2.2.1 j, by rw [k.2]; exact h.2.2.2.2⟩
set_option maxHeartbeats 4000000 in
set_option maxRecDepth 100000 in
theorem l_arC (C : XS) (W : XS) (wW : WI W) (n : Nat) (t i b d : Int) (b0 : 0 ≤ b) (bW : b < W.2.2.2.1 53) (d0 : 0 ≤ d) (dW : d < W.2.2.2.1 55) (kc ks : Nat) (KK2 : ∀ U : XS, N5 d W U → WI U → (∀ x : Nat, x < 6 → U.1 (55, d, 0) (x : Int) = ((cnR (W.1 (53, b, 0)) x 384 : Nat) : Int)) → X mL_areRanks 60 [xR (0, 0, 0), xR (50, 0, 0), xI 0, xI (n : Int), xI t, xR (99, 0, 0), xI i, xR (53, b, 0), xR (55, d, 0), none, none, none] [] (hp U) kc ks (pP C)) : ∀ (nn : Nat) (U : XS) (k : Nat), 385 - (k : Int) < (nn : Int) → (k ≤ 384) → (N5 d W U) → (WI U) → (∀ x : Nat, x < 6 → U.1 (55, d, 0) (x : Int) = ((cnR (W.1 (53, b, 0)) x (k : Int) : Nat) : Int)) → X mL_areRanks 19 [xR (0, 0, 0), xR (50, 0, 0), xI 0, xI (n : Int), xI t, xR (99, 0, 0), xI i, xR (53, b, 0), xR (55, d, 0), xI (k : Int), none, none] [] (hp U) kc ks (pP C) := by
  intro nn
  induction nn with
  | zero => intro U k hm hk eU wU hc; exfalso; omega
  | succ nn ih =>
    intro U k hm hk eU wU hc
    have hz := wU.1
    have c53 : U.2.2.2.1 53 = W.2.2.2.1 53 := by rw [eU.2]
    have c55 : U.2.2.2.1 55 = W.2.2.2.1 55 := by rw [eU.2]
    have r53 : U.1 (53, b, 0) = W.1 (53, b, 0) := eU.1 _ (nK (by decide) _ _ _ _)
    refine x_iload dL_areRanks_19 rfl ?_
    refine x_sipush (v := 384) dL_areRanks_21 (by decide) ?_
    refine x_icmp_ge (tgt := 60) dL_areRanks_24 (by decide) (by first | exact hz _ _ | exact hw.1 _ _ | exact zR_of _ | exact bI_z _ | assumption | exact ⟨by omega, by omega⟩) ⟨by decide, by decide⟩ (fun c24 => ?_) (fun c24 => ?_)
    · refine X.loc (L' := [xR (0, 0, 0), xR (50, 0, 0), xI 0, xI (n : Int), xI t, xR (99, 0, 0), xI i, xR (53, b, 0), xR (55, d, 0), none, none, none]) ⟨rfl, ⟨rfl, ⟨rfl, ⟨rfl, ⟨rfl, ⟨rfl, ⟨rfl, ⟨rfl, ⟨rfl, trivial⟩⟩⟩⟩⟩⟩⟩⟩⟩ ?_
      obtain rfl : k = 384 := by omega
      exact KK2 U eU wU hc
    · have k64 : 0 ≤ (k : Int) / 64 ∧ (k : Int) / 64 < 6 := by omega
      have hck := hc ((k : Int) / 64).toNat (by omega)
      rw [show ((((k : Int) / 64).toNat : Nat) : Int) = (k : Int) / 64 by omega] at hck
      have cle : cnR (W.1 (53, b, 0)) ((k : Int) / 64).toNat (k : Int) ≤ 384 := Nat.le_trans (cntN_le _ _) (by split; omega; split <;> omega)
      refine x_aload dL_areRanks_27 rfl ?_
      refine x_iload dL_areRanks_29 rfl ?_
      refine x_bipush (v := 64) dL_areRanks_31 (by decide) ?_
      refine x_idiv dL_areRanks_33 (by omega) (by omega) (by omega) (by omega) ?_
      refine x_dup2 dL_areRanks_34 rfl rfl ?_
      refine x_aldi (f := U.1 (55, d, 0)) dL_areRanks_35 (hp55 U (by omega) (by omega)) (show (55 : Nat) ≠ 99 by decide) (by omega) (by omega) (by decide) ?_
      refine x_aload dL_areRanks_36 rfl ?_
      refine x_iload dL_areRanks_38 rfl ?_
      refine x_aldi (f := U.1 (53, b, 0)) dL_areRanks_40 (hp53 U (by omega) (by omega)) (show (53 : Nat) ≠ 99 by decide) (by omega) (by omega) (by decide) ?_
      have f40_1 := wfa53 wU (S := U) (b := b) (by omega) (by omega) (k : Int)
      refine x_top (show U.1 (53, b, 0) (k : Int) = W.1 (53, b, 0) (k : Int) from by rw [r53]) ?_
      have w53 := wfa53 wW b0 bW (k : Int)
      refine x_sipush (v := 999) dL_areRanks_41 (by decide) ?_
      refine x_icmp_ge (tgt := 51) dL_areRanks_44 (by decide) (by first | exact hz _ _ | exact hw.1 _ _ | exact zR_of _ | exact bI_z _ | assumption | exact ⟨by omega, by omega⟩) ⟨by decide, by decide⟩ (fun c44 => ?_) (fun c44 => ?_)
      · refine x_iconst dL_areRanks_51 ?_
        refine x_iadd dL_areRanks_52 ?_
        refine x_asti dL_areRanks_53 (hp55 U (by omega) (by omega)) (show (55 : Nat) ≠ 99 by decide) (by omega) (by omega) (by decide) ?_
        refine x_heq (pa55 U (by omega) (by omega) ((k : Int) / 64) ((U.1 (55, d, 0) ((k : Int) / 64)) + 0)) ?_
        have hw53_2 : WI (putI U (55, d, 0) ((k : Int) / 64) ((U.1 (55, d, 0) ((k : Int) / 64)) + 0)) := wU.put (by first | exact hz _ _ | exact hw.1 _ _ | exact zR_of _ | exact bI_z _ | assumption | exact ⟨by omega, by omega⟩) trivial
        refine x_iinc (L' := [xR (0, 0, 0), xR (50, 0, 0), xI 0, xI (n : Int), xI t, xR (99, 0, 0), xI i, xR (53, b, 0), xR (55, d, 0), xI ((k : Int) + 1), none, none]) dL_areRanks_54 rfl rfl ?_
        refine x_goto (tgt := 19) dL_areRanks_57 (by decide) ?_
        refine ih (putI U (55, d, 0) ((k : Int) / 64) ((U.1 (55, d, 0) ((k : Int) / 64)) + 0)) (k + 1) (by omega) (by omega) (eU.put _ _) hw53_2 (fun x hx => ?_)
        rw [putI_at, show (((k + 1 : Nat)) : Int) = (k : Int) + 1 from rfl, cnR_s]
        have h9 := hc x hx
        by_cases e : (x : Int) = (k : Int) / 64
        · rw [if_pos e, if_pos e.symm, ← e, h9]; first | rw [if_pos (by omega)] | rw [if_neg (by omega)]
        · rw [if_neg e, if_neg (fun z => e z.symm)]; exact h9
      · refine x_iconst dL_areRanks_47 ?_
        refine x_goto (tgt := 52) dL_areRanks_48 (by decide) ?_
        refine x_iadd dL_areRanks_52 ?_
        refine x_asti dL_areRanks_53 (hp55 U (by omega) (by omega)) (show (55 : Nat) ≠ 99 by decide) (by omega) (by omega) (by decide) ?_
        refine x_heq (pa55 U (by omega) (by omega) ((k : Int) / 64) ((U.1 (55, d, 0) ((k : Int) / 64)) + 1)) ?_
        have hw53_3 : WI (putI U (55, d, 0) ((k : Int) / 64) ((U.1 (55, d, 0) ((k : Int) / 64)) + 1)) := wU.put (by first | exact hz _ _ | exact hw.1 _ _ | exact zR_of _ | exact bI_z _ | assumption | exact ⟨by omega, by omega⟩) trivial
        refine x_iinc (L' := [xR (0, 0, 0), xR (50, 0, 0), xI 0, xI (n : Int), xI t, xR (99, 0, 0), xI i, xR (53, b, 0), xR (55, d, 0), xI ((k : Int) + 1), none, none]) dL_areRanks_54 rfl rfl ?_
        refine x_goto (tgt := 19) dL_areRanks_57 (by decide) ?_
        refine ih (putI U (55, d, 0) ((k : Int) / 64) ((U.1 (55, d, 0) ((k : Int) / 64)) + 1)) (k + 1) (by omega) (by omega) (eU.put _ _) hw53_3 (fun x hx => ?_)
        rw [putI_at, show (((k + 1 : Nat)) : Int) = (k : Int) + 1 from rfl, cnR_s]
        have h9 := hc x hx
        by_cases e : (x : Int) = (k : Int) / 64
        · rw [if_pos e, if_pos e.symm, ← e, h9]; first | rw [if_pos (by omega)] | rw [if_neg (by omega)]
        · rw [if_neg e, if_neg (fun z => e z.symm)]; exact h9
set_option maxHeartbeats 4000000 in
set_option maxRecDepth 100000 in
theorem l_arF (C W : XS) (hW : PH C W) (n : Nat) (hn : (n : Int) ≤ C.1 (9, 0, 0) 3) (t : Int) (t0 : 0 ≤ t) (t1 : t < 24) (i : Int) (i0 : 0 ≤ i) (i1 : i < 1000) (b d : Int) (b0 : 0 ≤ b) (bW : b < W.2.2.2.1 53) (d0 : 0 ≤ d) (dW : d < W.2.2.2.1 55) (hF : FinR C 0 n t (W.1 (53, b, 0))) : ∀ (nn : Nat) (U : XS) (k : Nat) (kc ks : Nat), 7 - (k : Int) < (nn : Int) → (k ≤ 6) → (18 * (6 - k) ≤ kc ∧ 108 * (6 - k) ≤ ks) → (QEq W U) → (PH C U) → X mL_areRanks 99 [xR (0, 0, 0), xR (50, 0, 0), xI 0, xI (n : Int), xI t, xR (99, 0, 0), xI i, xR (53, b, 0), xR (55, d, 0), xI (k : Int), none, none] [] (hp U) kc ks (pP C) := by
  intro nn
  induction nn with
  | zero => intro U k kc ks hm hk hkk eU hU; exfalso; omega
  | succ nn ih =>
    intro U k kc ks hm hk hkk eU hU
    have hC := hW.1.1
    have hC6 : C.1 (0, 0, 0) 6 = 1 := hW.1.2.2.2.2.2.1
    have wU := hU.2.1.1.1
    have hz := wU.1
    have c9 := wf9_3 hC.1 (b := 0) (by decide) (by decide)
    have hn9 := hU.hn
    have x53 : U.2.2.2.1 53 = W.2.2.2.1 53 := by rw [eU.2.2]
    have x55 : U.2.2.2.1 55 = W.2.2.2.1 55 := by rw [eU.2.2]
    refine x_iload dL_areRanks_99 rfl ?_
    refine x_bipush (v := 6) dL_areRanks_101 (by decide) ?_
    refine x_icmp_ge (tgt := 260) dL_areRanks_103 (by decide) (by first | exact hz _ _ | exact hw.1 _ _ | exact zR_of _ | exact bI_z _ | assumption | exact ⟨by omega, by omega⟩) ⟨by decide, by decide⟩ (fun c103 => ?_) (fun c103 => ?_)
    · refine x_iconst dL_areRanks_260 ?_
      exact x_zret dL_areRanks_261 rfl (Or.inr rfl) ⟨rfl, U, rfl, hU⟩
    · refine x_iload dL_areRanks_106 rfl ?_
      refine x_iconst dL_areRanks_108 ?_
      refine x_icmp_ge (tgt := 127) dL_areRanks_109 (by decide) (by first | exact hz _ _ | exact hw.1 _ _ | exact zR_of _ | exact bI_z _ | assumption | exact ⟨by omega, by omega⟩) ⟨by decide, by decide⟩ (fun c109 => ?_) (fun c109 => ?_)
      · refine x_bipush (v := 64) dL_areRanks_127 (by decide) ?_
        refine x_aload dL_areRanks_129 rfl ?_
        refine x_iload dL_areRanks_131 rfl ?_
        refine x_iload dL_areRanks_133 rfl ?_
        refine x_iadd dL_areRanks_135 ?_
        refine x_bipush (v := 6) dL_areRanks_136 (by decide) ?_
        refine x_callS (a := 0) (b := 0) (as := [xR (99, 0, 0), xI (i + (k : Int)), xI 6]) (rest := [xI 64]) ok_L_in dL_areRanks_138 wd824 wd825 (c_in U wU hn9 (i + (k : Int)) 6 (by omega) (by omega) (by omega) (by omega)) rfl (Nat.le_of_ble_eq_true rfl) (Nat.le_of_ble_eq_true rfl) (by decide) (by omega) (by omega) (fun _ q => by obtain ⟨_, _, q, _⟩ := q; cases q) (fun _ _ q => ?_) (fun _ _ q => by obtain ⟨_, _, q, _⟩ := q; cases q)
        obtain ⟨v138, hv138, y, rfl⟩ := q
        cases y
        refine x_imul dL_areRanks_141 ?_
        refine x_bipush (v := 8) dL_areRanks_142 (by decide) ?_
        refine x_aload dL_areRanks_144 rfl ?_
        refine x_iload dL_areRanks_146 rfl ?_
        refine x_iload dL_areRanks_148 rfl ?_
        refine x_iadd dL_areRanks_150 ?_
        refine x_iconst dL_areRanks_151 ?_
        refine x_iadd dL_areRanks_152 ?_
        refine x_iconst dL_areRanks_153 ?_
        refine x_callS (a := 0) (b := 0) (as := [xR (99, 0, 0), xI ((i + (k : Int)) + 1), xI 4]) (rest := [xI 8, xI (64 * v138)]) ok_L_in dL_areRanks_154 wd824 wd825 (c_in U wU hn9 ((i + (k : Int)) + 1) 4 (by omega) (by omega) (by omega) (by omega)) rfl (Nat.le_of_ble_eq_true rfl) (Nat.le_of_ble_eq_true rfl) (by decide) (by omega) (by omega) (fun _ q => by obtain ⟨_, _, q, _⟩ := q; cases q) (fun _ _ q => ?_) (fun _ _ q => by obtain ⟨_, _, q, _⟩ := q; cases q)
        obtain ⟨v154, hv154, y, rfl⟩ := q
        cases y
        refine x_imul dL_areRanks_157 ?_
        refine x_iadd dL_areRanks_158 ?_
        refine x_aload dL_areRanks_159 rfl ?_
        refine x_iload dL_areRanks_161 rfl ?_
        refine x_iload dL_areRanks_163 rfl ?_
        refine x_iadd dL_areRanks_165 ?_
        refine x_iconst dL_areRanks_166 ?_
        refine x_iadd dL_areRanks_167 ?_
        refine x_iconst dL_areRanks_168 ?_
        refine x_callS (a := 0) (b := 0) (as := [xR (99, 0, 0), xI ((i + (k : Int)) + 2), xI 4]) (rest := [xI ((64 * v138) + (8 * v154))]) ok_L_in dL_areRanks_169 wd824 wd825 (c_in U wU hn9 ((i + (k : Int)) + 2) 4 (by omega) (by omega) (by omega) (by omega)) rfl (Nat.le_of_ble_eq_true rfl) (Nat.le_of_ble_eq_true rfl) (by decide) (by omega) (by omega) (fun _ q => by obtain ⟨_, _, q, _⟩ := q; cases q) (fun _ _ q => ?_) (fun _ _ q => by obtain ⟨_, _, q, _⟩ := q; cases q)
        obtain ⟨v169, hv169, y, rfl⟩ := q
        cases y
        refine x_iadd dL_areRanks_172 ?_
        refine x_istore (L' := [xR (0, 0, 0), xR (50, 0, 0), xI 0, xI (n : Int), xI t, xR (99, 0, 0), xI i, xR (53, b, 0), xR (55, d, 0), xI (k : Int), xI (((64 * v138) + (8 * v154)) + v169), none]) dL_areRanks_173 (by decide) rfl ?_
        have hx0 : 0 ≤ (((64 * v138) + (8 * v154)) + v169) ∧ (((64 * v138) + (8 * v154)) + v169) < 384 := by omega
        have hbx := (hF.hb hC (b := 0) (by omega) (by omega) hn (q := (((64 * v138) + (8 * v154)) + v169)) (by omega) (by omega)).1
        refine x_aload dL_areRanks_175 rfl ?_
        refine x_iload dL_areRanks_177 rfl ?_
        refine x_aldi (f := U.1 (53, b, 0)) dL_areRanks_179 (hp53 U (by omega) (by omega)) (show (53 : Nat) ≠ 99 by decide) (by omega) (by omega) (by decide) ?_
        have f179_1 := wfa53 wU (S := U) (b := b) (by omega) (by omega) (((64 * v138) + (8 * v154)) + v169)
        refine x_top (show U.1 (53, b, 0) (((64 * v138) + (8 * v154)) + v169) = W.1 (53, b, 0) (((64 * v138) + (8 * v154)) + v169) from by rw [eU.1 (53, b, 0) rfl]) ?_
        have rg := wfa53 hW.2.1.1.1 b0 bW (((64 * v138) + (8 * v154)) + v169)
        refine x_sipush (v := 999) dL_areRanks_180 (by decide) ?_
        refine x_icmp_ge (tgt := 190) dL_areRanks_183 (by decide) (by first | exact hz _ _ | exact hw.1 _ _ | exact zR_of _ | exact bI_z _ | assumption | exact ⟨by omega, by omega⟩) ⟨by decide, by decide⟩ (fun c183 => ?_) (fun c183 => ?_)
        · refine x_iconst dL_areRanks_190 ?_
          refine x_istore (L' := [xR (0, 0, 0), xR (50, 0, 0), xI 0, xI (n : Int), xI t, xR (99, 0, 0), xI i, xR (53, b, 0), xR (55, d, 0), xI (k : Int), xI (((64 * v138) + (8 * v154)) + v169), xI 0]) dL_areRanks_191 (by decide) rfl ?_
          refine x_aload_n dL_areRanks_193 rfl ?_
          refine x_iload_n dL_areRanks_194 rfl ?_
          refine x_iload_n dL_areRanks_195 rfl ?_
          refine x_iload dL_areRanks_196 rfl ?_
          refine x_iload dL_areRanks_198 rfl ?_
          refine x_callSH (a := 6) (b := 36) (as := [xR (0, 0, 0), xI 0, xI (n : Int), xI t, xI (((64 * v138) + (8 * v154)) + v169)]) (rest := []) ok_L_holds dL_areRanks_200 wd802 wd803 ((by have k9 := k_holds C U hU.2.1 hU.2.2.1 n hn t t0 t1 (((64 * v138) + (8 * v154)) + v169) (by omega) (by omega); rw [bI_f (fun z => by have := hbx.mpr z; omega)] at k9; exact k9)) rfl (Nat.le_of_ble_eq_true rfl) (Nat.le_of_ble_eq_true rfl) (by decide) (by omega) (by omega) (fun _ q => by cases q.1) (fun _ _ q => ?_) (fun _ _ q => by cases q.1)
          obtain ⟨yy, Q200, rfl, z200, zb200, -⟩ := q
          cases yy
          have eQ200 := eU.tr z200
          have hQ200 := hU.q z200 zb200
          have x53Q200 : Q200.2.2.2.1 53 = W.2.2.2.1 53 := by rw [eQ200.2.2]
          have x55Q200 : Q200.2.2.2.1 55 = W.2.2.2.1 55 := by rw [eQ200.2.2]
          refine x_iload dL_areRanks_203 rfl ?_
          refine x_icmp_ne (tgt := 252) dL_areRanks_205 (by decide) ⟨by decide, by decide⟩ ⟨by decide, by decide⟩ (fun z => absurd z (by decide)) (fun _ => ?_)
          refine x_aload_n dL_areRanks_208 rfl ?_
          refine x_iload_n dL_areRanks_209 rfl ?_
          refine x_iload_n dL_areRanks_210 rfl ?_
          refine x_iload dL_areRanks_211 rfl ?_
          refine x_iload dL_areRanks_213 rfl ?_
          refine x_callSH (a := 6) (b := 36) (as := [xR (0, 0, 0), xI 0, xI (n : Int), xI t, xI (((64 * v138) + (8 * v154)) + v169)]) (rest := []) ok_L_holdsAnew dL_areRanks_215 wd882 wd883 ((by have k9 := k_holdsAnew C Q200 hQ200.2.1 hQ200.2.2.1 n hn t t0 t1 (((64 * v138) + (8 * v154)) + v169) (by omega) (by omega); rw [bI_f (fun z => by have := hbx.mpr z; omega)] at k9; exact k9)) rfl (Nat.le_of_ble_eq_true rfl) (Nat.le_of_ble_eq_true rfl) (by decide) (by omega) (by omega) (fun _ q => by cases q.1) (fun _ _ q => ?_) (fun _ _ q => by cases q.1)
          obtain ⟨yy, Q215, rfl, z215, zb215, -⟩ := q
          cases yy
          have eQ215 := eQ200.tr z215
          have hQ215 := hQ200.q z215 zb215
          have x53Q215 : Q215.2.2.2.1 53 = W.2.2.2.1 53 := by rw [eQ215.2.2]
          have x55Q215 : Q215.2.2.2.1 55 = W.2.2.2.1 55 := by rw [eQ215.2.2]
          refine x_iload dL_areRanks_218 rfl ?_
          refine x_icmp_ne (tgt := 252) dL_areRanks_220 (by decide) ⟨by decide, by decide⟩ ⟨by decide, by decide⟩ (fun z => absurd z (by decide)) (fun _ => ?_)
          refine x_aload_n dL_areRanks_223 rfl ?_
          refine x_iload_n dL_areRanks_224 rfl ?_
          refine x_iload_n dL_areRanks_225 rfl ?_
          refine x_iload dL_areRanks_226 rfl ?_
          refine x_iload dL_areRanks_228 rfl ?_
          refine x_callSH (a := 6) (b := 36) (as := [xR (0, 0, 0), xI 0, xI (n : Int), xI t, xI (((64 * v138) + (8 * v154)) + v169)]) (rest := []) ok_L_rank dL_areRanks_230 wd733 wd734 (k_rank0 C Q215 hQ215.2.1 hQ215.2.2.1 n hn t t0 t1 (((64 * v138) + (8 * v154)) + v169) (by omega) (by omega) (by rw [Int.toNat_natCast, hQ215.2.2.1.hBq, bI_f (fun z => by have := hbx.mpr z; omega)]; decide)) rfl (Nat.le_of_ble_eq_true rfl) (Nat.le_of_ble_eq_true rfl) (by decide) (by omega) (by omega) (fun _ q => by cases q.1) (fun _ _ q => ?_) (fun _ _ q => by cases q.1)
          obtain ⟨yy, Q230, rfl, z230, zb230, -⟩ := q
          cases yy
          have eQ230 := eQ215.tr z230
          have hQ230 := hQ215.q z230 zb230
          have x53Q230 : Q230.2.2.2.1 53 = W.2.2.2.1 53 := by rw [eQ230.2.2]
          have x55Q230 : Q230.2.2.2.1 55 = W.2.2.2.1 55 := by rw [eQ230.2.2]
          refine x_iload dL_areRanks_233 rfl ?_
          refine x_iconst dL_areRanks_235 ?_
          refine x_icmp_ne (tgt := 247) dL_areRanks_236 (by decide) ⟨by decide, by decide⟩ ⟨by decide, by decide⟩ (fun _ => ?_) (fun z => absurd z (by decide))
          refine x_ldc (v := (-900003)) dL_areRanks_247 wd628 ?_
          refine x_icmp_eq (tgt := 254) dL_areRanks_249 (by decide) ⟨by decide, by decide⟩ ⟨by decide, by decide⟩ (fun _ => ?_) (fun z => absurd z (by decide))
          refine x_iinc (L' := [xR (0, 0, 0), xR (50, 0, 0), xI 0, xI (n : Int), xI t, xR (99, 0, 0), xI i, xR (53, b, 0), xR (55, d, 0), xI ((k : Int) + 1), xI (((64 * v138) + (8 * v154)) + v169), xI 0]) dL_areRanks_254 rfl rfl ?_
          refine x_goto (tgt := 99) dL_areRanks_257 (by decide) ?_
          refine X.loc (L' := [xR (0, 0, 0), xR (50, 0, 0), xI 0, xI (n : Int), xI t, xR (99, 0, 0), xI i, xR (53, b, 0), xR (55, d, 0), xI ((k : Int) + 1), none, none]) ⟨rfl, ⟨rfl, ⟨rfl, ⟨rfl, ⟨rfl, ⟨rfl, ⟨rfl, ⟨rfl, ⟨rfl, ⟨rfl, trivial⟩⟩⟩⟩⟩⟩⟩⟩⟩⟩ ?_
          exact ih Q230 (k + 1) (kc - 6 - 6 - 6) (ks - 36 - 36 - 36) (by omega) (by omega) (by omega) eQ230 hQ230
        · refine x_iconst dL_areRanks_186 ?_
          refine x_goto (tgt := 191) dL_areRanks_187 (by decide) ?_
          refine x_istore (L' := [xR (0, 0, 0), xR (50, 0, 0), xI 0, xI (n : Int), xI t, xR (99, 0, 0), xI i, xR (53, b, 0), xR (55, d, 0), xI (k : Int), xI (((64 * v138) + (8 * v154)) + v169), xI 1]) dL_areRanks_191 (by decide) rfl ?_
          refine x_aload_n dL_areRanks_193 rfl ?_
          refine x_iload_n dL_areRanks_194 rfl ?_
          refine x_iload_n dL_areRanks_195 rfl ?_
          refine x_iload dL_areRanks_196 rfl ?_
          refine x_iload dL_areRanks_198 rfl ?_
          refine x_callSH (a := 6) (b := 36) (as := [xR (0, 0, 0), xI 0, xI (n : Int), xI t, xI (((64 * v138) + (8 * v154)) + v169)]) (rest := []) ok_L_holds dL_areRanks_200 wd802 wd803 ((by have k9 := k_holds C U hU.2.1 hU.2.2.1 n hn t t0 t1 (((64 * v138) + (8 * v154)) + v169) (by omega) (by omega); rw [bI_t (hbx.mp (by omega))] at k9; exact k9)) rfl (Nat.le_of_ble_eq_true rfl) (Nat.le_of_ble_eq_true rfl) (by decide) (by omega) (by omega) (fun _ q => by cases q.1) (fun _ _ q => ?_) (fun _ _ q => by cases q.1)
          obtain ⟨yy, Q200, rfl, z200, zb200, -⟩ := q
          cases yy
          have eQ200 := eU.tr z200
          have hQ200 := hU.q z200 zb200
          have x53Q200 : Q200.2.2.2.1 53 = W.2.2.2.1 53 := by rw [eQ200.2.2]
          have x55Q200 : Q200.2.2.2.1 55 = W.2.2.2.1 55 := by rw [eQ200.2.2]
          refine x_iload dL_areRanks_203 rfl ?_
          refine x_icmp_ne (tgt := 252) dL_areRanks_205 (by decide) ⟨by decide, by decide⟩ ⟨by decide, by decide⟩ (fun z => absurd z (by decide)) (fun _ => ?_)
          refine x_aload_n dL_areRanks_208 rfl ?_
          refine x_iload_n dL_areRanks_209 rfl ?_
          refine x_iload_n dL_areRanks_210 rfl ?_
          refine x_iload dL_areRanks_211 rfl ?_
          refine x_iload dL_areRanks_213 rfl ?_
          refine x_callSH (a := 6) (b := 36) (as := [xR (0, 0, 0), xI 0, xI (n : Int), xI t, xI (((64 * v138) + (8 * v154)) + v169)]) (rest := []) ok_L_holdsAnew dL_areRanks_215 wd882 wd883 ((by have k9 := k_holdsAnew C Q200 hQ200.2.1 hQ200.2.2.1 n hn t t0 t1 (((64 * v138) + (8 * v154)) + v169) (by omega) (by omega); rw [bI_t (hbx.mp (by omega))] at k9; exact k9)) rfl (Nat.le_of_ble_eq_true rfl) (Nat.le_of_ble_eq_true rfl) (by decide) (by omega) (by omega) (fun _ q => by cases q.1) (fun _ _ q => ?_) (fun _ _ q => by cases q.1)
          obtain ⟨yy, Q215, rfl, z215, zb215, -⟩ := q
          cases yy
          have eQ215 := eQ200.tr z215
          have hQ215 := hQ200.q z215 zb215
          have x53Q215 : Q215.2.2.2.1 53 = W.2.2.2.1 53 := by rw [eQ215.2.2]
          have x55Q215 : Q215.2.2.2.1 55 = W.2.2.2.1 55 := by rw [eQ215.2.2]
          refine x_iload dL_areRanks_218 rfl ?_
          refine x_icmp_ne (tgt := 252) dL_areRanks_220 (by decide) ⟨by decide, by decide⟩ ⟨by decide, by decide⟩ (fun z => absurd z (by decide)) (fun _ => ?_)
          refine x_aload_n dL_areRanks_223 rfl ?_
          refine x_iload_n dL_areRanks_224 rfl ?_
          refine x_iload_n dL_areRanks_225 rfl ?_
          refine x_iload dL_areRanks_226 rfl ?_
          refine x_iload dL_areRanks_228 rfl ?_
          refine x_callSH (a := 6) (b := 36) (as := [xR (0, 0, 0), xI 0, xI (n : Int), xI t, xI (((64 * v138) + (8 * v154)) + v169)]) (rest := []) ok_L_rank dL_areRanks_230 wd733 wd734 (k_rank1 C Q215 hQ215.2.1 hQ215.2.2.1 n hn t t0 t1 (((64 * v138) + (8 * v154)) + v169) (by omega) (by omega) (W.1 (53, b, 0)) hF hC hC6 (by omega) (by rw [Int.toNat_natCast, hQ215.2.2.1.hBq]; exact bI_t (hbx.mp (by omega)))) rfl (Nat.le_of_ble_eq_true rfl) (Nat.le_of_ble_eq_true rfl) (by decide) (by omega) (by omega) (fun _ q => by cases q.1) (fun _ _ q => ?_) (fun _ _ q => by cases q.1)
          obtain ⟨yy, Q230, rfl, z230, zb230, -⟩ := q
          cases yy
          have eQ230 := eQ215.tr z230
          have hQ230 := hQ215.q z230 zb230
          have x53Q230 : Q230.2.2.2.1 53 = W.2.2.2.1 53 := by rw [eQ230.2.2]
          have x55Q230 : Q230.2.2.2.1 55 = W.2.2.2.1 55 := by rw [eQ230.2.2]
          refine x_iload dL_areRanks_233 rfl ?_
          refine x_iconst dL_areRanks_235 ?_
          refine x_icmp_ne (tgt := 247) dL_areRanks_236 (by decide) ⟨by decide, by decide⟩ ⟨by decide, by decide⟩ (fun z => absurd z (by decide)) (fun _ => ?_)
          refine x_aload dL_areRanks_239 rfl ?_
          refine x_iload dL_areRanks_241 rfl ?_
          refine x_aldi (f := Q230.1 (53, b, 0)) dL_areRanks_243 (hp53 Q230 (by omega) (by omega)) (show (53 : Nat) ≠ 99 by decide) (by omega) (by omega) (by decide) ?_
          have f243_2 := wfa53 hQ230.2.1.1.1 (S := Q230) (b := b) (by omega) (by omega) (((64 * v138) + (8 * v154)) + v169)
          refine x_top (show Q230.1 (53, b, 0) (((64 * v138) + (8 * v154)) + v169) = W.1 (53, b, 0) (((64 * v138) + (8 * v154)) + v169) from by rw [eQ230.1 (53, b, 0) rfl]) ?_
          have rg := wfa53 hW.2.1.1.1 b0 bW (((64 * v138) + (8 * v154)) + v169)
          refine x_goto (tgt := 249) dL_areRanks_244 (by decide) ?_
          refine x_icmp_eq (tgt := 254) dL_areRanks_249 (by decide) (by first | exact hz _ _ | exact hw.1 _ _ | exact zR_of _ | exact bI_z _ | assumption | exact ⟨by omega, by omega⟩) (by first | exact hz _ _ | exact hw.1 _ _ | exact zR_of _ | exact bI_z _ | assumption | exact ⟨by omega, by omega⟩) (fun c249 => ?_) (fun c249 => by exfalso; omega)
          refine x_iinc (L' := [xR (0, 0, 0), xR (50, 0, 0), xI 0, xI (n : Int), xI t, xR (99, 0, 0), xI i, xR (53, b, 0), xR (55, d, 0), xI ((k : Int) + 1), xI (((64 * v138) + (8 * v154)) + v169), xI 1]) dL_areRanks_254 rfl rfl ?_
          refine x_goto (tgt := 99) dL_areRanks_257 (by decide) ?_
          refine X.loc (L' := [xR (0, 0, 0), xR (50, 0, 0), xI 0, xI (n : Int), xI t, xR (99, 0, 0), xI i, xR (53, b, 0), xR (55, d, 0), xI ((k : Int) + 1), none, none]) ⟨rfl, ⟨rfl, ⟨rfl, ⟨rfl, ⟨rfl, ⟨rfl, ⟨rfl, ⟨rfl, ⟨rfl, ⟨rfl, trivial⟩⟩⟩⟩⟩⟩⟩⟩⟩⟩ ?_
          exact ih Q230 (k + 1) (kc - 6 - 6 - 6) (ks - 36 - 36 - 36) (by omega) (by omega) (by omega) eQ230 hQ230
      · refine x_aload dL_areRanks_112 rfl ?_
        refine x_iload dL_areRanks_114 rfl ?_
        refine x_iconst dL_areRanks_116 ?_
        refine x_iload dL_areRanks_117 rfl ?_
        refine x_imul dL_areRanks_119 ?_
        refine x_iadd dL_areRanks_120 ?_
        refine x_callS (a := 0) (b := 0) (as := [xR (99, 0, 0), xI (i + (3 * (k : Int)))]) (rest := []) ok_L_anyFact dL_areRanks_121 wd852 wd853 (c_anyFact U wU hn9 (i + (3 * (k : Int))) (by omega) (by omega)) rfl (Nat.le_of_ble_eq_true rfl) (Nat.le_of_ble_eq_true rfl) (by decide) (by omega) (by omega) (fun _ q => by obtain ⟨_, _, q, _⟩ := q; cases q) (fun _ _ q => ?_) (fun _ _ q => by obtain ⟨_, _, q, _⟩ := q; cases q)
        obtain ⟨v121, hv121, y, rfl⟩ := q
        cases y
        refine x_goto (tgt := 173) dL_areRanks_124 (by decide) ?_
        refine x_istore (L' := [xR (0, 0, 0), xR (50, 0, 0), xI 0, xI (n : Int), xI t, xR (99, 0, 0), xI i, xR (53, b, 0), xR (55, d, 0), xI (k : Int), xI v121, none]) dL_areRanks_173 (by decide) rfl ?_
        have hx0 : 0 ≤ v121 ∧ v121 < 384 := by omega
        have hbx := (hF.hb hC (b := 0) (by omega) (by omega) hn (q := v121) (by omega) (by omega)).1
        refine x_aload dL_areRanks_175 rfl ?_
        refine x_iload dL_areRanks_177 rfl ?_
        refine x_aldi (f := U.1 (53, b, 0)) dL_areRanks_179 (hp53 U (by omega) (by omega)) (show (53 : Nat) ≠ 99 by decide) (by omega) (by omega) (by decide) ?_
        have f179_3 := wfa53 wU (S := U) (b := b) (by omega) (by omega) v121
        refine x_top (show U.1 (53, b, 0) v121 = W.1 (53, b, 0) v121 from by rw [eU.1 (53, b, 0) rfl]) ?_
        have rg := wfa53 hW.2.1.1.1 b0 bW v121
        refine x_sipush (v := 999) dL_areRanks_180 (by decide) ?_
        refine x_icmp_ge (tgt := 190) dL_areRanks_183 (by decide) (by first | exact hz _ _ | exact hw.1 _ _ | exact zR_of _ | exact bI_z _ | assumption | exact ⟨by omega, by omega⟩) ⟨by decide, by decide⟩ (fun c183 => ?_) (fun c183 => ?_)
        · refine x_iconst dL_areRanks_190 ?_
          refine x_istore (L' := [xR (0, 0, 0), xR (50, 0, 0), xI 0, xI (n : Int), xI t, xR (99, 0, 0), xI i, xR (53, b, 0), xR (55, d, 0), xI (k : Int), xI v121, xI 0]) dL_areRanks_191 (by decide) rfl ?_
          refine x_aload_n dL_areRanks_193 rfl ?_
          refine x_iload_n dL_areRanks_194 rfl ?_
          refine x_iload_n dL_areRanks_195 rfl ?_
          refine x_iload dL_areRanks_196 rfl ?_
          refine x_iload dL_areRanks_198 rfl ?_
          refine x_callSH (a := 6) (b := 36) (as := [xR (0, 0, 0), xI 0, xI (n : Int), xI t, xI v121]) (rest := []) ok_L_holds dL_areRanks_200 wd802 wd803 ((by have k9 := k_holds C U hU.2.1 hU.2.2.1 n hn t t0 t1 v121 (by omega) (by omega); rw [bI_f (fun z => by have := hbx.mpr z; omega)] at k9; exact k9)) rfl (Nat.le_of_ble_eq_true rfl) (Nat.le_of_ble_eq_true rfl) (by decide) (by omega) (by omega) (fun _ q => by cases q.1) (fun _ _ q => ?_) (fun _ _ q => by cases q.1)
          obtain ⟨yy, Q200, rfl, z200, zb200, -⟩ := q
          cases yy
          have eQ200 := eU.tr z200
          have hQ200 := hU.q z200 zb200
          have x53Q200 : Q200.2.2.2.1 53 = W.2.2.2.1 53 := by rw [eQ200.2.2]
          have x55Q200 : Q200.2.2.2.1 55 = W.2.2.2.1 55 := by rw [eQ200.2.2]
          refine x_iload dL_areRanks_203 rfl ?_
          refine x_icmp_ne (tgt := 252) dL_areRanks_205 (by decide) ⟨by decide, by decide⟩ ⟨by decide, by decide⟩ (fun z => absurd z (by decide)) (fun _ => ?_)
          refine x_aload_n dL_areRanks_208 rfl ?_
          refine x_iload_n dL_areRanks_209 rfl ?_
          refine x_iload_n dL_areRanks_210 rfl ?_
          refine x_iload dL_areRanks_211 rfl ?_
          refine x_iload dL_areRanks_213 rfl ?_
          refine x_callSH (a := 6) (b := 36) (as := [xR (0, 0, 0), xI 0, xI (n : Int), xI t, xI v121]) (rest := []) ok_L_holdsAnew dL_areRanks_215 wd882 wd883 ((by have k9 := k_holdsAnew C Q200 hQ200.2.1 hQ200.2.2.1 n hn t t0 t1 v121 (by omega) (by omega); rw [bI_f (fun z => by have := hbx.mpr z; omega)] at k9; exact k9)) rfl (Nat.le_of_ble_eq_true rfl) (Nat.le_of_ble_eq_true rfl) (by decide) (by omega) (by omega) (fun _ q => by cases q.1) (fun _ _ q => ?_) (fun _ _ q => by cases q.1)
          obtain ⟨yy, Q215, rfl, z215, zb215, -⟩ := q
          cases yy
          have eQ215 := eQ200.tr z215
          have hQ215 := hQ200.q z215 zb215
          have x53Q215 : Q215.2.2.2.1 53 = W.2.2.2.1 53 := by rw [eQ215.2.2]
          have x55Q215 : Q215.2.2.2.1 55 = W.2.2.2.1 55 := by rw [eQ215.2.2]
          refine x_iload dL_areRanks_218 rfl ?_
          refine x_icmp_ne (tgt := 252) dL_areRanks_220 (by decide) ⟨by decide, by decide⟩ ⟨by decide, by decide⟩ (fun z => absurd z (by decide)) (fun _ => ?_)
          refine x_aload_n dL_areRanks_223 rfl ?_
          refine x_iload_n dL_areRanks_224 rfl ?_
          refine x_iload_n dL_areRanks_225 rfl ?_
          refine x_iload dL_areRanks_226 rfl ?_
          refine x_iload dL_areRanks_228 rfl ?_
          refine x_callSH (a := 6) (b := 36) (as := [xR (0, 0, 0), xI 0, xI (n : Int), xI t, xI v121]) (rest := []) ok_L_rank dL_areRanks_230 wd733 wd734 (k_rank0 C Q215 hQ215.2.1 hQ215.2.2.1 n hn t t0 t1 v121 (by omega) (by omega) (by rw [Int.toNat_natCast, hQ215.2.2.1.hBq, bI_f (fun z => by have := hbx.mpr z; omega)]; decide)) rfl (Nat.le_of_ble_eq_true rfl) (Nat.le_of_ble_eq_true rfl) (by decide) (by omega) (by omega) (fun _ q => by cases q.1) (fun _ _ q => ?_) (fun _ _ q => by cases q.1)
          obtain ⟨yy, Q230, rfl, z230, zb230, -⟩ := q
          cases yy
          have eQ230 := eQ215.tr z230
          have hQ230 := hQ215.q z230 zb230
          have x53Q230 : Q230.2.2.2.1 53 = W.2.2.2.1 53 := by rw [eQ230.2.2]
          have x55Q230 : Q230.2.2.2.1 55 = W.2.2.2.1 55 := by rw [eQ230.2.2]
          refine x_iload dL_areRanks_233 rfl ?_
          refine x_iconst dL_areRanks_235 ?_
          refine x_icmp_ne (tgt := 247) dL_areRanks_236 (by decide) ⟨by decide, by decide⟩ ⟨by decide, by decide⟩ (fun _ => ?_) (fun z => absurd z (by decide))
          refine x_ldc (v := (-900003)) dL_areRanks_247 wd628 ?_
          refine x_icmp_eq (tgt := 254) dL_areRanks_249 (by decide) ⟨by decide, by decide⟩ ⟨by decide, by decide⟩ (fun _ => ?_) (fun z => absurd z (by decide))
          refine x_iinc (L' := [xR (0, 0, 0), xR (50, 0, 0), xI 0, xI (n : Int), xI t, xR (99, 0, 0), xI i, xR (53, b, 0), xR (55, d, 0), xI ((k : Int) + 1), xI v121, xI 0]) dL_areRanks_254 rfl rfl ?_
          refine x_goto (tgt := 99) dL_areRanks_257 (by decide) ?_
          refine X.loc (L' := [xR (0, 0, 0), xR (50, 0, 0), xI 0, xI (n : Int), xI t, xR (99, 0, 0), xI i, xR (53, b, 0), xR (55, d, 0), xI ((k : Int) + 1), none, none]) ⟨rfl, ⟨rfl, ⟨rfl, ⟨rfl, ⟨rfl, ⟨rfl, ⟨rfl, ⟨rfl, ⟨rfl, ⟨rfl, trivial⟩⟩⟩⟩⟩⟩⟩⟩⟩⟩ ?_
          exact ih Q230 (k + 1) (kc - 6 - 6 - 6) (ks - 36 - 36 - 36) (by omega) (by omega) (by omega) eQ230 hQ230
        · refine x_iconst dL_areRanks_186 ?_
          refine x_goto (tgt := 191) dL_areRanks_187 (by decide) ?_
          refine x_istore (L' := [xR (0, 0, 0), xR (50, 0, 0), xI 0, xI (n : Int), xI t, xR (99, 0, 0), xI i, xR (53, b, 0), xR (55, d, 0), xI (k : Int), xI v121, xI 1]) dL_areRanks_191 (by decide) rfl ?_
          refine x_aload_n dL_areRanks_193 rfl ?_
          refine x_iload_n dL_areRanks_194 rfl ?_
          refine x_iload_n dL_areRanks_195 rfl ?_
          refine x_iload dL_areRanks_196 rfl ?_
          refine x_iload dL_areRanks_198 rfl ?_
          refine x_callSH (a := 6) (b := 36) (as := [xR (0, 0, 0), xI 0, xI (n : Int), xI t, xI v121]) (rest := []) ok_L_holds dL_areRanks_200 wd802 wd803 ((by have k9 := k_holds C U hU.2.1 hU.2.2.1 n hn t t0 t1 v121 (by omega) (by omega); rw [bI_t (hbx.mp (by omega))] at k9; exact k9)) rfl (Nat.le_of_ble_eq_true rfl) (Nat.le_of_ble_eq_true rfl) (by decide) (by omega) (by omega) (fun _ q => by cases q.1) (fun _ _ q => ?_) (fun _ _ q => by cases q.1)
          obtain ⟨yy, Q200, rfl, z200, zb200, -⟩ := q
          cases yy
          have eQ200 := eU.tr z200
          have hQ200 := hU.q z200 zb200
          have x53Q200 : Q200.2.2.2.1 53 = W.2.2.2.1 53 := by rw [eQ200.2.2]
          have x55Q200 : Q200.2.2.2.1 55 = W.2.2.2.1 55 := by rw [eQ200.2.2]
          refine x_iload dL_areRanks_203 rfl ?_
          refine x_icmp_ne (tgt := 252) dL_areRanks_205 (by decide) ⟨by decide, by decide⟩ ⟨by decide, by decide⟩ (fun z => absurd z (by decide)) (fun _ => ?_)
          refine x_aload_n dL_areRanks_208 rfl ?_
          refine x_iload_n dL_areRanks_209 rfl ?_
          refine x_iload_n dL_areRanks_210 rfl ?_
          refine x_iload dL_areRanks_211 rfl ?_
          refine x_iload dL_areRanks_213 rfl ?_
          refine x_callSH (a := 6) (b := 36) (as := [xR (0, 0, 0), xI 0, xI (n : Int), xI t, xI v121]) (rest := []) ok_L_holdsAnew dL_areRanks_215 wd882 wd883 ((by have k9 := k_holdsAnew C Q200 hQ200.2.1 hQ200.2.2.1 n hn t t0 t1 v121 (by omega) (by omega); rw [bI_t (hbx.mp (by omega))] at k9; exact k9)) rfl (Nat.le_of_ble_eq_true rfl) (Nat.le_of_ble_eq_true rfl) (by decide) (by omega) (by omega) (fun _ q => by cases q.1) (fun _ _ q => ?_) (fun _ _ q => by cases q.1)
          obtain ⟨yy, Q215, rfl, z215, zb215, -⟩ := q
          cases yy
          have eQ215 := eQ200.tr z215
          have hQ215 := hQ200.q z215 zb215
          have x53Q215 : Q215.2.2.2.1 53 = W.2.2.2.1 53 := by rw [eQ215.2.2]
          have x55Q215 : Q215.2.2.2.1 55 = W.2.2.2.1 55 := by rw [eQ215.2.2]
          refine x_iload dL_areRanks_218 rfl ?_
          refine x_icmp_ne (tgt := 252) dL_areRanks_220 (by decide) ⟨by decide, by decide⟩ ⟨by decide, by decide⟩ (fun z => absurd z (by decide)) (fun _ => ?_)
          refine x_aload_n dL_areRanks_223 rfl ?_
          refine x_iload_n dL_areRanks_224 rfl ?_
          refine x_iload_n dL_areRanks_225 rfl ?_
          refine x_iload dL_areRanks_226 rfl ?_
          refine x_iload dL_areRanks_228 rfl ?_
          refine x_callSH (a := 6) (b := 36) (as := [xR (0, 0, 0), xI 0, xI (n : Int), xI t, xI v121]) (rest := []) ok_L_rank dL_areRanks_230 wd733 wd734 (k_rank1 C Q215 hQ215.2.1 hQ215.2.2.1 n hn t t0 t1 v121 (by omega) (by omega) (W.1 (53, b, 0)) hF hC hC6 (by omega) (by rw [Int.toNat_natCast, hQ215.2.2.1.hBq]; exact bI_t (hbx.mp (by omega)))) rfl (Nat.le_of_ble_eq_true rfl) (Nat.le_of_ble_eq_true rfl) (by decide) (by omega) (by omega) (fun _ q => by cases q.1) (fun _ _ q => ?_) (fun _ _ q => by cases q.1)
          obtain ⟨yy, Q230, rfl, z230, zb230, -⟩ := q
          cases yy
          have eQ230 := eQ215.tr z230
          have hQ230 := hQ215.q z230 zb230
          have x53Q230 : Q230.2.2.2.1 53 = W.2.2.2.1 53 := by rw [eQ230.2.2]
          have x55Q230 : Q230.2.2.2.1 55 = W.2.2.2.1 55 := by rw [eQ230.2.2]
          refine x_iload dL_areRanks_233 rfl ?_
          refine x_iconst dL_areRanks_235 ?_
          refine x_icmp_ne (tgt := 247) dL_areRanks_236 (by decide) ⟨by decide, by decide⟩ ⟨by decide, by decide⟩ (fun z => absurd z (by decide)) (fun _ => ?_)
          refine x_aload dL_areRanks_239 rfl ?_
          refine x_iload dL_areRanks_241 rfl ?_
          refine x_aldi (f := Q230.1 (53, b, 0)) dL_areRanks_243 (hp53 Q230 (by omega) (by omega)) (show (53 : Nat) ≠ 99 by decide) (by omega) (by omega) (by decide) ?_
          have f243_4 := wfa53 hQ230.2.1.1.1 (S := Q230) (b := b) (by omega) (by omega) v121
          refine x_top (show Q230.1 (53, b, 0) v121 = W.1 (53, b, 0) v121 from by rw [eQ230.1 (53, b, 0) rfl]) ?_
          have rg := wfa53 hW.2.1.1.1 b0 bW v121
          refine x_goto (tgt := 249) dL_areRanks_244 (by decide) ?_
          refine x_icmp_eq (tgt := 254) dL_areRanks_249 (by decide) (by first | exact hz _ _ | exact hw.1 _ _ | exact zR_of _ | exact bI_z _ | assumption | exact ⟨by omega, by omega⟩) (by first | exact hz _ _ | exact hw.1 _ _ | exact zR_of _ | exact bI_z _ | assumption | exact ⟨by omega, by omega⟩) (fun c249 => ?_) (fun c249 => by exfalso; omega)
          refine x_iinc (L' := [xR (0, 0, 0), xR (50, 0, 0), xI 0, xI (n : Int), xI t, xR (99, 0, 0), xI i, xR (53, b, 0), xR (55, d, 0), xI ((k : Int) + 1), xI v121, xI 1]) dL_areRanks_254 rfl rfl ?_
          refine x_goto (tgt := 99) dL_areRanks_257 (by decide) ?_
          refine X.loc (L' := [xR (0, 0, 0), xR (50, 0, 0), xI 0, xI (n : Int), xI t, xR (99, 0, 0), xI i, xR (53, b, 0), xR (55, d, 0), xI ((k : Int) + 1), none, none]) ⟨rfl, ⟨rfl, ⟨rfl, ⟨rfl, ⟨rfl, ⟨rfl, ⟨rfl, ⟨rfl, ⟨rfl, ⟨rfl, trivial⟩⟩⟩⟩⟩⟩⟩⟩⟩⟩ ?_
          exact ih Q230 (k + 1) (kc - 6 - 6 - 6) (ks - 36 - 36 - 36) (by omega) (by omega) (by omega) eQ230 hQ230
set_option maxHeartbeats 4000000 in
set_option maxRecDepth 100000 in
theorem l_arC2 (C W : XS) (hW : PH C W) (n : Nat) (hn : (n : Int) ≤ C.1 (9, 0, 0) 3) (t : Int) (t0 : 0 ≤ t) (t1 : t < 24) (i : Int) (i0 : 0 ≤ i) (i1 : i < 1000) (b d : Int) (b0 : 0 ≤ b) (bW : b < W.2.2.2.1 53) (d0 : 0 ≤ d) (dW : d < W.2.2.2.1 55) (hF : FinR C 0 n t (W.1 (53, b, 0))) (hcW : ∀ x : Nat, x < 6 → W.1 (55, d, 0) (x : Int) = fBits (hl C.1 0 n t (x : Int))) : ∀ (nn : Nat) (U : XS) (r : Nat) (kc ks : Nat), 7 - (r : Int) < (nn : Int) → (r ≤ 6) → (108 + 6 * (6 - r) ≤ kc ∧ 648 + 36 * (6 - r) ≤ ks) → (QEq W U) → (PH C U) → X mL_areRanks 63 [xR (0, 0, 0), xR (50, 0, 0), xI 0, xI (n : Int), xI t, xR (99, 0, 0), xI i, xR (53, b, 0), xR (55, d, 0), xI (r : Int), none, none] [] (hp U) kc ks (pP C) := by
  intro nn
  induction nn with
  | zero => intro U r kc ks hm hr6 hkk eU hU; exfalso; omega
  | succ nn ih =>
    intro U r kc ks hm hr6 hkk eU hU
    have hC := hW.1.1
    have hC6 : C.1 (0, 0, 0) 6 = 1 := hW.1.2.2.2.2.2.1
    have wU := hU.2.1.1.1
    have hz := wU.1
    have c9 := wf9_3 hC.1 (b := 0) (by decide) (by decide)
    have hn9 := hU.hn
    have x53 : U.2.2.2.1 53 = W.2.2.2.1 53 := by rw [eU.2.2]
    have x55 : U.2.2.2.1 55 = W.2.2.2.1 55 := by rw [eU.2.2]
    refine x_iload dL_areRanks_63 rfl ?_
    refine x_bipush (v := 6) dL_areRanks_65 (by decide) ?_
    refine x_icmp_ge (tgt := 96) dL_areRanks_67 (by decide) (by first | exact hz _ _ | exact hw.1 _ _ | exact zR_of _ | exact bI_z _ | assumption | exact ⟨by omega, by omega⟩) ⟨by decide, by decide⟩ (fun c67 => ?_) (fun c67 => ?_)
    · refine x_iconst dL_areRanks_96 ?_
      refine x_istore (L' := [xR (0, 0, 0), xR (50, 0, 0), xI 0, xI (n : Int), xI t, xR (99, 0, 0), xI i, xR (53, b, 0), xR (55, d, 0), xI 0, none, none]) dL_areRanks_97 (by decide) rfl ?_
      exact X.weak (l_arF C W hW n hn t t0 t1 i i0 i1 b d b0 bW d0 dW hF 8 U 0 108 648 (by omega) (by omega) (by omega) eU hU) (by omega) (by omega) (fun _ _ q => q)
    · refine x_aload_n dL_areRanks_70 rfl ?_
      refine x_iload_n dL_areRanks_71 rfl ?_
      refine x_iload_n dL_areRanks_72 rfl ?_
      refine x_iload dL_areRanks_73 rfl ?_
      refine x_iload dL_areRanks_75 rfl ?_
      have fr := fBits_64 (hl C.1 0 n t (r : Int))
      refine x_callSH (a := 6) (b := 36) (as := [xR (0, 0, 0), xI 0, xI (n : Int), xI t, xI (r : Int)]) (rest := []) ok_L_count dL_areRanks_77 wd717 wd718 (k_count C U hU.2.1 hU.2.2.1 n hn t t0 t1 (r : Int) (by omega) (by omega)) rfl (Nat.le_of_ble_eq_true rfl) (Nat.le_of_ble_eq_true rfl) (by decide) (by omega) (by omega) (fun _ q => by cases q.1) (fun _ _ q => ?_) (fun _ _ q => by cases q.1)
      obtain ⟨yy, Q77, rfl, z77, zb77, -⟩ := q
      cases yy
      have eQ77 := eU.tr z77
      have hQ77 := hU.q z77 zb77
      have x53Q77 : Q77.2.2.2.1 53 = W.2.2.2.1 53 := by rw [eQ77.2.2]
      have x55Q77 : Q77.2.2.2.1 55 = W.2.2.2.1 55 := by rw [eQ77.2.2]
      refine x_aload dL_areRanks_80 rfl ?_
      refine x_iload dL_areRanks_82 rfl ?_
      refine x_aldi (f := Q77.1 (55, d, 0)) dL_areRanks_84 (hp55 Q77 (by omega) (by omega)) (show (55 : Nat) ≠ 99 by decide) (by omega) (by omega) (by decide) ?_
      refine x_top (show Q77.1 (55, d, 0) (r : Int) = fBits (hl C.1 0 n t (r : Int)) from by rw [eQ77.1 (55, d, 0) rfl]; exact hcW r (by omega)) ?_
      refine x_icmp_eq (tgt := 90) dL_areRanks_85 (by decide) (by first | exact hz _ _ | exact hw.1 _ _ | exact zR_of _ | exact bI_z _ | assumption | exact ⟨by omega, by omega⟩) (by first | exact hz _ _ | exact hw.1 _ _ | exact zR_of _ | exact bI_z _ | assumption | exact ⟨by omega, by omega⟩) (fun c85 => ?_) (fun c85 => by exfalso; omega)
      refine x_iinc (L' := [xR (0, 0, 0), xR (50, 0, 0), xI 0, xI (n : Int), xI t, xR (99, 0, 0), xI i, xR (53, b, 0), xR (55, d, 0), xI ((r : Int) + 1), none, none]) dL_areRanks_90 rfl rfl ?_
      refine x_goto (tgt := 63) dL_areRanks_93 (by decide) ?_
      exact ih Q77 (r + 1) (kc - 6) (ks - 36) (by omega) (by omega) (by omega) eQ77 hQ77
set_option maxHeartbeats 4000000 in
set_option maxRecDepth 100000 in
theorem l_ar60 (C W : XS) (hW : PH C W) (n : Nat) (hn : (n : Int) ≤ C.1 (9, 0, 0) 3) (t : Int) (t0 : 0 ≤ t) (t1 : t < 24) (i : Int) (i0 : 0 ≤ i) (i1 : i < 1000) (b d : Int) (b0 : 0 ≤ b) (bW : b < W.2.2.2.1 53) (d0 : 0 ≤ d) (dW : d < W.2.2.2.1 55) (hF : FinR C 0 n t (W.1 (53, b, 0))) (hcW : ∀ x : Nat, x < 6 → W.1 (55, d, 0) (x : Int) = fBits (hl C.1 0 n t (x : Int))) : X mL_areRanks 60 [xR (0, 0, 0), xR (50, 0, 0), xI 0, xI (n : Int), xI t, xR (99, 0, 0), xI i, xR (53, b, 0), xR (55, d, 0), none, none, none] [] (hp W) 144 864 (pP C) := by
  refine x_iconst dL_areRanks_60 ?_
  refine x_istore (L' := [xR (0, 0, 0), xR (50, 0, 0), xI 0, xI (n : Int), xI t, xR (99, 0, 0), xI i, xR (53, b, 0), xR (55, d, 0), xI 0, none, none]) dL_areRanks_61 (by decide) rfl ?_
  exact l_arC2 C W hW n hn t t0 t1 i i0 i1 b d b0 bW d0 dW hF hcW 8 W 0 144 864 (by omega) (by omega) (by omega) (QEq.rf W) hW
set_option maxHeartbeats 4000000 in
set_option maxRecDepth 100000 in
theorem c_areRanks (C S : XS) (hP : PH C S) (n : Nat) (hn : (n : Int) ≤ C.1 (9, 0, 0) 3) (t : Int) (t0 : 0 ≤ t) (t1 : t < 24) (i : Int) (i0 : 0 ≤ i) (i1 : i < 1000) : X mL_areRanks 0 (xEnt mL_areRanks [xR (0, 0, 0), xR (50, 0, 0), xI 0, xI (n : Int), xI t, xR (99, 0, 0), xI i]) [] (hp S) 10984 33779 (pP C) := by
  have hw := hP.2.1.1.1
  have hC6 : C.1 (0, 0, 0) 6 = 1 := hP.1.2.2.2.2.2.1
  have c4 := wf4_2 hP.1.1.1
  have h4 := hP.2.2.2.1
  show X mL_areRanks 0 [xR (0, 0, 0), xR (50, 0, 0), xI 0, xI (n : Int), xI t, xR (99, 0, 0), xI i, none, none, none, none, none] [] (hp S) 10984 33779 _
  refine x_aload_n dL_areRanks_0 rfl ?_
  refine x_iload_n dL_areRanks_1 rfl ?_
  refine x_iload_n dL_areRanks_2 rfl ?_
  refine x_iload dL_areRanks_3 rfl ?_
  refine x_callS (a := 10839) (b := 32909) (as := [xR (50, 0, 0), xI 0, xI (n : Int), xI t]) (rest := []) ok_L_ranks dL_areRanks_5 wd873 wd874 (c_ranks C S hP.1.1 (by omega) hw (hP.1.2.2.1.k hP.2.2.1) (hP.1.2.2.2.1.k hP.2.2.1) hP.2.1.2.2.2.2.1 n hn t ⟨by omega, by omega⟩ (C.1 (4, 0, 0) 2).toNat (by omega) (by omega)) rfl (Nat.le_of_ble_eq_true rfl) (Nat.le_of_ble_eq_true rfl) (by decide) (by omega) (by omega) (fun _ q => by cases q.1) (fun _ _ q => ?_) (fun _ _ q => by cases q.1)
  obtain ⟨yy, V, rfl, eV, wV, cV, hF⟩ := q
  cases yy
  have hV := hP.n eV wV
  refine x_astore (L' := [xR (0, 0, 0), xR (50, 0, 0), xI 0, xI (n : Int), xI t, xR (99, 0, 0), xI i, xR (53, S.2.2.2.1 53, 0), none, none, none, none]) dL_areRanks_8 (by decide) rfl ?_
  refine x_bipush (v := 6) dL_areRanks_10 (by decide) ?_
  refine x_newarray (55, V.2.2.2.1 55, 0) (t := 0) (n := 6) (N := 6) dL_areRanks_12 rfl wd89 (free55 V) (show (55 : Nat) ≠ 99 by decide) rfl (by decide) (by omega) (by omega) ?_
  refine x_heq (hp_n55 hV.2.1.2.2.2.2.1.2.2.2.2) ?_
  refine x_astore (L' := [xR (0, 0, 0), xR (50, 0, 0), xI 0, xI (n : Int), xI t, xR (99, 0, 0), xI i, xR (53, S.2.2.2.1 53, 0), xR (55, V.2.2.2.1 55, 0), none, none, none]) dL_areRanks_14 (by decide) rfl ?_
  refine x_iconst dL_areRanks_16 ?_
  refine x_istore (L' := [xR (0, 0, 0), xR (50, 0, 0), xI 0, xI (n : Int), xI t, xR (99, 0, 0), xI i, xR (53, S.2.2.2.1 53, 0), xR (55, V.2.2.2.1 55, 0), xI 0, none, none]) dL_areRanks_17 (by decide) rfl ?_
  have e53 : (sN55 V).1 (53, S.2.2.2.1 53, 0) = V.1 (53, S.2.2.2.1 53, 0) := (NQ.n55 V).1 _ (Or.inr (Or.inr cV))
  have h55 := hV.2.1.2.2.2.2.1.2.2.2.2
  have h53 := hP.2.1.2.2.2.2.1.2.2.1
  refine X.weak (l_arC C (sN55 V) (wi_n55 wV) n t i (S.2.2.2.1 53) (V.2.2.2.1 55) h53 (by rw [n55_c53]; exact cV) h55 (by rw [n55_c]; omega) 144 864 (fun U e1 w1 c1 => ?_) 386 (sN55 V) 0 (by omega) (by omega) (N5.rf _ _) (wi_n55 wV) (fun x hx => by rw [show ((0 : Nat) : Int) = 0 from rfl, cnR_0]; simp [sN55])) (by omega) (by omega) (fun _ _ q => q)
  have r53 : U.1 (53, S.2.2.2.1 53, 0) = V.1 (53, S.2.2.2.1 53, 0) := (e1.1 _ (nK (by decide) _ _ _ _)).trans e53
  have nU : NQ V U := (NQ.n55 V).n5 (Int.le_refl _) e1
  have hU := hV.n nU w1
  have hF2 : FinR C 0 n t (U.1 (53, S.2.2.2.1 53, 0)) := by rw [r53]; exact hF
  have x53 := nU.2.2.2.1 53
  have x55 : U.2.2.2.1 55 = V.2.2.2.1 55 + 1 := by rw [e1.2, n55_c]
  exact l_ar60 C U hU n hn t t0 t1 i i0 i1 (S.2.2.2.1 53) (V.2.2.2.1 55) h53 (by omega) h55 (by omega) hF2 (fun x hx => by rw [c1 x hx, e53, cnR_hl hP.1.1 hP.1.2.2.2.2.2.1 hn hF x hx])
