/-! the reference: forget -/
theorem MR.cls {C D T : XS} (h : MR C T) (e : ∀ (k : Nat) (x y : Int), k = 0 ∨ k = 3 ∨ k = 4 ∨ k = 9 ∨ k = 13 ∨ k = 34 ∨ k = 36 ∨ k = 37 → D.1 (k, x, y) = C.1 (k, x, y)) : MR D T := by
  obtain ⟨h1, h2, h3, h4, h5⟩ := h
  refine ⟨fun b k b0 b1 k0 k1 => ?_, ?_, h3.to (fun k x y hk => e k x y (by omega)) (fun k _ _ => rfl), fun b b0 b1 => ?_, fun x x0 x1 => ?_⟩
  · rw [e 9 b 0 (by simp)] at k1
    rw [e 13 b k (by simp)]
    exact h1 b k b0 b1 k0 k1
  · unfold MRn
    rw [e 0 0 0 (by simp), e 4 0 0 (by simp)]
    exact h2
  · rw [e 9 b 0 (by simp)]
    exact h4 b b0 b1
  · rw [e 3 0 0 (by simp)]
    exact h5 x x0 x1
theorem hrV_i (S : XS) (l : Int) (v : Int64) (l' : XL) {j : Int} (h8 : j ≠ 8) (h9 : j ≠ 9) : (sHrV S l v).1 l' j = S.1 l' j := by
  unfold sHrV
  by_cases e : l' = (14, l, 0)
  · split <;> simp [putI, putJ, xUpd, e, h8, h9]
  · split <;> simp [putI, putJ, e]
theorem hrV_j (S : XS) (l : Int) (v : Int64) (l' : XL) (h14 : l'.1 ≠ 14) (h30 : l'.1 ≠ 30) (h31 : l'.1 ≠ 31) : (sHrV S l v).2.1 l' = S.2.1 l' := (LEq.hrV S l v).2.1 l' h14 h30 h31
theorem hrV_5 (S : XS) (l : Int) (v : Int64) (l' : Int) : (sHrV S l v).2.1 (14, l', 0) 5 = S.2.1 (14, l', 0) 5 := by
  unfold sHrV
  by_cases e : l' = l
  · subst e; split <;> simp [putI, putJ, xUpd]
  · have n : ((14, l', 0) : XL) ≠ (14, l, 0) := nX e 0
    split <;> simp [putI, putJ, n]
theorem inf_i (S : XS) (b : Int) (n : Nat) (l' : XL) {j : Int} (h8 : j ≠ 8) (h9 : j ≠ 9) : (sInf S b n).1 l' j = S.1 l' j := by
  induction n with
  | zero => rfl
  | succ n ih =>
    by_cases h : S.1 (14, n, 0) 2 = b
    · rw [sInf_t h, hrV_i _ _ _ _ h8 h9, ih]
    · rw [sInf_f h, ih]
theorem inf_5 (S : XS) (b : Int) (n : Nat) (l' : Int) : (sInf S b n).2.1 (14, l', 0) 5 = S.2.1 (14, l', 0) 5 := by
  induction n with
  | zero => rfl
  | succ n ih =>
    by_cases h : S.1 (14, n, 0) 2 = b
    · rw [sInf_t h, hrV_5, ih]
    · rw [sInf_f h, ih]
/-- a listener of another branch hears nothing -/
theorem inf_oth (S : XS) (b : Int) (n : Nat) {l : Int} (h : S.1 (14, l, 0) 2 ≠ b) : (sInf S b n).1 (14, l, 0) = S.1 (14, l, 0) ∧ (sInf S b n).2.1 (14, l, 0) = S.2.1 (14, l, 0) ∧ (sInf S b n).2.1 (30, l, 0) = S.2.1 (30, l, 0) ∧ (sInf S b n).2.1 (31, l, 0) = S.2.1 (31, l, 0) := by
  induction n with
  | zero => exact ⟨rfl, rfl, rfl, rfl⟩
  | succ n ih =>
    by_cases y : S.1 (14, n, 0) 2 = b
    · have ne : l ≠ (n : Int) := fun z => h (by rw [z]; exact y)
      obtain ⟨a1, a2, a3, a4⟩ := hrV_o (sInf S b n) n (lv S b n) ne
      rw [sInf_t y]
      exact ⟨a1.trans ih.1, a2.trans ih.2.1, a3.trans ih.2.2.1, a4.trans ih.2.2.2⟩
    · rw [sInf_f y]; exact ih
/-- the listeners of the first i branches are informed -/
noncomputable def sInA (S : XS) (c : Nat) : Nat → XS
  | 0 => S
  | i + 1 => sInf (sInA S c i) i c
theorem inA_L (S : XS) (c n : Nat) : LEq S (sInA S c n) := by
  induction n with
  | zero => exact LEq.rf S
  | succ n ih => exact ih.tr (sInf_L _ _ _)
theorem inA_i (S : XS) (c n : Nat) (l' : XL) {j : Int} (h8 : j ≠ 8) (h9 : j ≠ 9) : (sInA S c n).1 l' j = S.1 l' j := by
  induction n with
  | zero => rfl
  | succ n ih => rw [sInA, inf_i _ _ _ _ h8 h9, ih]
theorem inA_oth (S : XS) (c n : Nat) {l : Int} (h : ∀ b : Nat, b < n → S.1 (14, l, 0) 2 ≠ b) : (sInA S c n).1 (14, l, 0) = S.1 (14, l, 0) ∧ (sInA S c n).2.1 (14, l, 0) = S.2.1 (14, l, 0) ∧ (sInA S c n).2.1 (30, l, 0) = S.2.1 (30, l, 0) ∧ (sInA S c n).2.1 (31, l, 0) = S.2.1 (31, l, 0) := by
  induction n with
  | zero => exact ⟨rfl, rfl, rfl, rfl⟩
  | succ n ih =>
    have ih := ih (fun b hb => h b (by omega))
    obtain ⟨a1, a2, a3, a4⟩ := inf_oth (sInA S c n) n c (l := l) (by rw [inA_i S c n _ (by decide) (by decide)]; exact h n (by omega))
    rw [sInA]
    exact ⟨a1.trans ih.1, a2.trans ih.2.1, a3.trans ih.2.2.1, a4.trans ih.2.2.2⟩
theorem lv_L {S T : XS} (h : LEq S T) {b l : Int} (h4 : T.1 (14, l, 0) 4 = S.1 (14, l, 0) 4) (h3 : T.1 (14, l, 0) 3 = S.1 (14, l, 0) 3) (h5 : T.2.1 (14, l, 0) 5 = S.2.1 (14, l, 0) 5) : lv T b l = lv S b l := by
  unfold lv
  rw [h.hl, h.i (k := 9) (by decide), h4, h3, h5]
theorem WI.inf {C : XS} (hw : WI C) {b : Int} (hc : CapOk C b) (n : Nat) (hn : (n : Int) ≤ C.1 (0, 0, 0) 7) : WI (sInf C b n) := by
  induction n with
  | zero => exact hw
  | succ n ih =>
    have c7 := wf0_7 hw
    by_cases y : C.1 (14, n, 0) 2 = b
    · rw [sInf_t y]
      obtain ⟨d1, d2, -, -⟩ := sInf_o C b n (n : Int) (Int.le_refl _)
      refine wi_hrV (ih (by omega)) (by omega) (by omega) ?_
      rw [d1, d2]
      exact hc n (by omega) (by omega) y
    · rw [sInf_f y]; exact ih (by omega)
theorem CB.inf {C : XS} (hC : CB C) {b : Int} (hc : CapOk C b) (n : Nat) (hn : (n : Int) ≤ C.1 (0, 0, 0) 7) : CB (sInf C b n) := (sInf_L C b n).cb (hC.1.inf hc n hn) hC
theorem cap_of {C : XS} {b : Int} (h : ∀ l : Int, 0 ≤ l → l < C.1 (0, 0, 0) 7 → LC C l) (hE : EndOk C b) : CapOk C b := by
  intro l l0 l1 hb
  obtain ⟨q1, q2, q3, q4, -⟩ := h l l0 l1
  have ql := quF_len (C.1 (14, l, 0) 3) (C.2.1 (30, l, 0)) (C.2.1 (31, l, 0)) (C.1 (14, l, 0) 7) (C.1 (14, l, 0) 8 - C.1 (14, l, 0) 7).toNat
  have ql2 : ((quC C l).length : Int) ≤ 64 * (C.1 (14, l, 0) 8 - C.1 (14, l, 0) 7) := by
    unfold quC; omega
  have f64 := fBits_64 (lv C b l ^^^ C.2.1 (14, l, 0) 6)
  by_cases y : lv C b l = C.2.1 (14, l, 0) 6
  · have : fBits (lv C b l ^^^ C.2.1 (14, l, 0) 6) = 0 := by
      rw [fBits_cnt, cntN_none 64 (fun p hp z => by rw [bitJ_xor _ _ _ hp, y] at z; exact z Iff.rfl)]
      rfl
    omega
  · have := hE l l0 l1 hb y
    omega
theorem putI_same (S : XS) (l : XL) (k : Int) : putI S l k (S.1 l k) = S := by
  have e : (fun l' => if l' = l then xUpd (S.1 l) k (S.1 l k) else S.1 l') = S.1 := by
    funext l' j
    by_cases y : l' = l
    · subst y
      simp only [if_true, xUpd]
      split
      · rename_i z; rw [z]
      · rfl
    · rw [if_neg y]
  unfold putI
  rw [e]
/-- all branches up to n have forgotten the thing x -/
noncomputable def sFgA (C : XS) (x : Int) : Nat → XS
  | 0 => C
  | b + 1 => sForgN (sFgA C x b) b x (C.1 (9, b, 0) 3).toNat
noncomputable def fgA (C : XS) (x : Int) : Nat → Int
  | 0 => 0
  | b + 1 => fgA C x b + forgN (sFgA C x b) b x (C.1 (9, b, 0) 3).toNat
theorem forgN_j (S : XS) (b x : Int) (n : Nat) : (sForgN S b x n).2 = S.2 := by
  induction n with
  | zero => rfl
  | succ n ih =>
    by_cases h : (sForgN S b x n).1 (13, b, n) 6 = 0 ∧ fConcerns (sForgN S b x n) (13, b, n) x
    · rw [(sForgN_t S b x n h).1]; exact ih
    · rw [(sForgN_f S b x n h).1]; exact ih
theorem fgA_o (C : XS) (x : Int) (n : Nat) {l : XL} (h : l.1 ≠ 13) : (sFgA C x n).1 l = C.1 l := by
  induction n with
  | zero => rfl
  | succ n ih => rw [sFgA, sForgN_o _ _ _ _ h, ih]
theorem fgA_j (C : XS) (x : Int) (n : Nat) : (sFgA C x n).2 = C.2 := by
  induction n with
  | zero => rfl
  | succ n ih => rw [sFgA, forgN_j, ih]
theorem CB.fgA {C : XS} (hC : CB C) (x : Int) (n : Nat) (hn : (n : Int) ≤ 4) : CB (sFgA C x n) := by
  induction n with
  | zero => exact hC
  | succ n ih =>
    have := wf9_3 hC.1 (b := (n : Int)) (by omega) (by omega)
    exact (ih (by omega)).forg (by omega) (by omega) _ (by omega)
theorem zOr_0 {a : Int} (h : a = 0 ∨ a = 1) : zOr a 0 = a := by rcases h with rfl | rfl <;> decide
theorem mr_put6 {D T : XS} (h : MR D T) (hz : ∀ b' : Int, 0 ≤ b' → b' < 4 → D.1 (9, b', 0) 3 ≤ 60) {b k : Int} (b0 : 0 ≤ b) (b1 : b < 4) (k0 : 0 ≤ k) (k1 : k < 60) : MR (putI D (13, b, k) 6 1) (putI T (56, 0, 0) (60 * b + k) 1) := by
  obtain ⟨h1, h2, h3, h4, h5⟩ := h
  have e : ∀ r : Nat, r ≠ 56 → (putI T (56, 0, 0) (60 * b + k) 1).1 (r, 0, 0) = T.1 (r, 0, 0) := fun r a => putI_o (nK a _ _ _ _)
  have c0 : ∀ (r : Nat) (x y : Int), r ≠ 13 → (putI D (13, b, k) 6 1).1 (r, x, y) = D.1 (r, x, y) := fun r x y a => putI_o (nK a _ _ _ _)
  refine ⟨fun b' k' b0' b1' k0' k1' => ?_, ?_, h3.to (fun r x y hr => c0 r x y (by omega)) (fun r a1 a2 => e r (by omega)), fun b' b0' b1' => ?_, fun x x0 x1 => ?_⟩
  · rw [c0 9 b' 0 (by decide)] at k1'
    obtain ⟨t1, t2, t3, t4, t5, t6⟩ := h1 b' k' b0' b1' k0' k1'
    have hz' := hz b' b0' b1'
    rw [e 51 (by decide), e 52 (by decide), e 53 (by decide), e 54 (by decide), e 55 (by decide), putI_at]
    by_cases y : b' = b ∧ k' = k
    · obtain ⟨y1, y2⟩ := y
      subst y1
      subst y2
      have w : ∀ j : Int, j ≠ 6 → (putI D (13, b', k') 6 1).1 (13, b', k') j = D.1 (13, b', k') j := fun j a => by rw [putI_at, if_neg a]
      rw [w 0 (by decide), w 1 (by decide), w 2 (by decide), w 3 (by decide), w 4 (by decide), w 7 (by decide), putI_self, if_pos rfl]
      exact ⟨t1, t2, t3, t4, t5, rfl⟩
    · have ne : ¬ (60 * b' + k' = 60 * b + k) := fun w => y ⟨by omega, by omega⟩
      rw [putI_o (n13 y), if_neg ne]
      exact ⟨t1, t2, t3, t4, t5, t6⟩
  · unfold MRn
    rw [e 50 (by decide), c0 0 0 0 (by decide), c0 4 0 0 (by decide)]
    exact h2
  · rw [e 58 (by decide), e 59 (by decide), e 60 (by decide), e 61 (by decide), c0 9 b' 0 (by decide)]
    exact h4 b' b0' b1'
  · rw [e 57 (by decide), c0 3 0 0 (by decide)]
    exact h5 x x0 x1
/-- only what is forgotten has changed -/
def FgE (U T : XS) : Prop := WI T ∧ T.2 = U.2 ∧ ∀ l : XL, l ≠ (56, 0, 0) → T.1 l = U.1 l
theorem FgE.cl {U T : XS} (h : FgE U T) : ClE U T := ⟨fun l a => h.2.2 l (fun z => by rw [z] at a; omega), by rw [h.2.1], by rw [h.2.1], by rw [h.2.1], Int.le_of_eq (by rw [h.2.1]), by rw [h.2.2 (50, 0, 0) (by decide)], fun r _ => by rw [h.2.2 (66, 0, 0) (by decide)]⟩
theorem FgE.put {U T : XS} (h : FgE U T) (j : Int) {v : Int} (hv : v = 0 ∨ v = 1) : FgE U (putI T (56, 0, 0) j v) := ⟨wpa56 h.1 hv, h.2.1, fun l a => (putI_o a).trans (h.2.2 l a)⟩
/-- what the listeners' rows must grow, all branches -/
noncomputable def fgCost (D S : XS) (c : Nat) : Nat → Nat
  | 0 => 0
  | i + 1 => fgCost D S c i + ndS D S i c
theorem fgCost_mono (D S : XS) (c : Nat) {i n : Nat} (h : i ≤ n) : fgCost D S c i ≤ fgCost D S c n := by
  induction n with
  | zero => rw [show i = 0 by omega]; exact Nat.le_refl _
  | succ n ih =>
    rcases Nat.lt_or_eq_of_le h with y | y
    · have := ih (by omega)
      rw [fgCost]; omega
    · rw [y]; exact Nat.le_refl _
theorem ndS_congr {D E S T : XS} {b : Int} (n : Nat) (h2 : ∀ l : Nat, E.1 (14, l, 0) 2 = D.1 (14, l, 0) 2) (h : ∀ l : Nat, l < n → D.1 (14, l, 0) 2 = b → E.1 (14, l, 0) = D.1 (14, l, 0) ∧ E.2.1 (14, l, 0) = D.2.1 (14, l, 0) ∧ lv E b l = lv D b l ∧ T.2.2.2.1 l = S.2.2.2.1 l ∧ T.1 (68, 0, 0) l = S.1 (68, 0, 0) l) : ndS E T b n = ndS D S b n := by
  induction n with
  | zero => rfl
  | succ n ih =>
    have e : ndN E T b n = ndN D S b n := by
      unfold ndN
      rw [h2 n]
      by_cases y : D.1 (14, n, 0) 2 = b
      · obtain ⟨q1, q2, q3, q4, q5⟩ := h n (by omega) y
        rw [if_pos y, if_pos y, q1, q2, q3, hrB_eq q4 q5]
      · rw [if_neg y, if_neg y]
    rw [ndS, ndS, ih (fun l hl => h l (by omega)), e]
set_option maxHeartbeats 4000000 in
set_option maxRecDepth 100000 in
theorem l_forg3 (C U : XS) (hC : CB C) (x : Int) (x0 : 0 ≤ x) (x1 : x < 8) (nb c : Nat) (hnb : C.1 (0, 0, 0) 6 = nb) (hc : C.1 (0, 0, 0) 7 = c) (h25 : U.1 (50, 0, 0) 25 = 0) (hM : MR C U) (hml : MRl C U) (hE : ∀ i : Nat, i < nb → EndOk (sFgA C x nb) i) (V0 : XS) (hFV : FgE U V0) (hV0 : MR (sFgA C x nb) V0) : ∀ (nn : Nat) (T : XS) (i : Nat) (kc ks : Nat), (nb : Int) - (i : Int) + 1 < (nn : Int) → (i ≤ nb) → (HsE V0 T) → (WI T) → (MRl (sInA (sFgA C x nb) c i) T) → (usum T 5 = usum U 5 + fgCost (sFgA C x nb) U c i) → (∀ l : Int, 0 ≤ l → l < c → (i : Int) ≤ C.1 (14, l, 0) 2 → T.2.2.2.1 l = U.2.2.2.1 l ∧ T.1 (68, 0, 0) l = U.1 (68, 0, 0) l) → (CB (sInA (sFgA C x nb) c i)) → (5 * nb ≤ kc + 5 * i) → (fgCost (sFgA C x nb) U c nb ≤ ks + fgCost (sFgA C x nb) U c i) → X mX9_forget 146 [xR (50, 0, 0), xI x, xI (fgA C x nb), xI (i : Int), none, none] [] (hp T) kc ks (pTz U (sInA (sFgA C x nb) c nb) (fgA C x nb) (fgCost (sFgA C x nb) U c nb)) := by
  intro nn
  induction nn with
  | zero => intro T i kc ks hm hi hT wT lT hu hq bE hkc hks; exfalso; omega
  | succ nn ih =>
    intro T i kc ks hm hi hT wT lT hu hq bE hkc hks
    have hz := wT.1
    have c6 := wf0_6 hC.1
    have c7 := wf0_7 hC.1
    have e50 := hT.2.2.2.2.2
    have v11 := hV0.2.1.1
    have f6 : (sFgA C x nb).1 (0, 0, 0) = C.1 (0, 0, 0) := fgA_o C x nb (by decide)
    have n11T : T.1 (50, 0, 0) 11 = nb := by rw [e50, v11, f6, hnb]
    refine x_iload_n dX9_forget_146 rfl ?_
    refine x_aload_n dX9_forget_147 rfl ?_
    refine x_get (v := xI (T.1 (50, 0, 0) 11)) dX9_forget_148 fl_RX9_45 (hp50 T) rfl ?_
    have f148_1 := wf50_11 wT (S := T)
    refine x_icmp_ge (tgt := 165) dX9_forget_151 (by decide) (by first | exact hz _ _ | exact hw.1 _ _ | exact zR_of _ | exact bI_z _ | assumption | exact ⟨by omega, by omega⟩) (by first | exact hz _ _ | exact hw.1 _ _ | exact zR_of _ | exact bI_z _ | assumption | exact ⟨by omega, by omega⟩) (fun c151 => ?_) (fun c151 => ?_)
    · refine x_iload_n dX9_forget_165 rfl ?_
      exact x_iret dX9_forget_166 rfl (by have e : i = nb := (by omega); subst e; exact ⟨rfl, T, rfl, hFV.cl.tr hT.cl, wT, by rw [e50, hFV.2.2 _ (by decide)]; exact h25, (hV0.hs hT).cls (fun k a b hk => (inA_L _ _ _).i (by omega) a b), lT, hu⟩)
    · have hin : i < nb := by omega
      have LD := inA_L (sFgA C x nb) c i
      have e0 : (sInA (sFgA C x nb) c i).1 (0, 0, 0) = C.1 (0, 0, 0) := (LD.i (by decide) 0 0).trans f6
      have e06 : (sInA (sFgA C x nb) c i).1 (0, 0, 0) 6 = nb := by rw [e0, hnb]
      have e07 : (sInA (sFgA C x nb) c i).1 (0, 0, 0) 7 = c := by rw [e0, hc]
      have mE : MR (sInA (sFgA C x nb) c i) T := (hV0.hs hT).cls (fun k a b hk => LD.i (by omega) a b)
      have oth : ∀ l : Int, (sFgA C x nb).1 (14, l, 0) 2 = i → (sInA (sFgA C x nb) c i).1 (14, l, 0) = (sFgA C x nb).1 (14, l, 0) ∧ (sInA (sFgA C x nb) c i).2.1 (14, l, 0) = (sFgA C x nb).2.1 (14, l, 0) ∧ (sInA (sFgA C x nb) c i).2.1 (30, l, 0) = (sFgA C x nb).2.1 (30, l, 0) ∧ (sInA (sFgA C x nb) c i).2.1 (31, l, 0) = (sFgA C x nb).2.1 (31, l, 0) := fun l hl => inA_oth _ c i (fun b hb z => by omega)
      have lvE : ∀ l : Int, (sFgA C x nb).1 (14, l, 0) 2 = i → lv (sInA (sFgA C x nb) c i) i l = lv (sFgA C x nb) i l := fun l hl => lv_L LD (by rw [(oth l hl).1]) (by rw [(oth l hl).1]) (by rw [(oth l hl).2.1])
      have eE : EndOk (sInA (sFgA C x nb) c i) i := by
        intro l l0 l1 l2 l3
        rw [inA_i _ _ _ _ (by decide) (by decide)] at l2
        rw [lvE l l2, (oth l l2).2.1] at l3
        rw [(oth l l2).1]
        exact hE i hin l l0 (by rw [e07] at l1; rw [f6, hc]; exact l1) l2 l3
      have f14 : ∀ l : Int, (sFgA C x nb).1 (14, l, 0) = C.1 (14, l, 0) := fun l => fgA_o C x nb (l := (14, l, 0)) (show (14 : Nat) ≠ 13 by decide)
      have ndE : ndS (sInA (sFgA C x nb) c i) T i c = ndS (sFgA C x nb) U i c := ndS_congr c (fun l => inA_i _ _ _ _ (by decide) (by decide)) (fun l hl hb => ⟨(oth l hb).1, (oth l hb).2.1, lvE l hb, hq l (by omega) (by omega) (by rw [f14] at hb; omega)⟩)
      have hm1 := fgCost_mono (sFgA C x nb) U c (show i + 1 ≤ nb by omega)
      have hm2 : fgCost (sFgA C x nb) U c (i + 1) = fgCost (sFgA C x nb) U c i + ndS (sFgA C x nb) U i c := rfl
      refine x_aload_n dX9_forget_154 rfl ?_
      refine x_iload_n dX9_forget_155 rfl ?_
      refine x_callV (a := 5) (b := (ndS (sFgA C x nb) U i c)) (as := [xI (i : Int)]) (rest := []) ok_X9_hears_ dX9_forget_156 wd1237 ⟨wd1239, wd24⟩ (hp50 T) rfl rfl ((ndE ▸ m_hears_ (sInA (sFgA C x nb) c i) T bE wT mE (i : Int) (by omega) (by rw [e06]; omega) c e07 eE lT : X mX9_hears_ 0 (xEnt mX9_hears_ [xR (50, 0, 0), xI (i : Int)]) [] (hp T) 5 (ndS (sFgA C x nb) U i c) (pHs (sInA (sFgA C x nb) c i) T i c))) rfl (Nat.le_of_ble_eq_true rfl) (Nat.le_of_ble_eq_true rfl) (by decide) (by omega) (by omega) (fun _ q => ?_) (fun _ _ q => by cases q.1) (fun _ _ q => by cases q.1)
      obtain ⟨-, V, rfl, hV, wV, lV, uV, qV⟩ := q
      refine x_iinc (L' := [xR (50, 0, 0), xI x, xI (fgA C x nb), xI ((i : Int) + 1), none, none]) dX9_forget_159 rfl rfl ?_
      refine x_goto (tgt := 146) dX9_forget_162 (by decide) ?_
      have f14i : ∀ l : Int, (sFgA C x nb).1 (14, l, 0) 2 = C.1 (14, l, 0) 2 := fun l => by rw [f14]
      have kz := ih V (i + 1) (kc - 5) (ks - ndS (sFgA C x nb) U i c) (by omega) (by omega) (hT.tr hV) wV lV (by rw [uV, ndE, hu, fgCost]; omega) (fun l l0 l1 lb => by have q1 := qV l l0 l1 (by rw [inA_i _ _ _ _ (by decide) (by decide), f14i]; omega); have q2 := hq l l0 l1 (by omega); exact ⟨q1.1.trans q2.1, q1.2.trans q2.2⟩) (bE.inf (cap_of (fun l l0 l1 => ((lT l l0 (by rw [e07] at l1; omega)).1 l1).2.2.1) eE) c (by rw [e07]; omega)) (by omega) (by omega)
      rw [show ((i + 1 : Nat) : Int) = (i : Int) + 1 by omega] at kz
      exact kz
