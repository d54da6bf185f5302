/-! the reference: fork -/
/-- the first k tellings of the branch i are copied into the new branch b -/
def FkR (C U : XS) (i b : Int) (k : Nat) (T : XS) : Prop := WI T ∧ T.2 = U.2 ∧ (∀ l : XL, l.1 ≠ 51 → l.1 ≠ 52 → l.1 ≠ 53 → l.1 ≠ 54 → l.1 ≠ 55 → l.1 ≠ 56 → l.1 ≠ 58 → T.1 l = U.1 l) ∧ (∀ (r : Nat) (j : Int), 51 ≤ r → r ≤ 56 → (j < 60 * b ∨ 60 * b + 60 ≤ j) → T.1 (r, 0, 0) j = U.1 (r, 0, 0) j) ∧ (∀ j : Int, j ≠ b → T.1 (58, 0, 0) j = U.1 (58, 0, 0) j) ∧ T.1 (58, 0, 0) b = k ∧ ∀ j : Nat, j < k → T.1 (51, 0, 0) (60 * b + j) = kd (C.1 (13, i, j) 0) (C.1 (13, i, j) 1) ∧ T.1 (52, 0, 0) (60 * b + j) = C.1 (13, i, j) 2 ∧ T.1 (53, 0, 0) (60 * b + j) = C.1 (13, i, j) 3 ∧ T.1 (54, 0, 0) (60 * b + j) = C.1 (13, i, j) 4 ∧ T.1 (55, 0, 0) (60 * b + j) = -1 ∧ T.1 (56, 0, 0) (60 * b + j) = C.1 (13, i, j) 6
theorem FkR.start {C U : XS} (hw : WI U) {i b : Int} (h : U.1 (58, 0, 0) b = 0) : FkR C U i b 0 U := ⟨hw, rfl, fun _ _ _ _ _ _ _ _ => rfl, fun _ _ _ _ _ => rfl, fun _ _ => rfl, h, fun j hj => absurd hj (by omega)⟩
theorem FkR.step {C U : XS} {i b : Int} {k : Nat} {T : XS} (h : FkR C U i b k T) (hk : k < 60) {kk a x y f : Int} (w : WI (putI (sTel T b k kk a x y (-1)) (56, 0, 0) (60 * b + k) f)) (e1 : kk = kd (C.1 (13, i, k) 0) (C.1 (13, i, k) 1)) (e2 : a = C.1 (13, i, k) 2) (e3 : x = C.1 (13, i, k) 3) (e4 : y = C.1 (13, i, k) 4) (e6 : f = C.1 (13, i, k) 6) : FkR C U i b (k + 1) (putI (sTel T b k kk a x y (-1)) (56, 0, 0) (60 * b + k) f) := by
  obtain ⟨-, h2, h3, h4, h5, h6, h7⟩ := h
  refine ⟨w, h2, fun l a1 a2 a3 a4 a5 a6 a7 => ?_, fun r j r0 r1 hj => ?_, fun j hj => ?_, ?_, fun j hj => ?_⟩
  · rw [putI_o (fun z => a6 (by rw [z])), sTel_o T b k kk a x y (-1) a1 a2 a3 a4 a5 a6 a7]
    exact h3 l a1 a2 a3 a4 a5 a6 a7
  · obtain ⟨t1, t2, t3, t4, t5, t6, -⟩ := sTel_r T b k kk a x y (-1) j
    have ne : ¬ j = 60 * b + k := by omega
    rw [if_neg ne] at t1 t2 t3 t4 t5 t6
    have hr : r = 51 ∨ r = 52 ∨ r = 53 ∨ r = 54 ∨ r = 55 ∨ r = 56 := by omega
    rw [← h4 r j r0 r1 hj]
    rcases hr with rfl | rfl | rfl | rfl | rfl | rfl
    · rw [putI_o (nK (by decide) _ _ _ _), t1]
    · rw [putI_o (nK (by decide) _ _ _ _), t2]
    · rw [putI_o (nK (by decide) _ _ _ _), t3]
    · rw [putI_o (nK (by decide) _ _ _ _), t4]
    · rw [putI_o (nK (by decide) _ _ _ _), t5]
    · rw [putI_at, if_neg ne, t6]
  · obtain ⟨-, -, -, -, -, -, t7⟩ := sTel_r T b k kk a x y (-1) j
    rw [putI_o (nK (by decide) _ _ _ _), t7, if_neg hj]
    exact h5 j hj
  · obtain ⟨-, -, -, -, -, -, t7⟩ := sTel_r T b k kk a x y (-1) b
    rw [putI_o (nK (by decide) _ _ _ _), t7, if_pos rfl]
    omega
  · obtain ⟨t1, t2, t3, t4, t5, t6, -⟩ := sTel_r T b k kk a x y (-1) (60 * b + j)
    rw [putI_o (nK (by decide) _ _ _ _), putI_o (nK (by decide) _ _ _ _), putI_o (nK (by decide) _ _ _ _), putI_o (nK (by decide) _ _ _ _), putI_o (nK (by decide) _ _ _ _), putI_at, t1, t2, t3, t4, t5, t6]
    by_cases z : j = k
    · subst z
      simp only [if_true]
      refine ⟨e1, e2, e3, e4, ?_, e6⟩
      trivial
    · have ne : ¬ 60 * b + (j : Int) = 60 * b + k := by omega
      simp only [if_neg ne]
      exact h7 j (by omega)
theorem FkR.cl {C U : XS} {i b : Int} {k : Nat} {T : XS} (h : FkR C U i b k T) : ClE U T := ⟨fun l a => h.2.2.1 l (by omega) (by omega) (by omega) (by omega) (by omega) (by omega) (by omega), by rw [h.2.1], by rw [h.2.1], by rw [h.2.1], Int.le_of_eq (by rw [h.2.1]), by rw [h.2.2.1 (50, 0, 0) (by decide) (by decide) (by decide) (by decide) (by decide) (by decide) (by decide)], fun r _ => by rw [h.2.2.1 (66, 0, 0) (by decide) (by decide) (by decide) (by decide) (by decide) (by decide) (by decide)]⟩
theorem fork_mr {C U T : XS} (hM : MR C U) {i : Int} (i0 : 0 ≤ i) (i1 : i < C.1 (0, 0, 0) 6) {b : Int} (hb : C.1 (0, 0, 0) 6 = b) (b1 : b < 4) {n : Nat} (hn60 : n ≤ 60) (hz : ∀ b' : Int, 0 ≤ b' → b' < 4 → C.1 (9, b', 0) 3 ≤ 60) (h : FkR C U i b n T) : MR (sFrk C i n) (putI (putI (putI (putI T (59, 0, 0) b i) (60, 0, 0) b n) (61, 0, 0) b n) (50, 0, 0) 11 (b + 1)) := by
  obtain ⟨h1, h2, h3, h4, h5⟩ := hM
  obtain ⟨f1, f2, f3, f4, f5, f6, f7⟩ := h
  have e : ∀ k : Nat, k ≠ 50 → k ≠ 59 → k ≠ 60 → k ≠ 61 → (putI (putI (putI (putI T (59, 0, 0) b i) (60, 0, 0) b n) (61, 0, 0) b n) (50, 0, 0) 11 (b + 1)).1 (k, 0, 0) = T.1 (k, 0, 0) := fun k a1 a2 a3 a4 => by
    rw [putI_o (nK a1 _ _ _ _), putI_o (nK a4 _ _ _ _), putI_o (nK a3 _ _ _ _), putI_o (nK a2 _ _ _ _)]
  have c0 : ∀ (k : Nat) (x y : Int), k ≠ 13 → k ≠ 11 → k ≠ 9 → k ≠ 0 → (sFrk C i n).1 (k, x, y) = C.1 (k, x, y) := fun k x y a1 a2 a3 a4 => frk_o C i n ⟨a1, a2, a3, a4⟩ x y
  have hib : i ≠ C.1 (0, 0, 0) 6 := by omega
  obtain ⟨g1, g2⟩ := frk_new C n hib
  have g9 := fork_9 C (C.1 (0, 0, 0) 6) i n
  refine ⟨fun b' k b0' b1' k0 k1 => ?_, ?_, ?_, fun b' b0' b1' => ?_, fun x x0 x1 => ?_⟩
  · rw [e 51 (by decide) (by decide) (by decide) (by decide), e 52 (by decide) (by decide) (by decide) (by decide), e 53 (by decide) (by decide) (by decide) (by decide), e 54 (by decide) (by decide) (by decide) (by decide), e 55 (by decide) (by decide) (by decide) (by decide), e 56 (by decide) (by decide) (by decide) (by decide)]
    by_cases y : b' = b
    · subst y
      rw [← hb] at k1 ⊢
      rw [g1] at k1
      obtain ⟨m, rfl⟩ := Int.eq_ofNat_of_zero_le k0
      obtain ⟨q0, q1, q2, q3, q4, q5, q6, q7⟩ := g2 m (by omega)
      obtain ⟨p1, p2, p3, p4, p5, p6⟩ := f7 m (by omega)
      rw [hb] at *
      rw [q0, q1, q2, q3, q4, q6, q7]
      exact ⟨p1, p2, p3, p4, p5, p6⟩
    · rw [frk_9 C i n b' (by omega)] at k1
      rw [frk_13 C i n b' k (by omega)]
      have hz' := hz b' b0' b1'
      have ne : 60 * b' + k < 60 * b ∨ 60 * b + 60 ≤ 60 * b' + k := by omega
      rw [f4 51 _ (by decide) (by decide) ne, f4 52 _ (by decide) (by decide) ne, f4 53 _ (by decide) (by decide) ne, f4 54 _ (by decide) (by decide) ne, f4 55 _ (by decide) (by decide) ne, f4 56 _ (by decide) (by decide) ne]
      exact h1 b' k b0' b1' k0 k1
  · obtain ⟨q1, q2, q3, q4⟩ := h2
    have e50 : T.1 (50, 0, 0) = U.1 (50, 0, 0) := f3 _ (by decide) (by decide) (by decide) (by decide) (by decide) (by decide) (by decide)
    have p : ∀ j : Int, (putI (putI (putI (putI T (59, 0, 0) b i) (60, 0, 0) b n) (61, 0, 0) b n) (50, 0, 0) 11 (b + 1)).1 (50, 0, 0) j = if j = 11 then b + 1 else U.1 (50, 0, 0) j := fun j => by
      rw [putI_at, putI_o (nK (by decide) _ _ _ _), putI_o (nK (by decide) _ _ _ _), putI_o (nK (by decide) _ _ _ _), e50]
    unfold MRn
    have z6 := frk_0 C i n 6
    have z8 := frk_0 C i n 8
    have z7 := frk_0 C i n 7
    have p11 := p 11
    have p12 := p 12
    have p13 := p 13
    have p24 := p 24
    rw [if_pos rfl] at z6 p11
    rw [if_neg (by decide)] at z8 z7 p12 p13 p24
    rw [p11, p12, p13, p24, z6, z7, z8, c0 4 0 0 (by decide) (by decide) (by decide) (by decide), hb]
    exact ⟨rfl, q2, q3, q4⟩
  · exact h3.to (fun k x y hk => c0 k x y (by omega) (by omega) (by omega) (by omega)) (fun k a1 a2 => by rw [e k (by omega) (by omega) (by omega) (by omega)]; exact f3 _ (by show k ≠ 51; omega) (by show k ≠ 52; omega) (by show k ≠ 53; omega) (by show k ≠ 54; omega) (by show k ≠ 55; omega) (by show k ≠ 56; omega) (by show k ≠ 58; omega))
  · obtain ⟨q1, q2, q3, q4⟩ := h4 b' b0' b1'
    have e9 : ∀ k : Nat, k = 59 ∨ k = 60 ∨ k = 61 → T.1 (k, 0, 0) = U.1 (k, 0, 0) := fun k hk => f3 _ (by show k ≠ 51; omega) (by show k ≠ 52; omega) (by show k ≠ 53; omega) (by show k ≠ 54; omega) (by show k ≠ 55; omega) (by show k ≠ 56; omega) (by show k ≠ 58; omega)
    rw [e 58 (by decide) (by decide) (by decide) (by decide)]
    have x59 : (putI (putI (putI (putI T (59, 0, 0) b i) (60, 0, 0) b n) (61, 0, 0) b n) (50, 0, 0) 11 (b + 1)).1 (59, 0, 0) b' = if b' = b then i else T.1 (59, 0, 0) b' := by simp [putI, xUpd]
    have x60 : (putI (putI (putI (putI T (59, 0, 0) b i) (60, 0, 0) b n) (61, 0, 0) b n) (50, 0, 0) 11 (b + 1)).1 (60, 0, 0) b' = if b' = b then (n : Int) else T.1 (60, 0, 0) b' := by simp [putI, xUpd]
    have x61 : (putI (putI (putI (putI T (59, 0, 0) b i) (60, 0, 0) b n) (61, 0, 0) b n) (50, 0, 0) 11 (b + 1)).1 (61, 0, 0) b' = if b' = b then (n : Int) else T.1 (61, 0, 0) b' := by simp [putI, xUpd]
    rw [x59, x60, x61, e9 59 (by simp), e9 60 (by simp), e9 61 (by simp)]
    by_cases y : b' = b
    · subst y
      rw [if_pos rfl, if_pos rfl, if_pos rfl, f6, ← hb]
      have z : (sFrk C i n).1 (9, C.1 (0, 0, 0) 6, 0) = (sFork C (C.1 (0, 0, 0) 6) i n).1 (9, C.1 (0, 0, 0) 6, 0) := putI_o (nK (by decide) _ _ _ _)
      rw [z, g9.1, g9.2.1, g9.2.2.1, g9.2.2.2]
      exact ⟨rfl, rfl, rfl, rfl⟩
    · rw [if_neg y, if_neg y, if_neg y, f5 b' y, frk_9 C i n b' (by omega)]
      exact ⟨q1, q2, q3, q4⟩
  · rw [e 57 (by decide) (by decide) (by decide) (by decide), c0 3 0 0 (by decide) (by decide) (by decide) (by decide), f3 _ (by decide) (by decide) (by decide) (by decide) (by decide) (by decide) (by decide)]
    exact h5 x x0 x1
theorem frk_j (C : XS) (i : Int) (n : Nat) : (sFrk C i n).2 = C.2 := sForkN_j C _ _ n
theorem fork_mrl {C U T : XS} (hl : MRl C U) {i b : Int} {n : Nat} (h : FkR C U i b n T) : MRl (sFrk C i n) (putI (putI (putI (putI T (59, 0, 0) b i) (60, 0, 0) b n) (61, 0, 0) b n) (50, 0, 0) 11 (b + 1)) := by
  obtain ⟨f1, f2, f3, f4, f5, f6, f7⟩ := h
  have e : ∀ (k : Nat) (x y : Int), 67 ≤ k → (putI (putI (putI (putI T (59, 0, 0) b i) (60, 0, 0) b n) (61, 0, 0) b n) (50, 0, 0) 11 (b + 1)).1 (k, x, y) = U.1 (k, x, y) := fun k x y a => by
    rw [putI_o (nK (by omega) _ _ _ _), putI_o (nK (by omega) _ _ _ _), putI_o (nK (by omega) _ _ _ _), putI_o (nK (by omega) _ _ _ _)]
    exact f3 _ (by show k ≠ 51; omega) (by show k ≠ 52; omega) (by show k ≠ 53; omega) (by show k ≠ 54; omega) (by show k ≠ 55; omega) (by show k ≠ 56; omega) (by show k ≠ 58; omega)
  exact hl.to (fun l => ⟨frk_o C i n (by decide) l 0, by rw [frk_j], by rw [frk_j], by rw [frk_j]⟩) (by rw [frk_0, if_neg (by decide)]) (fun k a1 a2 => e k 0 0 a1) (by show T.2.2.2.1 = U.2.2.2.1; rw [f2]) (fun l u => e 81 l u (by decide))
set_option maxHeartbeats 4000000 in
set_option maxRecDepth 100000 in
theorem l_fork (C U : XS) (hC : CB C) (hM : MR C U) (i b : Int) (i0 : 0 ≤ i) (i1 : i < C.1 (0, 0, 0) 6) (hb : C.1 (0, 0, 0) 6 = b) (b1 : b < 4) (n : Nat) (hn : (n : Int) ≤ C.1 (9, i, 0) 3) (h25 : U.1 (50, 0, 0) 25 = 0) (hml : MRl C U) : ∀ (nn : Nat) (T : XS) (k : Nat), (n : Int) - (k : Int) + 1 < (nn : Int) → (FkR C U i b k T) → (k ≤ n) → X mX9_fork 34 [xR (50, 0, 0), xI i, xI (n : Int), xI (k : Int), none, none] [] (hp T) 0 0 (pTz U (sFrk C i n) b 0) := by
  intro nn
  induction nn with
  | zero => intro T k hm hf hk; exfalso; omega
  | succ nn ih =>
    intro T k hm hf hk
    have wT := hf.1
    obtain ⟨-, f2, f3, f4, f5, f6, f7⟩ := id hf
    have hz := wT.1
    have c6 := wf0_6 hC.1
    have c9 := wf9_3 hC.1 i0 (show i < 4 by omega)
    have e50 : T.1 (50, 0, 0) = U.1 (50, 0, 0) := f3 _ (by decide) (by decide) (by decide) (by decide) (by decide) (by decide) (by decide)
    have n11T : T.1 (50, 0, 0) 11 = b := by rw [e50, hM.2.1.1, hb]
    have h60 : ∀ b : Int, 0 ≤ b → b < 4 → C.1 (9, b, 0) 3 ≤ 60 := fun b x y => (wf9_3 hC.1 x y).2
    refine x_iload_n dX9_fork_34 rfl ?_
    refine x_iload_n dX9_fork_35 rfl ?_
    refine x_icmp_ge (tgt := 113) dX9_fork_36 (by decide) (by first | exact hz _ _ | exact hw.1 _ _ | exact zR_of _ | exact bI_z _ | assumption | exact ⟨by omega, by omega⟩) (by first | exact hz _ _ | exact hw.1 _ _ | exact zR_of _ | exact bI_z _ | assumption | exact ⟨by omega, by omega⟩) (fun c36 => ?_) (fun c36 => ?_)
    · refine x_aload_n dX9_fork_113 rfl ?_
      refine x_get (v := xR (59, 0, 0)) dX9_fork_114 fl_RX9_36 (hp50 T) rfl ?_
      refine x_aload_n dX9_fork_117 rfl ?_
      refine x_get (v := xI (T.1 (50, 0, 0) 11)) dX9_fork_118 fl_RX9_45 (hp50 T) rfl ?_
      have f118_1 := wf50_11 wT (S := T)
      refine x_top (show T.1 (50, 0, 0) 11 = b from n11T) ?_
      refine x_iload_n dX9_fork_121 rfl ?_
      refine x_asti dX9_fork_122 (hp59 T) (show (59 : Nat) ≠ 99 by decide) (by omega) (by omega) (by decide) ?_
      refine x_heq (pa59 T b i) ?_
      have hw122_2 : WI (putI T (59, 0, 0) b i) := wpa59 wT (by omega)
      refine x_aload_n dX9_fork_123 rfl ?_
      refine x_get (v := xR (60, 0, 0)) dX9_fork_124 fl_RX9_39 (hp50 (putI T (59, 0, 0) b i)) rfl ?_
      refine x_aload_n dX9_fork_127 rfl ?_
      refine x_get (v := xI (T.1 (50, 0, 0) 11)) dX9_fork_128 fl_RX9_45 (hp50 (putI T (59, 0, 0) b i)) rfl ?_
      have f128_3 := wf50_11 wT (S := T)
      refine x_top (show T.1 (50, 0, 0) 11 = b from by first | exact n11T) ?_
      refine x_iload_n dX9_fork_131 rfl ?_
      refine x_asti dX9_fork_132 (hp60 (putI T (59, 0, 0) b i)) (show (60 : Nat) ≠ 99 by decide) (by omega) (by omega) (by decide) ?_
      refine x_heq (pa60 (putI T (59, 0, 0) b i) b (n : Int)) ?_
      have hw132_4 : WI (putI (putI T (59, 0, 0) b i) (60, 0, 0) b (n : Int)) := wpa60 hw122_2 (by omega)
      refine x_aload_n dX9_fork_133 rfl ?_
      refine x_get (v := xR (61, 0, 0)) dX9_fork_134 fl_RX9_42 (hp50 (putI (putI T (59, 0, 0) b i) (60, 0, 0) b (n : Int))) rfl ?_
      refine x_aload_n dX9_fork_137 rfl ?_
      refine x_get (v := xI (T.1 (50, 0, 0) 11)) dX9_fork_138 fl_RX9_45 (hp50 (putI (putI T (59, 0, 0) b i) (60, 0, 0) b (n : Int))) rfl ?_
      have f138_5 := wf50_11 wT (S := T)
      refine x_top (show T.1 (50, 0, 0) 11 = b from by first | exact n11T) ?_
      refine x_iload_n dX9_fork_141 rfl ?_
      refine x_asti dX9_fork_142 (hp61 (putI (putI T (59, 0, 0) b i) (60, 0, 0) b (n : Int))) (show (61 : Nat) ≠ 99 by decide) (by omega) (by omega) (by decide) ?_
      refine x_heq (pa61 (putI (putI T (59, 0, 0) b i) (60, 0, 0) b (n : Int)) b (n : Int)) ?_
      have hw142_6 : WI (putI (putI (putI T (59, 0, 0) b i) (60, 0, 0) b (n : Int)) (61, 0, 0) b (n : Int)) := wpa61 hw132_4 (by omega)
      refine x_aload_n dX9_fork_143 rfl ?_
      refine x_dup dX9_fork_144 rfl ?_
      refine x_get (v := xI (T.1 (50, 0, 0) 11)) dX9_fork_145 fl_RX9_45 (hp50 (putI (putI (putI T (59, 0, 0) b i) (60, 0, 0) b (n : Int)) (61, 0, 0) b (n : Int))) rfl ?_
      have f145_7 := wf50_11 wT (S := T)
      refine x_top (show T.1 (50, 0, 0) 11 = b from by first | exact n11T) ?_
      refine x_iconst dX9_fork_148 ?_
      refine x_iadd dX9_fork_149 ?_
      skip
      refine x_put dX9_fork_150 fl_RX9_45 (fun r hr => by cases hr; rfl) (hp50 (putI (putI (putI T (59, 0, 0) b i) (60, 0, 0) b (n : Int)) (61, 0, 0) b (n : Int))) xfit_i (Nat.le_of_ble_eq_true rfl) rfl ?_
      refine x_heq (pu50_11 (putI (putI (putI T (59, 0, 0) b i) (60, 0, 0) b (n : Int)) (61, 0, 0) b (n : Int)) (b + 1)) ?_
      have hw150_8 : WI (putI (putI (putI (putI T (59, 0, 0) b i) (60, 0, 0) b (n : Int)) (61, 0, 0) b (n : Int)) (50, 0, 0) 11 (b + 1)) := wp50_11 hw142_6 (by omega)
      refine x_aload_n dX9_fork_153 rfl ?_
      refine x_get (v := xI ((putI (putI (putI (putI T (59, 0, 0) b i) (60, 0, 0) b (n : Int)) (61, 0, 0) b (n : Int)) (50, 0, 0) 11 (b + 1)).1 (50, 0, 0) 11)) dX9_fork_154 fl_RX9_45 (hp50 (putI (putI (putI (putI T (59, 0, 0) b i) (60, 0, 0) b (n : Int)) (61, 0, 0) b (n : Int)) (50, 0, 0) 11 (b + 1))) rfl ?_
      have f154_9 := wf50_11 hw150_8 (S := putI (putI (putI (putI T (59, 0, 0) b i) (60, 0, 0) b (n : Int)) (61, 0, 0) b (n : Int)) (50, 0, 0) 11 (b + 1))
      refine x_iconst dX9_fork_157 ?_
      refine x_isub dX9_fork_158 ?_
      refine x_top (show ((putI (putI (putI (putI T (59, 0, 0) b i) (60, 0, 0) b (n : Int)) (61, 0, 0) b (n : Int)) (50, 0, 0) 11 (b + 1)).1 (50, 0, 0) 11) - 1 = b from by rw [putI_self]; omega) ?_
      exact x_iret dX9_fork_159 rfl ⟨rfl, _, rfl, (((hf.cl.put (by simp)).put (by simp)).put (by simp)).put (by simp), by assumption, by rw [putI_at, if_neg (by decide), putI_o (nK (by decide) _ _ _ _), putI_o (nK (by decide) _ _ _ _), putI_o (nK (by decide) _ _ _ _), e50]; exact h25, (by have e : k = n := (by omega); subst e; exact fork_mr hM i0 i1 hb b1 (by omega) h60 hf), (by have e : k = n := (by omega); subst e; exact fork_mrl hml hf), usum_eq 5 (fun l _ => by show T.2.2.2.1 l = _; rw [f2])⟩
    · have hkn : k < n := by omega
      obtain ⟨t1, t2, t3, t4, t5, t6⟩ := hM.1 i k i0 (by omega) (by omega) (by omega)
      have ne : 60 * i + (k : Int) < 60 * b ∨ 60 * b + 60 ≤ 60 * i + (k : Int) := by omega
      have u1 := (f4 51 _ (by decide) (by decide) ne).trans t1
      have u2 := (f4 52 _ (by decide) (by decide) ne).trans t2
      have u3 := (f4 53 _ (by decide) (by decide) ne).trans t3
      have u4 := (f4 54 _ (by decide) (by decide) ne).trans t4
      have u6 := (f4 56 _ (by decide) (by decide) ne).trans t6
      have g2 := wf13_2 hC.1 i0 (show i < 4 by omega) (t := (k : Int)) (by omega) (by omega)
      have g3 := wf13_3 hC.1 i0 (show i < 4 by omega) (t := (k : Int)) (by omega) (by omega)
      have g4 := wf13_4 hC.1 i0 (show i < 4 by omega) (t := (k : Int)) (by omega) (by omega)
      have g6 := wf13_6 hC.1 i0 (show i < 4 by omega) (t := (k : Int)) (by omega) (by omega)
      have kin := kd_in (C.1 (13, i, k) 0) (C.1 (13, i, k) 1)
      refine x_iload_n dX9_fork_39 rfl ?_
      refine x_bipush (v := 60) dX9_fork_40 (by decide) ?_
      refine x_imul dX9_fork_42 ?_
      refine x_iload_n dX9_fork_43 rfl ?_
      refine x_iadd dX9_fork_44 ?_
      refine x_top (show (i * 60) + (k : Int) = 60 * i + (k : Int) from by omega) ?_
      refine x_istore (L' := [xR (50, 0, 0), xI i, xI (n : Int), xI (k : Int), xI (60 * i + (k : Int)), none]) dX9_fork_45 (by decide) rfl ?_
      refine x_aload_n dX9_fork_47 rfl ?_
      refine x_aload_n dX9_fork_48 rfl ?_
      refine x_get (v := xI (T.1 (50, 0, 0) 11)) dX9_fork_49 fl_RX9_45 (hp50 T) rfl ?_
      have f49_10 := wf50_11 wT (S := T)
      refine x_top (show T.1 (50, 0, 0) 11 = b from n11T) ?_
      refine x_aload_n dX9_fork_52 rfl ?_
      refine x_get (v := xR (51, 0, 0)) dX9_fork_53 fl_RX9_9 (hp50 T) rfl ?_
      refine x_iload dX9_fork_56 rfl ?_
      refine x_aldc (f := T.1 (51, 0, 0)) dX9_fork_58 (hp51 T) (show (51 : Nat) ≠ 99 by decide) (by omega) (by omega) (by decide) ?_
      have f58_11 := wfa51 wT (S := T) (60 * i + (k : Int))
      refine x_top (show T.1 (51, 0, 0) (60 * i + (k : Int)) = kd (C.1 (13, i, k) 0) (C.1 (13, i, k) 1) from u1) ?_
      refine x_aload_n dX9_fork_59 rfl ?_
      refine x_get (v := xR (52, 0, 0)) dX9_fork_60 fl_RX9_13 (hp50 T) rfl ?_
      refine x_iload dX9_fork_63 rfl ?_
      refine x_aldi (f := T.1 (52, 0, 0)) dX9_fork_65 (hp52 T) (show (52 : Nat) ≠ 99 by decide) (by omega) (by omega) (by decide) ?_
      have f65_12 := wfa52 wT (S := T) (60 * i + (k : Int))
      refine x_top (show T.1 (52, 0, 0) (60 * i + (k : Int)) = C.1 (13, i, k) 2 from u2) ?_
      refine x_aload_n dX9_fork_66 rfl ?_
      refine x_get (v := xR (53, 0, 0)) dX9_fork_67 fl_RX9_17 (hp50 T) rfl ?_
      refine x_iload dX9_fork_70 rfl ?_
      refine x_aldi (f := T.1 (53, 0, 0)) dX9_fork_72 (hp53 T) (show (53 : Nat) ≠ 99 by decide) (by omega) (by omega) (by decide) ?_
      have f72_13 := wfa53 wT (S := T) (60 * i + (k : Int))
      refine x_top (show T.1 (53, 0, 0) (60 * i + (k : Int)) = C.1 (13, i, k) 3 from u3) ?_
      refine x_aload_n dX9_fork_73 rfl ?_
      refine x_get (v := xR (54, 0, 0)) dX9_fork_74 fl_RX9_20 (hp50 T) rfl ?_
      refine x_iload dX9_fork_77 rfl ?_
      refine x_aldi (f := T.1 (54, 0, 0)) dX9_fork_79 (hp54 T) (show (54 : Nat) ≠ 99 by decide) (by omega) (by omega) (by decide) ?_
      have f79_14 := wfa54 wT (S := T) (60 * i + (k : Int))
      refine x_top (show T.1 (54, 0, 0) (60 * i + (k : Int)) = C.1 (13, i, k) 4 from u4) ?_
      refine x_iconst dX9_fork_80 ?_
      refine x_callV_r (a := 0) (b := 0) (as := [xI b, xI (kd (C.1 (13, i, k) 0) (C.1 (13, i, k) 1)), xI (C.1 (13, i, k) 2), xI (C.1 (13, i, k) 3), xI (C.1 (13, i, k) 4), xI (-1)]) (rest := []) ok_X9_tells dX9_fork_81 wd1233 ⟨wd1235, wd23⟩ (hp50 T) rfl rfl (m_tells T wT b (k : Int) (kd (C.1 (13, i, k) 0) (C.1 (13, i, k) 1)) (C.1 (13, i, k) 2) (C.1 (13, i, k) 3) (C.1 (13, i, k) 4) (-1) (by omega) (by omega) f6 (by omega) (by omega) (by omega) (by omega) (by omega) (by omega) (by omega)) rfl (Nat.le_of_ble_eq_true rfl) (Nat.le_of_ble_eq_true rfl) (by decide) (by omega) (by omega) ?_
      refine x_istore (L' := [xR (50, 0, 0), xI i, xI (n : Int), xI (k : Int), xI (60 * i + (k : Int)), xI ((k : Int) + 1)]) dX9_fork_84 (by decide) rfl ?_
      refine x_aload_n dX9_fork_86 rfl ?_
      refine x_get (v := xR (56, 0, 0)) dX9_fork_87 fl_RX9_26 (hp50 (sTel T b (k : Int) (kd (C.1 (13, i, k) 0) (C.1 (13, i, k) 1)) (C.1 (13, i, k) 2) (C.1 (13, i, k) 3) (C.1 (13, i, k) 4) (-1))) rfl ?_
      refine x_aload_n dX9_fork_90 rfl ?_
      refine x_get (v := xI ((sTel T b (k : Int) (kd (C.1 (13, i, k) 0) (C.1 (13, i, k) 1)) (C.1 (13, i, k) 2) (C.1 (13, i, k) 3) (C.1 (13, i, k) 4) (-1)).1 (50, 0, 0) 11)) dX9_fork_91 fl_RX9_45 (hp50 (sTel T b (k : Int) (kd (C.1 (13, i, k) 0) (C.1 (13, i, k) 1)) (C.1 (13, i, k) 2) (C.1 (13, i, k) 3) (C.1 (13, i, k) 4) (-1))) rfl ?_
      have f91_15 := wf50_11 (sTel_wi wT (by omega) (by omega) (by omega) (by omega) (by omega) (by omega)) (S := sTel T b (k : Int) (kd (C.1 (13, i, k) 0) (C.1 (13, i, k) 1)) (C.1 (13, i, k) 2) (C.1 (13, i, k) 3) (C.1 (13, i, k) 4) (-1))
      refine x_top (show (sTel T b (k : Int) (kd (C.1 (13, i, k) 0) (C.1 (13, i, k) 1)) (C.1 (13, i, k) 2) (C.1 (13, i, k) 3) (C.1 (13, i, k) 4) (-1)).1 (50, 0, 0) 11 = b from by rw [sTel_o _ _ _ _ _ _ _ _ (by decide) (by decide) (by decide) (by decide) (by decide) (by decide) (by decide)]; exact n11T) ?_
      refine x_bipush (v := 60) dX9_fork_94 (by decide) ?_
      refine x_imul dX9_fork_96 ?_
      refine x_iload_n dX9_fork_97 rfl ?_
      refine x_iadd dX9_fork_98 ?_
      refine x_top (show (b * 60) + (k : Int) = 60 * b + (k : Int) from by omega) ?_
      refine x_aload_n dX9_fork_99 rfl ?_
      refine x_get (v := xR (56, 0, 0)) dX9_fork_100 fl_RX9_26 (hp50 (sTel T b (k : Int) (kd (C.1 (13, i, k) 0) (C.1 (13, i, k) 1)) (C.1 (13, i, k) 2) (C.1 (13, i, k) 3) (C.1 (13, i, k) 4) (-1))) rfl ?_
      refine x_iload dX9_fork_103 rfl ?_
      refine x_aldz (f := (sTel T b (k : Int) (kd (C.1 (13, i, k) 0) (C.1 (13, i, k) 1)) (C.1 (13, i, k) 2) (C.1 (13, i, k) 3) (C.1 (13, i, k) 4) (-1)).1 (56, 0, 0)) dX9_fork_105 (hp56 (sTel T b (k : Int) (kd (C.1 (13, i, k) 0) (C.1 (13, i, k) 1)) (C.1 (13, i, k) 2) (C.1 (13, i, k) 3) (C.1 (13, i, k) 4) (-1))) (show (56 : Nat) ≠ 99 by decide) (by omega) (by omega) (by decide) ?_
      have f105_16 := wfa56 (sTel_wi wT (by omega) (by omega) (by omega) (by omega) (by omega) (by omega)) (S := sTel T b (k : Int) (kd (C.1 (13, i, k) 0) (C.1 (13, i, k) 1)) (C.1 (13, i, k) 2) (C.1 (13, i, k) 3) (C.1 (13, i, k) 4) (-1)) (60 * i + (k : Int))
      refine x_top (show (sTel T b (k : Int) (kd (C.1 (13, i, k) 0) (C.1 (13, i, k) 1)) (C.1 (13, i, k) 2) (C.1 (13, i, k) 3) (C.1 (13, i, k) 4) (-1)).1 (56, 0, 0) (60 * i + (k : Int)) = C.1 (13, i, k) 6 from by rw [(sTel_r _ _ _ _ _ _ _ _ _).2.2.2.2.2.1, if_neg (by omega)]; exact u6) ?_
      refine x_astz dX9_fork_106 (hp56 (sTel T b (k : Int) (kd (C.1 (13, i, k) 0) (C.1 (13, i, k) 1)) (C.1 (13, i, k) 2) (C.1 (13, i, k) 3) (C.1 (13, i, k) 4) (-1))) (show (56 : Nat) ≠ 99 by decide) (by omega) (by omega) (by decide) g6 ?_
      refine x_heq (pa56 (sTel T b (k : Int) (kd (C.1 (13, i, k) 0) (C.1 (13, i, k) 1)) (C.1 (13, i, k) 2) (C.1 (13, i, k) 3) (C.1 (13, i, k) 4) (-1)) (60 * b + (k : Int)) (C.1 (13, i, k) 6)) ?_
      have hw106_17 : WI (putI (sTel T b (k : Int) (kd (C.1 (13, i, k) 0) (C.1 (13, i, k) 1)) (C.1 (13, i, k) 2) (C.1 (13, i, k) 3) (C.1 (13, i, k) 4) (-1)) (56, 0, 0) (60 * b + (k : Int)) (C.1 (13, i, k) 6)) := wpa56 (sTel_wi wT (by omega) (by omega) (by omega) (by omega) (by omega) (by omega)) g6
      refine x_iinc (L' := [xR (50, 0, 0), xI i, xI (n : Int), xI ((k : Int) + 1), xI (60 * i + (k : Int)), xI ((k : Int) + 1)]) dX9_fork_107 rfl rfl ?_
      refine x_goto (tgt := 34) dX9_fork_110 (by decide) ?_
      refine X.loc (L' := [xR (50, 0, 0), xI i, xI (n : Int), xI ((k : Int) + 1), none, none]) ⟨rfl, ⟨rfl, ⟨rfl, ⟨rfl, trivial⟩⟩⟩⟩ ?_
      have kz := ih (putI (sTel T b (k : Int) (kd (C.1 (13, i, k) 0) (C.1 (13, i, k) 1)) (C.1 (13, i, k) 2) (C.1 (13, i, k) 3) (C.1 (13, i, k) 4) (-1)) (56, 0, 0) (60 * b + (k : Int)) (C.1 (13, i, k) 6)) (k + 1) (by omega) (hf.step (by omega) hw106_17 rfl rfl rfl rfl rfl) (by omega)
      rw [show ((k + 1 : Nat) : Int) = (k : Int) + 1 by omega] at kz
      exact kz
set_option maxHeartbeats 4000000 in
set_option maxRecDepth 100000 in
theorem m_fork (C S : XS) (hC : CB C) (hw : WI S) (hM : MR C S) (i n : Int) (zi : zR i) (zn : zR n) (hml : MRl C S) (hB0 : C.1 (0, 0, 0) 6 < 4 → C.1 (9, C.1 (0, 0, 0) 6, 0) 3 = 0) : X mX9_fork 0 (xEnt mX9_fork [xR (50, 0, 0), xI i, xI n]) [] (hp S) 0 0 (pMz S (fun k z => z = 0 ∧ ((k = 1 ∧ ¬ ((0 ≤ i ∧ i < C.1 (0, 0, 0) 6) ∧ 0 ≤ n ∧ n < C.1 (9, i, 0) 3 + 1)) ∨ (k = 2 ∧ ((0 ≤ i ∧ i < C.1 (0, 0, 0) 6) ∧ 0 ≤ n ∧ n < C.1 (9, i, 0) 3 + 1) ∧ ¬ (C.1 (0, 0, 0) 6 < 4)))) (((0 ≤ i ∧ i < C.1 (0, 0, 0) 6) ∧ 0 ≤ n ∧ n < C.1 (9, i, 0) 3 + 1) ∧ (C.1 (0, 0, 0) 6 < 4)) (C.1 (0, 0, 0) 6) (sFrk C i n.toNat) 0) := by
  have c6 := wf0_6 hC.1
  have c4 := wf4_2 hC.1
  have h93 : 0 ≤ i → i < C.1 (0, 0, 0) 6 → 0 ≤ C.1 (9, i, 0) 3 ∧ C.1 (9, i, 0) 3 ≤ 60 := fun a b => wf9_3 hC.1 a (by omega)
  obtain ⟨n11, n12, n13, n24⟩ := hM.2.1
  have hz := hw.1
  show X mX9_fork 0 [xR (50, 0, 0), xI i, xI n, none, none, none] [] (hp S) 0 0 _
  refine x_aload_n dX9_fork_0 rfl ?_
  refine x_iload_n dX9_fork_1 rfl ?_
  refine x_iload_n dX9_fork_2 rfl ?_
  refine x_callV (a := 0) (b := 0) (as := [xI i, xI n]) (rest := []) ok_X9_isNoKnowing dX9_fork_3 wd1331 ⟨wd1333, wd39⟩ (hp50 S) rfl rfl (m_isNoKnowing C S hC hw (hM.q (MdQ.rf S)) i n (by first | exact hz _ _ | exact hw.1 _ _ | exact zR_of _ | exact bI_z _ | assumption | exact ⟨by omega, by omega⟩) (by first | exact hz _ _ | exact hw.1 _ _ | exact zR_of _ | exact bI_z _ | assumption | exact ⟨by omega, by omega⟩)) rfl (Nat.le_of_ble_eq_true rfl) (Nat.le_of_ble_eq_true rfl) (by decide) (by omega) (by omega) (fun _ q => by obtain ⟨_, _, _, y, _⟩ := q; cases y) (fun _ _ q => ?_) (fun _ _ q => by obtain ⟨_, _, _, y, _⟩ := q; cases y)
  obtain ⟨U1, z1, rfl, y1, qU1, wU1, hU1⟩ := q
  cases y1
  have sU1 := (MdQ.rf S).tr qU1
  rcases hU1 with ⟨rfl, hU1⟩ | ⟨rfl, hU1⟩
  · refine x_if_ne (tgt := 30) dX9_fork_6 (by decide) ⟨by decide, by decide⟩ (fun _ => ?_) (fun z => absurd z (by decide))
    refine x_iconst dX9_fork_30 ?_
    exact x_iret dX9_fork_31 rfl (Or.inl (pM_of sU1 wU1 (by omega)))
  · refine x_if_ne (tgt := 30) dX9_fork_6 (by decide) ⟨by decide, by decide⟩ (fun z => absurd z (by decide)) (fun _ => ?_)
    refine x_aload_n dX9_fork_9 rfl ?_
    refine x_aload_n dX9_fork_10 rfl ?_
    refine x_get (v := xI (U1.1 (50, 0, 0) 11)) dX9_fork_11 fl_RX9_45 (hp50 U1) rfl ?_
    have f11_1 := wf50_11 wU1 (S := U1)
    refine x_top (show U1.1 (50, 0, 0) 11 = C.1 (0, 0, 0) 6 from (hM.q sU1).2.1.1) ?_
    refine x_iconst dX9_fork_14 ?_
    refine x_icmp_ne (tgt := 22) dX9_fork_15 (by decide) (by first | exact hz _ _ | exact hw.1 _ _ | exact zR_of _ | exact bI_z _ | assumption | exact ⟨by omega, by omega⟩) ⟨by decide, by decide⟩ (fun c15 => ?_) (fun c15 => ?_)
    · refine x_iconst dX9_fork_22 ?_
      refine x_iconst dX9_fork_23 ?_
      refine x_callV_r (a := 0) (b := 0) (as := [xI 0, xI 2]) (rest := []) ok_X9_isThrown dX9_fork_24 wd1215 ⟨wd1217, wd20⟩ (hp50 U1) rfl rfl ((show X mX9_isThrown 0 (xEnt mX9_isThrown [xR (50, 0, 0), xI 0, xI 2]) [] (hp U1) 0 0 (pRet (xI 0) (hp (putI U1 (50, 0, 0) 25 0))) from by have q := m_isThrown U1 wU1 0 2 (by omega) (by omega); rw [if_pos rfl] at q; exact q)) rfl (Nat.le_of_ble_eq_true rfl) (Nat.le_of_ble_eq_true rfl) (by decide) (by omega) (by omega) ?_
      refine x_if_eq (tgt := 32) dX9_fork_27 (by decide) ⟨by decide, by decide⟩ (fun _ => ?_) (fun z => absurd z (by decide))
      refine x_iconst dX9_fork_32 ?_
      refine x_istore_n (L' := [xR (50, 0, 0), xI i, xI n, xI 0, none, none]) dX9_fork_33 (by decide) rfl ?_
      have z := l_fork C (putI U1 (50, 0, 0) 25 0) hC (hM.q (sU1.thr 0)) i (C.1 (0, 0, 0) 6) (by omega) (by omega) rfl (by omega) n.toNat (by omega) (putI_self _ _ _ _) (hml.q (sU1.thr 0)) (n.toNat + 2) (putI U1 (50, 0, 0) 25 0) 0 (by omega) (FkR.start (wp50_25 wU1 (by omega)) (by have q := (((hM.q (sU1.thr 0))).2.2.2.1 (C.1 (0, 0, 0) 6) (by omega) (by omega)).1; exact q.trans (hB0 (by omega)))) (by omega)
      rw [show ((n.toNat : Nat) : Int) = n by omega] at z
      refine X.weak z (Nat.le_refl _) (Nat.le_refl _) (fun o h' z => Or.inr ⟨by omega, z.of (sU1.thr 0)⟩)
    · refine x_iconst dX9_fork_18 ?_
      refine x_goto (tgt := 23) dX9_fork_19 (by decide) ?_
      refine x_iconst dX9_fork_23 ?_
      refine x_callV_r (a := 0) (b := 0) (as := [xI 1, xI 2]) (rest := []) ok_X9_isThrown dX9_fork_24 wd1215 ⟨wd1217, wd20⟩ (hp50 U1) rfl rfl ((show X mX9_isThrown 0 (xEnt mX9_isThrown [xR (50, 0, 0), xI 1, xI 2]) [] (hp U1) 0 0 (pRet (xI 1) (hp (putI U1 (50, 0, 0) 25 2))) from by have q := m_isThrown U1 wU1 1 2 (by omega) (by omega); rw [if_neg (by decide)] at q; exact q)) rfl (Nat.le_of_ble_eq_true rfl) (Nat.le_of_ble_eq_true rfl) (by decide) (by omega) (by omega) ?_
      refine x_if_eq (tgt := 32) dX9_fork_27 (by decide) ⟨by decide, by decide⟩ (fun z => absurd z (by decide)) (fun _ => ?_)
      refine x_iconst dX9_fork_30 ?_
      exact x_iret dX9_fork_31 rfl (Or.inl (pM_thr sU1 wU1 (by omega) (by omega)))
