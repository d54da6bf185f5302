/-! the reference: listen -/
theorem LQ.congr2 {C D S T : XS} {l : Int} (h : LQ C S l) (c1 : D.1 (14, l, 0) = C.1 (14, l, 0)) (c2 : D.2.1 (14, l, 0) = C.2.1 (14, l, 0)) (c3 : D.2.1 (30, l, 0) = C.2.1 (30, l, 0)) (c4 : D.2.1 (31, l, 0) = C.2.1 (31, l, 0)) (t1 : ∀ j : Int, 5 * l ≤ j → j ≤ 5 * l + 4 → T.1 (67, 0, 0) j = S.1 (67, 0, 0) j) (t2 : ∀ j : Int, 64 * l ≤ j → j < 64 * l + 64 → T.1 (70, 0, 0) j = S.1 (70, 0, 0) j) (t3 : T.1 (68, 0, 0) l = S.1 (68, 0, 0) l) (t4 : T.1 (69, 0, 0) l = S.1 (69, 0, 0) l) (t5 : T.2.2.2.1 l = S.2.2.2.1 l) (t6 : T.1 (81, l, S.2.2.2.1 l) = S.1 (81, l, S.2.2.2.1 l)) : LQ D T l := by
  obtain ⟨h1, h2, h3, h4, h5⟩ := h
  obtain ⟨k1, k2⟩ := h3.congr c1 c3 c4
  refine ⟨?_, fun k hk => ?_, k1, ?_, by rw [t3, c1]; exact h5⟩
  · rw [c1, c2, t1 _ (by omega) (by omega), t1 _ (by omega) (by omega), t1 _ (by omega) (by omega), t1 _ (by omega) (by omega), t1 _ (by omega) (by omega)]
    exact h1
  · rw [t2 _ (by omega) (by omega), c2]; exact h2 k hk
  · rw [k2]; exact h4.congr t5 t3 t4 t6
def sLi (U : XS) (n i r a s t : Int) : XS := putI (putI (putI (putI (putI U (67, 0, 0) (5 * n) i) (67, 0, 0) (5 * n + 1) r) (67, 0, 0) (5 * n + 2) a) (67, 0, 0) (5 * n + 3) s) (67, 0, 0) (5 * n + 4) t
theorem sLi_67 (U : XS) (n i r a s t : Int) : (sLi U n i r a s t).1 (67, 0, 0) (5 * n) = i ∧ (sLi U n i r a s t).1 (67, 0, 0) (5 * n + 1) = r ∧ (sLi U n i r a s t).1 (67, 0, 0) (5 * n + 2) = a ∧ (sLi U n i r a s t).1 (67, 0, 0) (5 * n + 3) = s ∧ (sLi U n i r a s t).1 (67, 0, 0) (5 * n + 4) = t ∧ ∀ j : Int, (j < 5 * n ∨ 5 * n + 4 < j) → (sLi U n i r a s t).1 (67, 0, 0) j = U.1 (67, 0, 0) j := by
  unfold sLi
  refine ⟨?_, ?_, ?_, ?_, ?_, fun j hj => ?_⟩
  · rw [putI_at, if_neg (by omega), putI_at, if_neg (by omega), putI_at, if_neg (by omega), putI_at, if_neg (by omega), putI_at, if_pos rfl]
  · rw [putI_at, if_neg (by omega), putI_at, if_neg (by omega), putI_at, if_neg (by omega), putI_at, if_pos rfl]
  · rw [putI_at, if_neg (by omega), putI_at, if_neg (by omega), putI_at, if_pos rfl]
  · rw [putI_at, if_neg (by omega), putI_at, if_pos rfl]
  · rw [putI_at, if_pos rfl]
  · rw [putI_at, if_neg (by omega), putI_at, if_neg (by omega), putI_at, if_neg (by omega), putI_at, if_neg (by omega), putI_at, if_neg (by omega)]
theorem sLi_o (U : XS) (n i r a s t : Int) {l : XL} (h : l ≠ (67, 0, 0)) : (sLi U n i r a s t).1 l = U.1 l := by
  unfold sLi
  rw [putI_o h, putI_o h, putI_o h, putI_o h, putI_o h]
theorem lis_o (C : XS) (i r a s t : Int) {l : XL} (h : l ≠ (14, C.1 (0, 0, 0) 7, 0)) (h2 : l ≠ (0, 0, 0)) : (sLis C i r a s t).1 l = C.1 l := by
  simp [sLis, sAttach, putI, putJ, h, h2]
theorem lis_j (C : XS) (i r a s t : Int) {l : XL} (h : l ≠ (14, C.1 (0, 0, 0) 7, 0)) : (sLis C i r a s t).2.1 l = C.2.1 l := by
  simp [sLis, sAttach, putI, putJ, h]
theorem lis_0 (C : XS) (i r a s t j : Int) : (sLis C i r a s t).1 (0, 0, 0) j = if j = 7 then C.1 (0, 0, 0) 7 + 1 else C.1 (0, 0, 0) j := by
  simp [sLis, sAttach, putI, putJ, xUpd]
theorem lis_at (C : XS) (i r a s t : Int) : (sLis C i r a s t).1 (14, C.1 (0, 0, 0) 7, 0) 2 = i ∧ (sLis C i r a s t).1 (14, C.1 (0, 0, 0) 7, 0) 3 = r ∧ (sLis C i r a s t).1 (14, C.1 (0, 0, 0) 7, 0) 4 = t ∧ (∀ j : Int, 5 ≤ j → (sLis C i r a s t).1 (14, C.1 (0, 0, 0) 7, 0) j = C.1 (14, C.1 (0, 0, 0) 7, 0) j) ∧ (sLis C i r a s t).2.1 (14, C.1 (0, 0, 0) 7, 0) 5 = pairsN a s 64 ∧ (sLis C i r a s t).2.1 (14, C.1 (0, 0, 0) 7, 0) 6 = hl C.1 i (C.1 (9, i, 0) 3).toNat t r &&& pairsN a s 64 := by
  refine ⟨?_, ?_, ?_, fun j hj => ?_, ?_, ?_⟩
  · simp [sLis, sAttach, putI, putJ, xUpd]
  · simp [sLis, sAttach, putI, putJ, xUpd]
  · simp [sLis, sAttach, putI, putJ, xUpd]
  · have n2 : ¬ j = 2 := by omega
    have n3 : ¬ j = 3 := by omega
    have n4 : ¬ j = 4 := by omega
    simp [sLis, sAttach, putI, putJ, xUpd, n2, n3, n4]
  · simp [sLis, sAttach, putI, putJ, xUpd]
  · simp [sLis, sAttach, putI, putJ, xUpd]
/-- behind a call that changed something -/
def pTz (S C' : XS) (v : Int) (cost : Nat) : XO → XH → Prop := fun o h' => o = .inl (some (xI v)) ∧ ∃ T, h' = hp T ∧ ClE S T ∧ WI T ∧ T.1 (50, 0, 0) 25 = 0 ∧ MR C' T ∧ MRl C' T ∧ usum T 5 = usum S 5 + cost
theorem pTz.of {S U C' : XS} {v : Int} {c : Nat} {o : XO} {h' : XH} (q : MdQ S U) (h : pTz U C' v c o h') : pTz S C' v c o h' := by
  obtain ⟨h1, T, h2, h3, h4, h5, h6, h7, h8⟩ := h
  exact ⟨h1, T, h2, q.cl.tr h3, h4, h5, h6, h7, by rw [h8, usum_q q]⟩
/-- a call that changes something: it fails, with Pf; or it is done -/
def pMz (S : XS) (Pf : Int → Int → Prop) (Pk : Prop) (v : Int) (C' : XS) (cost : Nat) : XO → XH → Prop := fun o h' => pM S (fun k z _ => Pf k z) o h' ∨ (Pk ∧ pTz S C' v cost o h')
theorem sLi_wi {U : XS} (hw : WI U) {n i r a s t : Int} (hi : 0 ≤ i ∧ i < 4) (hr : 0 ≤ r ∧ r < 6) (ha : -1 ≤ a ∧ a < 8) (hs : -1 ≤ s ∧ s < 8) (ht : 0 ≤ t ∧ t < 24) : WI (sLi U n i r a s t) := wpa67 (wpa67 (wpa67 (wpa67 (wpa67 hw (by omega)) (by omega)) (by omega)) (by omega)) (by omega)
theorem sLi_mr {C U : XS} (hM : MR C U) (n i r a s t : Int) : MR C (sLi U n i r a s t) := hM.rows (fun k a1 a2 => sLi_o U n i r a s t (nK (by omega) _ _ _ _)) (fun j _ => by rw [sLi_o U n i r a s t (nK (by decide) _ _ _ _)])
theorem lis_mr {C U T : XS} (hM : MR C U) {i r a s t : Int} {n : Int} (hn : C.1 (0, 0, 0) 7 = n) (hT : HsE (sLi U n i r a s t) T) : MR (sLis C i r a s t) (putI T (50, 0, 0) 24 (n + 1)) := by
  have h : MR C T := (sLi_mr hM n i r a s t).hs hT
  obtain ⟨h1, h2, h3, h4, h5⟩ := h
  have e : ∀ k : Nat, k ≠ 50 → (putI T (50, 0, 0) 24 (n + 1)).1 (k, 0, 0) = T.1 (k, 0, 0) := fun k z => putI_o (nK z _ _ _ _)
  have c0 : ∀ (k : Nat) (x y : Int), k ≠ 14 → k ≠ 0 → (sLis C i r a s t).1 (k, x, y) = C.1 (k, x, y) := fun k x y z1 z2 => lis_o C i r a s t (nK z1 _ _ _ _) (nK z2 _ _ _ _)
  refine ⟨fun b k b0 b1 k0 k1 => ?_, ?_, ?_, fun b b0 b1 => ?_, fun x x0 x1 => ?_⟩
  · rw [c0 9 b 0 (by decide) (by decide)] at k1
    rw [e 51 (by decide), e 52 (by decide), e 53 (by decide), e 54 (by decide), e 55 (by decide), e 56 (by decide), c0 13 b k (by decide) (by decide)]
    exact h1 b k b0 b1 k0 k1
  · obtain ⟨q1, q2, q3, q4⟩ := h2
    unfold MRn
    rw [lis_0, lis_0, lis_0, c0 4 0 0 (by decide) (by decide), putI_at, putI_at, putI_at, putI_at, if_neg (by decide), if_neg (by decide), if_neg (by decide), if_pos rfl, if_neg (by decide), if_neg (by decide), if_pos rfl, hn]
    exact ⟨q1, q2, q3, rfl⟩
  · exact h3.to (fun k x y hk => c0 k x y (by omega) (by omega)) (fun k a1 a2 => e k (by omega))
  · rw [e 58 (by decide), e 59 (by decide), e 60 (by decide), e 61 (by decide), c0 9 b 0 (by decide) (by decide)]
    exact h4 b b0 b1
  · rw [e 57 (by decide), c0 3 0 0 (by decide) (by decide)]
    exact h5 x x0 x1
theorem lis_mrl {C U T : XS} (h : MRl C U) {i r a s t : Int} {n : Int} (hn : C.1 (0, 0, 0) 7 = n) (n0 : 0 ≤ n) (n1 : n < 5) (a1 : a ≤ 7) (s1 : s ≤ 7) {C0 : XS} {m : Nat} (hJ : HJ C0 (sLi U n i r a s t) i n m t (hl C.1 i (C.1 (9, i, 0) 3).toNat t r &&& pairsN a s 64) 64 T) : MRl (sLis C i r a s t) (putI T (50, 0, 0) 24 (n + 1)) := by
  obtain ⟨e, w, f, k70, k68, kg, k81⟩ := hJ
  obtain ⟨p0, p1, p2, p3, p4, p5⟩ := sLi_67 U n i r a s t
  have o : ∀ k : Nat, k ≠ 50 → ∀ x y : Int, (putI T (50, 0, 0) 24 (n + 1)).1 (k, x, y) = T.1 (k, x, y) := fun k z x y => putI_o (nK z _ _ _ _)
  have t67 : T.1 (67, 0, 0) = (sLi U n i r a s t).1 (67, 0, 0) := e.k rfl (by decide) (by decide) (by decide) (by decide) 0 0
  have t68 : T.1 (68, 0, 0) = U.1 (68, 0, 0) := by rw [k68, sLi_o U n i r a s t (nK (by decide) _ _ _ _)]
  have t69 : T.1 (69, 0, 0) = U.1 (69, 0, 0) := by rw [e.k rfl (by decide) (by decide) (by decide) (by decide) 0 0, sLi_o U n i r a s t (nK (by decide) _ _ _ _)]
  have tg : T.2.2.2.1 = U.2.2.2.1 := kg
  have h7 : (sLis C i r a s t).1 (0, 0, 0) 7 = n + 1 := by rw [lis_0, if_pos rfl, hn]
  intro l l0 l1
  rw [h7]
  by_cases y : l = n
  · subst y
    refine ⟨fun _ => ?_, fun z => by omega⟩
    obtain ⟨f1, f2, f3, f4, f5, f6⟩ := (h l l0 l1).2 (by omega)
    obtain ⟨g1, g2, g3, g4, g5, g6⟩ := lis_at C i r a s t
    rw [hn] at g1 g2 g3 g4 g5 g6
    have hq : quC (sLis C i r a s t) l = [] := by
      unfold quC
      rw [g4 7 (by decide), g4 8 (by decide), f4, f5]
      rfl
    refine ⟨?_, fun k hk => ?_, ?_, ?_, ?_⟩
    · rw [o 67 (by decide), t67, p0, p1, p2, p3, p4, g1, g2, g3, g5]
      exact ⟨rfl, rfl, rfl, rfl, a1, s1⟩
    · rw [o 70 (by decide), k70 k hk, g6]
    · unfold LC
      rw [hq, g4 7 (by decide), g4 8 (by decide), g4 9 (by decide), f4, f5, f6]
      exact ⟨by decide, by decide, by decide, rfl, fun x x0 x1 => by omega⟩
    · rw [hq]
      unfold LR
      rw [o 68 (by decide), o 69 (by decide), t68, t69, f2, f3]
      show 0 ≤ T.2.2.2.1 l ∧ T.2.2.2.1 l ≤ 7 ∧ (0 : Int) ≤ 0 ∧ _ ∧ _ ∧ _
      rw [tg, f1]
      exact ⟨by decide, by decide, by decide, rfl, by omega, fun x v hx => by simp at hx⟩
    · rw [o 68 (by decide), t68, f2, g4 8 (by decide), f5]
      decide
  · have c1 : (sLis C i r a s t).1 (14, l, 0) = C.1 (14, l, 0) := lis_o C i r a s t (by rw [hn]; exact nX y 0) (nK (by decide) _ _ _ _)
    have c2 : (sLis C i r a s t).2.1 (14, l, 0) = C.2.1 (14, l, 0) := lis_j C i r a s t (by rw [hn]; exact nX y 0)
    refine ⟨fun z => ((h l l0 l1).1 (by omega)).congr2 c1 c2 (lis_j C i r a s t (nK (by decide) _ _ _ _)) (lis_j C i r a s t (nK (by decide) _ _ _ _)) (fun j j0 j1 => ?_) (fun j j0 j1 => ?_) ?_ ?_ ?_ ?_, fun z => ?_⟩
    · rw [o 67 (by decide), t67, p5 j (by omega)]
    · rw [o 70 (by decide), e.2.2.1 j (by omega), sLi_o U n i r a s t (nK (by decide) _ _ _ _)]
    · rw [o 68 (by decide), t68]
    · rw [o 69 (by decide), t69]
    · show T.2.2.2.1 l = _
      rw [tg]
    · rw [o 81 (by decide), e.1 _ rfl (by show (81 : Nat) ≠ 50; decide) (nK (by decide) _ _ _ _) (nK (by decide) _ _ _ _) (fun u w => y (by injection w with _ w; injection w)), sLi_o U n i r a s t (nK (by decide) _ _ _ _)]
    · obtain ⟨f1, f2, f3, f4, f5, f6⟩ := (h l l0 l1).2 (by omega)
      refine ⟨?_, by rw [o 68 (by decide), t68]; exact f2, by rw [o 69 (by decide), t69]; exact f3, by rw [c1]; exact f4, by rw [c1]; exact f5, by rw [c1]; exact f6⟩
      show T.2.2.2.1 l = _
      rw [tg]; exact f1
set_option maxHeartbeats 4000000 in
set_option maxRecDepth 100000 in
theorem t_listen (C U : XS) (hC : CB C) (hw : WI U) (hM : MR C U) (hml : MRl C U) (h25 : U.1 (50, 0, 0) 25 = 0) (n i r a s t : Int) (hn : C.1 (0, 0, 0) 7 = n) (n1 : n < 5) (i0 : 0 ≤ i) (i1 : i < C.1 (0, 0, 0) 6) (r0 : 0 ≤ r) (r1 : r < 6) (a0 : -1 ≤ a) (a1 : a < 8) (s0 : -1 ≤ s) (s1 : s < 8) (t0 : 0 ≤ t) (t1 : t < 24) : X mX9_listen 85 [xR (50, 0, 0), xI i, xI r, xI a, xI s, xI t] [] (hp U) 0 0 (pTz U (sLis C i r a s t) n 0) := by
  have c6 := wf0_6 hC.1
  have c7 := wf0_7 hC.1
  have c9 := wf9_3 hC.1 i0 (show i < 4 by omega)
  have hz := hw.1
  have hn24 : U.1 (50, 0, 0) 24 = n := hM.2.1.2.2.2.trans hn
  obtain ⟨p0, p1, p2, p3, p4, p5⟩ := sLi_67 U n i r a s t
  refine x_aload_n dX9_listen_85 rfl ?_
  refine x_get (v := xR (67, 0, 0)) dX9_listen_86 fl_RX9_64 (hp50 U) rfl ?_
  refine x_iconst dX9_listen_89 ?_
  refine x_aload_n dX9_listen_90 rfl ?_
  refine x_get (v := xI (U.1 (50, 0, 0) 24)) dX9_listen_91 fl_RX9_241 (hp50 U) rfl ?_
  have f91_1 := wf50_24 hw (S := U)
  refine x_top (show U.1 (50, 0, 0) 24 = n from hn24) ?_
  refine x_imul dX9_listen_94 ?_
  refine x_iload_n dX9_listen_95 rfl ?_
  refine x_asti dX9_listen_96 (hp67 U) (show (67 : Nat) ≠ 99 by decide) (by omega) (by omega) (by decide) ?_
  refine x_heq (pa67 U (5 * n) i) ?_
  have hw96_2 : WI (putI U (67, 0, 0) (5 * n) i) := wpa67 hw (by omega)
  refine x_aload_n dX9_listen_97 rfl ?_
  refine x_get (v := xR (67, 0, 0)) dX9_listen_98 fl_RX9_64 (hp50 (putI U (67, 0, 0) (5 * n) i)) rfl ?_
  refine x_iconst dX9_listen_101 ?_
  refine x_aload_n dX9_listen_102 rfl ?_
  refine x_get (v := xI (U.1 (50, 0, 0) 24)) dX9_listen_103 fl_RX9_241 (hp50 (putI U (67, 0, 0) (5 * n) i)) rfl ?_
  have f103_3 := wf50_24 hw (S := U)
  refine x_top (show U.1 (50, 0, 0) 24 = n from hn24) ?_
  refine x_imul dX9_listen_106 ?_
  refine x_iconst dX9_listen_107 ?_
  refine x_iadd dX9_listen_108 ?_
  refine x_iload_n dX9_listen_109 rfl ?_
  refine x_asti dX9_listen_110 (hp67 (putI U (67, 0, 0) (5 * n) i)) (show (67 : Nat) ≠ 99 by decide) (by omega) (by omega) (by decide) ?_
  refine x_heq (pa67 (putI U (67, 0, 0) (5 * n) i) ((5 * n) + 1) r) ?_
  have hw110_4 : WI (putI (putI U (67, 0, 0) (5 * n) i) (67, 0, 0) ((5 * n) + 1) r) := wpa67 hw96_2 (by omega)
  refine x_aload_n dX9_listen_111 rfl ?_
  refine x_get (v := xR (67, 0, 0)) dX9_listen_112 fl_RX9_64 (hp50 (putI (putI U (67, 0, 0) (5 * n) i) (67, 0, 0) ((5 * n) + 1) r)) rfl ?_
  refine x_iconst dX9_listen_115 ?_
  refine x_aload_n dX9_listen_116 rfl ?_
  refine x_get (v := xI (U.1 (50, 0, 0) 24)) dX9_listen_117 fl_RX9_241 (hp50 (putI (putI U (67, 0, 0) (5 * n) i) (67, 0, 0) ((5 * n) + 1) r)) rfl ?_
  have f117_5 := wf50_24 hw (S := U)
  refine x_top (show U.1 (50, 0, 0) 24 = n from hn24) ?_
  refine x_imul dX9_listen_120 ?_
  refine x_iconst dX9_listen_121 ?_
  refine x_iadd dX9_listen_122 ?_
  refine x_iload_n dX9_listen_123 rfl ?_
  refine x_asti dX9_listen_124 (hp67 (putI (putI U (67, 0, 0) (5 * n) i) (67, 0, 0) ((5 * n) + 1) r)) (show (67 : Nat) ≠ 99 by decide) (by omega) (by omega) (by decide) ?_
  refine x_heq (pa67 (putI (putI U (67, 0, 0) (5 * n) i) (67, 0, 0) ((5 * n) + 1) r) ((5 * n) + 2) a) ?_
  have hw124_6 : WI (putI (putI (putI U (67, 0, 0) (5 * n) i) (67, 0, 0) ((5 * n) + 1) r) (67, 0, 0) ((5 * n) + 2) a) := wpa67 hw110_4 (by omega)
  refine x_aload_n dX9_listen_125 rfl ?_
  refine x_get (v := xR (67, 0, 0)) dX9_listen_126 fl_RX9_64 (hp50 (putI (putI (putI U (67, 0, 0) (5 * n) i) (67, 0, 0) ((5 * n) + 1) r) (67, 0, 0) ((5 * n) + 2) a)) rfl ?_
  refine x_iconst dX9_listen_129 ?_
  refine x_aload_n dX9_listen_130 rfl ?_
  refine x_get (v := xI (U.1 (50, 0, 0) 24)) dX9_listen_131 fl_RX9_241 (hp50 (putI (putI (putI U (67, 0, 0) (5 * n) i) (67, 0, 0) ((5 * n) + 1) r) (67, 0, 0) ((5 * n) + 2) a)) rfl ?_
  have f131_7 := wf50_24 hw (S := U)
  refine x_top (show U.1 (50, 0, 0) 24 = n from hn24) ?_
  refine x_imul dX9_listen_134 ?_
  refine x_iconst dX9_listen_135 ?_
  refine x_iadd dX9_listen_136 ?_
  refine x_iload dX9_listen_137 rfl ?_
  refine x_asti dX9_listen_139 (hp67 (putI (putI (putI U (67, 0, 0) (5 * n) i) (67, 0, 0) ((5 * n) + 1) r) (67, 0, 0) ((5 * n) + 2) a)) (show (67 : Nat) ≠ 99 by decide) (by omega) (by omega) (by decide) ?_
  refine x_heq (pa67 (putI (putI (putI U (67, 0, 0) (5 * n) i) (67, 0, 0) ((5 * n) + 1) r) (67, 0, 0) ((5 * n) + 2) a) ((5 * n) + 3) s) ?_
  have hw139_8 : WI (putI (putI (putI (putI U (67, 0, 0) (5 * n) i) (67, 0, 0) ((5 * n) + 1) r) (67, 0, 0) ((5 * n) + 2) a) (67, 0, 0) ((5 * n) + 3) s) := wpa67 hw124_6 (by omega)
  refine x_aload_n dX9_listen_140 rfl ?_
  refine x_get (v := xR (67, 0, 0)) dX9_listen_141 fl_RX9_64 (hp50 (putI (putI (putI (putI U (67, 0, 0) (5 * n) i) (67, 0, 0) ((5 * n) + 1) r) (67, 0, 0) ((5 * n) + 2) a) (67, 0, 0) ((5 * n) + 3) s)) rfl ?_
  refine x_iconst dX9_listen_144 ?_
  refine x_aload_n dX9_listen_145 rfl ?_
  refine x_get (v := xI (U.1 (50, 0, 0) 24)) dX9_listen_146 fl_RX9_241 (hp50 (putI (putI (putI (putI U (67, 0, 0) (5 * n) i) (67, 0, 0) ((5 * n) + 1) r) (67, 0, 0) ((5 * n) + 2) a) (67, 0, 0) ((5 * n) + 3) s)) rfl ?_
  have f146_9 := wf50_24 hw (S := U)
  refine x_top (show U.1 (50, 0, 0) 24 = n from hn24) ?_
  refine x_imul dX9_listen_149 ?_
  refine x_iconst dX9_listen_150 ?_
  refine x_iadd dX9_listen_151 ?_
  refine x_iload dX9_listen_152 rfl ?_
  refine x_asti dX9_listen_154 (hp67 (putI (putI (putI (putI U (67, 0, 0) (5 * n) i) (67, 0, 0) ((5 * n) + 1) r) (67, 0, 0) ((5 * n) + 2) a) (67, 0, 0) ((5 * n) + 3) s)) (show (67 : Nat) ≠ 99 by decide) (by omega) (by omega) (by decide) ?_
  refine x_heq (pa67 (putI (putI (putI (putI U (67, 0, 0) (5 * n) i) (67, 0, 0) ((5 * n) + 1) r) (67, 0, 0) ((5 * n) + 2) a) (67, 0, 0) ((5 * n) + 3) s) ((5 * n) + 4) t) ?_
  have hw154_10 : WI (putI (putI (putI (putI (putI U (67, 0, 0) (5 * n) i) (67, 0, 0) ((5 * n) + 1) r) (67, 0, 0) ((5 * n) + 2) a) (67, 0, 0) ((5 * n) + 3) s) (67, 0, 0) ((5 * n) + 4) t) := wpa67 hw139_8 (by omega)
  refine x_heq (show hp (sLi U n i r a s t) = hp (putI (putI (putI (putI (putI U (67, 0, 0) (5 * n) i) (67, 0, 0) ((5 * n) + 1) r) (67, 0, 0) ((5 * n) + 2) a) (67, 0, 0) ((5 * n) + 3) s) (67, 0, 0) ((5 * n) + 4) t) from rfl) ?_
  refine x_aload_n dX9_listen_155 rfl ?_
  refine x_aload_n dX9_listen_156 rfl ?_
  refine x_get (v := xI ((sLi U n i r a s t).1 (50, 0, 0) 24)) dX9_listen_157 fl_RX9_241 (hp50 (sLi U n i r a s t)) rfl ?_
  have f157_11 := wf50_24 (sLi_wi hw (by omega) (by omega) (by omega) (by omega) (by omega)) (S := sLi U n i r a s t)
  refine x_top (show (sLi U n i r a s t).1 (50, 0, 0) 24 = n from by first | exact hn24 | (rw [sLi_o U n i r a s t (nK (by decide) _ _ _ _)]; exact hn24)) ?_
  refine x_iconst dX9_listen_160 ?_
  refine x_callV (a := 0) (b := 0) (as := [xI n, xI 1]) (rest := []) ok_X9_hears dX9_listen_161 wd1241 ⟨wd1243, wd25⟩ (hp50 (sLi U n i r a s t)) rfl rfl (m_hears1 C (sLi U n i r a s t) hC (sLi_wi hw (by omega) (by omega) (by omega) (by omega) (by omega)) (sLi_mr hM n i r a s t) n i r a s t (by omega) (by omega) i0 i1 (by omega) (by omega) (by omega) (by omega) (by omega) (by omega) (C.1 (9, i, 0) 3).toNat (by omega) p0 p1 p2 p3 p4 (hl C.1 i (C.1 (9, i, 0) 3).toNat t r &&& pairsN a s 64) rfl) rfl (Nat.le_of_ble_eq_true rfl) (Nat.le_of_ble_eq_true rfl) (by decide) (by omega) (by omega) (fun _ q => ?_) (fun _ _ q => by cases q.1) (fun _ _ q => by cases q.1)
  obtain ⟨-, T, rfl, hJ⟩ := q
  have wT := hJ.2.1
  have e50 := hJ.1.hs.2.2.2.2.2
  have e24 := congrFun e50 24
  rw [sLi_o U n i r a s t (nK (by decide) _ _ _ _)] at e24
  refine x_aload_n dX9_listen_164 rfl ?_
  refine x_dup dX9_listen_165 rfl ?_
  refine x_get (v := xI (T.1 (50, 0, 0) 24)) dX9_listen_166 fl_RX9_241 (hp50 T) rfl ?_
  have f166_12 := wf50_24 wT (S := T)
  refine x_iconst dX9_listen_169 ?_
  refine x_iadd dX9_listen_170 ?_
  refine x_top (show (T.1 (50, 0, 0) 24) + 1 = n + 1 from by omega) ?_
  refine x_put dX9_listen_171 fl_RX9_241 (fun r hr => by cases hr; rfl) (hp50 T) xfit_i (Nat.le_of_ble_eq_true rfl) rfl ?_
  refine x_heq (pu50_24 T (n + 1)) ?_
  have hw171_13 : WI (putI T (50, 0, 0) 24 (n + 1)) := wp50_24 wT (by omega)
  refine x_aload_n dX9_listen_174 rfl ?_
  refine x_get (v := xI ((putI T (50, 0, 0) 24 (n + 1)).1 (50, 0, 0) 24)) dX9_listen_175 fl_RX9_241 (hp50 (putI T (50, 0, 0) 24 (n + 1))) rfl ?_
  have f175_14 := wf50_24 hw171_13 (S := putI T (50, 0, 0) 24 (n + 1))
  refine x_iconst dX9_listen_178 ?_
  refine x_isub dX9_listen_179 ?_
  refine x_top (show ((putI T (50, 0, 0) 24 (n + 1)).1 (50, 0, 0) 24) - 1 = n from by rw [putI_self]; omega) ?_
  exact x_iret dX9_listen_180 rfl ⟨rfl, _, rfl, (((((((ClE.rf U).put (by simp)).put (by simp)).put (by simp)).put (by simp)).put (by simp)).tr hJ.1.hs.cl).put (by simp), wp50_24 wT (by omega), by rw [putI_at, if_neg (by decide), e50, sLi_o U n i r a s t (nK (by decide) _ _ _ _)]; exact h25, lis_mr hM hn hJ.1.hs, lis_mrl hml hn (by omega) n1 (by omega) (by omega) hJ, usum_eq 5 (fun l _ => by show T.2.2.2.1 l = U.2.2.2.1 l; rw [hJ.2.2.2.2.2.1]; rfl)⟩
set_option maxHeartbeats 4000000 in
set_option maxRecDepth 100000 in
theorem m_listen (C S : XS) (hC : CB C) (hw : WI S) (hM : MR C S) (i r a s t : Int) (zi : zR i) (zr : zR r) (za : zR a) (zs : zR s) (zt : zR t) (hml : MRl C S) : X mX9_listen 0 (xEnt mX9_listen [xR (50, 0, 0), xI i, xI r, xI a, xI s, xI t]) [] (hp S) 0 0 (pMz S (fun k z => z = 0 ∧ ((k = 1 ∧ ¬ (0 ≤ i ∧ i < C.1 (0, 0, 0) 6)) ∨ (k = 2 ∧ (0 ≤ i ∧ i < C.1 (0, 0, 0) 6) ∧ ¬ (((0 ≤ r ∧ r < 6) ∧ (a = -1 ∨ 0 ≤ a ∧ a < 8) ∧ (s = -1 ∨ 0 ≤ s ∧ s < 8)) ∧ 0 ≤ t ∧ t < 24)) ∨ (k = 3 ∧ (0 ≤ i ∧ i < C.1 (0, 0, 0) 6) ∧ (((0 ≤ r ∧ r < 6) ∧ (a = -1 ∨ 0 ≤ a ∧ a < 8) ∧ (s = -1 ∨ 0 ≤ s ∧ s < 8)) ∧ 0 ≤ t ∧ t < 24) ∧ ¬ (C.1 (0, 0, 0) 7 < 5)))) ((0 ≤ i ∧ i < C.1 (0, 0, 0) 6) ∧ (((0 ≤ r ∧ r < 6) ∧ (a = -1 ∨ 0 ≤ a ∧ a < 8) ∧ (s = -1 ∨ 0 ≤ s ∧ s < 8)) ∧ 0 ≤ t ∧ t < 24) ∧ (C.1 (0, 0, 0) 7 < 5)) (C.1 (0, 0, 0) 7) (sLis C i r a s t) 0) := by
  have c6 := wf0_6 hC.1
  have c4 := wf4_2 hC.1
  have h93 : 0 ≤ i → i < C.1 (0, 0, 0) 6 → 0 ≤ C.1 (9, i, 0) 3 ∧ C.1 (9, i, 0) 3 ≤ 60 := fun a b => wf9_3 hC.1 a (by omega)
  obtain ⟨n11, n12, n13, n24⟩ := hM.2.1
  have hz := hw.1
  have c7 := wf0_7 hC.1
  show X mX9_listen 0 [xR (50, 0, 0), xI i, xI r, xI a, xI s, xI t] [] (hp S) 0 0 _
  refine x_aload_n dX9_listen_0 rfl ?_
  refine x_iload_n dX9_listen_1 rfl ?_
  refine x_callV (a := 0) (b := 0) (as := [xI i]) (rest := []) ok_X9_isNoBranch dX9_listen_2 wd1204 ⟨wd1206, wd18⟩ (hp50 S) rfl rfl (m_isNoBranch C S hC hw (hM.q (MdQ.rf S)) i (by first | exact hz _ _ | exact hw.1 _ _ | exact zR_of _ | exact bI_z _ | assumption | exact ⟨by omega, by omega⟩)) rfl (Nat.le_of_ble_eq_true rfl) (Nat.le_of_ble_eq_true rfl) (by decide) (by omega) (by omega) (fun _ q => by obtain ⟨_, _, _, y, _⟩ := q; cases y) (fun _ _ q => ?_) (fun _ _ q => by obtain ⟨_, _, _, y, _⟩ := q; cases y)
  obtain ⟨U1, z1, rfl, y1, qU1, wU1, hU1⟩ := q
  cases y1
  have sU1 := (MdQ.rf S).tr qU1
  rcases hU1 with ⟨rfl, hU1⟩ | ⟨rfl, hU1⟩
  · refine x_if_ne (tgt := 83) dX9_listen_5 (by decide) ⟨by decide, by decide⟩ (fun _ => ?_) (fun z => absurd z (by decide))
    refine x_iconst dX9_listen_83 ?_
    exact x_iret dX9_listen_84 rfl (Or.inl (pM_of sU1 wU1 (by omega)))
  · refine x_if_ne (tgt := 83) dX9_listen_5 (by decide) ⟨by decide, by decide⟩ (fun z => absurd z (by decide)) (fun _ => ?_)
    refine x_aload_n dX9_listen_8 rfl ?_
    refine x_iload_n dX9_listen_9 rfl ?_
    refine x_iconst dX9_listen_10 ?_
    refine x_iconst dX9_listen_11 ?_
    refine x_callS_r (a := 0) (b := 0) (as := [xI r, xI 0, xI 5]) (rest := [xR (50, 0, 0)]) ok_X9_isIn dX9_listen_12 wd1212 wd1213 (m_isIn U1 r 0 5 (by first | exact hz _ _ | exact hw.1 _ _ | exact zR_of _ | exact bI_z _ | assumption | exact ⟨by omega, by omega⟩) ⟨by decide, by decide⟩ ⟨by decide, by decide⟩) rfl (Nat.le_of_ble_eq_true rfl) (Nat.le_of_ble_eq_true rfl) (by decide) (by omega) (by omega) ?_
    by_cases b12 : 0 ≤ r ∧ r ≤ 5
    · refine x_top (bI_t b12) ?_
      refine x_if_eq (tgt := 50) dX9_listen_15 (by decide) ⟨by decide, by decide⟩ (fun z => absurd z (by decide)) (fun _ => ?_)
      refine x_iload_n dX9_listen_18 rfl ?_
      refine x_iconst dX9_listen_19 ?_
      refine x_bipush (v := 7) dX9_listen_20 (by decide) ?_
      refine x_callS_r (a := 0) (b := 0) (as := [xI a, xI (-1), xI 7]) (rest := [xR (50, 0, 0)]) ok_X9_isIn dX9_listen_22 wd1212 wd1213 (m_isIn U1 a (-1) 7 (by first | exact hz _ _ | exact hw.1 _ _ | exact zR_of _ | exact bI_z _ | assumption | exact ⟨by omega, by omega⟩) ⟨by decide, by decide⟩ ⟨by decide, by decide⟩) rfl (Nat.le_of_ble_eq_true rfl) (Nat.le_of_ble_eq_true rfl) (by decide) (by omega) (by omega) ?_
      by_cases b22 : (-1) ≤ a ∧ a ≤ 7
      · refine x_top (bI_t b22) ?_
        refine x_if_eq (tgt := 50) dX9_listen_25 (by decide) ⟨by decide, by decide⟩ (fun z => absurd z (by decide)) (fun _ => ?_)
        refine x_iload dX9_listen_28 rfl ?_
        refine x_iconst dX9_listen_30 ?_
        refine x_bipush (v := 7) dX9_listen_31 (by decide) ?_
        refine x_callS_r (a := 0) (b := 0) (as := [xI s, xI (-1), xI 7]) (rest := [xR (50, 0, 0)]) ok_X9_isIn dX9_listen_33 wd1212 wd1213 (m_isIn U1 s (-1) 7 (by first | exact hz _ _ | exact hw.1 _ _ | exact zR_of _ | exact bI_z _ | assumption | exact ⟨by omega, by omega⟩) ⟨by decide, by decide⟩ ⟨by decide, by decide⟩) rfl (Nat.le_of_ble_eq_true rfl) (Nat.le_of_ble_eq_true rfl) (by decide) (by omega) (by omega) ?_
        by_cases b33 : (-1) ≤ s ∧ s ≤ 7
        · refine x_top (bI_t b33) ?_
          refine x_if_eq (tgt := 50) dX9_listen_36 (by decide) ⟨by decide, by decide⟩ (fun z => absurd z (by decide)) (fun _ => ?_)
          refine x_iload dX9_listen_39 rfl ?_
          refine x_iconst dX9_listen_41 ?_
          refine x_bipush (v := 23) dX9_listen_42 (by decide) ?_
          refine x_callS_r (a := 0) (b := 0) (as := [xI t, xI 0, xI 23]) (rest := [xR (50, 0, 0)]) ok_X9_isIn dX9_listen_44 wd1212 wd1213 (m_isIn U1 t 0 23 (by first | exact hz _ _ | exact hw.1 _ _ | exact zR_of _ | exact bI_z _ | assumption | exact ⟨by omega, by omega⟩) ⟨by decide, by decide⟩ ⟨by decide, by decide⟩) rfl (Nat.le_of_ble_eq_true rfl) (Nat.le_of_ble_eq_true rfl) (by decide) (by omega) (by omega) ?_
          by_cases b44 : 0 ≤ t ∧ t ≤ 23
          · refine x_top (bI_t b44) ?_
            refine x_if_ne (tgt := 54) dX9_listen_47 (by decide) ⟨by decide, by decide⟩ (fun _ => ?_) (fun z => absurd z (by decide))
            refine x_iconst dX9_listen_54 ?_
            refine x_iconst dX9_listen_55 ?_
            refine x_callV_r (a := 0) (b := 0) (as := [xI 0, xI 2]) (rest := []) ok_X9_isThrown dX9_listen_56 wd1215 ⟨wd1217, wd20⟩ (hp50 U1) rfl rfl ((show X mX9_isThrown 0 (xEnt mX9_isThrown [xR (50, 0, 0), xI 0, xI 2]) [] (hp U1) 0 0 (pRet (xI 0) (hp (putI U1 (50, 0, 0) 25 0))) from by have q := m_isThrown U1 wU1 0 2 (by omega) (by omega); rw [if_pos rfl] at q; exact q)) rfl (Nat.le_of_ble_eq_true rfl) (Nat.le_of_ble_eq_true rfl) (by decide) (by omega) (by omega) ?_
            refine x_if_ne (tgt := 83) dX9_listen_59 (by decide) ⟨by decide, by decide⟩ (fun z => absurd z (by decide)) (fun _ => ?_)
            refine x_aload_n dX9_listen_62 rfl ?_
            refine x_aload_n dX9_listen_63 rfl ?_
            refine x_get (v := xI ((putI U1 (50, 0, 0) 25 0).1 (50, 0, 0) 24)) dX9_listen_64 fl_RX9_241 (hp50 (putI U1 (50, 0, 0) 25 0)) rfl ?_
            have f64_1 := wf50_24 (wp50_25 wU1 (by omega)) (S := putI U1 (50, 0, 0) 25 0)
            refine x_top (show (putI U1 (50, 0, 0) 25 0).1 (50, 0, 0) 24 = C.1 (0, 0, 0) 7 from (hM.q sU1).2.1.2.2.2) ?_
            refine x_iconst dX9_listen_67 ?_
            refine x_icmp_ne (tgt := 75) dX9_listen_68 (by decide) (by first | exact hz _ _ | exact hw.1 _ _ | exact zR_of _ | exact bI_z _ | assumption | exact ⟨by omega, by omega⟩) ⟨by decide, by decide⟩ (fun c68 => ?_) (fun c68 => ?_)
            · refine x_iconst dX9_listen_75 ?_
              refine x_iconst dX9_listen_76 ?_
              refine x_callV_r (a := 0) (b := 0) (as := [xI 0, xI 3]) (rest := []) ok_X9_isThrown dX9_listen_77 wd1215 ⟨wd1217, wd20⟩ (hp50 (putI U1 (50, 0, 0) 25 0)) rfl rfl ((show X mX9_isThrown 0 (xEnt mX9_isThrown [xR (50, 0, 0), xI 0, xI 3]) [] (hp (putI U1 (50, 0, 0) 25 0)) 0 0 (pRet (xI 0) (hp (putI (putI U1 (50, 0, 0) 25 0) (50, 0, 0) 25 0))) from by have q := m_isThrown (putI U1 (50, 0, 0) 25 0) (wp50_25 wU1 (by omega)) 0 3 (by omega) (by omega); rw [if_pos rfl] at q; exact q)) rfl (Nat.le_of_ble_eq_true rfl) (Nat.le_of_ble_eq_true rfl) (by decide) (by omega) (by omega) ?_
              refine x_if_eq (tgt := 85) dX9_listen_80 (by decide) ⟨by decide, by decide⟩ (fun _ => ?_) (fun z => absurd z (by decide))
              refine X.weak (t_listen C (putI (putI U1 (50, 0, 0) 25 0) (50, 0, 0) 25 0) hC (wp50_25 (wp50_25 wU1 (by omega)) (by omega)) (hM.q ((sU1.thr 0).thr 0)) (hml.q ((sU1.thr 0).thr 0)) (putI_self _ _ _ _) _ i r a s t rfl (by omega) (by omega) (by omega) (by omega) (by omega) (by omega) (by omega) (by omega) (by omega) (by omega) (by omega)) (Nat.le_refl _) (Nat.le_refl _) (fun o h' z => Or.inr ⟨by omega, z.of ((sU1.thr 0).thr 0)⟩)
            · refine x_iconst dX9_listen_71 ?_
              refine x_goto (tgt := 76) dX9_listen_72 (by decide) ?_
              refine x_iconst dX9_listen_76 ?_
              refine x_callV_r (a := 0) (b := 0) (as := [xI 1, xI 3]) (rest := []) ok_X9_isThrown dX9_listen_77 wd1215 ⟨wd1217, wd20⟩ (hp50 (putI U1 (50, 0, 0) 25 0)) rfl rfl ((show X mX9_isThrown 0 (xEnt mX9_isThrown [xR (50, 0, 0), xI 1, xI 3]) [] (hp (putI U1 (50, 0, 0) 25 0)) 0 0 (pRet (xI 1) (hp (putI (putI U1 (50, 0, 0) 25 0) (50, 0, 0) 25 3))) from by have q := m_isThrown (putI U1 (50, 0, 0) 25 0) (wp50_25 wU1 (by omega)) 1 3 (by omega) (by omega); rw [if_neg (by decide)] at q; exact q)) rfl (Nat.le_of_ble_eq_true rfl) (Nat.le_of_ble_eq_true rfl) (by decide) (by omega) (by omega) ?_
              refine x_if_eq (tgt := 85) dX9_listen_80 (by decide) ⟨by decide, by decide⟩ (fun z => absurd z (by decide)) (fun _ => ?_)
              refine x_iconst dX9_listen_83 ?_
              exact x_iret dX9_listen_84 rfl (Or.inl (pM_thr (sU1.thr 0) (wp50_25 wU1 (by omega)) (by omega) (by omega)))
          · refine x_top (bI_f b44) ?_
            refine x_if_ne (tgt := 54) dX9_listen_47 (by decide) ⟨by decide, by decide⟩ (fun z => absurd z (by decide)) (fun _ => ?_)
            refine x_iconst dX9_listen_50 ?_
            refine x_goto (tgt := 55) dX9_listen_51 (by decide) ?_
            refine x_iconst dX9_listen_55 ?_
            refine x_callV_r (a := 0) (b := 0) (as := [xI 1, xI 2]) (rest := []) ok_X9_isThrown dX9_listen_56 wd1215 ⟨wd1217, wd20⟩ (hp50 U1) rfl rfl ((show X mX9_isThrown 0 (xEnt mX9_isThrown [xR (50, 0, 0), xI 1, xI 2]) [] (hp U1) 0 0 (pRet (xI 1) (hp (putI U1 (50, 0, 0) 25 2))) from by have q := m_isThrown U1 wU1 1 2 (by omega) (by omega); rw [if_neg (by decide)] at q; exact q)) rfl (Nat.le_of_ble_eq_true rfl) (Nat.le_of_ble_eq_true rfl) (by decide) (by omega) (by omega) ?_
            refine x_if_ne (tgt := 83) dX9_listen_59 (by decide) ⟨by decide, by decide⟩ (fun _ => ?_) (fun z => absurd z (by decide))
            refine x_iconst dX9_listen_83 ?_
            exact x_iret dX9_listen_84 rfl (Or.inl (pM_thr sU1 wU1 (by omega) (by omega)))
        · refine x_top (bI_f b33) ?_
          refine x_if_eq (tgt := 50) dX9_listen_36 (by decide) ⟨by decide, by decide⟩ (fun _ => ?_) (fun z => absurd z (by decide))
          refine x_iconst dX9_listen_50 ?_
          refine x_goto (tgt := 55) dX9_listen_51 (by decide) ?_
          refine x_iconst dX9_listen_55 ?_
          refine x_callV_r (a := 0) (b := 0) (as := [xI 1, xI 2]) (rest := []) ok_X9_isThrown dX9_listen_56 wd1215 ⟨wd1217, wd20⟩ (hp50 U1) rfl rfl ((show X mX9_isThrown 0 (xEnt mX9_isThrown [xR (50, 0, 0), xI 1, xI 2]) [] (hp U1) 0 0 (pRet (xI 1) (hp (putI U1 (50, 0, 0) 25 2))) from by have q := m_isThrown U1 wU1 1 2 (by omega) (by omega); rw [if_neg (by decide)] at q; exact q)) rfl (Nat.le_of_ble_eq_true rfl) (Nat.le_of_ble_eq_true rfl) (by decide) (by omega) (by omega) ?_
          refine x_if_ne (tgt := 83) dX9_listen_59 (by decide) ⟨by decide, by decide⟩ (fun _ => ?_) (fun z => absurd z (by decide))
          refine x_iconst dX9_listen_83 ?_
          exact x_iret dX9_listen_84 rfl (Or.inl (pM_thr sU1 wU1 (by omega) (by omega)))
      · refine x_top (bI_f b22) ?_
        refine x_if_eq (tgt := 50) dX9_listen_25 (by decide) ⟨by decide, by decide⟩ (fun _ => ?_) (fun z => absurd z (by decide))
        refine x_iconst dX9_listen_50 ?_
        refine x_goto (tgt := 55) dX9_listen_51 (by decide) ?_
        refine x_iconst dX9_listen_55 ?_
        refine x_callV_r (a := 0) (b := 0) (as := [xI 1, xI 2]) (rest := []) ok_X9_isThrown dX9_listen_56 wd1215 ⟨wd1217, wd20⟩ (hp50 U1) rfl rfl ((show X mX9_isThrown 0 (xEnt mX9_isThrown [xR (50, 0, 0), xI 1, xI 2]) [] (hp U1) 0 0 (pRet (xI 1) (hp (putI U1 (50, 0, 0) 25 2))) from by have q := m_isThrown U1 wU1 1 2 (by omega) (by omega); rw [if_neg (by decide)] at q; exact q)) rfl (Nat.le_of_ble_eq_true rfl) (Nat.le_of_ble_eq_true rfl) (by decide) (by omega) (by omega) ?_
        refine x_if_ne (tgt := 83) dX9_listen_59 (by decide) ⟨by decide, by decide⟩ (fun _ => ?_) (fun z => absurd z (by decide))
        refine x_iconst dX9_listen_83 ?_
        exact x_iret dX9_listen_84 rfl (Or.inl (pM_thr sU1 wU1 (by omega) (by omega)))
    · refine x_top (bI_f b12) ?_
      refine x_if_eq (tgt := 50) dX9_listen_15 (by decide) ⟨by decide, by decide⟩ (fun _ => ?_) (fun z => absurd z (by decide))
      refine x_iconst dX9_listen_50 ?_
      refine x_goto (tgt := 55) dX9_listen_51 (by decide) ?_
      refine x_iconst dX9_listen_55 ?_
      refine x_callV_r (a := 0) (b := 0) (as := [xI 1, xI 2]) (rest := []) ok_X9_isThrown dX9_listen_56 wd1215 ⟨wd1217, wd20⟩ (hp50 U1) rfl rfl ((show X mX9_isThrown 0 (xEnt mX9_isThrown [xR (50, 0, 0), xI 1, xI 2]) [] (hp U1) 0 0 (pRet (xI 1) (hp (putI U1 (50, 0, 0) 25 2))) from by have q := m_isThrown U1 wU1 1 2 (by omega) (by omega); rw [if_neg (by decide)] at q; exact q)) rfl (Nat.le_of_ble_eq_true rfl) (Nat.le_of_ble_eq_true rfl) (by decide) (by omega) (by omega) ?_
      refine x_if_ne (tgt := 83) dX9_listen_59 (by decide) ⟨by decide, by decide⟩ (fun _ => ?_) (fun z => absurd z (by decide))
      refine x_iconst dX9_listen_83 ?_
      exact x_iret dX9_listen_84 rfl (Or.inl (pM_thr sU1 wU1 (by omega) (by omega)))
