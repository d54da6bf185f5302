/-! the reference: tell, untell, turn -/
/-- the class's cells, and what the law keeps, stay -/
def ClE (S T : XS) : Prop := (∀ l : XL, (l.1 < 50 ∨ 90 ≤ l.1 ∨ l.1 = 64) → T.1 l = S.1 l) ∧ T.2.1 = S.2.1 ∧ T.2.2.1 = S.2.2.1 ∧ T.2.2.2.2.2 = S.2.2.2.2.2 ∧ S.2.2.2.2.1 ≤ T.2.2.2.2.1 ∧ T.1 (50, 0, 0) 12 = S.1 (50, 0, 0) 12 ∧ ∀ r : Int, S.1 (50, 0, 0) 12 ≤ r → T.1 (66, 0, 0) r = S.1 (66, 0, 0) r
theorem ClE.rf (S : XS) : ClE S S := ⟨fun _ _ => rfl, rfl, rfl, rfl, Int.le_refl _, rfl, fun _ _ => rfl⟩
theorem ClE.tr {S T U : XS} (h : ClE S T) (k : ClE T U) : ClE S U := ⟨fun l a => (k.1 l a).trans (h.1 l a), k.2.1.trans h.2.1, k.2.2.1.trans h.2.2.1, k.2.2.2.1.trans h.2.2.2.1, Int.le_trans h.2.2.2.2.1 k.2.2.2.2.1, k.2.2.2.2.2.1.trans h.2.2.2.2.2.1, fun r hr => (k.2.2.2.2.2.2 r (by rw [h.2.2.2.2.2.1]; exact hr)).trans (h.2.2.2.2.2.2 r hr)⟩
theorem ClE.put {S T : XS} (h : ClE S T) {l : XL} {k v : Int} (hl : 50 ≤ l.1 ∧ l.1 < 90 ∧ l.1 ≠ 64 ∧ l.1 ≠ 66 ∧ (l.1 ≠ 50 ∨ k ≠ 12)) : ClE S (putI T l k v) := ⟨fun l' a => (putI_o (fun z => by rw [z] at a; omega)).trans (h.1 l' a), h.2.1, h.2.2.1, h.2.2.2.1, h.2.2.2.2.1, by
  by_cases e : l = (50, 0, 0)
  · subst e
    rw [putI_at, if_neg (fun z => by have q := hl.2.2.2.2; rcases q with q | q; exact q rfl; exact q z.symm)]
    exact h.2.2.2.2.2.1
  · rw [putI_o (fun z => e z.symm)]
    exact h.2.2.2.2.2.1, fun r hr => by rw [putI_o (fun z => hl.2.2.2.1 (by rw [← z]))]; exact h.2.2.2.2.2.2 r hr⟩
theorem ClE.p66 {S : XS} {r v : Int} (hr : r < S.1 (50, 0, 0) 12) : ClE S (putI S (66, 0, 0) r v) := ⟨fun l' a => putI_o (fun z => by rw [z] at a; omega), rfl, rfl, rfl, Int.le_refl _, by rw [putI_o (nK (by decide) _ _ _ _)], fun j hj => by rw [putI_at, if_neg (by omega)]⟩
theorem mI_out {k : Nat} (h : k < 50 ∨ 90 ≤ k ∨ k = 64) : mI k = false := by
  unfold mI
  simp only [List.contains_eq_mem, List.mem_cons, List.not_mem_nil, or_false, decide_eq_false_iff_not]
  omega
theorem MdQ.cl {S T : XS} (h : MdQ S T) : ClE S T := ⟨fun l a => h.1 l (mI_out a) (by omega), h.2.2.1, h.2.2.2.1, h.2.2.2.2.2.1, h.2.2.2.2.2.2, h.2.1 12 (by decide), fun r _ => by rw [h.1 (66, 0, 0) rfl (by decide)]⟩
theorem HsE.cl {S T : XS} (h : HsE S T) : ClE S T := ⟨fun l a => h.1 l (mI_out a) (by omega) (by omega) (by omega) (by omega), h.2.1, h.2.2.1, h.2.2.2.1, h.2.2.2.2.1, by rw [h.2.2.2.2.2], fun r _ => by rw [h.1 (66, 0, 0) rfl (by decide) (by decide) (by decide) (by decide)]⟩
theorem MRl.to {C D S T : XS} (h : MRl C S) (c : ∀ l : Int, D.1 (14, l, 0) = C.1 (14, l, 0) ∧ D.2.1 (14, l, 0) = C.2.1 (14, l, 0) ∧ D.2.1 (30, l, 0) = C.2.1 (30, l, 0) ∧ D.2.1 (31, l, 0) = C.2.1 (31, l, 0)) (c7 : D.1 (0, 0, 0) 7 = C.1 (0, 0, 0) 7) (t : ∀ k : Nat, 67 ≤ k → k ≤ 70 → T.1 (k, 0, 0) = S.1 (k, 0, 0)) (tg : T.2.2.2.1 = S.2.2.2.1) (t8 : ∀ l u : Int, T.1 (81, l, u) = S.1 (81, l, u)) : MRl D T := by
  intro l l0 l1
  obtain ⟨c1, c2, c3, c4⟩ := c l
  rw [c7]
  refine ⟨fun z => ((h l l0 l1).1 z).congr c1 c2 c3 c4 (t 67 (by decide) (by decide)) (fun j _ _ => by rw [t 70 (by decide) (by decide)]) (by rw [t 68 (by decide) (by decide)]) (by rw [t 69 (by decide) (by decide)]) (by rw [tg]) (t8 _ _), fun z => ?_⟩
  obtain ⟨f1, f2, f3, f4, f5, f6⟩ := (h l l0 l1).2 z
  exact ⟨by rw [tg]; exact f1, by rw [t 68 (by decide) (by decide)]; exact f2, by rw [t 69 (by decide) (by decide)]; exact f3, by rw [c1]; exact f4, by rw [c1]; exact f5, by rw [c1]; exact f6⟩
theorem MRl.q {C S T : XS} (h : MRl C S) (q : MdQ S T) : MRl C T := h.to (fun _ => ⟨rfl, rfl, rfl, rfl⟩) rfl (fun k a b => q.1 _ (mI_low b) (by show k ≠ 50; omega)) q.2.2.2.2.1 (fun l u => q.1 _ rfl (by show (81 : Nat) ≠ 50; decide))
theorem ndN_eq {C S T : XS} {b : Int} {i : Nat} (h1 : T.2.2.2.1 i = S.2.2.2.1 i) (h2 : T.1 (68, 0, 0) i = S.1 (68, 0, 0) i) : ndN C T b i = ndN C S b i := by
  unfold ndN
  rw [hrB_eq h1 h2]
theorem ndS_eq {C S T : XS} {b : Int} (n : Nat) (h1 : T.2.2.2.1 = S.2.2.2.1) (h2 : T.1 (68, 0, 0) = S.1 (68, 0, 0)) : ndS C T b n = ndS C S b n := by
  induction n with
  | zero => rfl
  | succ n ih => rw [ndS, ndS, ih, ndN_eq (S := S) (T := T) (i := n) (by rw [h1]) (by rw [h2])]
theorem ndS_q {C S T : XS} {b : Int} (n : Nat) (q : MdQ S T) : ndS C T b n = ndS C S b n := ndS_eq n q.2.2.2.2.1 (q.1 _ rfl (by decide))
theorem usum_q {S T : XS} (q : MdQ S T) (n : Nat) : usum T n = usum S n := usum_eq n (fun l _ => by rw [q.2.2.2.2.1])
theorem sTel_r (S : XS) (b n k a x y o j : Int) : (sTel S b n k a x y o).1 (51, 0, 0) j = (if j = 60 * b + n then k else S.1 (51, 0, 0) j) ∧ (sTel S b n k a x y o).1 (52, 0, 0) j = (if j = 60 * b + n then a else S.1 (52, 0, 0) j) ∧ (sTel S b n k a x y o).1 (53, 0, 0) j = (if j = 60 * b + n then x else S.1 (53, 0, 0) j) ∧ (sTel S b n k a x y o).1 (54, 0, 0) j = (if j = 60 * b + n then y else S.1 (54, 0, 0) j) ∧ (sTel S b n k a x y o).1 (55, 0, 0) j = (if j = 60 * b + n then o else S.1 (55, 0, 0) j) ∧ (sTel S b n k a x y o).1 (56, 0, 0) j = (if j = 60 * b + n then 0 else S.1 (56, 0, 0) j) ∧ (sTel S b n k a x y o).1 (58, 0, 0) j = (if j = b then n + 1 else S.1 (58, 0, 0) j) := by
  refine ⟨?_, ?_, ?_, ?_, ?_, ?_, ?_⟩ <;> simp [sTel, putI, xUpd]
theorem sTel_o (S : XS) (b n k a x y o : Int) {l : XL} (h1 : l.1 ≠ 51) (h2 : l.1 ≠ 52) (h3 : l.1 ≠ 53) (h4 : l.1 ≠ 54) (h5 : l.1 ≠ 55) (h6 : l.1 ≠ 56) (h7 : l.1 ≠ 58) : (sTel S b n k a x y o).1 l = S.1 l := by
  unfold sTel
  rw [putI_o (fun z => h7 (by rw [z])), putI_o (fun z => h6 (by rw [z])), putI_o (fun z => h5 (by rw [z])), putI_o (fun z => h4 (by rw [z])), putI_o (fun z => h3 (by rw [z])), putI_o (fun z => h2 (by rw [z])), putI_o (fun z => h1 (by rw [z]))]
theorem sTel_c (S : XS) (b n k a x y o : Int) : ClE S (sTel S b n k a x y o) := (((((((ClE.rf S).put (by simp)).put (by simp)).put (by simp)).put (by simp)).put (by simp)).put (by simp)).put (by simp)
/-- rules and what is unique: the same rows, the same rules -/
theorem MRr.to {C D S T : XS} (h : MRr C S) (c : ∀ (k : Nat) (x y : Int), k = 4 ∨ k = 34 ∨ k = 36 ∨ k = 37 → D.1 (k, x, y) = C.1 (k, x, y)) (t : ∀ k : Nat, 62 ≤ k → k ≤ 66 → T.1 (k, 0, 0) = S.1 (k, 0, 0)) : MRr D T := by
  have e2 := t 62 (by decide) (by decide)
  have e3 := t 63 (by decide) (by decide)
  intro r r0 r1
  rw [c 4 0 0 (by simp)] at r1
  rw [e2, e3, t 64 (by decide) (by decide), t 65 (by decide) (by decide), t 66 (by decide) (by decide)]
  simp only [UsN_congr e2 e3, c 37 r 0 (by simp), c 34 r 0 (by simp), c 36 r _ (by simp)]
  exact h r r0 r1
/-- a telling more, on both sides -/
theorem mr_app {C U : XS} (hM : MR C U) {b : Int} (b0 : 0 ≤ b) (b1 : b < 4) {n : Int} (hn : C.1 (9, b, 0) 3 = n) (n0 : 0 ≤ n) (n1 : n < 60) (hz : ∀ b' : Int, 0 ≤ b' → b' < 4 → C.1 (9, b', 0) 3 ≤ 60) (r s a f t c : Int) : MR (sApp C b r s a f t c) (sTel U b n (kd r s) a f t c) := by
  obtain ⟨h1, h2, h3, h4, h5⟩ := hM
  have e : ∀ k : Nat, k ≠ 51 → k ≠ 52 → k ≠ 53 → k ≠ 54 → k ≠ 55 → k ≠ 56 → k ≠ 58 → (sTel U b n (kd r s) a f t c).1 (k, 0, 0) = U.1 (k, 0, 0) := fun k a1 a2 a3 a4 a5 a6 a7 => sTel_o U b n _ a f t c a1 a2 a3 a4 a5 a6 a7
  have c0 : ∀ (k : Nat) (x y : Int), k ≠ 13 → k ≠ 11 → k ≠ 9 → (sApp C b r s a f t c).1 (k, x, y) = C.1 (k, x, y) := fun k x y a1 a2 a3 => sApp_k C b r s a f t c ⟨a1, a2, a3⟩ x y
  refine ⟨fun b' k b0' b1' k0 k1 => ?_, ?_, ?_, fun b' b0' b1' => ?_, fun x x0 x1 => ?_⟩
  · obtain ⟨t1, t2, t3, t4, t5, t6, -⟩ := sTel_r U b n (kd r s) a f t c (60 * b' + k)
    rw [t1, t2, t3, t4, t5, t6]
    by_cases y : b' = b ∧ k = n
    · obtain ⟨y1, y2⟩ := y
      subst y1
      subst y2
      obtain ⟨u0, u1, u2, u3, u4, u6, u7⟩ := sApp_13 C b' r s a f t c
      rw [hn] at u0 u1 u2 u3 u4 u6 u7
      simp only [if_true, u0, u1, u2, u3, u4, u6, u7, and_self]
    · have k1' : k < C.1 (9, b', 0) 3 := by
        by_cases z : b' = b
        · subst z
          rw [sApp_9, if_pos rfl] at k1
          have : k ≠ n := fun w => y ⟨rfl, w⟩
          omega
        · rw [sApp_o C b r s a f t c (nK (by decide) _ _ _ _) (nK (by decide) _ _ _ _) (nX z 0)] at k1
          · exact k1
      have hz' := hz b' b0' b1'
      have ne : ¬ (60 * b' + k = 60 * b + n) := fun w => y ⟨by omega, by omega⟩
      rw [sApp_tel C b r s a f t c b' k (by rw [hn]; exact y)]
      simp only [if_neg ne]
      exact h1 b' k b0' b1' k0 k1'
  · unfold MRn
    rw [e 50 (by decide) (by decide) (by decide) (by decide) (by decide) (by decide) (by decide), c0 0 0 0 (by decide) (by decide) (by decide), c0 4 0 0 (by decide) (by decide) (by decide)]
    exact h2
  · exact h3.to (fun k x y hk => c0 k x y (by omega) (by omega) (by omega)) (fun k a1 a2 => e k (by omega) (by omega) (by omega) (by omega) (by omega) (by omega) (by omega))
  · obtain ⟨-, -, -, -, -, -, t8⟩ := sTel_r U b n (kd r s) a f t c b'
    obtain ⟨q1, q2, q3, q4⟩ := h4 b' b0' b1'
    rw [t8, e 59 (by decide) (by decide) (by decide) (by decide) (by decide) (by decide) (by decide), e 60 (by decide) (by decide) (by decide) (by decide) (by decide) (by decide) (by decide), e 61 (by decide) (by decide) (by decide) (by decide) (by decide) (by decide) (by decide)]
    by_cases z : b' = b
    · subst z
      simp only [sApp_9, if_true, hn]
      exact ⟨trivial, by simpa using q2, by simpa using q3, by simpa using q4⟩
    · rw [if_neg z, sApp_o C b r s a f t c (nK (by decide) _ _ _ _) (nK (by decide) _ _ _ _) (nX z 0)]
      exact ⟨q1, q2, q3, q4⟩
  · rw [e 57 (by decide) (by decide) (by decide) (by decide) (by decide) (by decide) (by decide), c0 3 0 0 (by decide) (by decide) (by decide)]
    exact h5 x x0 x1
theorem mrl_app {C U : XS} (h : MRl C U) (b n k r s a f t c x y o : Int) (a' : Int) : MRl (sApp C b r s a f t c) (sTel U b n k a' x y o) := by
  have c0 : ∀ (k : Nat) (x y : Int), k ≠ 13 → k ≠ 11 → k ≠ 9 → (sApp C b r s a f t c).1 (k, x, y) = C.1 (k, x, y) := fun k x y a1 a2 a3 => sApp_k C b r s a f t c ⟨a1, a2, a3⟩ x y
  refine h.to (fun l => ⟨c0 14 l 0 (by decide) (by decide) (by decide), rfl, rfl, rfl⟩) (by rw [c0 0 0 0 (by decide) (by decide) (by decide)]) (fun k a1 a2 => sTel_o U b n _ a' x y o ?_ ?_ ?_ ?_ ?_ ?_ ?_) rfl (fun l u => sTel_o U b n _ a' x y o ?_ ?_ ?_ ?_ ?_ ?_ ?_)
  all_goals (first | (show k ≠ _; omega) | (show (81 : Nat) ≠ _; decide))
/-- behind a telling, and the listeners' hearing -/
def pTl (S C' : XS) (b : Int) (n : Nat) (v : Int) : XO → XH → Prop := fun o h' => o = .inl (some (xI v)) ∧ ∃ T, h' = hp T ∧ ClE S T ∧ WI T ∧ T.1 (50, 0, 0) 25 = 0 ∧ MR C' T ∧ MRl (sInf C' b n) T ∧ usum T 5 = usum S 5 + ndS C' S b n
theorem pTl.of {S U C' : XS} {b : Int} {n : Nat} {v : Int} {o : XO} {h' : XH} (q : MdQ S U) (h : pTl U C' b n v o h') : pTl S C' b n v o h' := by
  obtain ⟨h1, T, h2, h3, h4, h5, h6, h7, h8⟩ := h
  exact ⟨h1, T, h2, q.cl.tr h3, h4, h5, h6, h7, by rw [h8, usum_q q, ndS_q n q]⟩
/-- a call that tells: it fails, with Pf; or it is done -/
def pMt (S : XS) (Pf : Int → Int → Prop) (Pk : Prop) (v : Int) (C' : XS) (b : Int) (n : Nat) : XO → XH → Prop := fun o h' => pM S (fun k z _ => Pf k z) o h' ∨ (Pk ∧ pTl S C' b n v o h')
set_option maxHeartbeats 4000000 in
set_option maxRecDepth 100000 in
theorem t_tell (C U : XS) (hC : CB C) (hw : WI U) (hM : MR C U) (hl : MRl C U) (h25 : U.1 (50, 0, 0) 25 = 0) (n : Nat) (hn : C.1 (0, 0, 0) 7 = n) (i q x y : Int) (i0 : 0 ≤ i) (i1 : i < C.1 (0, 0, 0) 6) (q0 : 0 ≤ q) (q1 : q < 384) (x0 : 0 ≤ x) (xy : x ≤ y) (y1 : y < 24) (hs : C.1 (9, i, 0) 3 < 60) (hE : EndOk (sApp C i 0 1 q x y (-1)) i) : X mX9_tell 74 [xR (50, 0, 0), xI i, xI q, xI x, xI y, none] [] (hp U) 5 (ndS (sApp C i 0 1 q x y (-1)) U i n) (pTl U (sApp C i 0 1 q x y (-1)) i n (C.1 (9, i, 0) 3 + 1)) := by
  have c6 := wf0_6 hC.1
  have c4 := wf4_2 hC.1
  have c9 := wf9_3 hC.1 i0 (show i < 4 by omega)
  have mb := (hM.2.2.2.1 i i0 (by omega)).1
  have hz := hw.1
  have h60 : ∀ b : Int, 0 ≤ b → b < 4 → C.1 (9, b, 0) 3 ≤ 60 := fun b x y => (wf9_3 hC.1 x y).2
  have hD : CB (sApp C i 0 1 q x y (-1)) := hC.app i0 i1 hs (Or.inl rfl) (by omega) (by omega) (by omega) (by omega) (by omega) (fun z => absurd rfl z) (fun z => absurd rfl z)
  have d6 : (sApp C i 0 1 q x y (-1)).1 (0, 0, 0) 6 = C.1 (0, 0, 0) 6 := by rw [sApp_k _ _ _ _ _ _ _ _ (by decide)]
  have d7 : (sApp C i 0 1 q x y (-1)).1 (0, 0, 0) 7 = n := by rw [sApp_k _ _ _ _ _ _ _ _ (by decide)]; exact hn
  have hM2 : MR (sApp C i 0 1 q x y (-1)) (sTel U i (C.1 (9, i, 0) 3) 104 q x y (-1)) := mr_app hM i0 (by omega) rfl c9.1 hs h60 0 1 q x y (-1)
  have hl2 : MRl (sApp C i 0 1 q x y (-1)) (sTel U i (C.1 (9, i, 0) 3) 104 q x y (-1)) := mrl_app hl _ _ _ _ _ _ _ _ _ _ _ _ _
  have ndu : ndS (sApp C i 0 1 q x y (-1)) (sTel U i (C.1 (9, i, 0) 3) 104 q x y (-1)) i n = ndS (sApp C i 0 1 q x y (-1)) U i n := ndS_eq n rfl (sTel_o _ _ _ _ _ _ _ _ (by decide) (by decide) (by decide) (by decide) (by decide) (by decide) (by decide))
  have usu : usum (sTel U i (C.1 (9, i, 0) 3) 104 q x y (-1)) 5 = usum U 5 := rfl
  have t25 : (sTel U i (C.1 (9, i, 0) 3) 104 q x y (-1)).1 (50, 0, 0) 25 = 0 := by rw [sTel_o _ _ _ _ _ _ _ _ (by decide) (by decide) (by decide) (by decide) (by decide) (by decide) (by decide)]; exact h25
  refine x_aload_n dX9_tell_74 rfl ?_
  refine x_iload_n dX9_tell_75 rfl ?_
  refine x_bipush (v := 104) dX9_tell_76 (by decide) ?_
  refine x_iload_n dX9_tell_78 rfl ?_
  refine x_iload_n dX9_tell_79 rfl ?_
  refine x_iload dX9_tell_80 rfl ?_
  refine x_iconst dX9_tell_82 ?_
  refine x_callV_r (a := 0) (b := 0) (as := [xI i, xI 104, xI q, xI x, xI y, xI (-1)]) (rest := []) ok_X9_tells dX9_tell_83 wd1233 ⟨wd1235, wd23⟩ (hp50 U) rfl rfl (m_tells U hw i (C.1 (9, i, 0) 3) 104 q x y (-1) (by omega) (by omega) mb (by omega) (by omega) (by omega) (by omega) (by omega) (by omega) (by omega)) rfl (Nat.le_of_ble_eq_true rfl) (Nat.le_of_ble_eq_true rfl) (by decide) (by omega) (by omega) ?_
  refine x_istore (L' := [xR (50, 0, 0), xI i, xI q, xI x, xI y, xI ((C.1 (9, i, 0) 3) + 1)]) dX9_tell_86 (by decide) rfl ?_
  refine x_aload_n dX9_tell_88 rfl ?_
  refine x_iload_n dX9_tell_89 rfl ?_
  refine x_callV (a := 5) (b := (ndS (sApp C i 0 1 q x y (-1)) (sTel U i (C.1 (9, i, 0) 3) 104 q x y (-1)) i n)) (as := [xI i]) (rest := []) ok_X9_hears_ dX9_tell_90 wd1237 ⟨wd1239, wd24⟩ (hp50 (sTel U i (C.1 (9, i, 0) 3) 104 q x y (-1))) rfl rfl (m_hears_ (sApp C i 0 1 q x y (-1)) (sTel U i (C.1 (9, i, 0) 3) 104 q x y (-1)) hD (sTel_wi hw (by omega) (by omega) (by omega) (by omega) (by omega) (by omega)) hM2 i (by omega) (by rw [d6]; omega) n d7 hE hl2) rfl (Nat.le_of_ble_eq_true rfl) (Nat.le_of_ble_eq_true rfl) (by decide) (by omega) (by omega) (fun _ q => ?_) (fun _ _ q => by cases q.1) (fun _ _ q => by cases q.1)
  obtain ⟨-, T, rfl, hT, wT, lT, uT, -⟩ := q
  refine x_iload dX9_tell_93 rfl ?_
  exact x_iret dX9_tell_95 rfl ⟨rfl, T, rfl, (sTel_c _ _ _ _ _ _ _ _).tr hT.cl, wT, by rw [hT.2.2.2.2.2]; exact t25, hM2.hs hT, lT, by rw [uT, ndu, usu]⟩
set_option maxHeartbeats 4000000 in
set_option maxRecDepth 100000 in
theorem t_untell (C U : XS) (hC : CB C) (hw : WI U) (hM : MR C U) (hl : MRl C U) (h25 : U.1 (50, 0, 0) 25 = 0) (n : Nat) (hn : C.1 (0, 0, 0) 7 = n) (i q x y : Int) (i0 : 0 ≤ i) (i1 : i < C.1 (0, 0, 0) 6) (q0 : 0 ≤ q) (q1 : q < 384) (x0 : 0 ≤ x) (xy : x ≤ y) (y1 : y < 24) (hs : C.1 (9, i, 0) 3 < 60) (hE : EndOk (sApp C i 0 0 q x y (-1)) i) : X mX9_untell 57 [xR (50, 0, 0), xI i, xI q, xI x, xI y, none] [] (hp U) 5 (ndS (sApp C i 0 0 q x y (-1)) U i n) (pTl U (sApp C i 0 0 q x y (-1)) i n (C.1 (9, i, 0) 3 + 1)) := by
  have c6 := wf0_6 hC.1
  have c4 := wf4_2 hC.1
  have c9 := wf9_3 hC.1 i0 (show i < 4 by omega)
  have mb := (hM.2.2.2.1 i i0 (by omega)).1
  have hz := hw.1
  have h60 : ∀ b : Int, 0 ≤ b → b < 4 → C.1 (9, b, 0) 3 ≤ 60 := fun b x y => (wf9_3 hC.1 x y).2
  have hD : CB (sApp C i 0 0 q x y (-1)) := hC.app i0 i1 hs (Or.inl rfl) (by omega) (by omega) (by omega) (by omega) (by omega) (fun z => absurd rfl z) (fun z => absurd rfl z)
  have d6 : (sApp C i 0 0 q x y (-1)).1 (0, 0, 0) 6 = C.1 (0, 0, 0) 6 := by rw [sApp_k _ _ _ _ _ _ _ _ (by decide)]
  have d7 : (sApp C i 0 0 q x y (-1)).1 (0, 0, 0) 7 = n := by rw [sApp_k _ _ _ _ _ _ _ _ (by decide)]; exact hn
  have hM2 : MR (sApp C i 0 0 q x y (-1)) (sTel U i (C.1 (9, i, 0) 3) 117 q x y (-1)) := mr_app hM i0 (by omega) rfl c9.1 hs h60 0 0 q x y (-1)
  have hl2 : MRl (sApp C i 0 0 q x y (-1)) (sTel U i (C.1 (9, i, 0) 3) 117 q x y (-1)) := mrl_app hl _ _ _ _ _ _ _ _ _ _ _ _ _
  have ndu : ndS (sApp C i 0 0 q x y (-1)) (sTel U i (C.1 (9, i, 0) 3) 117 q x y (-1)) i n = ndS (sApp C i 0 0 q x y (-1)) U i n := ndS_eq n rfl (sTel_o _ _ _ _ _ _ _ _ (by decide) (by decide) (by decide) (by decide) (by decide) (by decide) (by decide))
  have usu : usum (sTel U i (C.1 (9, i, 0) 3) 117 q x y (-1)) 5 = usum U 5 := rfl
  have t25 : (sTel U i (C.1 (9, i, 0) 3) 117 q x y (-1)).1 (50, 0, 0) 25 = 0 := by rw [sTel_o _ _ _ _ _ _ _ _ (by decide) (by decide) (by decide) (by decide) (by decide) (by decide) (by decide)]; exact h25
  refine x_aload_n dX9_untell_57 rfl ?_
  refine x_iload_n dX9_untell_58 rfl ?_
  refine x_bipush (v := 117) dX9_untell_59 (by decide) ?_
  refine x_iload_n dX9_untell_61 rfl ?_
  refine x_iload_n dX9_untell_62 rfl ?_
  refine x_iload dX9_untell_63 rfl ?_
  refine x_iconst dX9_untell_65 ?_
  refine x_callV_r (a := 0) (b := 0) (as := [xI i, xI 117, xI q, xI x, xI y, xI (-1)]) (rest := []) ok_X9_tells dX9_untell_66 wd1233 ⟨wd1235, wd23⟩ (hp50 U) rfl rfl (m_tells U hw i (C.1 (9, i, 0) 3) 117 q x y (-1) (by omega) (by omega) mb (by omega) (by omega) (by omega) (by omega) (by omega) (by omega) (by omega)) rfl (Nat.le_of_ble_eq_true rfl) (Nat.le_of_ble_eq_true rfl) (by decide) (by omega) (by omega) ?_
  refine x_istore (L' := [xR (50, 0, 0), xI i, xI q, xI x, xI y, xI ((C.1 (9, i, 0) 3) + 1)]) dX9_untell_69 (by decide) rfl ?_
  refine x_aload_n dX9_untell_71 rfl ?_
  refine x_iload_n dX9_untell_72 rfl ?_
  refine x_callV (a := 5) (b := (ndS (sApp C i 0 0 q x y (-1)) (sTel U i (C.1 (9, i, 0) 3) 117 q x y (-1)) i n)) (as := [xI i]) (rest := []) ok_X9_hears_ dX9_untell_73 wd1237 ⟨wd1239, wd24⟩ (hp50 (sTel U i (C.1 (9, i, 0) 3) 117 q x y (-1))) rfl rfl (m_hears_ (sApp C i 0 0 q x y (-1)) (sTel U i (C.1 (9, i, 0) 3) 117 q x y (-1)) hD (sTel_wi hw (by omega) (by omega) (by omega) (by omega) (by omega) (by omega)) hM2 i (by omega) (by rw [d6]; omega) n d7 hE hl2) rfl (Nat.le_of_ble_eq_true rfl) (Nat.le_of_ble_eq_true rfl) (by decide) (by omega) (by omega) (fun _ q => ?_) (fun _ _ q => by cases q.1) (fun _ _ q => by cases q.1)
  obtain ⟨-, T, rfl, hT, wT, lT, uT, -⟩ := q
  refine x_iload dX9_untell_76 rfl ?_
  exact x_iret dX9_untell_78 rfl ⟨rfl, T, rfl, (sTel_c _ _ _ _ _ _ _ _).tr hT.cl, wT, by rw [hT.2.2.2.2.2]; exact t25, hM2.hs hT, lT, by rw [uT, ndu, usu]⟩
set_option maxHeartbeats 4000000 in
set_option maxRecDepth 100000 in
theorem m_tell (C S : XS) (hC : CB C) (hw : WI S) (hM : MR C S) (i q x y : Int) (zi : zR i) (zq : zR q) (zx : zR x) (zy : zR y) (hl : MRl C S) (n : Nat) (hn : C.1 (0, 0, 0) 7 = n) (hE : C.1 (9, i, 0) 3 < 60 → EndOk (sApp C i 0 1 q x y (-1)) i) (kb : Nat) (hkb : (0 ≤ i ∧ i < C.1 (0, 0, 0) 6) ∧ (((0 ≤ q ∧ q < 384) ∧ (0 ≤ x ∧ x < 24) ∧ (0 ≤ y ∧ y < 24) ∧ x ≤ y)) ∧ (bI (Riv C.1 i q x y) = 0) ∧ (C.1 (9, i, 0) 3 < 60) → ndS (sApp C i 0 1 q x y (-1)) S i n ≤ kb) : X mX9_tell 0 (xEnt mX9_tell [xR (50, 0, 0), xI i, xI q, xI x, xI y]) [] (hp S) 5 kb (pMt S (fun k z => z = 0 ∧ ((k = 1 ∧ ¬ (0 ≤ i ∧ i < C.1 (0, 0, 0) 6)) ∨ (k = 2 ∧ (0 ≤ i ∧ i < C.1 (0, 0, 0) 6) ∧ ¬ (((0 ≤ q ∧ q < 384) ∧ (0 ≤ x ∧ x < 24) ∧ (0 ≤ y ∧ y < 24) ∧ x ≤ y))) ∨ (k = 3 ∧ (0 ≤ i ∧ i < C.1 (0, 0, 0) 6) ∧ (((0 ≤ q ∧ q < 384) ∧ (0 ≤ x ∧ x < 24) ∧ (0 ≤ y ∧ y < 24) ∧ x ≤ y)) ∧ ¬ (bI (Riv C.1 i q x y) = 0)) ∨ (k = 4 ∧ (0 ≤ i ∧ i < C.1 (0, 0, 0) 6) ∧ (((0 ≤ q ∧ q < 384) ∧ (0 ≤ x ∧ x < 24) ∧ (0 ≤ y ∧ y < 24) ∧ x ≤ y)) ∧ (bI (Riv C.1 i q x y) = 0) ∧ ¬ (C.1 (9, i, 0) 3 < 60)))) ((0 ≤ i ∧ i < C.1 (0, 0, 0) 6) ∧ (((0 ≤ q ∧ q < 384) ∧ (0 ≤ x ∧ x < 24) ∧ (0 ≤ y ∧ y < 24) ∧ x ≤ y)) ∧ (bI (Riv C.1 i q x y) = 0) ∧ (C.1 (9, i, 0) 3 < 60)) (C.1 (9, i, 0) 3 + 1) (sApp C i 0 1 q x y (-1)) i n) := by
  have c6 := wf0_6 hC.1
  have c4 := wf4_2 hC.1
  have h93 : 0 ≤ i → i < C.1 (0, 0, 0) 6 → 0 ≤ C.1 (9, i, 0) 3 ∧ C.1 (9, i, 0) 3 ≤ 60 := fun a b => wf9_3 hC.1 a (by omega)
  obtain ⟨n11, n12, n13, n24⟩ := hM.2.1
  have hz := hw.1
  have vr := bI_01 (Riv C.1 i q x y)
  have vr1 := bI_1 (P := Riv C.1 i q x y)
  have hb58 : 0 ≤ i → i < C.1 (0, 0, 0) 6 → S.1 (58, 0, 0) i = C.1 (9, i, 0) 3 := fun a b => (hM.2.2.2.1 i a (by omega)).1
  show X mX9_tell 0 [xR (50, 0, 0), xI i, xI q, xI x, xI y, none] [] (hp S) 5 kb _
  refine x_aload_n dX9_tell_0 rfl ?_
  refine x_iload_n dX9_tell_1 rfl ?_
  refine x_callV (a := 0) (b := 0) (as := [xI i]) (rest := []) ok_X9_isNoBranch dX9_tell_2 wd1204 ⟨wd1206, wd18⟩ (hp50 S) rfl rfl (m_isNoBranch C S hC hw (hM.q (MdQ.rf S)) i (by first | exact hz _ _ | exact hw.1 _ _ | exact zR_of _ | exact bI_z _ | assumption | exact ⟨by omega, by omega⟩)) rfl (Nat.le_of_ble_eq_true rfl) (Nat.le_of_ble_eq_true rfl) (by decide) (by omega) (by omega) (fun _ q => by obtain ⟨_, _, _, y, _⟩ := q; cases y) (fun _ _ q => ?_) (fun _ _ q => by obtain ⟨_, _, _, y, _⟩ := q; cases y)
  obtain ⟨U1, z1, rfl, y1, qU1, wU1, hU1⟩ := q
  cases y1
  have sU1 := (MdQ.rf S).tr qU1
  rcases hU1 with ⟨rfl, hU1⟩ | ⟨rfl, hU1⟩
  · refine x_if_ne (tgt := 72) dX9_tell_5 (by decide) ⟨by decide, by decide⟩ (fun _ => ?_) (fun z => absurd z (by decide))
    refine x_iconst dX9_tell_72 ?_
    exact x_iret dX9_tell_73 rfl (Or.inl (pM_of sU1 wU1 (by omega)))
  · refine x_if_ne (tgt := 72) dX9_tell_5 (by decide) ⟨by decide, by decide⟩ (fun z => absurd z (by decide)) (fun _ => ?_)
    refine x_aload_n dX9_tell_8 rfl ?_
    refine x_iload_n dX9_tell_9 rfl ?_
    refine x_iload_n dX9_tell_10 rfl ?_
    refine x_iload dX9_tell_11 rfl ?_
    refine x_callS_r (a := 0) (b := 0) (as := [xI q, xI x, xI y]) (rest := [xR (50, 0, 0)]) ok_X9_isSpan dX9_tell_13 wd1219 wd1220 (m_isSpan U1 q x y (by first | exact hz _ _ | exact hw.1 _ _ | exact zR_of _ | exact bI_z _ | assumption | exact ⟨by omega, by omega⟩) (by first | exact hz _ _ | exact hw.1 _ _ | exact zR_of _ | exact bI_z _ | assumption | exact ⟨by omega, by omega⟩) (by first | exact hz _ _ | exact hw.1 _ _ | exact zR_of _ | exact bI_z _ | assumption | exact ⟨by omega, by omega⟩)) rfl (Nat.le_of_ble_eq_true rfl) (Nat.le_of_ble_eq_true rfl) (by decide) (by omega) (by omega) ?_
    by_cases b13 : (0 ≤ q ∧ q < 384) ∧ 0 ≤ x ∧ x < 24 ∧ x ≤ y ∧ y < 24
    · refine x_top (bI_t b13) ?_
      refine x_if_ne (tgt := 23) dX9_tell_16 (by decide) ⟨by decide, by decide⟩ (fun _ => ?_) (fun z => absurd z (by decide))
      refine x_iconst dX9_tell_23 ?_
      refine x_iconst dX9_tell_24 ?_
      refine x_callV_r (a := 0) (b := 0) (as := [xI 0, xI 2]) (rest := []) ok_X9_isThrown dX9_tell_25 wd1215 ⟨wd1217, wd20⟩ (hp50 U1) rfl rfl ((show X mX9_isThrown 0 (xEnt mX9_isThrown [xR (50, 0, 0), xI 0, xI 2]) [] (hp U1) 0 0 (pRet (xI 0) (hp (putI U1 (50, 0, 0) 25 0))) from by have q := m_isThrown U1 wU1 0 2 (by omega) (by omega); rw [if_pos rfl] at q; exact q)) rfl (Nat.le_of_ble_eq_true rfl) (Nat.le_of_ble_eq_true rfl) (by decide) (by omega) (by omega) ?_
      refine x_if_ne (tgt := 72) dX9_tell_28 (by decide) ⟨by decide, by decide⟩ (fun z => absurd z (by decide)) (fun _ => ?_)
      refine x_aload_n dX9_tell_31 rfl ?_
      refine x_aload_n dX9_tell_32 rfl ?_
      refine x_iload_n dX9_tell_33 rfl ?_
      refine x_iload_n dX9_tell_34 rfl ?_
      refine x_iload_n dX9_tell_35 rfl ?_
      refine x_iload dX9_tell_36 rfl ?_
      refine x_callV_r (a := 0) (b := 0) (as := [xI i, xI q, xI x, xI y]) (rest := [xR (50, 0, 0)]) ok_X9_isAgainst dX9_tell_38 wd1222 ⟨wd1224, wd21⟩ (hp50 (putI U1 (50, 0, 0) 25 0)) rfl rfl (m_isAgainst C (putI U1 (50, 0, 0) 25 0) hC.1 (wp50_25 wU1 (by omega)) (hM.q (sU1.thr 0)) i (by omega) (by omega) (C.1 (9, i, 0) 3).toNat (by omega) q x y (by omega) (by omega) (by omega) (by omega) (by omega)) rfl (Nat.le_of_ble_eq_true rfl) (Nat.le_of_ble_eq_true rfl) (by decide) (by omega) (by omega) ?_
      refine x_iconst dX9_tell_41 ?_
      refine x_callV_r (a := 0) (b := 0) (as := [xI (bI (Riv C.1 i q x y)), xI 3]) (rest := []) ok_X9_isThrown dX9_tell_42 wd1215 ⟨wd1217, wd20⟩ (hp50 (putI U1 (50, 0, 0) 25 0)) rfl rfl (m_isThrown (putI U1 (50, 0, 0) 25 0) (wp50_25 wU1 (by omega)) (bI (Riv C.1 i q x y)) 3 (by first | exact bI_01 _ | omega) (by omega)) rfl (Nat.le_of_ble_eq_true rfl) (Nat.le_of_ble_eq_true rfl) (by decide) (by omega) (by omega) ?_
      refine x_if_ne (tgt := 72) dX9_tell_45 (by decide) (by first | exact hz _ _ | exact hw.1 _ _ | exact zR_of _ | exact bI_z _ | assumption | exact ⟨by omega, by omega⟩) (fun c45 => ?_) (fun c45 => ?_)
      · refine x_iconst dX9_tell_72 ?_
        exact x_iret dX9_tell_73 rfl (Or.inl (pM_thr (sU1.thr 0) (wp50_25 wU1 (by omega)) (by omega) (by omega)))
      · refine x_aload_n dX9_tell_48 rfl ?_
        refine x_aload_n dX9_tell_49 rfl ?_
        refine x_get (v := xR (58, 0, 0)) dX9_tell_50 fl_RX9_33 (hp50 (putI (putI U1 (50, 0, 0) 25 0) (50, 0, 0) 25 (if bI (Riv C.1 i q x y) = 0 then 0 else 3))) rfl ?_
        refine x_iload_n dX9_tell_53 rfl ?_
        refine x_aldi (f := U1.1 (58, 0, 0)) dX9_tell_54 (hp58 (putI (putI U1 (50, 0, 0) 25 0) (50, 0, 0) 25 (if bI (Riv C.1 i q x y) = 0 then 0 else 3))) (show (58 : Nat) ≠ 99 by decide) (by omega) (by omega) (by decide) ?_
        have f54_1 := wfa58 wU1 (S := U1) i
        refine x_top (show U1.1 (58, 0, 0) i = C.1 (9, i, 0) 3 from ((hM.q sU1).2.2.2.1 i (by omega) (by omega)).1) ?_
        refine x_bipush (v := 60) dX9_tell_55 (by decide) ?_
        refine x_icmp_ne (tgt := 64) dX9_tell_57 (by decide) (by first | exact hz _ _ | exact hw.1 _ _ | exact zR_of _ | exact bI_z _ | assumption | exact ⟨by omega, by omega⟩) ⟨by decide, by decide⟩ (fun c57 => ?_) (fun c57 => ?_)
        · refine x_iconst dX9_tell_64 ?_
          refine x_iconst dX9_tell_65 ?_
          refine x_callV_r (a := 0) (b := 0) (as := [xI 0, xI 4]) (rest := []) ok_X9_isThrown dX9_tell_66 wd1215 ⟨wd1217, wd20⟩ (hp50 (putI (putI U1 (50, 0, 0) 25 0) (50, 0, 0) 25 (if bI (Riv C.1 i q x y) = 0 then 0 else 3))) rfl rfl ((show X mX9_isThrown 0 (xEnt mX9_isThrown [xR (50, 0, 0), xI 0, xI 4]) [] (hp (putI (putI U1 (50, 0, 0) 25 0) (50, 0, 0) 25 (if bI (Riv C.1 i q x y) = 0 then 0 else 3))) 0 0 (pRet (xI 0) (hp (putI (putI (putI U1 (50, 0, 0) 25 0) (50, 0, 0) 25 (if bI (Riv C.1 i q x y) = 0 then 0 else 3)) (50, 0, 0) 25 0))) from by have q := m_isThrown (putI (putI U1 (50, 0, 0) 25 0) (50, 0, 0) 25 (if bI (Riv C.1 i q x y) = 0 then 0 else 3)) (wp50_25 (wp50_25 wU1 (by omega)) (by split <;> omega)) 0 4 (by omega) (by omega); rw [show (if (0 : Int) = 0 then (0 : Int) else 4) = 0 from rfl] at q; exact q)) rfl (Nat.le_of_ble_eq_true rfl) (Nat.le_of_ble_eq_true rfl) (by decide) (by omega) (by omega) ?_
          refine x_if_eq (tgt := 74) dX9_tell_69 (by decide) ⟨by decide, by decide⟩ (fun _ => ?_) (fun z => absurd z (by decide))
          refine X.weak (t_tell C (putI (putI (putI U1 (50, 0, 0) 25 0) (50, 0, 0) 25 (if bI (Riv C.1 i q x y) = 0 then 0 else 3)) (50, 0, 0) 25 0) hC (wp50_25 (wp50_25 (wp50_25 wU1 (by omega)) (by split <;> omega)) (by omega)) (hM.q (((sU1.thr 0).thr (if bI (Riv C.1 i q x y) = 0 then 0 else 3)).thr 0)) (hl.q (((sU1.thr 0).thr (if bI (Riv C.1 i q x y) = 0 then 0 else 3)).thr 0)) (putI_self _ _ _ _) n hn i q x y (by omega) (by omega) (by omega) (by omega) (by omega) (by omega) (by omega) (by omega) (hE (by omega))) (Nat.le_refl _) (Nat.le_trans (Nat.le_of_eq (ndS_q n (((sU1.thr 0).thr (if bI (Riv C.1 i q x y) = 0 then 0 else 3)).thr 0))) (hkb (by omega))) (fun o h' z => Or.inr ⟨by omega, z.of (((sU1.thr 0).thr (if bI (Riv C.1 i q x y) = 0 then 0 else 3)).thr 0)⟩)
        · refine x_iconst dX9_tell_60 ?_
          refine x_goto (tgt := 65) dX9_tell_61 (by decide) ?_
          refine x_iconst dX9_tell_65 ?_
          refine x_callV_r (a := 0) (b := 0) (as := [xI 1, xI 4]) (rest := []) ok_X9_isThrown dX9_tell_66 wd1215 ⟨wd1217, wd20⟩ (hp50 (putI (putI U1 (50, 0, 0) 25 0) (50, 0, 0) 25 (if bI (Riv C.1 i q x y) = 0 then 0 else 3))) rfl rfl ((show X mX9_isThrown 0 (xEnt mX9_isThrown [xR (50, 0, 0), xI 1, xI 4]) [] (hp (putI (putI U1 (50, 0, 0) 25 0) (50, 0, 0) 25 (if bI (Riv C.1 i q x y) = 0 then 0 else 3))) 0 0 (pRet (xI 1) (hp (putI (putI (putI U1 (50, 0, 0) 25 0) (50, 0, 0) 25 (if bI (Riv C.1 i q x y) = 0 then 0 else 3)) (50, 0, 0) 25 4))) from by have q := m_isThrown (putI (putI U1 (50, 0, 0) 25 0) (50, 0, 0) 25 (if bI (Riv C.1 i q x y) = 0 then 0 else 3)) (wp50_25 (wp50_25 wU1 (by omega)) (by split <;> omega)) 1 4 (by omega) (by omega); rw [show (if (1 : Int) = 0 then (0 : Int) else 4) = 4 from rfl] at q; exact q)) rfl (Nat.le_of_ble_eq_true rfl) (Nat.le_of_ble_eq_true rfl) (by decide) (by omega) (by omega) ?_
          refine x_if_eq (tgt := 74) dX9_tell_69 (by decide) ⟨by decide, by decide⟩ (fun z => absurd z (by decide)) (fun _ => ?_)
          refine x_iconst dX9_tell_72 ?_
          exact x_iret dX9_tell_73 rfl (Or.inl (pM_thr ((sU1.thr 0).thr (if bI (Riv C.1 i q x y) = 0 then 0 else 3)) (wp50_25 (wp50_25 wU1 (by omega)) (by split <;> omega)) (by omega) (by omega)))
    · refine x_top (bI_f b13) ?_
      refine x_if_ne (tgt := 23) dX9_tell_16 (by decide) ⟨by decide, by decide⟩ (fun z => absurd z (by decide)) (fun _ => ?_)
      refine x_iconst dX9_tell_19 ?_
      refine x_goto (tgt := 24) dX9_tell_20 (by decide) ?_
      refine x_iconst dX9_tell_24 ?_
      refine x_callV_r (a := 0) (b := 0) (as := [xI 1, xI 2]) (rest := []) ok_X9_isThrown dX9_tell_25 wd1215 ⟨wd1217, wd20⟩ (hp50 U1) rfl rfl ((show X mX9_isThrown 0 (xEnt mX9_isThrown [xR (50, 0, 0), xI 1, xI 2]) [] (hp U1) 0 0 (pRet (xI 1) (hp (putI U1 (50, 0, 0) 25 2))) from by have q := m_isThrown U1 wU1 1 2 (by omega) (by omega); rw [if_neg (by decide)] at q; exact q)) rfl (Nat.le_of_ble_eq_true rfl) (Nat.le_of_ble_eq_true rfl) (by decide) (by omega) (by omega) ?_
      refine x_if_ne (tgt := 72) dX9_tell_28 (by decide) ⟨by decide, by decide⟩ (fun _ => ?_) (fun z => absurd z (by decide))
      refine x_iconst dX9_tell_72 ?_
      exact x_iret dX9_tell_73 rfl (Or.inl (pM_thr sU1 wU1 (by omega) (by omega)))
set_option maxHeartbeats 4000000 in
set_option maxRecDepth 100000 in
theorem m_untell (C S : XS) (hC : CB C) (hw : WI S) (hM : MR C S) (i q x y : Int) (zi : zR i) (zq : zR q) (zx : zR x) (zy : zR y) (hl : MRl C S) (n : Nat) (hn : C.1 (0, 0, 0) 7 = n) (hE : C.1 (9, i, 0) 3 < 60 → EndOk (sApp C i 0 0 q x y (-1)) i) (kb : Nat) (hkb : (0 ≤ i ∧ i < C.1 (0, 0, 0) 6) ∧ (((0 ≤ q ∧ q < 384) ∧ (0 ≤ x ∧ x < 24) ∧ (0 ≤ y ∧ y < 24) ∧ x ≤ y)) ∧ (C.1 (9, i, 0) 3 < 60) → ndS (sApp C i 0 0 q x y (-1)) S i n ≤ kb) : X mX9_untell 0 (xEnt mX9_untell [xR (50, 0, 0), xI i, xI q, xI x, xI y]) [] (hp S) 5 kb (pMt S (fun k z => z = 0 ∧ ((k = 1 ∧ ¬ (0 ≤ i ∧ i < C.1 (0, 0, 0) 6)) ∨ (k = 2 ∧ (0 ≤ i ∧ i < C.1 (0, 0, 0) 6) ∧ ¬ (((0 ≤ q ∧ q < 384) ∧ (0 ≤ x ∧ x < 24) ∧ (0 ≤ y ∧ y < 24) ∧ x ≤ y))) ∨ (k = 3 ∧ (0 ≤ i ∧ i < C.1 (0, 0, 0) 6) ∧ (((0 ≤ q ∧ q < 384) ∧ (0 ≤ x ∧ x < 24) ∧ (0 ≤ y ∧ y < 24) ∧ x ≤ y)) ∧ ¬ (C.1 (9, i, 0) 3 < 60)))) ((0 ≤ i ∧ i < C.1 (0, 0, 0) 6) ∧ (((0 ≤ q ∧ q < 384) ∧ (0 ≤ x ∧ x < 24) ∧ (0 ≤ y ∧ y < 24) ∧ x ≤ y)) ∧ (C.1 (9, i, 0) 3 < 60)) (C.1 (9, i, 0) 3 + 1) (sApp C i 0 0 q x y (-1)) i n) := by
  have c6 := wf0_6 hC.1
  have c4 := wf4_2 hC.1
  have h93 : 0 ≤ i → i < C.1 (0, 0, 0) 6 → 0 ≤ C.1 (9, i, 0) 3 ∧ C.1 (9, i, 0) 3 ≤ 60 := fun a b => wf9_3 hC.1 a (by omega)
  obtain ⟨n11, n12, n13, n24⟩ := hM.2.1
  have hz := hw.1
  have vr := bI_01 (Riv C.1 i q x y)
  have vr1 := bI_1 (P := Riv C.1 i q x y)
  have hb58 : 0 ≤ i → i < C.1 (0, 0, 0) 6 → S.1 (58, 0, 0) i = C.1 (9, i, 0) 3 := fun a b => (hM.2.2.2.1 i a (by omega)).1
  show X mX9_untell 0 [xR (50, 0, 0), xI i, xI q, xI x, xI y, none] [] (hp S) 5 kb _
  refine x_aload_n dX9_untell_0 rfl ?_
  refine x_iload_n dX9_untell_1 rfl ?_
  refine x_callV (a := 0) (b := 0) (as := [xI i]) (rest := []) ok_X9_isNoBranch dX9_untell_2 wd1204 ⟨wd1206, wd18⟩ (hp50 S) rfl rfl (m_isNoBranch C S hC hw (hM.q (MdQ.rf S)) i (by first | exact hz _ _ | exact hw.1 _ _ | exact zR_of _ | exact bI_z _ | assumption | exact ⟨by omega, by omega⟩)) rfl (Nat.le_of_ble_eq_true rfl) (Nat.le_of_ble_eq_true rfl) (by decide) (by omega) (by omega) (fun _ q => by obtain ⟨_, _, _, y, _⟩ := q; cases y) (fun _ _ q => ?_) (fun _ _ q => by obtain ⟨_, _, _, y, _⟩ := q; cases y)
  obtain ⟨U1, z1, rfl, y1, qU1, wU1, hU1⟩ := q
  cases y1
  have sU1 := (MdQ.rf S).tr qU1
  rcases hU1 with ⟨rfl, hU1⟩ | ⟨rfl, hU1⟩
  · refine x_if_ne (tgt := 55) dX9_untell_5 (by decide) ⟨by decide, by decide⟩ (fun _ => ?_) (fun z => absurd z (by decide))
    refine x_iconst dX9_untell_55 ?_
    exact x_iret dX9_untell_56 rfl (Or.inl (pM_of sU1 wU1 (by omega)))
  · refine x_if_ne (tgt := 55) dX9_untell_5 (by decide) ⟨by decide, by decide⟩ (fun z => absurd z (by decide)) (fun _ => ?_)
    refine x_aload_n dX9_untell_8 rfl ?_
    refine x_iload_n dX9_untell_9 rfl ?_
    refine x_iload_n dX9_untell_10 rfl ?_
    refine x_iload dX9_untell_11 rfl ?_
    refine x_callS_r (a := 0) (b := 0) (as := [xI q, xI x, xI y]) (rest := [xR (50, 0, 0)]) ok_X9_isSpan dX9_untell_13 wd1219 wd1220 (m_isSpan U1 q x y (by first | exact hz _ _ | exact hw.1 _ _ | exact zR_of _ | exact bI_z _ | assumption | exact ⟨by omega, by omega⟩) (by first | exact hz _ _ | exact hw.1 _ _ | exact zR_of _ | exact bI_z _ | assumption | exact ⟨by omega, by omega⟩) (by first | exact hz _ _ | exact hw.1 _ _ | exact zR_of _ | exact bI_z _ | assumption | exact ⟨by omega, by omega⟩)) rfl (Nat.le_of_ble_eq_true rfl) (Nat.le_of_ble_eq_true rfl) (by decide) (by omega) (by omega) ?_
    by_cases b13 : (0 ≤ q ∧ q < 384) ∧ 0 ≤ x ∧ x < 24 ∧ x ≤ y ∧ y < 24
    · refine x_top (bI_t b13) ?_
      refine x_if_ne (tgt := 23) dX9_untell_16 (by decide) ⟨by decide, by decide⟩ (fun _ => ?_) (fun z => absurd z (by decide))
      refine x_iconst dX9_untell_23 ?_
      refine x_iconst dX9_untell_24 ?_
      refine x_callV_r (a := 0) (b := 0) (as := [xI 0, xI 2]) (rest := []) ok_X9_isThrown dX9_untell_25 wd1215 ⟨wd1217, wd20⟩ (hp50 U1) rfl rfl ((show X mX9_isThrown 0 (xEnt mX9_isThrown [xR (50, 0, 0), xI 0, xI 2]) [] (hp U1) 0 0 (pRet (xI 0) (hp (putI U1 (50, 0, 0) 25 0))) from by have q := m_isThrown U1 wU1 0 2 (by omega) (by omega); rw [if_pos rfl] at q; exact q)) rfl (Nat.le_of_ble_eq_true rfl) (Nat.le_of_ble_eq_true rfl) (by decide) (by omega) (by omega) ?_
      refine x_if_ne (tgt := 55) dX9_untell_28 (by decide) ⟨by decide, by decide⟩ (fun z => absurd z (by decide)) (fun _ => ?_)
      refine x_aload_n dX9_untell_31 rfl ?_
      refine x_aload_n dX9_untell_32 rfl ?_
      refine x_get (v := xR (58, 0, 0)) dX9_untell_33 fl_RX9_33 (hp50 (putI U1 (50, 0, 0) 25 0)) rfl ?_
      refine x_iload_n dX9_untell_36 rfl ?_
      refine x_aldi (f := U1.1 (58, 0, 0)) dX9_untell_37 (hp58 (putI U1 (50, 0, 0) 25 0)) (show (58 : Nat) ≠ 99 by decide) (by omega) (by omega) (by decide) ?_
      have f37_1 := wfa58 wU1 (S := U1) i
      refine x_top (show U1.1 (58, 0, 0) i = C.1 (9, i, 0) 3 from ((hM.q sU1).2.2.2.1 i (by omega) (by omega)).1) ?_
      refine x_bipush (v := 60) dX9_untell_38 (by decide) ?_
      refine x_icmp_ne (tgt := 47) dX9_untell_40 (by decide) (by first | exact hz _ _ | exact hw.1 _ _ | exact zR_of _ | exact bI_z _ | assumption | exact ⟨by omega, by omega⟩) ⟨by decide, by decide⟩ (fun c40 => ?_) (fun c40 => ?_)
      · refine x_iconst dX9_untell_47 ?_
        refine x_iconst dX9_untell_48 ?_
        refine x_callV_r (a := 0) (b := 0) (as := [xI 0, xI 3]) (rest := []) ok_X9_isThrown dX9_untell_49 wd1215 ⟨wd1217, wd20⟩ (hp50 (putI U1 (50, 0, 0) 25 0)) rfl rfl ((show X mX9_isThrown 0 (xEnt mX9_isThrown [xR (50, 0, 0), xI 0, xI 3]) [] (hp (putI U1 (50, 0, 0) 25 0)) 0 0 (pRet (xI 0) (hp (putI (putI U1 (50, 0, 0) 25 0) (50, 0, 0) 25 0))) from by have q := m_isThrown (putI U1 (50, 0, 0) 25 0) (wp50_25 wU1 (by omega)) 0 3 (by omega) (by omega); rw [if_pos rfl] at q; exact q)) rfl (Nat.le_of_ble_eq_true rfl) (Nat.le_of_ble_eq_true rfl) (by decide) (by omega) (by omega) ?_
        refine x_if_eq (tgt := 57) dX9_untell_52 (by decide) ⟨by decide, by decide⟩ (fun _ => ?_) (fun z => absurd z (by decide))
        refine X.weak (t_untell C (putI (putI U1 (50, 0, 0) 25 0) (50, 0, 0) 25 0) hC (wp50_25 (wp50_25 wU1 (by omega)) (by omega)) (hM.q ((sU1.thr 0).thr 0)) (hl.q ((sU1.thr 0).thr 0)) (putI_self _ _ _ _) n hn i q x y (by omega) (by omega) (by omega) (by omega) (by omega) (by omega) (by omega) (by omega) (hE (by omega))) (Nat.le_refl _) (Nat.le_trans (Nat.le_of_eq (ndS_q n ((sU1.thr 0).thr 0))) (hkb (by omega))) (fun o h' z => Or.inr ⟨by omega, z.of ((sU1.thr 0).thr 0)⟩)
      · refine x_iconst dX9_untell_43 ?_
        refine x_goto (tgt := 48) dX9_untell_44 (by decide) ?_
        refine x_iconst dX9_untell_48 ?_
        refine x_callV_r (a := 0) (b := 0) (as := [xI 1, xI 3]) (rest := []) ok_X9_isThrown dX9_untell_49 wd1215 ⟨wd1217, wd20⟩ (hp50 (putI U1 (50, 0, 0) 25 0)) rfl rfl ((show X mX9_isThrown 0 (xEnt mX9_isThrown [xR (50, 0, 0), xI 1, xI 3]) [] (hp (putI U1 (50, 0, 0) 25 0)) 0 0 (pRet (xI 1) (hp (putI (putI U1 (50, 0, 0) 25 0) (50, 0, 0) 25 3))) from by have q := m_isThrown (putI U1 (50, 0, 0) 25 0) (wp50_25 wU1 (by omega)) 1 3 (by omega) (by omega); rw [if_neg (by decide)] at q; exact q)) rfl (Nat.le_of_ble_eq_true rfl) (Nat.le_of_ble_eq_true rfl) (by decide) (by omega) (by omega) ?_
        refine x_if_eq (tgt := 57) dX9_untell_52 (by decide) ⟨by decide, by decide⟩ (fun z => absurd z (by decide)) (fun _ => ?_)
        refine x_iconst dX9_untell_55 ?_
        exact x_iret dX9_untell_56 rfl (Or.inl (pM_thr (sU1.thr 0) (wp50_25 wU1 (by omega)) (by omega) (by omega)))
    · refine x_top (bI_f b13) ?_
      refine x_if_ne (tgt := 23) dX9_untell_16 (by decide) ⟨by decide, by decide⟩ (fun z => absurd z (by decide)) (fun _ => ?_)
      refine x_iconst dX9_untell_19 ?_
      refine x_goto (tgt := 24) dX9_untell_20 (by decide) ?_
      refine x_iconst dX9_untell_24 ?_
      refine x_callV_r (a := 0) (b := 0) (as := [xI 1, xI 2]) (rest := []) ok_X9_isThrown dX9_untell_25 wd1215 ⟨wd1217, wd20⟩ (hp50 U1) rfl rfl ((show X mX9_isThrown 0 (xEnt mX9_isThrown [xR (50, 0, 0), xI 1, xI 2]) [] (hp U1) 0 0 (pRet (xI 1) (hp (putI U1 (50, 0, 0) 25 2))) from by have q := m_isThrown U1 wU1 1 2 (by omega) (by omega); rw [if_neg (by decide)] at q; exact q)) rfl (Nat.le_of_ble_eq_true rfl) (Nat.le_of_ble_eq_true rfl) (by decide) (by omega) (by omega) ?_
      refine x_if_ne (tgt := 55) dX9_untell_28 (by decide) ⟨by decide, by decide⟩ (fun _ => ?_) (fun z => absurd z (by decide))
      refine x_iconst dX9_untell_55 ?_
      exact x_iret dX9_untell_56 rfl (Or.inl (pM_thr sU1 wU1 (by omega) (by omega)))
