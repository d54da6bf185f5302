/-! p35: the law's net beside the class -/
theorem UsL_cong {N N' : Int → Int} {r v : Int} (n : Nat) (h : ∀ j : Int, 1600 + 16 * r ≤ j → j < 1600 + 16 * r + 4 + 4 * n → N' j = N j) : UsL N' r v n ↔ UsL N r v n := by
  induction n with
  | zero =>
    simp only [UsL]
    rw [h (1600 + 16 * r + 2) (by omega) (by omega), h (1600 + 16 * r + 3) (by omega) (by omega)]
  | succ n ih =>
    simp only [UsL]
    rw [ih (fun j a b => h j a (by omega)), h (1600 + 16 * r + 5 + 4 * (n : Int)) (by omega) (by omega), h (1600 + 16 * r + 6 + 4 * (n : Int)) (by omega) (by omega)]
theorem UsL_cong' {N N' : Int → Int} {r v : Int} (n : Nat) (h : ∀ j : Int, 1600 + 16 * r + 2 ≤ j → N' j = N j) : UsL N' r v n ↔ UsL N r v n := by
  induction n with
  | zero =>
    simp only [UsL]
    rw [h (1600 + 16 * r + 2) (by omega), h (1600 + 16 * r + 3) (by omega)]
  | succ n ih =>
    simp only [UsL]
    rw [ih, h (1600 + 16 * r + 5 + 4 * (n : Int)) (by omega), h (1600 + 16 * r + 6 + 4 * (n : Int)) (by omega)]
theorem NC1.to {C D : XS} {N N' : Int → Int} {r c : Int} (h : NC1 C N r c) (c6 : D.1 (36, r, c) = C.1 (36, r, c)) (hn : ∀ j : Int, 1600 + 16 * r + 4 + 4 * c ≤ j → j ≤ 1600 + 16 * r + 7 + 4 * c → N' j = N j) : NC1 D N' r c := by
  unfold NC1 at h ⊢
  rw [c6, hn (1600 + 16 * r + 4 + 4 * c) (by omega) (by omega), hn (1600 + 16 * r + 5 + 4 * c) (by omega) (by omega), hn (1600 + 16 * r + 6 + 4 * c) (by omega) (by omega), hn (1600 + 16 * r + 7 + 4 * c) (by omega) (by omega)]
  exact h
theorem NH1.to {C D : XS} {N N' : Int → Int} {r : Int} (h : NH1 C N r) (c7 : D.1 (37, r, 0) = C.1 (37, r, 0)) (hn : ∀ j : Int, 1600 + 16 * r + 1 ≤ j → j ≤ 1600 + 16 * r + 3 → N' j = N j) : NH1 D N' r := by
  unfold NH1 at h ⊢
  rw [c7, hn (1600 + 16 * r + 1) (by omega) (by omega), hn (1600 + 16 * r + 2) (by omega) (by omega), hn (1600 + 16 * r + 3) (by omega) (by omega)]
  exact h
theorem NL1.to {C D : XS} {N N' : Int → Int} {r : Int} (h : NL1 C N r) (h0 : 0 ≤ C.1 (34, r, 0) 2) (c4 : ∀ j : Int, j ≠ 5 → D.1 (34, r, 0) j = C.1 (34, r, 0) j) (c6 : ∀ i : Int, D.1 (36, r, i) = C.1 (36, r, i)) (c7 : D.1 (37, r, 0) = C.1 (37, r, 0)) (hn : ∀ j : Int, 1600 + 16 * r ≤ j → j < 1600 + 16 * r + 4 + 4 * C.1 (34, r, 0) 2 → N' j = N j) : NL1 D N' r := by
  obtain ⟨a1, a2, a3, a4⟩ := h
  refine ⟨?_, a2.to c7 (fun j x y => hn j (by omega) (by omega)), fun v v0 v1 => ?_, fun c x y => ?_⟩
  · rw [c4 2 (by decide), hn (1600 + 16 * r) (by omega) (by omega)]
    exact a1
  · rw [c4 2 (by decide), c4 4 (by decide), a3 v v0 v1]
    exact (UsL_cong _ (fun j x y => hn j x (by omega))).symm
  · rw [c4 2 (by decide)] at y
    exact (a4 c x y).to (c6 c) (fun j u w => hn j (by omega) (by omega))
/-- the world between two steps of the law, while it tells -/
def LW (S : XS) : Prop := CB S ∧ JInv S ∧ NT S S ∧ NR S S ∧ Cnt S ∧ S.1 (0, 0, 0) 6 = 1 ∧ S.1 (0, 0, 0) 7 = 0 ∧ ∀ x : Int, S.1 (3, 0, 0) x = 0
theorem LW.i {S : XS} (h : LW S) : LwI S := ⟨h.1, trivial, trivial, h.2.1, trivial, trivial⟩
theorem NT.c {C D S : XS} (h : NT C S) (e9 : D.1 (9, 0, 0) = C.1 (9, 0, 0)) (e13 : ∀ k : Int, D.1 (13, 0, k) = C.1 (13, 0, k)) : NT D S := by
  unfold NT
  simp only [e9, e13]
  exact h
theorem NR.c {C D S : XS} (h : NR C S) (hC : WI C) (e4 : D.1 (4, 0, 0) = C.1 (4, 0, 0)) (e34 : ∀ (r j : Int), j ≠ 5 → D.1 (34, r, 0) j = C.1 (34, r, 0) j) (e36 : ∀ r i : Int, D.1 (36, r, i) = C.1 (36, r, i)) (e37 : ∀ r : Int, D.1 (37, r, 0) = C.1 (37, r, 0)) : NR D S := by
  have c4 := wf4_2 hC
  refine ⟨by rw [e4]; exact h.1, fun r r0 r1 => ?_⟩
  rw [e4] at r1
  exact (h.2 r r0 r1).to (wf34_2 hC r0 (by omega)).1 (e34 r) (e36 r) (e37 r) (fun _ _ _ => rfl)
theorem KQ.ji {S T : XS} (h : JInv S) (q : KQ S T) : JInv T := h.to (fun k x y hk => q.k (by rcases hk with rfl | rfl | rfl | rfl | rfl | rfl | rfl | rfl | rfl <;> rfl) (by omega) x y) (fun k x y hk => q.2.1 (k, x, y) (by rcases hk with rfl | rfl | rfl <;> rfl))
theorem LW.k {S T : XS} (h : LW S) (q : KQ S T) (cb : CB T) : LW T := by
  obtain ⟨h1, h2, h3, h4, h5, h6, h7, hu⟩ := h
  refine ⟨cb, q.ji h2, (h3.k q).c (q.k (k := 9) rfl (by decide) 0 0) (fun k => q.k (k := 13) rfl (by decide) 0 k), (h4.k q).c h1.1 (q.k (k := 4) rfl (by decide) 0 0) (fun r j _ => by rw [q.k (k := 34) rfl (by decide) r 0]) (fun r i => q.k (k := 36) rfl (by decide) r i) (fun r => q.k (k := 37) rfl (by decide) r 0), h5.k q, ?_, ?_, ?_⟩
  · rw [q.k (k := 0) rfl (by decide)]; exact h6
  · rw [q.k (k := 0) rfl (by decide)]; exact h7
  · rw [q.k (k := 3) rfl (by decide)]; exact hu
theorem CB.net {S : XS} (b : CB S) (i : Int) {v : Int} (hv : zR v) : CB (putI S (50, 0, 0) i v) := b.cl (b.1.put hv trivial) (fun hk x y => putI_o (nK (by omega) _ _ _ _)) (fun _ _ _ => rfl)
theorem JInv.net {S : XS} (h : JInv S) (i v : Int) : JInv (putI S (50, 0, 0) i v) := h.to (fun k x y hk => putI_o (nK (by omega) _ _ _ _)) (fun _ _ _ _ => rfl)
theorem NT.net {C S : XS} (h : NT C S) (c9 : C.1 (9, 0, 0) 3 ≤ 60) {i : Int} (hi : i ≠ 0 ∧ (i < 100 ∨ 460 ≤ i)) (v : Int) : NT C (putI S (50, 0, 0) i v) := by
  obtain ⟨h1, h2⟩ := h
  refine ⟨by rw [putI_at, if_neg (by omega)]; exact h1, fun k k0 k1 => ?_⟩
  rw [putI_at, putI_at, putI_at, putI_at, putI_at, if_neg (by omega), if_neg (by omega), if_neg (by omega), if_neg (by omega), if_neg (by omega)]
  exact h2 k k0 k1
theorem NR.net {C S : XS} (h : NR C S) (hC : WI C) {i : Int} (hi : i ≠ 5 ∧ (i < 1600 ∨ 1600 + 16 * C.1 (4, 0, 0) 2 ≤ i)) (v : Int) : NR C (putI S (50, 0, 0) i v) := by
  have c4 := wf4_2 hC
  refine ⟨by rw [putI_at, if_neg (by omega)]; exact h.1, fun r r0 r1 => ?_⟩
  have s34 := wf34_2 hC r0 (by omega)
  exact (h.2 r r0 r1).to s34.1 (fun _ _ => rfl) (fun _ => rfl) rfl (fun j a b => by rw [putI_at, if_neg (by omega)])
theorem LW.net {S : XS} (h : LW S) {i : Int} (hi : 1600 + 16 * S.1 (4, 0, 0) 2 ≤ i) {v : Int} (hv : zR v) : LW (putI S (50, 0, 0) i v) := by
  obtain ⟨h1, h2, h3, h4, h5, h6, h7, hu⟩ := h
  have c4 := wf4_2 h1.1
  have c9 := wf9_3 h1.1 (b := 0) (by decide) (by decide)
  have o : ∀ (k : Nat) (x y : Int), k ≠ 50 → (putI S (50, 0, 0) i v).1 (k, x, y) = S.1 (k, x, y) := fun k x y hk => putI_o (nK hk _ _ _ _)
  exact ⟨h1.net i hv, h2.net i v, (h3.net c9.2 ⟨by omega, by omega⟩ v).c (o 9 0 0 (by decide)) (fun k => o 13 0 k (by decide)), (h4.net h1.1 ⟨by omega, by omega⟩ v).c h1.1 (o 4 0 0 (by decide)) (fun r j _ => by rw [o 34 r 0 (by decide)]) (fun r i => o 36 r i (by decide)) (fun r => o 37 r 0 (by decide)), h5, by rw [o 0 0 0 (by decide)]; exact h6, by rw [o 0 0 0 (by decide)]; exact h7, by rw [o 3 0 0 (by decide)]; exact hu⟩
/-- D is S and a telling more -/
def Told (S D : XS) (r s a f t : Int) : Prop := D.1 (9, 0, 0) 3 = S.1 (9, 0, 0) 3 + 1 ∧ (∀ k : Int, k ≠ S.1 (9, 0, 0) 3 → D.1 (13, 0, k) = S.1 (13, 0, k)) ∧ (D.1 (13, 0, S.1 (9, 0, 0) 3) 0 = r ∧ D.1 (13, 0, S.1 (9, 0, 0) 3) 1 = s ∧ D.1 (13, 0, S.1 (9, 0, 0) 3) 2 = a ∧ D.1 (13, 0, S.1 (9, 0, 0) 3) 3 = f ∧ D.1 (13, 0, S.1 (9, 0, 0) 3) 4 = t ∧ D.1 (13, 0, S.1 (9, 0, 0) 3) 6 = 0) ∧ (∀ x j : Int, j ≠ 5 → D.1 (34, x, 0) j = S.1 (34, x, 0) j) ∧ (∀ x i : Int, D.1 (36, x, i) = S.1 (36, x, i)) ∧ (∀ x : Int, D.1 (37, x, 0) = S.1 (37, x, 0)) ∧ D.1 (4, 0, 0) = S.1 (4, 0, 0) ∧ D.1 (0, 0, 0) = S.1 (0, 0, 0) ∧ D.1 (3, 0, 0) = S.1 (3, 0, 0)
theorem told_app (S : XS) (r s a f t c : Int) : Told S (sApp S 0 r s a f t c) r s a f t := by
  obtain ⟨a0, a1, a2, a3, a4, a6, -⟩ := sApp_13 S 0 r s a f t c
  exact ⟨by rw [sApp_9, if_pos rfl], fun k hk => sApp_tel S 0 r s a f t c 0 k (fun z => hk z.2), ⟨a0, a1, a2, a3, a4, a6⟩, fun x j _ => by rw [sApp_k S 0 r s a f t c (k := 34) (by decide)], fun x i => sApp_k S 0 r s a f t c (k := 36) (by decide) x i, fun x => sApp_k S 0 r s a f t c (k := 37) (by decide) x 0, sApp_k S 0 r s a f t c (k := 4) (by decide) 0 0, sApp_k S 0 r s a f t c (k := 0) (by decide) 0 0, sApp_k S 0 r s a f t c (k := 3) (by decide) 0 0⟩
theorem told_turn (S : XS) (r z : Int) : Told S (sTurn S 0 r z) 1 z r 0 0 := by
  have e := fun (k : Nat) (x y : Int) (h : k ≠ 34) => was_9 S r (wasV S r z) k x y h
  obtain ⟨b1, b2, b3, b4, b5, b6, b7, b8, b9⟩ := told_app (sWas S r (wasV S r z)) 1 z r 0 0 (-1)
  rw [e 9 0 0 (by decide)] at b1 b2 b3
  refine ⟨b1, fun k hk => (b2 k hk).trans (e 13 0 k (by decide)), b3, fun x j hj => (b4 x j hj).trans ?_, fun x i => (b5 x i).trans (e 36 x i (by decide)), fun x => (b6 x).trans (e 37 x 0 (by decide)), b7.trans (e 4 0 0 (by decide)), b8.trans (e 0 0 0 (by decide)), b9.trans (e 3 0 0 (by decide))⟩
  unfold sWas
  by_cases y : ((34, x, 0) : XL) = (34, r, 0)
  · rw [y, putI_at, if_neg hj]
  · rw [putI_o y]
/-- what tells does -/
def sTl (S : XS) (n k a x y o : Int) : XS := putI (putI (putI (putI (putI (putI (putI S (50, 0, 0) (100 + 6 * n) k) (50, 0, 0) (100 + 6 * n + 1) a) (50, 0, 0) (100 + 6 * n + 2) x) (50, 0, 0) (100 + 6 * n + 3) y) (50, 0, 0) (100 + 6 * n + 4) 0) (50, 0, 0) (100 + 6 * n + 5) o) (50, 0, 0) 0 (n + 1)
theorem sTl_o (S : XS) (n k a x y o : Int) {l : XL} (h : l ≠ (50, 0, 0)) : (sTl S n k a x y o).1 l = S.1 l := by
  unfold sTl
  rw [putI_o h, putI_o h, putI_o h, putI_o h, putI_o h, putI_o h, putI_o h]
theorem sTl_50 (S : XS) (n k a x y o j : Int) : (sTl S n k a x y o).1 (50, 0, 0) j = if j = 0 then n + 1 else if j = 100 + 6 * n + 5 then o else if j = 100 + 6 * n + 4 then 0 else if j = 100 + 6 * n + 3 then y else if j = 100 + 6 * n + 2 then x else if j = 100 + 6 * n + 1 then a else if j = 100 + 6 * n then k else S.1 (50, 0, 0) j := by
  unfold sTl
  rw [putI_at, putI_at, putI_at, putI_at, putI_at, putI_at, putI_at]
theorem CB.tl {S : XS} (b : CB S) {n k a x y o : Int} (hn : 0 ≤ n ∧ n ≤ 60) (hk : zR k) (ha : zR a) (hx : zR x) (hy : zR y) (ho : zR o) : CB (sTl S n k a x y o) := ((((((b.net _ hk).net _ ha).net _ hx).net _ hy).net _ zR_0).net _ ho).net _ ⟨by omega, by omega⟩
theorem JInv.tl {S : XS} (h : JInv S) (n k a x y o : Int) : JInv (sTl S n k a x y o) := h.to (fun q x y hk => sTl_o _ _ _ _ _ _ _ (nK (by omega) _ _ _ _)) (fun _ _ _ _ => rfl)
theorem sTl_2 (S : XS) (n k a x y o : Int) : (sTl S n k a x y o).2 = S.2 := rfl
/-- a telling more, in the class and in the net -/
theorem LW.told {S D S1 : XS} (h : LW S) {r s a f t : Int} (tl : Told S D r s a f t) (n60 : S.1 (9, 0, 0) 3 < 60) (em : MdE S D) (q : QEq D S1) (cb : CB S1) (ji : JInv D) (hr : r = 0 ∨ r = 1) (hs : s = 0 ∨ s = 1) (za : zR a) (zf : zR f) (zt : zR t) : LW (sTl S1 (S.1 (9, 0, 0) 3) (2 * r + s) a f t 0) := by
  obtain ⟨h1, h2, h3, h4, h5, h6, h7, hu⟩ := h
  obtain ⟨b1, b2, ⟨b30, b31, b32, b33, b34, b36⟩, b4, b5, b6, b7, b8, b9⟩ := tl
  have c4 := wf4_2 h1.1
  have c9 := wf9_3 h1.1 (b := 0) (by decide) (by decide)
  have o : ∀ (k : Nat) (x y : Int), k < 50 → kI k = false → (sTl S1 (S.1 (9, 0, 0) 3) (2 * r + s) a f t 0).1 (k, x, y) = D.1 (k, x, y) := fun k x y hk e => (sTl_o _ _ _ _ _ _ _ (nK (by omega) _ _ _ _)).trans (q.1 (k, x, y) e)
  have e50 : S1.1 (50, 0, 0) = S.1 (50, 0, 0) := (q.1 (50, 0, 0) rfl).trans (em.1 50 0 0 (by decide))
  have n5 := fun j => sTl_50 S1 (S.1 (9, 0, 0) 3) (2 * r + s) a f t 0 j
  rw [e50] at n5
  refine ⟨cb.tl ⟨by omega, by omega⟩ ⟨by omega, by omega⟩ za zf zt zR_0, (ji.q q).tl _ _ _ _ _ _, ⟨?_, fun k k0 k1 => ?_⟩, ⟨?_, fun x x0 x1 => ?_⟩, ?_, ?_, ?_, ?_⟩
  · rw [o 9 0 0 (by decide) rfl, b1, n5, if_pos rfl]
  · rw [o 9 0 0 (by decide) rfl, b1] at k1
    rw [o 13 0 k (by decide) rfl]
    by_cases y : k = S.1 (9, 0, 0) 3
    · subst y
      rw [b30, b31, b32, b33, b34, b36, n5, n5, n5, n5, n5]
      refine ⟨?_, ?_, ?_, ?_, ?_⟩
      · rw [if_neg (by omega), if_neg (by omega), if_neg (by omega), if_neg (by omega), if_neg (by omega), if_neg (by omega), if_pos rfl]
      · rw [if_neg (by omega), if_neg (by omega), if_neg (by omega), if_neg (by omega), if_neg (by omega), if_pos rfl]
      · rw [if_neg (by omega), if_neg (by omega), if_neg (by omega), if_neg (by omega), if_pos rfl]
      · rw [if_neg (by omega), if_neg (by omega), if_neg (by omega), if_pos rfl]
      · rw [if_neg (by omega), if_neg (by omega), if_pos rfl]
    · have w : ∀ j : Int, 100 + 6 * k ≤ j → j ≤ 100 + 6 * k + 4 → (sTl S1 (S.1 (9, 0, 0) 3) (2 * r + s) a f t 0).1 (50, 0, 0) j = S.1 (50, 0, 0) j := fun j u v => by
        rw [n5, if_neg (by omega), if_neg (by omega), if_neg (by omega), if_neg (by omega), if_neg (by omega), if_neg (by omega), if_neg (by omega)]
      rw [b2 k y, w _ (by omega) (by omega), w _ (by omega) (by omega), w _ (by omega) (by omega), w _ (by omega) (by omega), w _ (by omega) (by omega)]
      exact h3.2 k k0 (by omega)
  · rw [o 4 0 0 (by decide) rfl, b7, n5, if_neg (by decide), if_neg (by omega), if_neg (by omega), if_neg (by omega), if_neg (by omega), if_neg (by omega), if_neg (by omega)]
    exact h4.1
  · rw [o 4 0 0 (by decide) rfl, b7] at x1
    have s34 := wf34_2 h1.1 x0 (by omega)
    refine (h4.2 x x0 x1).to s34.1 (fun j hj => ?_) (fun i => ?_) ?_ (fun j u v => ?_)
    · rw [o 34 x 0 (by decide) rfl]; exact b4 x j hj
    · rw [o 36 x i (by decide) rfl]; exact b5 x i
    · rw [o 37 x 0 (by decide) rfl]; exact b6 x
    · rw [n5, if_neg (by omega), if_neg (by omega), if_neg (by omega), if_neg (by omega), if_neg (by omega), if_neg (by omega), if_neg (by omega)]
  · have e := q.2.2
    have e2 := em.2
    show Cnt (sTl S1 (S.1 (9, 0, 0) 3) (2 * r + s) a f t 0)
    unfold Cnt
    rw [sTl_2, e, e2]
    exact h5
  · rw [o 0 0 0 (by decide) rfl, b8]; exact h6
  · rw [o 0 0 0 (by decide) rfl, b8]; exact h7
  · rw [o 3 0 0 (by decide) rfl, b9]; exact hu
/-- while a rule is made: the rule k has c conditions -/
def LR (S : XS) (k c : Int) : Prop := CB S ∧ JInv S ∧ NT S S ∧ Cnt S ∧ S.1 (0, 0, 0) 6 = 1 ∧ S.1 (0, 0, 0) 7 = 0 ∧ S.1 (4, 0, 0) 2 = k + 1 ∧ S.1 (50, 0, 0) 5 = k ∧ (∀ r : Int, 0 ≤ r → r ≤ k → NL1 S (S.1 (50, 0, 0)) r) ∧ S.1 (34, k, 0) 5 = 0 ∧ S.1 (34, k, 0) 2 = c ∧ ∀ x : Int, S.1 (3, 0, 0) x = 0
theorem LR.i {S : XS} {k c : Int} (h : LR S k c) : LwI S := ⟨h.1, trivial, trivial, h.2.1, trivial, trivial⟩
theorem LR.net {S : XS} {k c : Int} (h : LR S k c) (k0 : 0 ≤ k) {i : Int} (hi : 1600 + 16 * k + 4 + 4 * c ≤ i) {v : Int} (hv : zR v) : LR (putI S (50, 0, 0) i v) k c := by
  obtain ⟨h1, h2, h3, h4, h5, h6, h7, h8, h9, h10, h11, hu⟩ := h
  have c4 := wf4_2 h1.1
  have c9 := wf9_3 h1.1 (b := 0) (by decide) (by decide)
  have o : ∀ (q : Nat) (x y : Int), q ≠ 50 → (putI S (50, 0, 0) i v).1 (q, x, y) = S.1 (q, x, y) := fun q x y hk => putI_o (nK hk _ _ _ _)
  have s34 := wf34_2 h1.1 k0 (by omega)
  refine ⟨h1.net i hv, h2.net i v, (h3.net c9.2 ⟨by omega, by omega⟩ v).c (o 9 0 0 (by decide)) (fun k => o 13 0 k (by decide)), h4, by rw [o 0 0 0 (by decide)]; exact h5, by rw [o 0 0 0 (by decide)]; exact h6, by rw [o 4 0 0 (by decide)]; exact h7, by rw [putI_at, if_neg (by omega)]; exact h8, fun r r0 r1 => ?_, by rw [o 34 k 0 (by decide)]; exact h10, by rw [o 34 k 0 (by decide)]; exact h11, by rw [o 3 0 0 (by decide)]; exact hu⟩
  have s2 := wf34_2 h1.1 r0 (by omega)
  refine (h9 r r0 r1).to s2.1 (fun j _ => by rw [o 34 r 0 (by decide)]) (fun i => o 36 r i (by decide)) (o 37 r 0 (by decide)) (fun j u w => ?_)
  rw [putI_at, if_neg (fun z => ?_)]
  rcases Int.lt_or_eq_of_le r1 with y | y
  · omega
  · subst y; omega
/-- the rule is made -/
theorem LR.fin {S : XS} {k c : Int} (h : LR S k c) (k0 : 0 ≤ k) : LW (putI S (50, 0, 0) 5 (k + 1)) := by
  obtain ⟨h1, h2, h3, h4, h5, h6, h7, h8, h9, h10, h11, hu⟩ := h
  have c4 := wf4_2 h1.1
  have c9 := wf9_3 h1.1 (b := 0) (by decide) (by decide)
  have o : ∀ (q : Nat) (x y : Int), q ≠ 50 → (putI S (50, 0, 0) 5 (k + 1)).1 (q, x, y) = S.1 (q, x, y) := fun q x y hk => putI_o (nK hk _ _ _ _)
  refine ⟨h1.net 5 ⟨by omega, by omega⟩, h2.net 5 _, (h3.net c9.2 ⟨by omega, by omega⟩ _).c (o 9 0 0 (by decide)) (fun k => o 13 0 k (by decide)), ⟨?_, fun r r0 r1 => ?_⟩, h4, by rw [o 0 0 0 (by decide)]; exact h5, by rw [o 0 0 0 (by decide)]; exact h6, by rw [o 3 0 0 (by decide)]; exact hu⟩
  · rw [o 4 0 0 (by decide), putI_at, if_pos rfl, h7]
  · rw [o 4 0 0 (by decide), h7] at r1
    have s2 := wf34_2 h1.1 r0 (by omega)
    exact (h9 r r0 (by omega)).to s2.1 (fun j _ => by rw [o 34 r 0 (by decide)]) (fun i => o 36 r i (by decide)) (o 37 r 0 (by decide)) (fun j u w => by rw [putI_at, if_neg (by omega)])
/-- the first condition -/
theorem LR.first {S D S1 : XS} (h : LW S) {k : Int} (hk : S.1 (4, 0, 0) 2 = k) (k10 : k < 10) {hd a b c u v : Int} (hD : sAddR S hd a b c u v = D) (em : MdE S D) (q : QEq D S1) (cb : CB S1) (ji : JInv D) (n1 : S.1 (50, 0, 0) (1600 + 16 * k + 1) = hd) (n2 : S.1 (50, 0, 0) (1600 + 16 * k + 2) = a) (n3 : S.1 (50, 0, 0) (1600 + 16 * k + 3) = b) (n4 : S.1 (50, 0, 0) (1600 + 16 * k + 4 + 4 * 0) = c) (n5 : S.1 (50, 0, 0) (1600 + 16 * k + 5 + 4 * 0) = u) (n6 : S.1 (50, 0, 0) (1600 + 16 * k + 6 + 4 * 0) = v) (n7 : S.1 (50, 0, 0) (1600 + 16 * k + 7 + 4 * 0) = 0) (ga : 0 ≤ a ∧ a ≤ 2) (gb : 0 ≤ b ∧ b ≤ 2) (gu : 0 ≤ u ∧ u ≤ 2) (gv : 0 ≤ v ∧ v ≤ 2) : LR (putI S1 (50, 0, 0) (1600 + 16 * k) 1) k 1 := by
  obtain ⟨h1, h2, h3, h4, h5, h6, h7, hu⟩ := h
  have c4 := wf4_2 h1.1
  have c9 := wf9_3 h1.1 (b := 0) (by decide) (by decide)
  obtain ⟨z2, z3, z4, z5⟩ := h2.1 k (by omega) k10
  have e50 : S1.1 (50, 0, 0) = S.1 (50, 0, 0) := (q.1 (50, 0, 0) rfl).trans (em.1 50 0 0 (by decide))
  have o : ∀ (x : Nat) (y z : Int), x < 50 → kI x = false → (putI S1 (50, 0, 0) (1600 + 16 * k) 1).1 (x, y, z) = D.1 (x, y, z) := fun x y z hk e => (putI_o (nK (by omega) _ _ _ _)).trans (q.1 (x, y, z) e)
  have nn : ∀ j : Int, (putI S1 (50, 0, 0) (1600 + 16 * k) 1).1 (50, 0, 0) j = if j = 1600 + 16 * k then 1 else S.1 (50, 0, 0) j := fun j => by rw [putI_at, e50]
  have oo : ∀ (x : Nat) (y z : Int), x ≠ 34 ∧ x ≠ 36 ∧ x ≠ 37 ∧ x ≠ 4 → D.1 (x, y, z) = S.1 (x, y, z) := fun x y z hx => by rw [← hD]; exact addR_o S hd a b c u v (nK hx.1 _ _ _ _) (Or.inl hx.2.1) (nK hx.2.2.1 _ _ _ _) (nK hx.2.2.2 _ _ _ _)
  have hc : ∀ l : XL, l ≠ (4, 0, 0) → D.1 l = (sCond (sHead S k hd a b) k c u v 0).1 l := fun l hl => by
    rw [← hD]
    unfold sAddR
    rw [putI_o hl, hk]
  obtain ⟨w2, w3, w4, w5⟩ := sHead_34 S k hd a b
  obtain ⟨x0, x2, x3⟩ := sHead_37 S k hd a b
  obtain ⟨s2, s3, s4, s5⟩ := sCond_34 (sHead S k hd a b) k c u v 0
  obtain ⟨p0, p1, p2, p3⟩ := sCond_36 (sHead S k hd a b) k c u v 0
  rw [w2, z2] at s2 p0 p1 p2 p3
  rw [w4, z4] at s4
  rw [w5, z5] at s5
  have e37 : D.1 (37, k, 0) = (sHead S k hd a b).1 (37, k, 0) := by rw [hc _ (nK (by decide) _ _ _ _), sCond_o _ _ _ _ _ _ (nK (by decide) _ _ _ _) (nK (by decide) _ _ _ _)]
  have e34 := hc (34, k, 0) (nK (by decide) _ _ _ _)
  refine ⟨cb.net _ ⟨by omega, by omega⟩, (ji.q q).net _ _, ⟨?_, fun i i0 i1 => ?_⟩, ?_, ?_, ?_, ?_, ?_, fun r r0 r1 => ?_, ?_, ?_, ?_⟩
  · rw [o 9 0 0 (by decide) rfl, oo 9 0 0 (by decide), nn, if_neg (by omega)]; exact h3.1
  · rw [o 9 0 0 (by decide) rfl, oo 9 0 0 (by decide)] at i1
    rw [o 13 0 i (by decide) rfl, oo 13 0 i (by decide), nn, nn, nn, nn, nn, if_neg (by omega), if_neg (by omega), if_neg (by omega), if_neg (by omega), if_neg (by omega)]
    exact h3.2 i i0 i1
  · show Cnt S1
    unfold Cnt
    rw [q.2.2, em.2]
    exact h5
  · rw [o 0 0 0 (by decide) rfl, oo 0 0 0 (by decide)]; exact h6
  · rw [o 0 0 0 (by decide) rfl, oo 0 0 0 (by decide)]; exact h7
  · rw [o 4 0 0 (by decide) rfl, ← hD, addR_n, hk]
  · rw [nn, if_neg (by omega), h4.1, hk]
  · rcases Int.lt_or_eq_of_le r1 with y | y
    · have s9 := wf34_2 h1.1 r0 (by omega)
      have ad : ∀ l : XL, l ≠ (34, k, 0) → (l.1 ≠ 36 ∨ l.2.1 ≠ k) → l ≠ (37, k, 0) → l ≠ (4, 0, 0) → D.1 l = S.1 l := fun l a1 a2 a3 a4 => by rw [← hD]; exact addR_o S hd a b c u v (by rw [hk]; exact a1) (by rw [hk]; exact a2) (by rw [hk]; exact a3) a4
      refine (h4.2 r r0 (by omega)).to s9.1 (fun j _ => ?_) (fun i => ?_) ?_ (fun j t1 t2 => ?_)
      · rw [o 34 r 0 (by decide) rfl, ad _ (nX (by omega) 0) (Or.inl (show (34 : Nat) ≠ 36 by decide)) (nK (by decide) _ _ _ _) (nK (by decide) _ _ _ _)]
      · rw [o 36 r i (by decide) rfl, ad _ (nK (by decide) _ _ _ _) (Or.inr (show r ≠ k by omega)) (nK (by decide) _ _ _ _) (nK (by decide) _ _ _ _)]
      · rw [o 37 r 0 (by decide) rfl, ad _ (nK (by decide) _ _ _ _) (Or.inl (show (37 : Nat) ≠ 36 by decide)) (nX (by omega) 0) (nK (by decide) _ _ _ _)]
      · rw [nn, if_neg (by omega)]
    · subst y
      refine ⟨?_, ⟨?_, ?_, ?_, ?_, ?_⟩, fun v' v0 v1 => ?_, fun c' d0 d1 => ?_⟩
      · rw [o 34 r 0 (by decide) rfl, e34, s2, nn, if_pos rfl]; rfl
      · rw [o 37 r 0 (by decide) rfl, e37, x0, nn, if_neg (by omega), n1]
      · rw [o 37 r 0 (by decide) rfl, e37, x2, nn, if_neg (by omega), n2]
      · rw [o 37 r 0 (by decide) rfl, e37, x3, nn, if_neg (by omega), n3]
      · rw [nn, if_neg (by omega), n2]; exact ga
      · rw [nn, if_neg (by omega), n3]; exact gb
      · rw [o 34 r 0 (by decide) rfl, e34, s2, s4, id_use (id_next (by unfold IdOk; decide) ga gb) gu gv ⟨v0, v1⟩, id_use (by unfold IdOk; decide) ga gb ⟨v0, v1⟩]
        show _ ↔ UsL _ r v' 1
        simp only [UsL]
        rw [nn, nn, nn, nn, if_neg (by omega), if_neg (by omega), if_neg (by omega), if_neg (by omega), n2, n3, show ((0 : Nat) : Int) = 0 from rfl, n5, n6]
        have n511 : ¬ zAnd 511 (zShl 7 (3 * (2 - v'))) = 0 := by
          have : v' = 0 ∨ v' = 1 ∨ v' = 2 := by omega
          rcases this with rfl | rfl | rfl <;> decide
        constructor
        · rintro ((q | q | q) | q | q)
          · exact absurd q n511
          · exact Or.inl (Or.inl q.symm)
          · exact Or.inl (Or.inr q.symm)
          · exact Or.inr (Or.inl q.symm)
          · exact Or.inr (Or.inr q.symm)
        · rintro ((q | q) | q | q)
          · exact Or.inl (Or.inr (Or.inl q.symm))
          · exact Or.inl (Or.inr (Or.inr q.symm))
          · exact Or.inr (Or.inl q.symm)
          · exact Or.inr (Or.inr q.symm)
      · rw [o 34 r 0 (by decide) rfl, e34, s2] at d1
        obtain rfl : c' = 0 := by omega
        unfold NC1
        rw [o 36 r 0 (by decide) rfl, hc (36, r, 0) (nK (by decide) _ _ _ _), p0, p1, p2, p3, nn, nn, nn, nn, if_neg (by omega), if_neg (by omega), if_neg (by omega), if_neg (by omega), n4, n5, n6, n7]
        exact ⟨rfl, rfl, rfl, rfl, gu, gv⟩
  · rw [o 34 k 0 (by decide) rfl, e34, s5]
  · rw [o 34 k 0 (by decide) rfl, e34, s2]; rfl
  · rw [o 3 0 0 (by decide) rfl, oo 3 0 0 (by decide)]; exact hu
/-- a condition more -/
theorem LR.more {S D S1 : XS} {k c : Int} (h : LR S k c) (k0 : 0 ≤ k) (c3 : c < 3) {x y z w : Int} (hD : sCond S k x y z w = D) (em : MdE S D) (q : QEq D S1) (cb : CB S1) (ji : JInv D) (n4 : S.1 (50, 0, 0) (1600 + 16 * k + 4 + 4 * c) = x) (n5 : S.1 (50, 0, 0) (1600 + 16 * k + 5 + 4 * c) = y) (n6 : S.1 (50, 0, 0) (1600 + 16 * k + 6 + 4 * c) = z) (n7 : S.1 (50, 0, 0) (1600 + 16 * k + 7 + 4 * c) = w) (gy : 0 ≤ y ∧ y ≤ 2) (gz : 0 ≤ z ∧ z ≤ 2) : LR (putI S1 (50, 0, 0) (1600 + 16 * k) (c + 1)) k (c + 1) := by
  obtain ⟨h1, h2, h3, h4, h5, h6, h7, h8, h9, h10, h11, hu⟩ := h
  have c4 := wf4_2 h1.1
  have c9 := wf9_3 h1.1 (b := 0) (by decide) (by decide)
  have s34 := wf34_2 h1.1 k0 (by omega)
  have e50 : S1.1 (50, 0, 0) = S.1 (50, 0, 0) := (q.1 (50, 0, 0) rfl).trans (em.1 50 0 0 (by decide))
  have o : ∀ (u : Nat) (a b : Int), u < 50 → kI u = false → (putI S1 (50, 0, 0) (1600 + 16 * k) (c + 1)).1 (u, a, b) = D.1 (u, a, b) := fun u a b hk e => (putI_o (nK (by omega) _ _ _ _)).trans (q.1 (u, a, b) e)
  have nn : ∀ j : Int, (putI S1 (50, 0, 0) (1600 + 16 * k) (c + 1)).1 (50, 0, 0) j = if j = 1600 + 16 * k then c + 1 else S.1 (50, 0, 0) j := fun j => by rw [putI_at, e50]
  have od : ∀ l : XL, l ≠ (34, k, 0) → l ≠ (36, k, c) → D.1 l = S.1 l := fun l a b => by rw [← hD]; exact sCond_o S k x y z w a (by rw [h11]; exact b)
  have oo : ∀ (u : Nat) (a b : Int), u ≠ 34 ∧ u ≠ 36 → D.1 (u, a, b) = S.1 (u, a, b) := fun u a b hx => od _ (nK hx.1 _ _ _ _) (nK hx.2 _ _ _ _)
  obtain ⟨s2, s3, s4, s5⟩ := sCond_34 S k x y z w
  obtain ⟨p0, p1, p2, p3⟩ := sCond_36 S k x y z w
  rw [h11] at s2 p0 p1 p2 p3
  rw [h10] at s5
  rw [hD] at s2 s4 s5 p0 p1 p2 p3
  have idk := (h1.2.1 k.toNat (by omega)).1.1
  rw [show ((k.toNat : Nat) : Int) = k by omega] at idk
  obtain ⟨K, rfl⟩ : ∃ K : Nat, c = K := ⟨c.toNat, by omega⟩
  refine ⟨cb.net _ ⟨by omega, by omega⟩, (ji.q q).net _ _, ⟨?_, fun i i0 i1 => ?_⟩, ?_, ?_, ?_, ?_, ?_, fun r r0 r1 => ?_, ?_, ?_, ?_⟩
  · rw [o 9 0 0 (by decide) rfl, oo 9 0 0 (by decide), nn, if_neg (by omega)]; exact h3.1
  · rw [o 9 0 0 (by decide) rfl, oo 9 0 0 (by decide)] at i1
    rw [o 13 0 i (by decide) rfl, oo 13 0 i (by decide), nn, nn, nn, nn, nn, if_neg (by omega), if_neg (by omega), if_neg (by omega), if_neg (by omega), if_neg (by omega)]
    exact h3.2 i i0 i1
  · show Cnt S1
    unfold Cnt
    rw [q.2.2, em.2]
    exact h4
  · rw [o 0 0 0 (by decide) rfl, oo 0 0 0 (by decide)]; exact h5
  · rw [o 0 0 0 (by decide) rfl, oo 0 0 0 (by decide)]; exact h6
  · rw [o 4 0 0 (by decide) rfl, oo 4 0 0 (by decide)]; exact h7
  · rw [nn, if_neg (by omega)]; exact h8
  · have s9 := wf34_2 h1.1 r0 (by omega)
    rcases Int.lt_or_eq_of_le r1 with t | t
    · refine (h9 r r0 (by omega)).to s9.1 (fun j _ => ?_) (fun i => ?_) ?_ (fun j t1 t2 => ?_)
      · rw [o 34 r 0 (by decide) rfl, od _ (nX (by omega) 0) (nK (by decide) _ _ _ _)]
      · rw [o 36 r i (by decide) rfl, od _ (nK (by decide) _ _ _ _) (n36 (fun q => by omega))]
      · rw [o 37 r 0 (by decide) rfl, oo 37 r 0 (by decide)]
      · rw [nn, if_neg (by omega)]
    · subst t
      obtain ⟨a1, a2, a3, a4⟩ := h9 r r0 r1
      refine ⟨?_, a2.to ?_ (fun j t1 t2 => ?_), fun v v0 v1 => ?_, fun c' d0 d1 => ?_⟩
      · rw [o 34 r 0 (by decide) rfl, s2, nn, if_pos rfl]
      · rw [o 37 r 0 (by decide) rfl, oo 37 r 0 (by decide)]
      · rw [nn, if_neg (by omega)]
      · rw [o 34 r 0 (by decide) rfl, s2, s4, id_use idk gy gz ⟨v0, v1⟩, a3 v v0 v1, h11, show ((K : Int) + 1).toNat = K + 1 by omega, show ((K : Int)).toNat = K by omega]
        have ub : UsL ((putI S1 (50, 0, 0) (1600 + 16 * r) ((K : Int) + 1)).1 (50, 0, 0)) r v (K + 1) ↔ UsL ((putI S1 (50, 0, 0) (1600 + 16 * r) ((K : Int) + 1)).1 (50, 0, 0)) r v K ∨ y = v ∨ z = v := by
          simp only [UsL]
          rw [nn (1600 + 16 * r + 5 + 4 * (K : Int)), nn (1600 + 16 * r + 6 + 4 * (K : Int)), if_neg (by omega), if_neg (by omega), n5, n6]
        have uc : UsL ((putI S1 (50, 0, 0) (1600 + 16 * r) ((K : Int) + 1)).1 (50, 0, 0)) r v K ↔ UsL (S.1 (50, 0, 0)) r v K := UsL_cong' K (fun j t1 => by rw [nn, if_neg (by omega)])
        rw [ub, uc]
        constructor
        · rintro (q | q | q)
          · exact Or.inl q
          · exact Or.inr (Or.inl q.symm)
          · exact Or.inr (Or.inr q.symm)
        · rintro (q | q | q)
          · exact Or.inl q
          · exact Or.inr (Or.inl q.symm)
          · exact Or.inr (Or.inr q.symm)
      · rw [o 34 r 0 (by decide) rfl, s2] at d1
        by_cases t : c' = (K : Int)
        · subst t
          unfold NC1
          rw [o 36 r (K : Int) (by decide) rfl, p0, p1, p2, p3, nn, nn, nn, nn, if_neg (by omega), if_neg (by omega), if_neg (by omega), if_neg (by omega), n4, n5, n6, n7]
          exact ⟨rfl, rfl, rfl, rfl, gy, gz⟩
        · refine (a4 c' d0 (by omega)).to ?_ (fun j t1 t2 => ?_)
          · rw [o 36 r c' (by decide) rfl, od _ (nK (by decide) _ _ _ _) (n36 (fun q => t q.2))]
          · rw [nn, if_neg (by omega)]
  · rw [o 34 k 0 (by decide) rfl, s5]
  · rw [o 34 k 0 (by decide) rfl, s2]
  · rw [o 3 0 0 (by decide) rfl, oo 3 0 0 (by decide)]; exact hu
theorem KQ.can {S T : XS} (h : KQ S T) (r on : Int) : CanOn T r on ↔ CanOn S r on := by
  have e4 := h.k (k := 34) rfl (by decide) r 0
  have eb : ∀ n : Nat, boundN T r n = boundN S r n := fun n => by
    induction n with
    | zero => simp only [boundN, e4]
    | succ n ih => simp only [boundN, fDig, ih, h.k (k := 36) rfl (by decide) r n]
  unfold CanOn
  rw [eb, e4]
  exact ⟨fun z => ⟨z.1, by obtain ⟨g, g1, g2⟩ := z.2; exact ⟨g, g1, Lay_eq h.rule.symm g2⟩⟩, fun z => ⟨z.1, by obtain ⟨g, g1, g2⟩ := z.2; exact ⟨g, g1, Lay_eq h.rule g2⟩⟩⟩
theorem CB.nq {S T : XS} (b : CB S) (q : NQ S T) (w : WI T) : CB T := b.cl w (fun hk x y => q.1 _ (Or.inl (by dsimp only; omega))) (fun _ _ _ => by rw [q.2.1])
