/-! the reference: merge -/
theorem putI_comm (S : XS) {l l' : XL} (h : l ≠ l') (k v k' v' : Int) : putI (putI S l k v) l' k' v' = putI (putI S l' k' v') l k v := by
  have h' : l' ≠ l := fun z => h z.symm
  have e : (putI (putI S l k v) l' k' v').1 = (putI (putI S l' k' v') l k v).1 := by
    funext x
    by_cases y : x = l
    · subst y; simp [putI, h, h']
    · by_cases z : x = l'
      · subst z; simp [putI, h, h']
      · simp [putI, y, z]
  exact Prod.ext e rfl
theorem putI_twice (S : XS) (l : XL) (k v v' : Int) : putI (putI S l k v) l k v' = putI S l k v' := by
  have e : (putI (putI S l k v) l k v').1 = (putI S l k v').1 := by
    funext x j
    by_cases y : x = l
    · subst y
      simp only [putI, if_true, xUpd]
      split <;> rfl
    · simp only [putI, if_neg y]
  exact Prod.ext e rfl
theorem app_p6 (S : XS) {b o : Int} (h : b ≠ o) (j v r s a f t c : Int) : sApp (putI S (9, b, 0) j v) o r s a f t c = putI (sApp S o r s a f t c) (9, b, 0) j v := by
  have n9 : ((9, b, 0) : XL) ≠ (9, o, 0) := nX h 0
  have e9 : (putI S (9, b, 0) j v).1 (9, o, 0) = S.1 (9, o, 0) := putI_o n9.symm
  have e11 : (putI S (9, b, 0) j v).1 (11, o, 0) = S.1 (11, o, 0) := putI_o (nK (by decide) _ _ _ _)
  unfold sApp
  simp only [e9, e11]
  have m : ∀ (x y : Int), ((9, b, 0) : XL) ≠ (13, x, y) := fun x y => nK (by decide) _ _ _ _
  have m1 : ∀ (x y : Int), ((9, b, 0) : XL) ≠ (11, x, y) := fun x y => nK (by decide) _ _ _ _
  rw [putI_comm S (m o _) j v 0 r, putI_comm _ (m o _) j v 1 s, putI_comm _ (m o _) j v 2 a, putI_comm _ (m o _) j v 3 f, putI_comm _ (m o _) j v 4 t, putI_comm _ (m o _) j v 6 0, putI_comm _ (m o _) j v 7 c]
  have d : ∀ T : XS, fDigest (putI T (9, b, 0) j v) (13, o, S.1 (9, o, 0) 3) = fDigest T (13, o, S.1 (9, o, 0) 3) := fun T => by
    unfold fDigest
    rw [putI_o (m o _).symm]
  rw [d, putI_comm _ (m o _) j v 5, putI_o (m o _).symm, putI_comm _ (m1 o 0) j v, putI_comm _ n9 j v]
theorem take_p6 (S : XS) {b o : Int} (h : b ≠ o) (j v k : Int) : sTake1 (putI S (9, b, 0) j v) o b k = putI (sTake1 S o b k) (9, b, 0) j v := by
  unfold sTake1
  rw [app_p6 S h, putI_o (nK (by decide) _ _ _ _)]
theorem put8_p6 (S : XS) (b j v : Int) : sPut8 (putI S (9, b, 0) j v) = putI (sPut8 S) (9, b, 0) j v := by
  unfold sPut8
  rw [putI_o (nK (by decide) _ _ _ _), putI_comm S (nK (by decide) _ _ _ _)]
/-- alike but for what is taken of the branch b -/
def P6 (b : Int) (S S' : XS) : Prop := (∀ l : XL, l ≠ (9, b, 0) → S'.1 l = S.1 l) ∧ ∀ j : Int, j ≠ 6 → S'.1 (9, b, 0) j = S.1 (9, b, 0) j
theorem P6.symm {b : Int} {S S' : XS} (h : P6 b S S') : P6 b S' S := ⟨fun l a => (h.1 l a).symm, fun j a => (h.2 j a).symm⟩
theorem P6.put (b : Int) (S : XS) (v : Int) : P6 b S (putI S (9, b, 0) 6 v) := ⟨fun l a => putI_o a, fun j a => by rw [putI_at, if_neg a]⟩
theorem P6.k {b : Int} {S S' : XS} (h : P6 b S S') {k : Nat} (hk : k ≠ 9) (x y : Int) : S'.1 (k, x, y) = S.1 (k, x, y) := h.1 _ (nK hk _ _ _ _)
theorem P6.rule {b : Int} {S S' : XS} (h : P6 b S S') : RuleEq S.1 S'.1 := ⟨fun r => (h.k (by decide) r 0).symm, fun r i => (h.k (by decide) r i).symm, fun r => (h.k (by decide) r 0).symm, (h.k (by decide) 0 0).symm⟩
theorem P6.can {b : Int} {S S' : XS} (q : P6 b S S') {r on : Int} (h : CanOn S r on) : CanOn S' r on := by
  have bb : ∀ n : Nat, boundN S' r n = boundN S r n := fun n => by
    induction n with
    | zero => simp only [boundN, q.k (k := 34) (by decide)]
    | succ n ih => simp only [boundN, ih, fDig, q.k (k := 36) (by decide)]
  obtain ⟨h1, g, g1, g2⟩ := h
  exact ⟨by rw [q.k (by decide), bb]; exact h1, g, g1, Lay_eq q.rule g2⟩
theorem P6.conf {b o k : Int} {S S' : XS} (q : P6 b S S') (ho : b ≠ o) (h : Conf S o b k) : Conf S' o b k := by
  have e9 : ∀ {S S' : XS}, P6 b S S' → S'.1 (9, o, 0) = S.1 (9, o, 0) := fun q => q.1 _ (nX (fun z => ho z.symm) 0)
  have riv : ∀ {S S' : XS}, P6 b S S' → ∀ (x u v : Int), Riv S.1 o x u v → Riv S'.1 o x u v := fun q x u v h => by
    obtain ⟨h1, t, h2, h3, p, p1, p2, p3, p4⟩ := h
    exact ⟨by rw [q.k (by decide)]; exact h1, t, h2, h3, p, p1, p2, p3, by rw [e9 q, toldN_congr (fun x => q.k (by decide) o x)]; exact p4⟩
  have tell : ∀ {S S' : XS}, P6 b S S' → CanTell S o b k → CanTell S' o b k := fun q h => by
    obtain ⟨h1, h2⟩ := h
    unfold CanTell
    rw [e9 q, q.k (k := 13) (by decide), onN_congr (fun x => q.k (by decide) o x)]
    exact ⟨h1, fun z => ⟨fun y => q.can ((h2 z).1 y), fun y w => (h2 z).2 y (riv q.symm _ _ _ w)⟩⟩
  unfold Conf at *
  rw [q.k (k := 13) (by decide), q.2 5 (by decide)]
  rcases h with h | h | h
  · exact Or.inl h
  · refine Or.inr (Or.inl ?_)
    obtain ⟨i, h1, h2, h3, h4, h5⟩ := h
    refine ⟨i, h1, by rw [e9 q]; exact h2, by rw [q.k (by decide)]; exact h3, by rw [q.k (by decide)]; exact h4, ?_⟩
    unfold fAgainst at *
    rw [q.k (k := 13) (by decide), q.k (k := 13) (by decide)]
    exact h5
  · exact Or.inr (Or.inr (fun z => h (tell q.symm z)))
theorem conf_p6 {b o k : Int} (S : XS) (ho : b ≠ o) (v : Int) : Conf (putI S (9, b, 0) 6 v) o b k ↔ Conf S o b k := ⟨fun h => (P6.put b S v).symm.conf ho h, fun h => (P6.put b S v).conf ho h⟩
/-- j of the tellings are merged, and that is said -/
noncomputable def gMg (C : XS) (o b : Int) (j : Nat) : XS := putI (sMgN C o b j) (9, b, 0) 6 (C.1 (9, b, 0) 6 + j)
theorem gMg_t {C : XS} {o b : Int} {j : Nat} (h : Conf (gMg C o b j) o b (C.1 (9, b, 0) 6 + j)) (ho : b ≠ o) : gMg C o b (j + 1) = putI (sPut8 (gMg C o b j)) (9, b, 0) 6 (C.1 (9, b, 0) 6 + j + 1) := by
  unfold gMg at *
  rw [sMgN_t ((conf_p6 _ ho _).mp h), put8_p6, putI_twice, show C.1 (9, b, 0) 6 + ((j + 1 : Nat) : Int) = C.1 (9, b, 0) 6 + j + 1 by omega]
theorem gMg_f {C : XS} {o b : Int} {j : Nat} (h : ¬ Conf (gMg C o b j) o b (C.1 (9, b, 0) 6 + j)) (ho : b ≠ o) : gMg C o b (j + 1) = putI (sTake1 (gMg C o b j) o b (C.1 (9, b, 0) 6 + j)) (9, b, 0) 6 (C.1 (9, b, 0) 6 + j + 1) := by
  unfold gMg at *
  rw [sMgN_f (fun z => h ((conf_p6 _ ho _).mpr z)), take_p6 _ ho, putI_twice, show C.1 (9, b, 0) 6 + ((j + 1 : Nat) : Int) = C.1 (9, b, 0) 6 + j + 1 by omega]
theorem gMg_9 (C : XS) {o b : Int} (j : Nat) (ho : b ≠ o) {i : Int} (hi : i ≠ 6) : (gMg C o b j).1 (9, b, 0) i = C.1 (9, b, 0) i := by
  unfold gMg
  rw [putI_at, if_neg hi, mg_o C j (by decide : (9 : Nat) ≠ 13) (by decide : (9 : Nat) ≠ 11) (nX ho 0) (nK (by decide) _ _ _ _)]
theorem gMg_13 (C : XS) {o b : Int} (j : Nat) (ho : b ≠ o) (k : Int) : (gMg C o b j).1 (13, b, k) = C.1 (13, b, k) := by
  unfold gMg
  rw [putI_o (nK (by decide) _ _ _ _), mg_13 C j b k ho]
theorem gMg_o (C : XS) {o b : Int} (j : Nat) {l : XL} (h1 : l.1 ≠ 13) (h2 : l.1 ≠ 11) (h3 : l.1 ≠ 9) (h4 : l.1 ≠ 0) : (gMg C o b j).1 l = C.1 l := by
  unfold gMg
  rw [putI_o (fun z => h3 (by rw [z])), mg_o C j h1 h2 (fun z => h3 (by rw [z])) (fun z => h4 (by rw [z]))]
theorem gMg_0 (C : XS) {o b : Int} (j : Nat) {i : Int} (h : i ≠ 8) : (gMg C o b j).1 (0, 0, 0) i = C.1 (0, 0, 0) i := by
  unfold gMg
  rw [putI_o (nK (by decide) _ _ _ _), mg_0 C j h]
theorem mgN_j (C : XS) (o b : Int) (j : Nat) : (sMgN C o b j).2 = C.2 := by
  induction j with
  | zero => rfl
  | succ j ih =>
    by_cases h : Conf (sMgN C o b j) o b (C.1 (9, b, 0) 6 + j)
    · rw [sMgN_t h]; exact ih
    · rw [sMgN_f h]; exact ih
theorem gMg_8 (C : XS) {o b : Int} (j : Nat) (ho : b ≠ o) : 0 ≤ (gMg C o b j).1 (0, 0, 0) 8 ∧ (gMg C o b j).1 (0, 0, 0) 8 ≤ j := by
  induction j with
  | zero =>
    unfold gMg
    rw [putI_o (nK (by decide) _ _ _ _)]
    show 0 ≤ (putI C (0, 0, 0) 8 0).1 (0, 0, 0) 8 ∧ (putI C (0, 0, 0) 8 0).1 (0, 0, 0) 8 ≤ _
    rw [putI_self]
    omega
  | succ j ih =>
    by_cases h : Conf (gMg C o b j) o b (C.1 (9, b, 0) 6 + j)
    · rw [gMg_t h ho, putI_o (nK (by decide) _ _ _ _)]
      unfold sPut8
      rw [putI_self]
      omega
    · rw [gMg_f h ho, putI_o (nK (by decide) _ _ _ _)]
      unfold sTake1
      rw [sApp_k _ _ _ _ _ _ _ _ (by decide)]
      omega
theorem gMg_sz (C : XS) {o b : Int} (j : Nat) (ho : b ≠ o) : C.1 (9, o, 0) 3 ≤ (gMg C o b j).1 (9, o, 0) 3 := by
  have no : ((9, o, 0) : XL) ≠ (9, b, 0) := nX (fun z => ho z.symm) 0
  induction j with
  | zero =>
    unfold gMg
    rw [putI_o no]
    show _ ≤ (putI C (0, 0, 0) 8 0).1 (9, o, 0) 3
    rw [putI_o (nK (by decide) _ _ _ _)]
    omega
  | succ j ih =>
    by_cases h : Conf (gMg C o b j) o b (C.1 (9, b, 0) 6 + j)
    · rw [gMg_t h ho, putI_o no]
      unfold sPut8
      rw [putI_o (nK (by decide) _ _ _ _)]
      exact ih
    · rw [gMg_f h ho, putI_o no]
      unfold sTake1
      rw [app_size]
      omega
theorem mr_61 {D T : XS} (h : MR D T) (b v : Int) : MR (putI D (9, b, 0) 6 v) (putI T (61, 0, 0) b v) := by
  obtain ⟨h1, h2, h3, h4, h5⟩ := h
  have e : ∀ r : Nat, r ≠ 61 → (putI T (61, 0, 0) b v).1 (r, 0, 0) = T.1 (r, 0, 0) := fun r a => putI_o (nK a _ _ _ _)
  have c0 : ∀ (r : Nat) (x y : Int), r ≠ 9 → (putI D (9, b, 0) 6 v).1 (r, x, y) = D.1 (r, x, y) := fun r x y a => putI_o (nK a _ _ _ _)
  have c9 : ∀ (x j : Int), j ≠ 6 → (putI D (9, b, 0) 6 v).1 (9, x, 0) j = D.1 (9, x, 0) j := fun x j a => by
    by_cases y : x = b
    · subst y; rw [putI_at, if_neg a]
    · rw [putI_o (nX y 0)]
  refine ⟨fun b' k b0 b1 k0 k1 => ?_, ?_, h3.to (fun r x y hr => c0 r x y (by omega)) (fun r a1 a2 => e r (by omega)), fun b' b0 b1 => ?_, fun x x0 x1 => ?_⟩
  · rw [c9 _ _ (by decide)] at k1
    rw [e 51 (by decide), e 52 (by decide), e 53 (by decide), e 54 (by decide), e 55 (by decide), e 56 (by decide), c0 13 b' k (by decide)]
    exact h1 b' k b0 b1 k0 k1
  · unfold MRn
    rw [e 50 (by decide), c0 0 0 0 (by decide), c0 4 0 0 (by decide)]
    exact h2
  · obtain ⟨q1, q2, q3, q4⟩ := h4 b' b0 b1
    rw [e 58 (by decide), e 59 (by decide), e 60 (by decide), c9 _ _ (by decide), c9 _ _ (by decide), c9 _ _ (by decide), putI_at]
    refine ⟨q1, q2, q3, ?_⟩
    by_cases y : b' = b
    · subst y; rw [if_pos rfl, putI_self]
    · rw [if_neg y, putI_o (nX y 0)]; exact q4
  · rw [e 57 (by decide), c0 3 0 0 (by decide)]
    exact h5 x x0 x1
theorem mr_p8 {D T : XS} (h : MR D T) {v w : Int} (hv : v = w) : MR (putI D (0, 0, 0) 8 v) (putI T (50, 0, 0) 13 w) := by
  subst hv
  obtain ⟨h1, h2, h3, h4, h5⟩ := h
  have e : ∀ r : Nat, r ≠ 50 → (putI T (50, 0, 0) 13 v).1 (r, 0, 0) = T.1 (r, 0, 0) := fun r a => putI_o (nK a _ _ _ _)
  have c0 : ∀ (r : Nat) (x y : Int), r ≠ 0 → (putI D (0, 0, 0) 8 v).1 (r, x, y) = D.1 (r, x, y) := fun r x y a => putI_o (nK a _ _ _ _)
  refine ⟨fun b' k b0 b1 k0 k1 => ?_, ?_, h3.to (fun r x y hr => c0 r x y (by omega)) (fun r a1 a2 => e r (by omega)), fun b' b0 b1 => ?_, fun x x0 x1 => ?_⟩
  · rw [c0 9 b' 0 (by decide)] at k1
    rw [e 51 (by decide), e 52 (by decide), e 53 (by decide), e 54 (by decide), e 55 (by decide), e 56 (by decide), c0 13 b' k (by decide)]
    exact h1 b' k b0 b1 k0 k1
  · obtain ⟨q1, q2, q3, q4⟩ := h2
    have p : ∀ j : Int, (putI T (50, 0, 0) 13 v).1 (50, 0, 0) j = if j = 13 then v else T.1 (50, 0, 0) j := fun j => putI_at _ _ _ _ _
    have z : ∀ j : Int, (putI D (0, 0, 0) 8 v).1 (0, 0, 0) j = if j = 8 then v else D.1 (0, 0, 0) j := fun j => putI_at _ _ _ _ _
    have p11 := p 11; have p12 := p 12; have p13 := p 13; have p24 := p 24
    have z6 := z 6; have z7 := z 7; have z8 := z 8
    rw [if_pos rfl] at p13 z8
    rw [if_neg (by decide)] at p11 p12 p24 z6 z7
    unfold MRn
    rw [p11, p12, p13, p24, z6, z7, z8, c0 4 0 0 (by decide)]
    exact ⟨q1, q2, rfl, q4⟩
  · rw [e 58 (by decide), e 59 (by decide), e 60 (by decide), e 61 (by decide), c0 9 b' 0 (by decide)]
    exact h4 b' b0 b1
  · rw [e 57 (by decide), c0 3 0 0 (by decide)]
    exact h5 x x0 x1
/-- merging changes tellings alone -/
def MgE (U T : XS) : Prop := ClE U T ∧ WI T ∧ T.2.2.2.1 = U.2.2.2.1 ∧ (∀ (k : Nat) (x y : Int), (67 ≤ k ∧ k ≤ 70) ∨ k = 81 → T.1 (k, x, y) = U.1 (k, x, y)) ∧ T.1 (50, 0, 0) 25 = 0
theorem MgE.q {U T V : XS} (h : MgE U T) (q : MdQ T V) (w : WI V) (e : V.1 (50, 0, 0) 25 = T.1 (50, 0, 0) 25) : MgE U V := ⟨h.1.tr q.cl, w, q.2.2.2.2.1.trans h.2.2.1, fun k x y hk => (q.1 (k, x, y) (by rcases hk with hk | hk; exact mI_low hk.2; subst hk; rfl) (by show k ≠ 50; omega)).trans (h.2.2.2.1 k x y hk), e.trans h.2.2.2.2⟩
theorem MgE.tel {U T : XS} (h : MgE U T) {b n k a x y o : Int} (w : WI (sTel T b n k a x y o)) : MgE U (sTel T b n k a x y o) := ⟨h.1.tr (sTel_c _ _ _ _ _ _ _ _), w, h.2.2.1, fun r u v hr => (sTel_o T b n k a x y o (by show r ≠ _; omega) (by show r ≠ _; omega) (by show r ≠ _; omega) (by show r ≠ _; omega) (by show r ≠ _; omega) (by show r ≠ _; omega) (by show r ≠ _; omega)).trans (h.2.2.2.1 r u v hr), by rw [sTel_o T b n k a x y o (by decide) (by decide) (by decide) (by decide) (by decide) (by decide) (by decide)]; exact h.2.2.2.2⟩
theorem MgE.put {U T : XS} (h : MgE U T) {r : Nat} {j v : Int} (hr : r = 61 ∨ (r = 50 ∧ (j ≠ 25 ∧ j ≠ 12))) (w : WI (putI T (r, 0, 0) j v)) : MgE U (putI T (r, 0, 0) j v) := by
  refine ⟨h.1.put (by show 50 ≤ r ∧ r < 90 ∧ r ≠ 64 ∧ r ≠ 66 ∧ (r ≠ 50 ∨ j ≠ 12); omega), w, h.2.2.1, fun k x y hk => (putI_o (nK (by omega) _ _ _ _)).trans (h.2.2.2.1 k x y hk), ?_⟩
  rcases hr with rfl | ⟨rfl, hj⟩
  · rw [putI_o (nK (by decide) _ _ _ _)]; exact h.2.2.2.2
  · rw [putI_at, if_neg (fun z => hj.1 z.symm)]; exact h.2.2.2.2
theorem CB.p6 {V : XS} (h : CB V) {b v : Int} (b0 : 0 ≤ b) (b1 : b < 4) (hv : 0 ≤ v ∧ v ≤ 60) : CB (putI V (9, b, 0) 6 v) := h.gen (wp9_6 h.1 b0 b1 hv) (fun k x y a c d e f => putI_o (nK f _ _ _ _)) (by rw [putI_o (nK (by decide) _ _ _ _)]) (fun b' => by
  by_cases y : b' = b
  · subst y; rw [putI_at, if_neg (by decide)]
  · rw [putI_o (nX y 0)]) (fun k x y a c d => rfl)
theorem gMg_cb {C : XS} (hC : CB C) {o b : Int} (o0 : 0 ≤ o) (o1 : o < C.1 (0, 0, 0) 6) (b0 : 0 ≤ b) (b1 : b < 4) (ho : b ≠ o) (j : Nat) (hj : C.1 (9, b, 0) 6 + j ≤ C.1 (9, b, 0) 3) : CB (gMg C o b j) := by
  have c9 := wf9_3 hC.1 b0 b1
  have c96 := wf9_6 hC.1 b0 b1
  induction j with
  | zero =>
    have z : CB (putI C (0, 0, 0) 8 0) := hC.gen (wp0_8 hC.1 (by omega)) (fun k x y a c d e f => putI_o (nK a _ _ _ _)) (by rw [putI_at, if_neg (by decide)]) (fun b' => by rw [putI_o (nK (by decide) _ _ _ _)]) (fun k x y a c d => rfl)
    exact z.p6 b0 b1 (by omega)
  | succ j ih =>
    have ih := ih (by omega)
    have g8 := gMg_8 C j ho
    by_cases h : Conf (gMg C o b j) o b (C.1 (9, b, 0) 6 + j)
    · rw [gMg_t h ho]
      exact (ih.put8 (by omega)).p6 b0 b1 (by omega)
    · rw [gMg_f h ho]
      have ct : CanTell (gMg C o b j) o b (C.1 (9, b, 0) 6 + j) := Classical.byContradiction fun z => h (Or.inr (Or.inr z))
      exact (ih.take1 o0 (by rw [gMg_0 C j (by decide)]; exact o1) b0 b1 (by omega) (by rw [gMg_9 C j ho (by decide)]; omega) ct).p6 b0 b1 (by omega)
set_option maxHeartbeats 4000000 in
set_option maxRecDepth 100000 in
theorem l_merge9 (C U : XS) (hC : CB C) (hml : MRl C U) (b o : Int) (b0 : 0 < b) (b1 : b < C.1 (0, 0, 0) 6) (hbo : C.1 (9, b, 0) 4 = o) (ho : o < b) (n : Nat) (hn : C.1 (9, b, 0) 3 = C.1 (9, b, 0) 6 + n) (hfk : C.1 (9, b, 0) 5 ≤ C.1 (9, o, 0) 3) (hsp : ∀ k : Int, 0 ≤ k → k < C.1 (9, b, 0) 3 → C.1 (13, b, k) 0 = 0 → C.1 (13, b, k) 3 ≤ C.1 (13, b, k) 4) (c : Nat) (hc : C.1 (0, 0, 0) 7 = c) (hE : EndOk (sMgF C o b) o) : ∀ (nn : Nat) (T : XS) (j : Nat), (n : Int) - (j : Int) + 1 < (nn : Int) → (MgE U T) → (MR (gMg C o b j) T) → (j ≤ n) → X mX9_merge 34 [xR (50, 0, 0), xI b, xI ((gMg C o b j).1 (9, o, 0) 3 - C.1 (9, o, 0) 3), none, none, none] [] (hp T) 5 (ndS (sMgF C o b) U o c) (pTl U (sMgF C o b) o c ((sMgF C o b).1 (9, o, 0) 3 - C.1 (9, o, 0) 3)) := by
  intro nn
  induction nn with
  | zero => intro T j hm hT hM hj; exfalso; omega
  | succ nn ih =>
    intro T j hm hT hM hj
    have wT := hT.2.1
    have hz := wT.1
    have c6 := wf0_6 hC.1
    have c9 := wf9_3 hC.1 (b := b) (by omega) (by omega)
    have c96 := wf9_6 hC.1 (b := b) (by omega) (by omega)
    have c94 := wf9_4 hC.1 (b := b) (by omega) (by omega)
    have hbne : b ≠ o := by omega
    have cG := gMg_cb hC (by omega) (by omega) (by omega) (by omega) hbne j (by omega)
    have m58 := (hM.2.2.2.1 b (by omega) (by omega)).1
    have m61 := (hM.2.2.2.1 b (by omega) (by omega)).2.2.2
    rw [gMg_9 C j hbne (by decide)] at m58
    rw [show (gMg C o b j).1 (9, b, 0) 6 = (C.1 (9, b, 0) 6 + (j : Int)) from putI_self _ _ _ _] at m61
    refine x_aload_n dX9_merge_34 rfl ?_
    refine x_get (v := xR (61, 0, 0)) dX9_merge_35 fl_RX9_42 (hp50 T) rfl ?_
    refine x_iload_n dX9_merge_38 rfl ?_
    refine x_aldi (f := T.1 (61, 0, 0)) dX9_merge_39 (hp61 T) (show (61 : Nat) ≠ 99 by decide) (by omega) (by omega) (by decide) ?_
    have f39_1 := wfa61 wT (S := T) b
    refine x_aload_n dX9_merge_40 rfl ?_
    refine x_get (v := xR (58, 0, 0)) dX9_merge_41 fl_RX9_33 (hp50 T) rfl ?_
    refine x_iload_n dX9_merge_44 rfl ?_
    refine x_aldi (f := T.1 (58, 0, 0)) dX9_merge_45 (hp58 T) (show (58 : Nat) ≠ 99 by decide) (by omega) (by omega) (by decide) ?_
    have f45_2 := wfa58 wT (S := T) b
    refine x_icmp_ge (tgt := 156) dX9_merge_46 (by decide) (by first | exact hz _ _ | exact hw.1 _ _ | exact zR_of _ | exact bI_z _ | assumption | exact ⟨by omega, by omega⟩) (by first | exact hz _ _ | exact hw.1 _ _ | exact zR_of _ | exact bI_z _ | assumption | exact ⟨by omega, by omega⟩) (fun c46 => ?_) (fun c46 => ?_)
    · have ej : j = n := by omega
      subst ej
      have eF : sMgF C o b = gMg C o b j := by unfold sMgF gMg; rw [show (C.1 (9, b, 0) 3 - C.1 (9, b, 0) 6).toNat = j by omega, hn]
      have cF : CB (sMgF C o b) := by rw [eF]; exact cG
      have mF : MR (sMgF C o b) T := by rw [eF]; exact hM
      have eF6 : (sMgF C o b).1 (0, 0, 0) 6 = C.1 (0, 0, 0) 6 := by rw [eF]; exact gMg_0 C j (by decide)
      have eF7 : (sMgF C o b).1 (0, 0, 0) 7 = c := by rw [eF, gMg_0 C j (by decide)]; exact hc
      have lF : MRl (sMgF C o b) T := hml.to (fun l => ⟨by rw [eF]; exact gMg_o C j (by decide : (14 : Nat) ≠ 13) (by decide : (14 : Nat) ≠ 11) (by decide : (14 : Nat) ≠ 9) (by decide : (14 : Nat) ≠ 0), by rw [eF]; show (sMgN C o b j).2.1 _ = _; rw [mgN_j], by rw [eF]; show (sMgN C o b j).2.1 _ = _; rw [mgN_j], by rw [eF]; show (sMgN C o b j).2.1 _ = _; rw [mgN_j]⟩) (by rw [eF7, hc]) (fun k a1 a2 => hT.2.2.2.1 k 0 0 (by omega)) hT.2.2.1 (fun l u => hT.2.2.2.1 81 l u (by omega))
      have ndT : ndS (sMgF C o b) T o c = ndS (sMgF C o b) U o c := ndS_eq c hT.2.2.1 (hT.2.2.2.1 68 0 0 (by omega))
      have e59 := (hM.2.2.2.1 b (by omega) (by omega)).2.1
      rw [gMg_9 C j hbne (by decide), hbo] at e59
      refine x_aload_n dX9_merge_156 rfl ?_
      refine x_aload_n dX9_merge_157 rfl ?_
      refine x_get (v := xR (59, 0, 0)) dX9_merge_158 fl_RX9_36 (hp50 T) rfl ?_
      refine x_iload_n dX9_merge_161 rfl ?_
      refine x_aldi (f := T.1 (59, 0, 0)) dX9_merge_162 (hp59 T) (show (59 : Nat) ≠ 99 by decide) (by omega) (by omega) (by decide) ?_
      have f162_3 := wfa59 wT (S := T) b
      refine x_top (show T.1 (59, 0, 0) b = o from e59) ?_
      refine x_callV (a := 5) (b := (ndS (sMgF C o b) T o c)) (as := [xI o]) (rest := []) ok_X9_hears_ dX9_merge_163 wd1237 ⟨wd1239, wd24⟩ (hp50 T) rfl rfl (m_hears_ (sMgF C o b) T cF wT mF o (by omega) (by rw [eF6]; omega) c eF7 hE lF) rfl (Nat.le_of_ble_eq_true rfl) (Nat.le_of_ble_eq_true rfl) (by decide) (by omega) (by omega) (fun _ q => ?_) (fun _ _ q => by cases q.1) (fun _ _ q => by cases q.1)
      obtain ⟨-, V, rfl, hV, wV, lV, uV, -⟩ := q
      refine x_iload_n dX9_merge_166 rfl ?_
      exact x_iret dX9_merge_167 rfl ⟨by rw [eF], V, rfl, hT.1.tr hV.cl, wV, by rw [hV.2.2.2.2.2]; exact hT.2.2.2.2, mF.hs hV, lV, by rw [uV, ndT, usum_eq (S := U) (T := T) 5 (fun l _ => by rw [hT.2.2.1])]⟩
    · have hjn : j < n := by omega
      refine x_iload_n dX9_merge_49 rfl ?_
      refine x_bipush (v := 60) dX9_merge_50 (by decide) ?_
      refine x_imul dX9_merge_52 ?_
      refine x_aload_n dX9_merge_53 rfl ?_
      refine x_get (v := xR (61, 0, 0)) dX9_merge_54 fl_RX9_42 (hp50 T) rfl ?_
      refine x_iload_n dX9_merge_57 rfl ?_
      refine x_aldi (f := T.1 (61, 0, 0)) dX9_merge_58 (hp61 T) (show (61 : Nat) ≠ 99 by decide) (by omega) (by omega) (by decide) ?_
      have f58_4 := wfa61 wT (S := T) b
      refine x_iadd dX9_merge_59 ?_
      refine x_top (show (b * 60) + (T.1 (61, 0, 0) b) = 60 * b + (C.1 (9, b, 0) 6 + (j : Int)) from by omega) ?_
      refine x_istore_n (L' := [xR (50, 0, 0), xI b, xI ((gMg C o b j).1 (9, o, 0) 3 - C.1 (9, o, 0) 3), xI (60 * b + (C.1 (9, b, 0) 6 + (j : Int))), none, none]) dX9_merge_60 (by decide) rfl ?_
      refine x_aload_n dX9_merge_61 rfl ?_
      refine x_iload_n dX9_merge_62 rfl ?_
      refine x_iload_n dX9_merge_63 rfl ?_
      refine x_callV (a := 0) (b := 0) (as := [xI b, xI (60 * b + (C.1 (9, b, 0) 6 + (j : Int)))]) (rest := []) ok_X9_canTake dX9_merge_64 wd1430 ⟨wd1432, wd45⟩ (hp50 T) rfl rfl (m_canTake (gMg C o b j) T cG wT hM b (C.1 (9, b, 0) 6 + (j : Int)) o (by omega) (by omega) (by omega) (by rw [gMg_9 C j hbne (by decide)]; omega) (by rw [gMg_9 C j hbne (by decide)]; exact hbo) (by omega) (by rw [gMg_0 C j (by decide)]; omega) (by rw [gMg_9 C j hbne (by decide)]; exact Int.le_trans hfk (gMg_sz C j hbne)) (by rw [gMg_13 C j hbne]; exact hsp _ (by omega) (by omega))) rfl (Nat.le_of_ble_eq_true rfl) (Nat.le_of_ble_eq_true rfl) (by decide) (by omega) (by omega) (fun _ q => by obtain ⟨_, _, _, y, _⟩ := q; cases y) (fun _ _ q => ?_) (fun _ _ q => by obtain ⟨_, _, _, y, _⟩ := q; cases y)
      obtain ⟨U1, z1, rfl, y1, qU1, wU1, hU1⟩ := q
      cases y1
      obtain ⟨hU1, rfl⟩ := hU1
      have lk := lk_take (C := (gMg C o b j)) (b := b) (k := (C.1 (9, b, 0) 6 + (j : Int))) (p := o) (by rw [gMg_9 C j hbne (by decide)]; exact (wf9_5 hC.1 (by omega) (by omega)).1)
      have mU := hT.q qU1 wU1 hU1
      have hMU := hM.q qU1
      have e58 := (hMU.2.2.2.1 o (by omega) (by omega)).1
      have e59 := (hMU.2.2.2.1 b (by omega) (by omega)).2.1
      have e61 := (hMU.2.2.2.1 b (by omega) (by omega)).2.2.2
      rw [gMg_9 C j hbne (by decide), hbo] at e59
      rw [show (gMg C o b j).1 (9, b, 0) 6 = (C.1 (9, b, 0) 6 + (j : Int)) from putI_self _ _ _ _] at e61
      have e13 := hMU.2.1.2.2.1
      have w13 := wf50_13 wU1
      have g8b := gMg_8 C j hbne
      by_cases tk : Tk (gMg C o b j) b (C.1 (9, b, 0) 6 + (j : Int)) o
      · refine x_top (bI_t tk) ?_
        have tkT := tk
        obtain ⟨t1, t2, t3, t4, t5, t6⟩ := hMU.1 b (C.1 (9, b, 0) 6 + (j : Int)) (by omega) (by omega) (by omega) (by rw [gMg_9 C j hbne (by decide)]; omega)
        have g2 := wf13_2 cG.1 (b := b) (t := (C.1 (9, b, 0) 6 + (j : Int))) (by omega) (by omega) (by omega) (by omega)
        have g3 := wf13_3 cG.1 (b := b) (t := (C.1 (9, b, 0) 6 + (j : Int))) (by omega) (by omega) (by omega) (by omega)
        have g4 := wf13_4 cG.1 (b := b) (t := (C.1 (9, b, 0) 6 + (j : Int))) (by omega) (by omega) (by omega) (by omega)
        have kin := kd_in ((gMg C o b j).1 (13, b, (C.1 (9, b, 0) 6 + (j : Int))) 0) ((gMg C o b j).1 (13, b, (C.1 (9, b, 0) 6 + (j : Int))) 1)
        have c9o := wf9_3 cG.1 (b := o) (by omega) (by omega)
        have nc : ¬ Conf (gMg C o b j) o b (C.1 (9, b, 0) 6 + (j : Int)) := fun z => lk.mp z tkT
        have s60 := tkT.1.2.1
        have gs := gMg_f nc hbne
        have sz : (gMg C o b (j + 1)).1 (9, o, 0) 3 = (gMg C o b j).1 (9, o, 0) 3 + 1 := by rw [gs, putI_o (nX (fun z => hbne z.symm) 0)]; exact app_size _ _ _ _ _ _ _ _
        refine x_istore (L' := [xR (50, 0, 0), xI b, xI ((gMg C o b j).1 (9, o, 0) 3 - C.1 (9, o, 0) 3), xI (60 * b + (C.1 (9, b, 0) 6 + (j : Int))), xI 1, none]) dX9_merge_67 (by decide) rfl ?_
        refine x_iload dX9_merge_69 rfl ?_
        refine x_if_eq (tgt := 111) dX9_merge_71 (by decide) ⟨by decide, by decide⟩ (fun z => absurd z (by decide)) (fun _ => ?_)
        refine x_aload_n dX9_merge_74 rfl ?_
        refine x_aload_n dX9_merge_75 rfl ?_
        refine x_get (v := xR (59, 0, 0)) dX9_merge_76 fl_RX9_36 (hp50 U1) rfl ?_
        refine x_iload_n dX9_merge_79 rfl ?_
        refine x_aldi (f := U1.1 (59, 0, 0)) dX9_merge_80 (hp59 U1) (show (59 : Nat) ≠ 99 by decide) (by omega) (by omega) (by decide) ?_
        have f80_5 := wfa59 wU1 (S := U1) b
        refine x_top (show U1.1 (59, 0, 0) b = o from e59) ?_
        refine x_aload_n dX9_merge_81 rfl ?_
        refine x_get (v := xR (51, 0, 0)) dX9_merge_82 fl_RX9_9 (hp50 U1) rfl ?_
        refine x_iload_n dX9_merge_85 rfl ?_
        refine x_aldc (f := U1.1 (51, 0, 0)) dX9_merge_86 (hp51 U1) (show (51 : Nat) ≠ 99 by decide) (by omega) (by omega) (by decide) ?_
        have f86_6 := wfa51 wU1 (S := U1) (60 * b + (C.1 (9, b, 0) 6 + (j : Int)))
        refine x_top (show U1.1 (51, 0, 0) (60 * b + (C.1 (9, b, 0) 6 + (j : Int))) = kd ((gMg C o b j).1 (13, b, (C.1 (9, b, 0) 6 + (j : Int))) 0) ((gMg C o b j).1 (13, b, (C.1 (9, b, 0) 6 + (j : Int))) 1) from t1) ?_
        refine x_aload_n dX9_merge_87 rfl ?_
        refine x_get (v := xR (52, 0, 0)) dX9_merge_88 fl_RX9_13 (hp50 U1) rfl ?_
        refine x_iload_n dX9_merge_91 rfl ?_
        refine x_aldi (f := U1.1 (52, 0, 0)) dX9_merge_92 (hp52 U1) (show (52 : Nat) ≠ 99 by decide) (by omega) (by omega) (by decide) ?_
        have f92_7 := wfa52 wU1 (S := U1) (60 * b + (C.1 (9, b, 0) 6 + (j : Int)))
        refine x_top (show U1.1 (52, 0, 0) (60 * b + (C.1 (9, b, 0) 6 + (j : Int))) = (gMg C o b j).1 (13, b, (C.1 (9, b, 0) 6 + (j : Int))) 2 from t2) ?_
        refine x_aload_n dX9_merge_93 rfl ?_
        refine x_get (v := xR (53, 0, 0)) dX9_merge_94 fl_RX9_17 (hp50 U1) rfl ?_
        refine x_iload_n dX9_merge_97 rfl ?_
        refine x_aldi (f := U1.1 (53, 0, 0)) dX9_merge_98 (hp53 U1) (show (53 : Nat) ≠ 99 by decide) (by omega) (by omega) (by decide) ?_
        have f98_8 := wfa53 wU1 (S := U1) (60 * b + (C.1 (9, b, 0) 6 + (j : Int)))
        refine x_top (show U1.1 (53, 0, 0) (60 * b + (C.1 (9, b, 0) 6 + (j : Int))) = (gMg C o b j).1 (13, b, (C.1 (9, b, 0) 6 + (j : Int))) 3 from t3) ?_
        refine x_aload_n dX9_merge_99 rfl ?_
        refine x_get (v := xR (54, 0, 0)) dX9_merge_100 fl_RX9_20 (hp50 U1) rfl ?_
        refine x_iload_n dX9_merge_103 rfl ?_
        refine x_aldi (f := U1.1 (54, 0, 0)) dX9_merge_104 (hp54 U1) (show (54 : Nat) ≠ 99 by decide) (by omega) (by omega) (by decide) ?_
        have f104_9 := wfa54 wU1 (S := U1) (60 * b + (C.1 (9, b, 0) 6 + (j : Int)))
        refine x_top (show U1.1 (54, 0, 0) (60 * b + (C.1 (9, b, 0) 6 + (j : Int))) = (gMg C o b j).1 (13, b, (C.1 (9, b, 0) 6 + (j : Int))) 4 from t4) ?_
        refine x_iload_n dX9_merge_105 rfl ?_
        refine x_callV_r (a := 0) (b := 0) (as := [xI o, xI (kd ((gMg C o b j).1 (13, b, (C.1 (9, b, 0) 6 + (j : Int))) 0) ((gMg C o b j).1 (13, b, (C.1 (9, b, 0) 6 + (j : Int))) 1)), xI ((gMg C o b j).1 (13, b, (C.1 (9, b, 0) 6 + (j : Int))) 2), xI ((gMg C o b j).1 (13, b, (C.1 (9, b, 0) 6 + (j : Int))) 3), xI ((gMg C o b j).1 (13, b, (C.1 (9, b, 0) 6 + (j : Int))) 4), xI b]) (rest := []) ok_X9_tells dX9_merge_106 wd1233 ⟨wd1235, wd23⟩ (hp50 U1) rfl rfl (m_tells U1 wU1 o ((gMg C o b j).1 (9, o, 0) 3) (kd ((gMg C o b j).1 (13, b, (C.1 (9, b, 0) 6 + (j : Int))) 0) ((gMg C o b j).1 (13, b, (C.1 (9, b, 0) 6 + (j : Int))) 1)) ((gMg C o b j).1 (13, b, (C.1 (9, b, 0) 6 + (j : Int))) 2) ((gMg C o b j).1 (13, b, (C.1 (9, b, 0) 6 + (j : Int))) 3) ((gMg C o b j).1 (13, b, (C.1 (9, b, 0) 6 + (j : Int))) 4) b (by omega) (by omega) e58 (by omega) s60 (by omega) (by omega) (by omega) (by omega) (by omega)) rfl (Nat.le_of_ble_eq_true rfl) (Nat.le_of_ble_eq_true rfl) (by decide) (by omega) (by omega) ?_
        refine x_istore (L' := [xR (50, 0, 0), xI b, xI ((gMg C o b j).1 (9, o, 0) 3 - C.1 (9, o, 0) 3), xI (60 * b + (C.1 (9, b, 0) 6 + (j : Int))), xI 1, xI (((gMg C o b j).1 (9, o, 0) 3) + 1)]) dX9_merge_109 (by decide) rfl ?_
        refine x_iload_n dX9_merge_111 rfl ?_
        refine x_iload dX9_merge_112 rfl ?_
        refine x_if_eq (tgt := 121) dX9_merge_114 (by decide) ⟨by decide, by decide⟩ (fun z => absurd z (by decide)) (fun _ => ?_)
        refine x_iconst dX9_merge_117 ?_
        refine x_goto (tgt := 122) dX9_merge_118 (by decide) ?_
        refine x_iadd dX9_merge_122 ?_
        refine x_istore_n (L' := [xR (50, 0, 0), xI b, xI (((gMg C o b j).1 (9, o, 0) 3 - C.1 (9, o, 0) 3) + 1), xI (60 * b + (C.1 (9, b, 0) 6 + (j : Int))), xI 1, xI (((gMg C o b j).1 (9, o, 0) 3) + 1)]) dX9_merge_123 (by decide) rfl ?_
        refine x_aload_n dX9_merge_124 rfl ?_
        refine x_dup dX9_merge_125 rfl ?_
        refine x_get (v := xI ((sTel U1 o ((gMg C o b j).1 (9, o, 0) 3) (kd ((gMg C o b j).1 (13, b, (C.1 (9, b, 0) 6 + (j : Int))) 0) ((gMg C o b j).1 (13, b, (C.1 (9, b, 0) 6 + (j : Int))) 1)) ((gMg C o b j).1 (13, b, (C.1 (9, b, 0) 6 + (j : Int))) 2) ((gMg C o b j).1 (13, b, (C.1 (9, b, 0) 6 + (j : Int))) 3) ((gMg C o b j).1 (13, b, (C.1 (9, b, 0) 6 + (j : Int))) 4) b).1 (50, 0, 0) 13)) dX9_merge_126 fl_RX9_229 (hp50 (sTel U1 o ((gMg C o b j).1 (9, o, 0) 3) (kd ((gMg C o b j).1 (13, b, (C.1 (9, b, 0) 6 + (j : Int))) 0) ((gMg C o b j).1 (13, b, (C.1 (9, b, 0) 6 + (j : Int))) 1)) ((gMg C o b j).1 (13, b, (C.1 (9, b, 0) 6 + (j : Int))) 2) ((gMg C o b j).1 (13, b, (C.1 (9, b, 0) 6 + (j : Int))) 3) ((gMg C o b j).1 (13, b, (C.1 (9, b, 0) 6 + (j : Int))) 4) b)) rfl ?_
        have f126_10 := wf50_13 (sTel_wi wU1 (by omega) (by omega) (by omega) (by omega) (by omega) (by omega)) (S := sTel U1 o ((gMg C o b j).1 (9, o, 0) 3) (kd ((gMg C o b j).1 (13, b, (C.1 (9, b, 0) 6 + (j : Int))) 0) ((gMg C o b j).1 (13, b, (C.1 (9, b, 0) 6 + (j : Int))) 1)) ((gMg C o b j).1 (13, b, (C.1 (9, b, 0) 6 + (j : Int))) 2) ((gMg C o b j).1 (13, b, (C.1 (9, b, 0) 6 + (j : Int))) 3) ((gMg C o b j).1 (13, b, (C.1 (9, b, 0) 6 + (j : Int))) 4) b)
        refine x_iload dX9_merge_129 rfl ?_
        refine x_if_eq (tgt := 138) dX9_merge_131 (by decide) ⟨by decide, by decide⟩ (fun z => absurd z (by decide)) (fun _ => ?_)
        refine x_iconst dX9_merge_134 ?_
        refine x_goto (tgt := 139) dX9_merge_135 (by decide) ?_
        refine x_iadd dX9_merge_139 ?_
        refine x_put dX9_merge_140 fl_RX9_229 (fun r hr => by cases hr; rfl) (hp50 (sTel U1 o ((gMg C o b j).1 (9, o, 0) 3) (kd ((gMg C o b j).1 (13, b, (C.1 (9, b, 0) 6 + (j : Int))) 0) ((gMg C o b j).1 (13, b, (C.1 (9, b, 0) 6 + (j : Int))) 1)) ((gMg C o b j).1 (13, b, (C.1 (9, b, 0) 6 + (j : Int))) 2) ((gMg C o b j).1 (13, b, (C.1 (9, b, 0) 6 + (j : Int))) 3) ((gMg C o b j).1 (13, b, (C.1 (9, b, 0) 6 + (j : Int))) 4) b)) xfit_i (Nat.le_of_ble_eq_true rfl) rfl ?_
        refine x_heq (pu50_13 (sTel U1 o ((gMg C o b j).1 (9, o, 0) 3) (kd ((gMg C o b j).1 (13, b, (C.1 (9, b, 0) 6 + (j : Int))) 0) ((gMg C o b j).1 (13, b, (C.1 (9, b, 0) 6 + (j : Int))) 1)) ((gMg C o b j).1 (13, b, (C.1 (9, b, 0) 6 + (j : Int))) 2) ((gMg C o b j).1 (13, b, (C.1 (9, b, 0) 6 + (j : Int))) 3) ((gMg C o b j).1 (13, b, (C.1 (9, b, 0) 6 + (j : Int))) 4) b) (((sTel U1 o ((gMg C o b j).1 (9, o, 0) 3) (kd ((gMg C o b j).1 (13, b, (C.1 (9, b, 0) 6 + (j : Int))) 0) ((gMg C o b j).1 (13, b, (C.1 (9, b, 0) 6 + (j : Int))) 1)) ((gMg C o b j).1 (13, b, (C.1 (9, b, 0) 6 + (j : Int))) 2) ((gMg C o b j).1 (13, b, (C.1 (9, b, 0) 6 + (j : Int))) 3) ((gMg C o b j).1 (13, b, (C.1 (9, b, 0) 6 + (j : Int))) 4) b).1 (50, 0, 0) 13) + 0)) ?_
        have hw140_11 : WI (putI (sTel U1 o ((gMg C o b j).1 (9, o, 0) 3) (kd ((gMg C o b j).1 (13, b, (C.1 (9, b, 0) 6 + (j : Int))) 0) ((gMg C o b j).1 (13, b, (C.1 (9, b, 0) 6 + (j : Int))) 1)) ((gMg C o b j).1 (13, b, (C.1 (9, b, 0) 6 + (j : Int))) 2) ((gMg C o b j).1 (13, b, (C.1 (9, b, 0) 6 + (j : Int))) 3) ((gMg C o b j).1 (13, b, (C.1 (9, b, 0) 6 + (j : Int))) 4) b) (50, 0, 0) 13 (((sTel U1 o ((gMg C o b j).1 (9, o, 0) 3) (kd ((gMg C o b j).1 (13, b, (C.1 (9, b, 0) 6 + (j : Int))) 0) ((gMg C o b j).1 (13, b, (C.1 (9, b, 0) 6 + (j : Int))) 1)) ((gMg C o b j).1 (13, b, (C.1 (9, b, 0) 6 + (j : Int))) 2) ((gMg C o b j).1 (13, b, (C.1 (9, b, 0) 6 + (j : Int))) 3) ((gMg C o b j).1 (13, b, (C.1 (9, b, 0) 6 + (j : Int))) 4) b).1 (50, 0, 0) 13) + 0)) := wp50_13 (sTel_wi wU1 (by omega) (by omega) (by omega) (by omega) (by omega) (by omega)) (by omega)
        refine x_aload_n dX9_merge_143 rfl ?_
        refine x_get (v := xR (61, 0, 0)) dX9_merge_144 fl_RX9_42 (hp50 (putI (sTel U1 o ((gMg C o b j).1 (9, o, 0) 3) (kd ((gMg C o b j).1 (13, b, (C.1 (9, b, 0) 6 + (j : Int))) 0) ((gMg C o b j).1 (13, b, (C.1 (9, b, 0) 6 + (j : Int))) 1)) ((gMg C o b j).1 (13, b, (C.1 (9, b, 0) 6 + (j : Int))) 2) ((gMg C o b j).1 (13, b, (C.1 (9, b, 0) 6 + (j : Int))) 3) ((gMg C o b j).1 (13, b, (C.1 (9, b, 0) 6 + (j : Int))) 4) b) (50, 0, 0) 13 (((sTel U1 o ((gMg C o b j).1 (9, o, 0) 3) (kd ((gMg C o b j).1 (13, b, (C.1 (9, b, 0) 6 + (j : Int))) 0) ((gMg C o b j).1 (13, b, (C.1 (9, b, 0) 6 + (j : Int))) 1)) ((gMg C o b j).1 (13, b, (C.1 (9, b, 0) 6 + (j : Int))) 2) ((gMg C o b j).1 (13, b, (C.1 (9, b, 0) 6 + (j : Int))) 3) ((gMg C o b j).1 (13, b, (C.1 (9, b, 0) 6 + (j : Int))) 4) b).1 (50, 0, 0) 13) + 0))) rfl ?_
        refine x_iload_n dX9_merge_147 rfl ?_
        refine x_dup2 dX9_merge_148 rfl rfl ?_
        refine x_aldi (f := (sTel U1 o ((gMg C o b j).1 (9, o, 0) 3) (kd ((gMg C o b j).1 (13, b, (C.1 (9, b, 0) 6 + (j : Int))) 0) ((gMg C o b j).1 (13, b, (C.1 (9, b, 0) 6 + (j : Int))) 1)) ((gMg C o b j).1 (13, b, (C.1 (9, b, 0) 6 + (j : Int))) 2) ((gMg C o b j).1 (13, b, (C.1 (9, b, 0) 6 + (j : Int))) 3) ((gMg C o b j).1 (13, b, (C.1 (9, b, 0) 6 + (j : Int))) 4) b).1 (61, 0, 0)) dX9_merge_149 (hp61 (putI (sTel U1 o ((gMg C o b j).1 (9, o, 0) 3) (kd ((gMg C o b j).1 (13, b, (C.1 (9, b, 0) 6 + (j : Int))) 0) ((gMg C o b j).1 (13, b, (C.1 (9, b, 0) 6 + (j : Int))) 1)) ((gMg C o b j).1 (13, b, (C.1 (9, b, 0) 6 + (j : Int))) 2) ((gMg C o b j).1 (13, b, (C.1 (9, b, 0) 6 + (j : Int))) 3) ((gMg C o b j).1 (13, b, (C.1 (9, b, 0) 6 + (j : Int))) 4) b) (50, 0, 0) 13 (((sTel U1 o ((gMg C o b j).1 (9, o, 0) 3) (kd ((gMg C o b j).1 (13, b, (C.1 (9, b, 0) 6 + (j : Int))) 0) ((gMg C o b j).1 (13, b, (C.1 (9, b, 0) 6 + (j : Int))) 1)) ((gMg C o b j).1 (13, b, (C.1 (9, b, 0) 6 + (j : Int))) 2) ((gMg C o b j).1 (13, b, (C.1 (9, b, 0) 6 + (j : Int))) 3) ((gMg C o b j).1 (13, b, (C.1 (9, b, 0) 6 + (j : Int))) 4) b).1 (50, 0, 0) 13) + 0))) (show (61 : Nat) ≠ 99 by decide) (by omega) (by omega) (by decide) ?_
        have f149_12 := wfa61 (sTel_wi wU1 (by omega) (by omega) (by omega) (by omega) (by omega) (by omega)) (S := sTel U1 o ((gMg C o b j).1 (9, o, 0) 3) (kd ((gMg C o b j).1 (13, b, (C.1 (9, b, 0) 6 + (j : Int))) 0) ((gMg C o b j).1 (13, b, (C.1 (9, b, 0) 6 + (j : Int))) 1)) ((gMg C o b j).1 (13, b, (C.1 (9, b, 0) 6 + (j : Int))) 2) ((gMg C o b j).1 (13, b, (C.1 (9, b, 0) 6 + (j : Int))) 3) ((gMg C o b j).1 (13, b, (C.1 (9, b, 0) 6 + (j : Int))) 4) b) b
        refine x_iconst dX9_merge_150 ?_
        refine x_iadd dX9_merge_151 ?_
        refine x_top (show ((sTel U1 o ((gMg C o b j).1 (9, o, 0) 3) (kd ((gMg C o b j).1 (13, b, (C.1 (9, b, 0) 6 + (j : Int))) 0) ((gMg C o b j).1 (13, b, (C.1 (9, b, 0) 6 + (j : Int))) 1)) ((gMg C o b j).1 (13, b, (C.1 (9, b, 0) 6 + (j : Int))) 2) ((gMg C o b j).1 (13, b, (C.1 (9, b, 0) 6 + (j : Int))) 3) ((gMg C o b j).1 (13, b, (C.1 (9, b, 0) 6 + (j : Int))) 4) b).1 (61, 0, 0) b) + 1 = C.1 (9, b, 0) 6 + (j : Int) + 1 from by first | (rw [e61]) | (rw [putI_o (nK (by decide) _ _ _ _), e61]) | (rw [sTel_o _ _ _ _ _ _ _ _ (by decide) (by decide) (by decide) (by decide) (by decide) (by decide) (by decide), e61])) ?_
        refine x_asti dX9_merge_152 (hp61 (putI (sTel U1 o ((gMg C o b j).1 (9, o, 0) 3) (kd ((gMg C o b j).1 (13, b, (C.1 (9, b, 0) 6 + (j : Int))) 0) ((gMg C o b j).1 (13, b, (C.1 (9, b, 0) 6 + (j : Int))) 1)) ((gMg C o b j).1 (13, b, (C.1 (9, b, 0) 6 + (j : Int))) 2) ((gMg C o b j).1 (13, b, (C.1 (9, b, 0) 6 + (j : Int))) 3) ((gMg C o b j).1 (13, b, (C.1 (9, b, 0) 6 + (j : Int))) 4) b) (50, 0, 0) 13 (((sTel U1 o ((gMg C o b j).1 (9, o, 0) 3) (kd ((gMg C o b j).1 (13, b, (C.1 (9, b, 0) 6 + (j : Int))) 0) ((gMg C o b j).1 (13, b, (C.1 (9, b, 0) 6 + (j : Int))) 1)) ((gMg C o b j).1 (13, b, (C.1 (9, b, 0) 6 + (j : Int))) 2) ((gMg C o b j).1 (13, b, (C.1 (9, b, 0) 6 + (j : Int))) 3) ((gMg C o b j).1 (13, b, (C.1 (9, b, 0) 6 + (j : Int))) 4) b).1 (50, 0, 0) 13) + 0))) (show (61 : Nat) ≠ 99 by decide) (by omega) (by omega) (by decide) ?_
        refine x_heq (pa61 (putI (sTel U1 o ((gMg C o b j).1 (9, o, 0) 3) (kd ((gMg C o b j).1 (13, b, (C.1 (9, b, 0) 6 + (j : Int))) 0) ((gMg C o b j).1 (13, b, (C.1 (9, b, 0) 6 + (j : Int))) 1)) ((gMg C o b j).1 (13, b, (C.1 (9, b, 0) 6 + (j : Int))) 2) ((gMg C o b j).1 (13, b, (C.1 (9, b, 0) 6 + (j : Int))) 3) ((gMg C o b j).1 (13, b, (C.1 (9, b, 0) 6 + (j : Int))) 4) b) (50, 0, 0) 13 (((sTel U1 o ((gMg C o b j).1 (9, o, 0) 3) (kd ((gMg C o b j).1 (13, b, (C.1 (9, b, 0) 6 + (j : Int))) 0) ((gMg C o b j).1 (13, b, (C.1 (9, b, 0) 6 + (j : Int))) 1)) ((gMg C o b j).1 (13, b, (C.1 (9, b, 0) 6 + (j : Int))) 2) ((gMg C o b j).1 (13, b, (C.1 (9, b, 0) 6 + (j : Int))) 3) ((gMg C o b j).1 (13, b, (C.1 (9, b, 0) 6 + (j : Int))) 4) b).1 (50, 0, 0) 13) + 0)) b (C.1 (9, b, 0) 6 + (j : Int) + 1)) ?_
        have hw152_13 : WI (putI (putI (sTel U1 o ((gMg C o b j).1 (9, o, 0) 3) (kd ((gMg C o b j).1 (13, b, (C.1 (9, b, 0) 6 + (j : Int))) 0) ((gMg C o b j).1 (13, b, (C.1 (9, b, 0) 6 + (j : Int))) 1)) ((gMg C o b j).1 (13, b, (C.1 (9, b, 0) 6 + (j : Int))) 2) ((gMg C o b j).1 (13, b, (C.1 (9, b, 0) 6 + (j : Int))) 3) ((gMg C o b j).1 (13, b, (C.1 (9, b, 0) 6 + (j : Int))) 4) b) (50, 0, 0) 13 (((sTel U1 o ((gMg C o b j).1 (9, o, 0) 3) (kd ((gMg C o b j).1 (13, b, (C.1 (9, b, 0) 6 + (j : Int))) 0) ((gMg C o b j).1 (13, b, (C.1 (9, b, 0) 6 + (j : Int))) 1)) ((gMg C o b j).1 (13, b, (C.1 (9, b, 0) 6 + (j : Int))) 2) ((gMg C o b j).1 (13, b, (C.1 (9, b, 0) 6 + (j : Int))) 3) ((gMg C o b j).1 (13, b, (C.1 (9, b, 0) 6 + (j : Int))) 4) b).1 (50, 0, 0) 13) + 0)) (61, 0, 0) b (C.1 (9, b, 0) 6 + (j : Int) + 1)) := wpa61 hw140_11 (by omega)
        refine x_goto (tgt := 34) dX9_merge_153 (by decide) ?_
        refine X.loc (L' := [xR (50, 0, 0), xI b, xI (((gMg C o b j).1 (9, o, 0) 3 - C.1 (9, o, 0) 3) + 1), none, none, none]) ⟨rfl, ⟨rfl, ⟨rfl, trivial⟩⟩⟩ ?_
        rw [show putI (sTel U1 o ((gMg C o b j).1 (9, o, 0) 3) (kd ((gMg C o b j).1 (13, b, (C.1 (9, b, 0) 6 + (j : Int))) 0) ((gMg C o b j).1 (13, b, (C.1 (9, b, 0) 6 + (j : Int))) 1)) ((gMg C o b j).1 (13, b, (C.1 (9, b, 0) 6 + (j : Int))) 2) ((gMg C o b j).1 (13, b, (C.1 (9, b, 0) 6 + (j : Int))) 3) ((gMg C o b j).1 (13, b, (C.1 (9, b, 0) 6 + (j : Int))) 4) b) (50, 0, 0) 13 (((sTel U1 o ((gMg C o b j).1 (9, o, 0) 3) (kd ((gMg C o b j).1 (13, b, (C.1 (9, b, 0) 6 + (j : Int))) 0) ((gMg C o b j).1 (13, b, (C.1 (9, b, 0) 6 + (j : Int))) 1)) ((gMg C o b j).1 (13, b, (C.1 (9, b, 0) 6 + (j : Int))) 2) ((gMg C o b j).1 (13, b, (C.1 (9, b, 0) 6 + (j : Int))) 3) ((gMg C o b j).1 (13, b, (C.1 (9, b, 0) 6 + (j : Int))) 4) b).1 (50, 0, 0) 13) + 0) = (sTel U1 o ((gMg C o b j).1 (9, o, 0) 3) (kd ((gMg C o b j).1 (13, b, (C.1 (9, b, 0) 6 + (j : Int))) 0) ((gMg C o b j).1 (13, b, (C.1 (9, b, 0) 6 + (j : Int))) 1)) ((gMg C o b j).1 (13, b, (C.1 (9, b, 0) 6 + (j : Int))) 2) ((gMg C o b j).1 (13, b, (C.1 (9, b, 0) 6 + (j : Int))) 3) ((gMg C o b j).1 (13, b, (C.1 (9, b, 0) 6 + (j : Int))) 4) b) from by rw [Int.add_zero]; exact putI_same _ _ _]
        have kz := ih (putI (sTel U1 o ((gMg C o b j).1 (9, o, 0) 3) (kd ((gMg C o b j).1 (13, b, (C.1 (9, b, 0) 6 + (j : Int))) 0) ((gMg C o b j).1 (13, b, (C.1 (9, b, 0) 6 + (j : Int))) 1)) ((gMg C o b j).1 (13, b, (C.1 (9, b, 0) 6 + (j : Int))) 2) ((gMg C o b j).1 (13, b, (C.1 (9, b, 0) 6 + (j : Int))) 3) ((gMg C o b j).1 (13, b, (C.1 (9, b, 0) 6 + (j : Int))) 4) b) (61, 0, 0) b (C.1 (9, b, 0) 6 + (j : Int) + 1)) (j + 1) (by omega) ((mU.tel (sTel_wi wU1 (by omega) (by omega) (by omega) (by omega) (by omega) (by omega))).put (Or.inl rfl) (wpa61 (sTel_wi wU1 (by omega) (by omega) (by omega) (by omega) (by omega) (by omega)) (by omega))) (by rw [gs]; exact mr_61 (mr_app hMU (by omega) (by omega) rfl (by omega) s60 (fun b2 x2 y2 => (wf9_3 cG.1 x2 y2).2) _ _ _ _ _ _) b _) (by omega)
        rw [show (gMg C o b (j + 1)).1 (9, o, 0) 3 - C.1 (9, o, 0) 3 = ((gMg C o b j).1 (9, o, 0) 3 - C.1 (9, o, 0) 3) + 1 from by rw [sz]; omega] at kz
        exact kz
      · refine x_top (bI_f tk) ?_
        have cf : Conf (gMg C o b j) o b (C.1 (9, b, 0) 6 + (j : Int)) := lk.mpr tk
        have gs := gMg_t cf hbne
        have sz : (gMg C o b (j + 1)).1 (9, o, 0) 3 = (gMg C o b j).1 (9, o, 0) 3 := by rw [gs, putI_o (nX (fun z => hbne z.symm) 0)]; unfold sPut8; rw [putI_o (nK (by decide) _ _ _ _)]
        refine x_istore (L' := [xR (50, 0, 0), xI b, xI ((gMg C o b j).1 (9, o, 0) 3 - C.1 (9, o, 0) 3), xI (60 * b + (C.1 (9, b, 0) 6 + (j : Int))), xI 0, none]) dX9_merge_67 (by decide) rfl ?_
        refine x_iload dX9_merge_69 rfl ?_
        refine x_if_eq (tgt := 111) dX9_merge_71 (by decide) ⟨by decide, by decide⟩ (fun _ => ?_) (fun z => absurd z (by decide))
        refine x_iload_n dX9_merge_111 rfl ?_
        refine x_iload dX9_merge_112 rfl ?_
        refine x_if_eq (tgt := 121) dX9_merge_114 (by decide) ⟨by decide, by decide⟩ (fun _ => ?_) (fun z => absurd z (by decide))
        refine x_iconst dX9_merge_121 ?_
        refine x_iadd dX9_merge_122 ?_
        refine x_istore_n (L' := [xR (50, 0, 0), xI b, xI (((gMg C o b j).1 (9, o, 0) 3 - C.1 (9, o, 0) 3) + 0), xI (60 * b + (C.1 (9, b, 0) 6 + (j : Int))), xI 0, none]) dX9_merge_123 (by decide) rfl ?_
        refine x_aload_n dX9_merge_124 rfl ?_
        refine x_dup dX9_merge_125 rfl ?_
        refine x_get (v := xI (U1.1 (50, 0, 0) 13)) dX9_merge_126 fl_RX9_229 (hp50 U1) rfl ?_
        have f126_14 := wf50_13 wU1 (S := U1)
        refine x_iload dX9_merge_129 rfl ?_
        refine x_if_eq (tgt := 138) dX9_merge_131 (by decide) ⟨by decide, by decide⟩ (fun _ => ?_) (fun z => absurd z (by decide))
        refine x_iconst dX9_merge_138 ?_
        refine x_iadd dX9_merge_139 ?_
        refine x_put dX9_merge_140 fl_RX9_229 (fun r hr => by cases hr; rfl) (hp50 U1) xfit_i (Nat.le_of_ble_eq_true rfl) rfl ?_
        refine x_heq (pu50_13 U1 ((U1.1 (50, 0, 0) 13) + 1)) ?_
        have hw140_15 : WI (putI U1 (50, 0, 0) 13 ((U1.1 (50, 0, 0) 13) + 1)) := wp50_13 wU1 (by omega)
        refine x_aload_n dX9_merge_143 rfl ?_
        refine x_get (v := xR (61, 0, 0)) dX9_merge_144 fl_RX9_42 (hp50 (putI U1 (50, 0, 0) 13 ((U1.1 (50, 0, 0) 13) + 1))) rfl ?_
        refine x_iload_n dX9_merge_147 rfl ?_
        refine x_dup2 dX9_merge_148 rfl rfl ?_
        refine x_aldi (f := U1.1 (61, 0, 0)) dX9_merge_149 (hp61 (putI U1 (50, 0, 0) 13 ((U1.1 (50, 0, 0) 13) + 1))) (show (61 : Nat) ≠ 99 by decide) (by omega) (by omega) (by decide) ?_
        have f149_16 := wfa61 wU1 (S := U1) b
        refine x_iconst dX9_merge_150 ?_
        refine x_iadd dX9_merge_151 ?_
        refine x_top (show (U1.1 (61, 0, 0) b) + 1 = C.1 (9, b, 0) 6 + (j : Int) + 1 from by first | (rw [e61]) | (rw [putI_o (nK (by decide) _ _ _ _), e61]) | (rw [sTel_o _ _ _ _ _ _ _ _ (by decide) (by decide) (by decide) (by decide) (by decide) (by decide) (by decide), e61])) ?_
        refine x_asti dX9_merge_152 (hp61 (putI U1 (50, 0, 0) 13 ((U1.1 (50, 0, 0) 13) + 1))) (show (61 : Nat) ≠ 99 by decide) (by omega) (by omega) (by decide) ?_
        refine x_heq (pa61 (putI U1 (50, 0, 0) 13 ((U1.1 (50, 0, 0) 13) + 1)) b (C.1 (9, b, 0) 6 + (j : Int) + 1)) ?_
        have hw152_17 : WI (putI (putI U1 (50, 0, 0) 13 ((U1.1 (50, 0, 0) 13) + 1)) (61, 0, 0) b (C.1 (9, b, 0) 6 + (j : Int) + 1)) := wpa61 hw140_15 (by omega)
        refine x_goto (tgt := 34) dX9_merge_153 (by decide) ?_
        refine X.loc (L' := [xR (50, 0, 0), xI b, xI (((gMg C o b j).1 (9, o, 0) 3 - C.1 (9, o, 0) 3) + 0), none, none, none]) ⟨rfl, ⟨rfl, ⟨rfl, trivial⟩⟩⟩ ?_
        have kz := ih (putI (putI U1 (50, 0, 0) 13 ((U1.1 (50, 0, 0) 13) + 1)) (61, 0, 0) b (C.1 (9, b, 0) 6 + (j : Int) + 1)) (j + 1) (by omega) ((mU.put (Or.inr ⟨rfl, by decide⟩) hw140_15).put (Or.inl rfl) (wpa61 hw140_15 (by omega))) (by rw [gs]; exact mr_61 (show MR (sPut8 _) (putI U1 (50, 0, 0) 13 (U1.1 (50, 0, 0) 13 + 1)) from mr_p8 hMU (by omega)) b _) (by omega)
        rw [show (gMg C o b (j + 1)).1 (9, o, 0) 3 - C.1 (9, o, 0) 3 = ((gMg C o b j).1 (9, o, 0) 3 - C.1 (9, o, 0) 3) + 0 from by rw [sz]; omega] at kz
        exact kz
theorem gMg_z (C : XS) (o b : Int) : gMg C o b 0 = putI C (0, 0, 0) 8 0 := by
  have e : C.1 (9, b, 0) 6 + ((0 : Nat) : Int) = (putI C (0, 0, 0) 8 0).1 (9, b, 0) 6 := by
    rw [putI_o (nK (by decide) _ _ _ _)]
    exact Int.add_zero _
  unfold gMg
  show putI (putI C (0, 0, 0) 8 0) (9, b, 0) 6 _ = _
  rw [e, putI_same]
set_option maxHeartbeats 4000000 in
set_option maxRecDepth 100000 in
theorem m_merge (C S : XS) (hC : CB C) (hw : WI S) (hM : MR C S) (b : Int) (zb : zR b) (hml : MRl C S) (hO : ∀ b : Int, 0 < b → b < C.1 (0, 0, 0) 6 → C.1 (9, b, 0) 4 < b ∧ C.1 (9, b, 0) 5 ≤ C.1 (9, C.1 (9, b, 0) 4, 0) 3 ∧ C.1 (9, b, 0) 6 ≤ C.1 (9, b, 0) 3) (hsp : ∀ b : Int, 0 ≤ b → b < 4 → ∀ k : Int, 0 ≤ k → k < C.1 (9, b, 0) 3 → C.1 (13, b, k) 0 = 0 → C.1 (13, b, k) 3 ≤ C.1 (13, b, k) 4) (c : Nat) (hc : C.1 (0, 0, 0) 7 = c) (hE : 0 < b → b < C.1 (0, 0, 0) 6 → EndOk (sMgF C (C.1 (9, b, 0) 4) b) (C.1 (9, b, 0) 4)) (kb : Nat) (hkb : (0 ≤ b ∧ b < C.1 (0, 0, 0) 6) ∧ b ≠ 0 → ndS (sMgF C (C.1 (9, b, 0) 4) b) S (C.1 (9, b, 0) 4) c ≤ kb) : X mX9_merge 0 (xEnt mX9_merge [xR (50, 0, 0), xI b]) [] (hp S) 5 kb (pMt S (fun k z => z = 0 ∧ ((k = 1 ∧ ¬ (0 ≤ b ∧ b < C.1 (0, 0, 0) 6)) ∨ (k = 2 ∧ (0 ≤ b ∧ b < C.1 (0, 0, 0) 6) ∧ ¬ (b ≠ 0)))) ((0 ≤ b ∧ b < C.1 (0, 0, 0) 6) ∧ (b ≠ 0)) ((sMgF C (C.1 (9, b, 0) 4) b).1 (9, (C.1 (9, b, 0) 4), 0) 3 - C.1 (9, (C.1 (9, b, 0) 4), 0) 3) (sMgF C (C.1 (9, b, 0) 4) b) (C.1 (9, b, 0) 4) c) := by
  have c6 := wf0_6 hC.1
  have c4 := wf4_2 hC.1
  have hz := hw.1
  show X mX9_merge 0 [xR (50, 0, 0), xI b, none, none, none, none] [] (hp S) 5 kb _
  refine x_aload_n dX9_merge_0 rfl ?_
  refine x_iload_n dX9_merge_1 rfl ?_
  refine x_callV (a := 0) (b := 0) (as := [xI b]) (rest := []) ok_X9_isNoBranch dX9_merge_2 wd1204 ⟨wd1206, wd18⟩ (hp50 S) rfl rfl (m_isNoBranch C S hC hw (hM.q (MdQ.rf S)) b (by first | exact hz _ _ | exact hw.1 _ _ | exact zR_of _ | exact bI_z _ | assumption | exact ⟨by omega, by omega⟩)) rfl (Nat.le_of_ble_eq_true rfl) (Nat.le_of_ble_eq_true rfl) (by decide) (by omega) (by omega) (fun _ q => by obtain ⟨_, _, _, y, _⟩ := q; cases y) (fun _ _ q => ?_) (fun _ _ q => by obtain ⟨_, _, _, y, _⟩ := q; cases y)
  obtain ⟨U1, z1, rfl, y1, qU1, wU1, hU1⟩ := q
  cases y1
  have sU1 := (MdQ.rf S).tr qU1
  rcases hU1 with ⟨rfl, hU1⟩ | ⟨rfl, hU1⟩
  · refine x_if_ne (tgt := 25) dX9_merge_5 (by decide) ⟨by decide, by decide⟩ (fun _ => ?_) (fun z => absurd z (by decide))
    refine x_iconst dX9_merge_25 ?_
    exact x_iret dX9_merge_26 rfl (Or.inl (pM_of sU1 wU1 (by omega)))
  · refine x_if_ne (tgt := 25) dX9_merge_5 (by decide) ⟨by decide, by decide⟩ (fun z => absurd z (by decide)) (fun _ => ?_)
    refine x_aload_n dX9_merge_8 rfl ?_
    refine x_iload_n dX9_merge_9 rfl ?_
    refine x_if_ne (tgt := 17) dX9_merge_10 (by decide) (by first | exact hz _ _ | exact hw.1 _ _ | exact zR_of _ | exact bI_z _ | assumption | exact ⟨by omega, by omega⟩) (fun c10 => ?_) (fun c10 => ?_)
    · refine x_iconst dX9_merge_17 ?_
      refine x_iconst dX9_merge_18 ?_
      refine x_callV_r (a := 0) (b := 0) (as := [xI 0, xI 2]) (rest := []) ok_X9_isThrown dX9_merge_19 wd1215 ⟨wd1217, wd20⟩ (hp50 U1) rfl rfl ((show X mX9_isThrown 0 (xEnt mX9_isThrown [xR (50, 0, 0), xI 0, xI 2]) [] (hp U1) 0 0 (pRet (xI 0) (hp (putI U1 (50, 0, 0) 25 0))) from by have q := m_isThrown U1 wU1 0 2 (by omega) (by omega); rw [if_pos rfl] at q; exact q)) rfl (Nat.le_of_ble_eq_true rfl) (Nat.le_of_ble_eq_true rfl) (by decide) (by omega) (by omega) ?_
      refine x_if_eq (tgt := 27) dX9_merge_22 (by decide) ⟨by decide, by decide⟩ (fun _ => ?_) (fun z => absurd z (by decide))
      refine x_iconst dX9_merge_27 ?_
      refine x_istore_n (L' := [xR (50, 0, 0), xI b, xI 0, none, none, none]) dX9_merge_28 (by decide) rfl ?_
      refine x_aload_n dX9_merge_29 rfl ?_
      refine x_iconst dX9_merge_30 ?_
      refine x_put dX9_merge_31 fl_RX9_229 (fun r hr => by cases hr; rfl) (hp50 (putI U1 (50, 0, 0) 25 0)) xfit_i (Nat.le_of_ble_eq_true rfl) rfl ?_
      refine x_heq (pu50_13 (putI U1 (50, 0, 0) 25 0) 0) ?_
      have hw31_1 : WI (putI (putI U1 (50, 0, 0) 25 0) (50, 0, 0) 13 0) := wp50_13 (wp50_25 wU1 (by omega)) (by omega)
      have o4 := wf9_4 hC.1 (b := b) (by omega) (by omega)
      have hok := hO b (by omega) (by omega)
      have z := l_merge9 C S hC hml b (C.1 (9, b, 0) 4) (by omega) (by omega) rfl hok.1 (C.1 (9, b, 0) 3 - C.1 (9, b, 0) 6).toNat (by omega) hok.2.1 (hsp b (by omega) (by omega)) c hc (hE (by omega) (by omega)) ((C.1 (9, b, 0) 3 - C.1 (9, b, 0) 6).toNat + 2) (putI (putI U1 (50, 0, 0) 25 0) (50, 0, 0) 13 0) 0 (by omega) ⟨((sU1.thr 0)).cl.put (by simp), hw31_1, ((sU1.thr 0)).2.2.2.2.1, fun k x y hk => (putI_o (nK (by omega) _ _ _ _)).trans (((sU1.thr 0)).1 (k, x, y) (by rcases hk with hk | hk; exact mI_low hk.2; subst hk; rfl) (by show k ≠ 50; omega)), by rw [putI_at, if_neg (by decide), putI_self]⟩ (by rw [gMg_z]; exact mr_p8 (hM.q (sU1.thr 0)) rfl) (by omega)
      rw [show (gMg C (C.1 (9, b, 0) 4) b 0).1 (9, (C.1 (9, b, 0) 4), 0) 3 - C.1 (9, (C.1 (9, b, 0) 4), 0) 3 = 0 from by rw [gMg_z, putI_o (nK (by decide) _ _ _ _)]; omega] at z
      exact X.weak z (Nat.le_refl _) (hkb (by omega)) (fun o h' z => Or.inr ⟨by omega, z⟩)
    · refine x_iconst dX9_merge_13 ?_
      refine x_goto (tgt := 18) dX9_merge_14 (by decide) ?_
      refine x_iconst dX9_merge_18 ?_
      refine x_callV_r (a := 0) (b := 0) (as := [xI 1, xI 2]) (rest := []) ok_X9_isThrown dX9_merge_19 wd1215 ⟨wd1217, wd20⟩ (hp50 U1) rfl rfl ((show X mX9_isThrown 0 (xEnt mX9_isThrown [xR (50, 0, 0), xI 1, xI 2]) [] (hp U1) 0 0 (pRet (xI 1) (hp (putI U1 (50, 0, 0) 25 2))) from by have q := m_isThrown U1 wU1 1 2 (by omega) (by omega); rw [if_neg (by decide)] at q; exact q)) rfl (Nat.le_of_ble_eq_true rfl) (Nat.le_of_ble_eq_true rfl) (by decide) (by omega) (by omega) ?_
      refine x_if_eq (tgt := 27) dX9_merge_22 (by decide) ⟨by decide, by decide⟩ (fun z => absurd z (by decide)) (fun _ => ?_)
      refine x_iconst dX9_merge_25 ?_
      exact x_iret dX9_merge_26 rfl (Or.inl (pM_thr sU1 wU1 (by omega) (by omega)))
