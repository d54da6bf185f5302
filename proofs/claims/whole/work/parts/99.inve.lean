/-! the reference beside the class: rules -/
/-- rows of rules that are not yet there -/
def MN (C S : XS) : Prop := ∀ r : Int, C.1 (4, 0, 0) 2 ≤ r → S.1 (64, 0, 0) r = 0 ∧ S.1 (66, 0, 0) r = 0
theorem sAdd_o (S : XS) (r n x y z c : Int) {l : XL} (h1 : l.1 ≠ 63) (h2 : l.1 ≠ 64) (h3 : l.1 ≠ 65) : (sAdd S r n x y z c).1 l = S.1 l := by
  unfold sAdd
  rw [putI_o (fun e => h2 (by rw [e])), putI_o (fun e => h3 (by rw [e])), putI_o (fun e => h1 (by rw [e])), putI_o (fun e => h1 (by rw [e])), putI_o (fun e => h1 (by rw [e]))]
theorem sAdd_r (S : XS) (r n x y z c j : Int) : (sAdd S r n x y z c).1 (63, 0, 0) j = (if j = 9 * r + 3 * n + 2 then z else if j = 9 * r + 3 * n + 1 then y else if j = 9 * r + 3 * n then x else S.1 (63, 0, 0) j) ∧ (sAdd S r n x y z c).1 (64, 0, 0) j = (if j = r then n + 1 else S.1 (64, 0, 0) j) ∧ (sAdd S r n x y z c).1 (65, 0, 0) j = (if j = 3 * r + n then c else S.1 (65, 0, 0) j) := by
  unfold sAdd
  refine ⟨?_, ?_, ?_⟩
  · rw [putI_o (nK (by decide) _ _ _ _), putI_o (nK (by decide) _ _ _ _), putI_at, putI_at, putI_at]
  · rw [putI_at, putI_o (nK (by decide) _ _ _ _), putI_o (nK (by decide) _ _ _ _), putI_o (nK (by decide) _ _ _ _), putI_o (nK (by decide) _ _ _ _)]
  · rw [putI_o (nK (by decide) _ _ _ _), putI_at, putI_o (nK (by decide) _ _ _ _), putI_o (nK (by decide) _ _ _ _), putI_o (nK (by decide) _ _ _ _)]
theorem sAdd_2 (S : XS) (r n x y z c : Int) : (sAdd S r n x y z c).2 = S.2 := rfl
theorem UsN_below {S T : XS} {r v : Int} (h2 : ∀ j : Int, 3 * r ≤ j → j ≤ 3 * r + 2 → T.1 (62, 0, 0) j = S.1 (62, 0, 0) j) (n : Nat) (h3 : ∀ j : Int, 9 * r ≤ j → j < 9 * r + 3 * n → T.1 (63, 0, 0) j = S.1 (63, 0, 0) j) : UsN T r v n ↔ UsN S r v n := by
  induction n with
  | zero => simp only [UsN, h2 (3 * r + 1) (by omega) (by omega), h2 (3 * r + 2) (by omega) (by omega)]
  | succ n ih => simp only [UsN, ih (fun j a b => h3 j a (by omega)), h3 (9 * r + 3 * (n : Int) + 1) (by omega) (by omega), h3 (9 * r + 3 * (n : Int) + 2) (by omega) (by omega)]
/-- a rule whose rows stay -/
def MR1 (C S : XS) (r : Int) : Prop := S.1 (62, 0, 0) (3 * r) = C.1 (37, r, 0) 0 ∧ (C.1 (37, r, 0) 2 = 3 * (2 - S.1 (62, 0, 0) (3 * r + 1)) ∧ 0 ≤ S.1 (62, 0, 0) (3 * r + 1) ∧ S.1 (62, 0, 0) (3 * r + 1) ≤ 2) ∧ (C.1 (37, r, 0) 3 = 3 * (2 - S.1 (62, 0, 0) (3 * r + 2)) ∧ 0 ≤ S.1 (62, 0, 0) (3 * r + 2) ∧ S.1 (62, 0, 0) (3 * r + 2) ≤ 2) ∧
  S.1 (64, 0, 0) r = C.1 (34, r, 0) 2 ∧ S.1 (66, 0, 0) r = C.1 (34, r, 0) 5 ∧
  (∀ c : Int, 0 ≤ c → c < C.1 (34, r, 0) 2 → S.1 (63, 0, 0) (9 * r + 3 * c) = C.1 (36, r, c) 0 ∧ (C.1 (36, r, c) 2 = 3 * (2 - S.1 (63, 0, 0) (9 * r + 3 * c + 1)) ∧ 0 ≤ S.1 (63, 0, 0) (9 * r + 3 * c + 1) ∧ S.1 (63, 0, 0) (9 * r + 3 * c + 1) ≤ 2) ∧ (C.1 (36, r, c) 3 = 3 * (2 - S.1 (63, 0, 0) (9 * r + 3 * c + 2)) ∧ 0 ≤ S.1 (63, 0, 0) (9 * r + 3 * c + 2) ∧ S.1 (63, 0, 0) (9 * r + 3 * c + 2) ≤ 2) ∧ S.1 (65, 0, 0) (3 * r + c) = C.1 (36, r, c) 1) ∧
  ∀ v : Int, 0 ≤ v → v ≤ 2 → (zAnd (C.1 (34, r, 0) 4) (zShl 7 (3 * (2 - v))) = 0 ↔ UsN S r v (C.1 (34, r, 0) 2).toNat)
theorem MR1.to {C D S T : XS} {r : Int} (h : MR1 C S r) (h3 : C.1 (34, r, 0) 2 ≤ 3) (c4 : D.1 (34, r, 0) = C.1 (34, r, 0)) (c6 : ∀ i : Int, D.1 (36, r, i) = C.1 (36, r, i)) (c7 : D.1 (37, r, 0) = C.1 (37, r, 0)) (t2 : ∀ j : Int, 3 * r ≤ j → j ≤ 3 * r + 2 → T.1 (62, 0, 0) j = S.1 (62, 0, 0) j) (t3 : ∀ j : Int, 9 * r ≤ j → j < 9 * r + 9 → T.1 (63, 0, 0) j = S.1 (63, 0, 0) j) (t4 : T.1 (64, 0, 0) r = S.1 (64, 0, 0) r) (t5 : ∀ j : Int, 3 * r ≤ j → j ≤ 3 * r + 2 → T.1 (65, 0, 0) j = S.1 (65, 0, 0) j) (t6 : T.1 (66, 0, 0) r = S.1 (66, 0, 0) r) : MR1 D T r := by
  obtain ⟨a1, a2, a3, a4, a5, a6, a7⟩ := h
  unfold MR1
  rw [c4, c7, t4, t6, t2 (3 * r) (by omega) (by omega), t2 (3 * r + 1) (by omega) (by omega), t2 (3 * r + 2) (by omega) (by omega)]
  refine ⟨a1, a2, a3, a4, a5, fun c c0 c1 => ?_, fun v v0 v1 => ?_⟩
  · rw [c6, t3 (9 * r + 3 * c) (by omega) (by omega), t3 (9 * r + 3 * c + 1) (by omega) (by omega), t3 (9 * r + 3 * c + 2) (by omega) (by omega), t5 (3 * r + c) (by omega) (by omega)]
    exact a6 c c0 c1
  · rw [a7 v v0 v1]
    exact (UsN_below t2 _ (fun j x y => t3 j x (by omega))).symm
/-- a condition more -/
theorem mr_addC {C U : XS} (hM : MR C U) (hC : CB C) {r : Int} (r0 : 0 ≤ r) (r1 : r < C.1 (4, 0, 0) 2) {k : Int} (hk : C.1 (34, r, 0) 2 = k) (k3 : k < 3) {x y z c : Int} (gy : 0 ≤ y ∧ y ≤ 2) (gz : 0 ≤ z ∧ z ≤ 2) : MR (sCond C r x y z c) (sAdd U r k x y z c) := by
  obtain ⟨h1, h2, h3, h4, h5⟩ := hM
  have c4 := wf4_2 hC.1
  have o : ∀ l : XL, l ≠ (34, r, 0) → l ≠ (36, r, C.1 (34, r, 0) 2) → (sCond C r x y z c).1 l = C.1 l := fun l a b => sCond_o C r x y z c a b
  have e : ∀ {q : Nat}, q ≠ 63 ∧ q ≠ 64 ∧ q ≠ 65 → (sAdd U r k x y z c).1 (q, 0, 0) = U.1 (q, 0, 0) := fun a => sAdd_o U r k x y z c a.1 a.2.1 a.2.2
  have c0 : ∀ {q : Nat}, q ≠ 34 ∧ q ≠ 36 → ∀ a b : Int, (sCond C r x y z c).1 (q, a, b) = C.1 (q, a, b) := fun a _ _ => o _ (nK a.1 _ _ _ _) (nK a.2 _ _ _ _)
  have hk0 := wf34_2 hC.1 r0 (show r < 10 by omega)
  refine ⟨fun b' k' b0 b1 k0 k1 => ?_, ?_, fun r' q0 q1 => ?_, fun b' b0 b1 => ?_, fun x' x0 x1 => ?_⟩
  · rw [c0 (q := 9) (by decide)] at k1
    rw [e (q := 51) (by decide), e (q := 52) (by decide), e (q := 53) (by decide), e (q := 54) (by decide), e (q := 55) (by decide), e (q := 56) (by decide), c0 (q := 13) (by decide)]
    exact h1 b' k' b0 b1 k0 k1
  · unfold MRn
    rw [e (q := 50) (by decide), c0 (q := 0) (by decide), c0 (q := 4) (by decide)]
    exact h2
  · rw [c0 (q := 4) (by decide)] at q1
    have hr' : MR1 C U r' := h3 r' q0 q1
    show MR1 (sCond C r x y z c) (sAdd U r k x y z c) r'
    have hk3 := wf34_2 hC.1 q0 (show r' < 10 by omega)
    by_cases y' : r' = r
    · subst y'
      obtain ⟨s2, s3, s4, s5⟩ := sCond_34 C r' x y z c
      obtain ⟨p0, p1, p2, p3⟩ := sCond_36 C r' x y z c
      rw [hk] at s2 p0 p1 p2 p3
      obtain ⟨a1, a2, a3, a4, a5, a6, a7⟩ := hr'
      have idk := (hC.2.1 r'.toNat (by omega)).1.1
      rw [show ((r'.toNat : Nat) : Int) = r' by omega] at idk
      obtain ⟨K, hK⟩ : ∃ K : Nat, k = K := ⟨k.toNat, by omega⟩
      unfold MR1
      rw [e (q := 62) (by decide), e (q := 66) (by decide), c0 (q := 37) (by decide), s2, s4, s5, (sAdd_r U r' k x y z c r').2.1, if_pos rfl]
      refine ⟨a1, a2, a3, rfl, a5, fun c' d0 d1 => ?_, fun v v0 v1 => ?_⟩
      · rw [(sAdd_r U r' k x y z c _).1, (sAdd_r U r' k x y z c _).1, (sAdd_r U r' k x y z c _).1, (sAdd_r U r' k x y z c (3 * r' + c')).2.2]
        by_cases w : c' = k
        · subst w
          rw [if_neg (by omega), if_neg (by omega), if_pos rfl, if_neg (by omega), if_pos rfl, if_pos rfl, if_pos rfl, p0, p1, p2, p3]
          exact ⟨rfl, ⟨rfl, gy.1, gy.2⟩, ⟨rfl, gz.1, gz.2⟩, rfl⟩
        · rw [if_neg (by omega), if_neg (by omega), if_neg (by omega), if_neg (by omega), if_neg (by omega), if_neg (by omega), if_neg (by omega), if_neg (by omega), if_neg (by omega), if_neg (by omega), o _ (nK (by decide) _ _ _ _) (n36 (fun q => w (by rw [← hk]; exact q.2)))]
          exact a6 c' d0 (by omega)
      · rw [id_use idk gy gz ⟨v0, v1⟩, a7 v v0 v1, hk, hK, show ((K : Int) + 1).toNat = K + 1 by omega, show ((K : Int)).toNat = K by omega]
        simp only [UsN]
        rw [(sAdd_r U r' K x y z c _).1, (sAdd_r U r' K x y z c _).1, if_neg (by omega), if_pos rfl, if_pos rfl]
        have ub : UsN (sAdd U r' K x y z c) r' v K ↔ UsN U r' v K := UsN_below (fun j _ _ => by rw [sAdd_o U r' K x y z c (l := (62, 0, 0)) (by decide) (by decide) (by decide)]) K (fun j j0 j1 => by rw [(sAdd_r U r' K x y z c j).1, if_neg (by omega), if_neg (by omega), if_neg (by omega)])
        rw [ub]
        constructor
        · rintro (q | q | q)
          · exact Or.inl q
          · exact Or.inr (Or.inl q.symm)
          · exact Or.inr (Or.inr q.symm)
        · rintro (q | q | q)
          · exact Or.inl q
          · exact Or.inr (Or.inl q.symm)
          · exact Or.inr (Or.inr q.symm)
    · refine hr'.to hk3.2 (o _ (nX y' 0) (nK (by decide) _ _ _ _)) (fun i => o _ (nK (by decide) _ _ _ _) (n36 (fun q => y' q.1))) (o _ (nK (by decide) _ _ _ _) (nK (by decide) _ _ _ _)) (fun j _ _ => by rw [e (q := 62) (by decide)]) (fun j j0 j1 => ?_) ?_ (fun j j0 j1 => ?_) (by rw [e (q := 66) (by decide)])
      · rw [(sAdd_r U r k x y z c j).1, if_neg (by omega), if_neg (by omega), if_neg (by omega)]
      · rw [(sAdd_r U r k x y z c r').2.1, if_neg y']
      · rw [(sAdd_r U r k x y z c j).2.2, if_neg (by omega)]
  · rw [e (q := 58) (by decide), e (q := 59) (by decide), e (q := 60) (by decide), e (q := 61) (by decide), c0 (q := 9) (by decide)]
    exact h4 b' b0 b1
  · rw [e (q := 57) (by decide), c0 (q := 3) (by decide)]
    exact h5 x' x0 x1
theorem sNew_o (S : XS) (n h a b c u v : Int) {l : XL} (h1 : l.1 ≠ 62) (h2 : l.1 ≠ 63) (h3 : l.1 ≠ 64) (h4 : l.1 ≠ 65) (h5 : l ≠ (50, 0, 0)) : (sNew S n h a b c u v).1 l = S.1 l := by
  unfold sNew
  rw [putI_o h5, sAdd_o _ _ _ _ _ _ _ h2 h3 h4, putI_o (fun e => h1 (by rw [e])), putI_o (fun e => h1 (by rw [e])), putI_o (fun e => h1 (by rw [e]))]
theorem sNew_r (S : XS) (n h a b c u v j : Int) : (sNew S n h a b c u v).1 (62, 0, 0) j = (if j = 3 * n + 2 then b else if j = 3 * n + 1 then a else if j = 3 * n then h else S.1 (62, 0, 0) j) ∧ (sNew S n h a b c u v).1 (63, 0, 0) j = (if j = 9 * n + 3 * 0 + 2 then v else if j = 9 * n + 3 * 0 + 1 then u else if j = 9 * n + 3 * 0 then c else S.1 (63, 0, 0) j) ∧ (sNew S n h a b c u v).1 (64, 0, 0) j = (if j = n then 0 + 1 else S.1 (64, 0, 0) j) ∧ (sNew S n h a b c u v).1 (65, 0, 0) j = (if j = 3 * n + 0 then 0 else S.1 (65, 0, 0) j) ∧ (sNew S n h a b c u v).1 (50, 0, 0) j = (if j = 12 then n + 1 else S.1 (50, 0, 0) j) := by
  unfold sNew
  refine ⟨?_, ?_, ?_, ?_, ?_⟩
  · rw [putI_o (nK (by decide) _ _ _ _), sAdd_o _ _ _ _ _ _ _ (by decide) (by decide) (by decide), putI_at, putI_at, putI_at]
  · rw [putI_o (nK (by decide) _ _ _ _), (sAdd_r _ _ _ _ _ _ _ j).1, putI_o (nK (by decide) _ _ _ _), putI_o (nK (by decide) _ _ _ _), putI_o (nK (by decide) _ _ _ _)]
  · rw [putI_o (nK (by decide) _ _ _ _), (sAdd_r _ _ _ _ _ _ _ j).2.1, putI_o (nK (by decide) _ _ _ _), putI_o (nK (by decide) _ _ _ _), putI_o (nK (by decide) _ _ _ _)]
  · rw [putI_o (nK (by decide) _ _ _ _), (sAdd_r _ _ _ _ _ _ _ j).2.2, putI_o (nK (by decide) _ _ _ _), putI_o (nK (by decide) _ _ _ _), putI_o (nK (by decide) _ _ _ _)]
  · rw [putI_at, sAdd_o _ _ _ _ _ _ _ (by decide) (by decide) (by decide), putI_o (nK (by decide) _ _ _ _), putI_o (nK (by decide) _ _ _ _), putI_o (nK (by decide) _ _ _ _)]
theorem sNew_2 (S : XS) (n h a b c u v : Int) : (sNew S n h a b c u v).2 = S.2 := rfl
/-- a rule more -/
theorem mr_addR {C U : XS} (hM : MR C U) (hC : CB C) (hN : NewOk C) {n : Int} (hn : C.1 (4, 0, 0) 2 = n) (n1 : n < 10) (h66 : U.1 (66, 0, 0) n = 0) {h a b c u v : Int} (ga : 0 ≤ a ∧ a ≤ 2) (gb : 0 ≤ b ∧ b ≤ 2) (gu : 0 ≤ u ∧ u ≤ 2) (gv : 0 ≤ v ∧ v ≤ 2) : MR (sAddR C h a b c u v) (sNew U n h a b c u v) := by
  obtain ⟨h1, h2, h3, h4, h5⟩ := hM
  have c4 := wf4_2 hC.1
  obtain ⟨z2, z3, z4, z5⟩ := hN n (by omega) n1
  have e : ∀ {q : Nat}, q ≠ 62 ∧ q ≠ 63 ∧ q ≠ 64 ∧ q ≠ 65 ∧ q ≠ 50 → (sNew U n h a b c u v).1 (q, 0, 0) = U.1 (q, 0, 0) := fun a' => sNew_o U n h a b c u v a'.1 a'.2.1 a'.2.2.1 a'.2.2.2.1 (nK a'.2.2.2.2 _ _ _ _)
  have c0 : ∀ {q : Nat}, q ≠ 34 ∧ q ≠ 36 ∧ q ≠ 37 ∧ q ≠ 4 → ∀ x y : Int, (sAddR C h a b c u v).1 (q, x, y) = C.1 (q, x, y) := fun a' _ _ => addR_o C h a b c u v (nK a'.1 _ _ _ _) (Or.inl a'.2.1) (nK a'.2.2.1 _ _ _ _) (nK a'.2.2.2 _ _ _ _)
  refine ⟨fun b' k' b0 b1 k0 k1 => ?_, ?_, fun r' q0 q1 => ?_, fun b' b0 b1 => ?_, fun x' x0 x1 => ?_⟩
  · rw [c0 (q := 9) (by decide)] at k1
    rw [e (q := 51) (by decide), e (q := 52) (by decide), e (q := 53) (by decide), e (q := 54) (by decide), e (q := 55) (by decide), e (q := 56) (by decide), c0 (q := 13) (by decide)]
    exact h1 b' k' b0 b1 k0 k1
  · obtain ⟨m1, m2, m3, m4⟩ := h2
    unfold MRn
    rw [(sNew_r U n h a b c u v 11).2.2.2.2, (sNew_r U n h a b c u v 12).2.2.2.2, (sNew_r U n h a b c u v 13).2.2.2.2, (sNew_r U n h a b c u v 24).2.2.2.2, if_neg (by decide), if_pos rfl, if_neg (by decide), if_neg (by decide), c0 (q := 0) (by decide), addR_n, hn]
    exact ⟨m1, rfl, m3, m4⟩
  · rw [addR_n, hn] at q1
    show MR1 (sAddR C h a b c u v) (sNew U n h a b c u v) r'
    by_cases y' : r' = n
    · subst y'
      have hc : ∀ l : XL, l ≠ (4, 0, 0) → (sAddR C h a b c u v).1 l = (sCond (sHead C r' h a b) r' c u v 0).1 l := fun l hl => by
        unfold sAddR
        rw [putI_o hl, hn]
      obtain ⟨w2, w3, w4, w5⟩ := sHead_34 C r' h a b
      obtain ⟨x0, x2, x3⟩ := sHead_37 C r' h a b
      obtain ⟨s2, s3, s4, s5⟩ := sCond_34 (sHead C r' h a b) r' c u v 0
      obtain ⟨p0, p1, p2, p3⟩ := sCond_36 (sHead C r' h a b) r' c u v 0
      rw [w2, z2] at s2 p0 p1 p2 p3
      rw [w4, z4] at s4
      rw [w5, z5] at s5
      have e37 : (sAddR C h a b c u v).1 (37, r', 0) = (sHead C r' h a b).1 (37, r', 0) := by rw [hc _ (nK (by decide) _ _ _ _), sCond_o _ _ _ _ _ _ (nK (by decide) _ _ _ _) (nK (by decide) _ _ _ _)]
      unfold MR1
      rw [e37, hc (34, r', 0) (nK (by decide) _ _ _ _), s2, s4, s5, e (q := 66) (by decide), (sNew_r U r' h a b c u v _).1, (sNew_r U r' h a b c u v _).1, (sNew_r U r' h a b c u v _).1, (sNew_r U r' h a b c u v _).2.2.1, x0, x2, x3]
      rw [if_neg (by omega), if_neg (by omega), if_pos rfl, if_neg (by omega), if_pos rfl, if_pos rfl, if_pos rfl]
      refine ⟨rfl, ⟨rfl, ga.1, ga.2⟩, ⟨rfl, gb.1, gb.2⟩, rfl, h66, fun c' d0 d1 => ?_, fun v' v0 v1 => ?_⟩
      · have d2 : c' = 0 := by omega
        subst d2
        rw [hc (36, r', 0) (nK (by decide) _ _ _ _), (sNew_r U r' h a b c u v _).2.1, (sNew_r U r' h a b c u v _).2.1, (sNew_r U r' h a b c u v _).2.1, (sNew_r U r' h a b c u v _).2.2.2.1, p0, p1, p2, p3, if_neg (by omega), if_neg (by omega), if_pos rfl, if_neg (by omega), if_pos rfl, if_pos rfl, if_pos rfl]
        exact ⟨rfl, ⟨rfl, gu.1, gu.2⟩, ⟨rfl, gv.1, gv.2⟩, rfl⟩
      · rw [id_use (id_next (by unfold IdOk; decide) ga gb) gu gv ⟨v0, v1⟩, id_use (by unfold IdOk; decide) ga gb ⟨v0, v1⟩]
        show _ ↔ UsN (sNew U r' h a b c u v) r' v' 1
        simp only [UsN]
        rw [(sNew_r U r' h a b c u v _).1, (sNew_r U r' h a b c u v _).1, (sNew_r U r' h a b c u v _).2.1, (sNew_r U r' h a b c u v _).2.1]
        rw [if_neg (by omega), if_pos rfl, if_pos rfl, if_neg (by omega), if_pos (by omega), if_pos (by omega)]
        have n511 : ¬ zAnd 511 (zShl 7 (3 * (2 - v'))) = 0 := by
          have : v' = 0 ∨ v' = 1 ∨ v' = 2 := by omega
          rcases this with rfl | rfl | rfl <;> decide
        constructor
        · rintro ((q | q | q) | q | q)
          · exact absurd q n511
          · exact Or.inl (Or.inl q.symm)
          · exact Or.inl (Or.inr q.symm)
          · exact Or.inr (Or.inl q.symm)
          · exact Or.inr (Or.inr q.symm)
        · rintro ((q | q) | q | q)
          · exact Or.inl (Or.inr (Or.inl q.symm))
          · exact Or.inl (Or.inr (Or.inr q.symm))
          · exact Or.inr (Or.inl q.symm)
          · exact Or.inr (Or.inr q.symm)
    · have hr' : MR1 C U r' := h3 r' q0 (by omega)
      have hk3 := wf34_2 hC.1 q0 (show r' < 10 by omega)
      refine hr'.to hk3.2 (addR_o C h a b c u v (nX (by omega) 0) (Or.inl (show (34 : Nat) ≠ 36 by decide)) (nK (by decide) _ _ _ _) (nK (by decide) _ _ _ _)) (fun i => addR_o C h a b c u v (nK (by decide) _ _ _ _) (Or.inr (show r' ≠ _ by omega)) (nK (by decide) _ _ _ _) (nK (by decide) _ _ _ _)) (addR_o C h a b c u v (nK (by decide) _ _ _ _) (Or.inl (show (37 : Nat) ≠ 36 by decide)) (nX (by omega) 0) (nK (by decide) _ _ _ _)) (fun j j0 j1 => ?_) (fun j j0 j1 => ?_) ?_ (fun j j0 j1 => ?_) (by rw [e (q := 66) (by decide)])
      · rw [(sNew_r U n h a b c u v j).1, if_neg (by omega), if_neg (by omega), if_neg (by omega)]
      · rw [(sNew_r U n h a b c u v j).2.1, if_neg (by omega), if_neg (by omega), if_neg (by omega)]
      · rw [(sNew_r U n h a b c u v r').2.2.1, if_neg y']
      · rw [(sNew_r U n h a b c u v j).2.2.2.1, if_neg (by omega)]
  · rw [e (q := 58) (by decide), e (q := 59) (by decide), e (q := 60) (by decide), e (q := 61) (by decide), c0 (q := 9) (by decide)]
    exact h4 b' b0 b1
  · rw [e (q := 57) (by decide), c0 (q := 3) (by decide)]
    exact h5 x' x0 x1
theorem mr_uniq {C U : XS} (hM : MR C U) (i v : Int) : MR (putI C (3, 0, 0) i v) (putI U (57, 0, 0) i v) := by
  obtain ⟨h1, h2, h3, h4, h5⟩ := hM
  have e : ∀ {q : Nat}, q ≠ 57 → (putI U (57, 0, 0) i v).1 (q, 0, 0) = U.1 (q, 0, 0) := fun a => putI_o (nK a _ _ _ _)
  have c0 : ∀ {q : Nat}, q ≠ 3 → ∀ x y : Int, (putI C (3, 0, 0) i v).1 (q, x, y) = C.1 (q, x, y) := fun a _ _ => putI_o (nK a _ _ _ _)
  refine ⟨fun b' k' b0 b1 k0 k1 => ?_, ?_, h3.to (fun k x y hk => c0 (by omega) x y) (fun k a1 a2 => e (by omega)), fun b' b0 b1 => ?_, fun x' x0 x1 => ?_⟩
  · rw [c0 (q := 9) (by decide)] at k1
    rw [e (q := 51) (by decide), e (q := 52) (by decide), e (q := 53) (by decide), e (q := 54) (by decide), e (q := 55) (by decide), e (q := 56) (by decide), c0 (q := 13) (by decide)]
    exact h1 b' k' b0 b1 k0 k1
  · unfold MRn
    rw [e (q := 50) (by decide), c0 (q := 0) (by decide), c0 (q := 4) (by decide)]
    exact h2
  · rw [e (q := 58) (by decide), e (q := 59) (by decide), e (q := 60) (by decide), e (q := 61) (by decide), c0 (q := 9) (by decide)]
    exact h4 b' b0 b1
  · rw [putI_at, putI_at]
    split
    · rfl
    · exact h5 x' x0 x1
