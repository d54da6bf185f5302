/-! the class between calls: forget, merge -/
theorem forg_k (S : XS) (b x : Int) (n : Nat) (b' k : Int) {j : Int} (h : j ≠ 6) : (sForgN S b x n).1 (13, b', k) j = S.1 (13, b', k) j := by
  induction n with
  | zero => rfl
  | succ n ih =>
    by_cases z : (sForgN S b x n).1 (13, b, n) 6 = 0 ∧ fConcerns (sForgN S b x n) (13, b, n) x
    · rw [(sForgN_t S b x n z).1]
      by_cases e : b' = b ∧ k = n
      · rw [e.1, e.2] at ih ⊢
        rw [putI_at, if_neg h, ih]
      · rw [putI_o (n13 e), ih]
    · rw [(sForgN_f S b x n z).1, ih]
theorem forg_b (S : XS) (b x : Int) (n : Nat) {b' k : Int} (h : b' ≠ b ∨ (n : Int) ≤ k) : (sForgN S b x n).1 (13, b', k) = S.1 (13, b', k) := by
  induction n with
  | zero => rfl
  | succ n ih =>
    have ih := ih (by omega)
    by_cases z : (sForgN S b x n).1 (13, b, n) 6 = 0 ∧ fConcerns (sForgN S b x n) (13, b, n) x
    · rw [(sForgN_t S b x n z).1, putI_o (n13 (fun e => by omega)), ih]
    · rw [(sForgN_f S b x n z).1, ih]
theorem forg_or (S : XS) (b x : Int) (n : Nat) : sForgN S b x n = S ∨ fgc S.1 b n + 1 ≤ fgc (sForgN S b x n).1 b n := by
  induction n with
  | zero => exact Or.inl rfl
  | succ n ih =>
    by_cases z : (sForgN S b x n).1 (13, b, n) 6 = 0 ∧ fConcerns (sForgN S b x n) (13, b, n) x
    · right
      have e : S.1 (13, b, n) 6 = 0 := by rw [← forg_b S b x n (b' := b) (k := n) (Or.inr (Int.le_refl _))]; exact z.1
      have e2 : fgc (putI (sForgN S b x n) (13, b, n) 6 1).1 b n = fgc (sForgN S b x n).1 b n := fgc_congr n (fun k hk => by rw [putI_o (n13 (fun e => by omega))])
      rw [(sForgN_t S b x n z).1]
      simp only [fgc]
      rw [e, if_pos rfl, e2, putI_at, if_pos rfl, if_neg (by decide)]
      rcases ih with ih | ih
      · rw [ih]; omega
      · omega
    · rw [(sForgN_f S b x n z).1]
      rcases ih with ih | ih
      · exact Or.inl ih
      · right
        simp only [fgc]
        rw [forg_b S b x n (b' := b) (k := n) (Or.inr (Int.le_refl _))]
        omega
theorem BrI.forg {S : XS} {b' : Int} (h : BrI S b') (b x : Int) (n : Nat) : BrI (sForgN S b x n) b' := h.to (sForgN_o S b x n (l := (9, b', 0)) (show (9 : Nat) ≠ 13 by decide)) (sForgN_o S b x n (l := (11, b', 0)) (show (11 : Nat) ≠ 13 by decide)) (fun k _ _ j hj => forg_k S b x n b' k (by omega)) (by rw [sForgN_o S b x n (by decide)]) (fun _ _ => by rw [sForgN_o S b x n (l := (9, _, 0)) (show (9 : Nat) ≠ 13 by decide)]; exact Int.le_refl _)
theorem forg_rule (S : XS) (b x : Int) (n : Nat) : RuleEq S.1 (sForgN S b x n).1 := ⟨fun r => (sForgN_o S b x n (l := (34, r, 0)) (show (34 : Nat) ≠ 13 by decide)).symm, fun r i => (sForgN_o S b x n (l := (36, r, i)) (show (36 : Nat) ≠ 13 by decide)).symm, fun r => (sForgN_o S b x n (l := (37, r, 0)) (show (37 : Nat) ≠ 13 by decide)).symm, (sForgN_o S b x n (l := (4, 0, 0)) (show (4 : Nat) ≠ 13 by decide)).symm⟩
theorem forg_14 (S : XS) (b x : Int) (n : Nat) (l : Int) : (sForgN S b x n).1 (14, l, 0) = S.1 (14, l, 0) := sForgN_o S b x n (l := (14, l, 0)) (show (14 : Nat) ≠ 13 by decide)
theorem LsI.forg {S : XS} {l : Int} (h : LsI S l) {b x : Int} (n : Nat) (hb : S.1 (14, l, 0) 2 ≠ b) : LsI (sForgN S b x n) l := h.to (forg_14 S b x n l) (by rw [forgN_j]) (by rw [forgN_j]) (by rw [forgN_j]) (by rw [sForgN_o S b x n (by decide)]; exact Int.le_refl _) (lv_eq (forg_rule S b x n) (fun k => (forg_b S b x n (Or.inl hb)).symm) (by rw [sForgN_o S b x n (l := (9, _, 0)) (show (9 : Nat) ≠ 13 by decide)]) (forg_14 S b x n l) (by rw [forgN_j])) (szf_congr (by rw [sForgN_o S b x n (l := (9, _, 0)) (show (9 : Nat) ≠ 13 by decide)]) (fun k _ _ => by rw [forg_b S b x n (Or.inl hb)]))
theorem LsW.forg {S : XS} {l : Int} (h : LsW S l) (b x : Int) (n : Nat) (hn : (n : Int) = S.1 (9, b, 0) 3) : LsW (sForgN S b x n) l := by
  by_cases hb : S.1 (14, l, 0) 2 = b
  · rcases forg_or S b x n with e | e
    · rw [e]; exact h
    · refine h.up (forg_14 S b x n l) (by rw [forgN_j]) (by rw [forgN_j]) (by rw [sForgN_o S b x n (by decide)]; exact Int.le_refl _) ?_
      unfold szf
      rw [hb, sForgN_o S b x n (l := (9, b, 0)) (show (9 : Nat) ≠ 13 by decide), ← hn, show ((n : Int)).toNat = n by omega]
      omega
  · exact h.to (forg_14 S b x n l) (by rw [forgN_j]) (by rw [forgN_j]) (by rw [forgN_j]) (by rw [sForgN_o S b x n (by decide)]; exact Int.le_refl _) (lv_eq (forg_rule S b x n) (fun k => (forg_b S b x n (Or.inl hb)).symm) (by rw [sForgN_o S b x n (l := (9, _, 0)) (show (9 : Nat) ≠ 13 by decide)]) (forg_14 S b x n l) (by rw [forgN_j])) (szf_congr (by rw [sForgN_o S b x n (l := (9, _, 0)) (show (9 : Nat) ≠ 13 by decide)]) (fun k _ _ => by rw [forg_b S b x n (Or.inl hb)]))
theorem JW.forg {S : XS} (h : JInv S) (b x : Int) (n : Nat) (hn : (n : Int) = S.1 (9, b, 0) 3) : JW (sForgN S b x n) b := by
  refine ⟨fun r r0 r1 => ?_, fun b' b0 b1 => (h.2.1 b' b0 b1).forg b x n, fun l l0 l1 => ?_, fun l l0 l1 l2 => ?_⟩
  · rw [sForgN_o S b x n (l := (4, 0, 0)) (show (4 : Nat) ≠ 13 by decide)] at r0
    rw [sForgN_o S b x n (l := (34, r, 0)) (show (34 : Nat) ≠ 13 by decide)]
    exact h.1 r r0 r1
  · rw [sForgN_o S b x n (l := (0, 0, 0)) (show (0 : Nat) ≠ 13 by decide)] at l1
    have k := h.2.2.1 l l0 l1
    rw [forg_14]
    split
    · exact k.w.forg b x n hn
    · rename_i hb
      exact k.forg n hb
  · rw [sForgN_o S b x n (l := (0, 0, 0)) (show (0 : Nat) ≠ 13 by decide)] at l2
    rw [forg_14]
    exact h.2.2.2 l l0 l1 l2
/-- the branches forget one after the other -/
theorem fgB_all {S : XS} (hb : CB S) (h : JInv S) (x : Int) (n : Nat) (hn : (n : Int) ≤ S.1 (0, 0, 0) 6) : CB (sFgB S x n) ∧ JInv (sFgB S x n) := by
  induction n with
  | zero => exact ⟨hb, h⟩
  | succ n ih =>
    obtain ⟨i1, i2⟩ := ih (by omega)
    have c6 := wf0_6 hb.1
    have c7 := wf0_7 hb.1
    have c9 := wf9_3 hb.1 (b := (n : Int)) (by omega) (by omega)
    have k := JW.forg i2 (n : Int) x (S.1 (9, n, 0) 3).toNat (by rw [fgB_o S x n (k := 9) (by decide)]; omega)
    have hc := i1.forg (x := x) (b := (n : Int)) (by omega) (by omega) (S.1 (9, n, 0) 3).toNat (by omega)
    have e7 : (sForgN (sFgB S x n) n x (S.1 (9, n, 0) 3).toNat).1 (0, 0, 0) 7 = ((S.1 (0, 0, 0) 7).toNat : Nat) := by
      rw [sForgN_o _ _ _ _ (show ((0, 0, 0) : XL).1 ≠ 13 by decide), fgB_o S x n (k := 0) (by decide)]; omega
    rw [sFgB]
    exact ⟨hc.inf (k.cap hc.1) _ (by omega), k.inf hc.1 _ e7⟩
theorem JInv.fgcap {S : XS} (hb : CB S) (h : JInv S) (x : Int) : FgCap S x := by
  intro n hn
  obtain ⟨i1, i2⟩ := fgB_all hb h x n (by omega)
  have c6 := wf0_6 hb.1
  have c9 := wf9_3 hb.1 (b := (n : Int)) (by omega) (by omega)
  have k := JW.forg i2 (n : Int) x (S.1 (9, n, 0) 3).toNat (by rw [fgB_o S x n (k := 9) (by decide)]; omega)
  exact k.cap (i1.forg (x := x) (b := (n : Int)) (by omega) (by omega) (S.1 (9, n, 0) 3).toNat (by omega)).1
theorem fgA_w {S : XS} (hb : CB S) (h : JInv S) (x : Int) (n : Nat) (hn : (n : Int) ≤ 4) (l : Int) (l0 : 0 ≤ l) (l1 : l < S.1 (0, 0, 0) 7) : LsW (sFgA S x n) l := by
  induction n with
  | zero => exact (h.2.2.1 l l0 l1).w
  | succ n ih =>
    have c9 := wf9_3 hb.1 (b := (n : Int)) (by omega) (by omega)
    exact (ih (by omega)).forg (n : Int) x _ (by rw [fgA_o S x n (l := (9, (n : Int), 0)) (show (9 : Nat) ≠ 13 by decide)]; omega)
theorem JInv.fgend {S : XS} (hb : CB S) (h : JInv S) (x : Int) (nb : Nat) (hn : (nb : Int) ≤ 4) (b : Int) : EndOk (sFgA S x nb) b := end_of (hb.fgA x nb hn).1 (fun l l0 l1 _ => fgA_w hb h x nb hn l l0 (by rw [fgA_o S x nb (l := (0, 0, 0)) (show (0 : Nat) ≠ 13 by decide)] at l1; exact l1))
/-- alike, but for what merge says of the branch -/
theorem JW.cong {S T : XS} {o b : Int} (h : JW S o) (e : ∀ (l : XL) (j : Int), (l ≠ (9, b, 0) ∨ j ≠ 6) → (l ≠ (0, 0, 0) ∨ j ≠ 8) → T.1 l j = S.1 l j) (ej : T.2 = S.2) (h6 : T.1 (9, b, 0) 6 ≤ S.1 (9, b, 0) 3) : JW T o := by
  have e0 : ∀ l : XL, l.1 ≠ 9 → l.1 ≠ 0 → T.1 l = S.1 l := fun l a1 a2 => funext (fun j => e l j (Or.inl (fun z => a1 (by rw [z]))) (Or.inl (fun z => a2 (by rw [z]))))
  have e9 : ∀ (b' j : Int), j ≠ 6 → T.1 (9, b', 0) j = S.1 (9, b', 0) j := fun b' j a => e _ j (Or.inr a) (Or.inl (nK (by decide) _ _ _ _))
  have e8 : ∀ j : Int, j ≠ 8 → T.1 (0, 0, 0) j = S.1 (0, 0, 0) j := fun j a => e _ j (Or.inl (nK (by decide) _ _ _ _)) (Or.inr a)
  have e13 : ∀ b k : Int, T.1 (13, b, k) = S.1 (13, b, k) := fun b k => e0 (13, b, k) (show (13 : Nat) ≠ 9 by decide) (show (13 : Nat) ≠ 0 by decide)
  have hr : RuleEq S.1 T.1 := ⟨fun r => (e0 (34, r, 0) (show (34 : Nat) ≠ 9 by decide) (show (34 : Nat) ≠ 0 by decide)).symm, fun r i => (e0 (36, r, i) (show (36 : Nat) ≠ 9 by decide) (show (36 : Nat) ≠ 0 by decide)).symm, fun r => (e0 (37, r, 0) (show (37 : Nat) ≠ 9 by decide) (show (37 : Nat) ≠ 0 by decide)).symm, (e0 (4, 0, 0) (show (4 : Nat) ≠ 9 by decide) (show (4 : Nat) ≠ 0 by decide)).symm⟩
  have ez : ∀ b' : Int, szf T b' = szf S b' := fun b' => szf_congr (e9 b' 3 (by decide)) (fun k _ _ => by rw [e13])
  have c14 : ∀ l : Int, T.1 (14, l, 0) = S.1 (14, l, 0) := fun l => e0 (14, l, 0) (show (14 : Nat) ≠ 9 by decide) (show (14 : Nat) ≠ 0 by decide)
  have ev : ∀ b' l : Int, lv T b' l = lv S b' l := fun b' l => lv_eq hr (fun k => (e13 b' k).symm) (e9 b' 3 (by decide)) (c14 l) (by rw [ej])
  refine ⟨fun r r0 r1 => ?_, fun b' b0 b1 => ?_, fun l l0 l1 => ?_, fun l l0 l1 l2 => ?_⟩
  · rw [e0 (4, 0, 0) (show (4 : Nat) ≠ 9 by decide) (show (4 : Nat) ≠ 0 by decide)] at r0
    rw [e0 (34, r, 0) (show (34 : Nat) ≠ 9 by decide) (show (34 : Nat) ≠ 0 by decide)]
    exact h.1 r r0 r1
  · obtain ⟨h1, h2, h3, h4⟩ := h.2.1 b' b0 b1
    refine ⟨fun k k0 k1 => ?_, fun j hj => ?_, fun d0 d1 => ?_, fun z => ?_⟩
    · rw [e9 b' 3 (by decide)] at k1
      obtain ⟨a1, a2⟩ := h1 k k0 k1
      rw [fDig_congr (S := S) (T := T) (l := (13, b', k)) (m := (13, b', k)) (fun j _ _ => by rw [e13]), e13]
      exact ⟨a1, a2⟩
    · rw [e9 b' 3 (by decide)] at hj
      rw [e0 (11, b', 0) (show (11 : Nat) ≠ 9 by decide) (show (11 : Nat) ≠ 0 by decide), h2 j hj]
      exact due_below j (fun k hk => by rw [e13])
    · rw [e8 6 (by decide)] at d1
      obtain ⟨a1, a2, a3⟩ := h3 d0 d1
      rw [e9 b' 4 (by decide), e9 b' 5 (by decide), e9 b' 3 (by decide), e9 _ 3 (by decide)]
      refine ⟨a1, a2, ?_⟩
      by_cases y : b' = b
      · rw [y]; exact h6
      · rw [e (9, b', 0) 6 (Or.inl (nX y 0)) (Or.inl (nK (by decide) _ _ _ _))]; exact a3
    · rw [e8 6 (by decide)] at z
      rw [e9 b' 3 (by decide)]
      exact h4 z
  · rw [e8 7 (by decide)] at l1
    have k := h.2.2.1 l l0 l1
    rw [c14]
    by_cases y : S.1 (14, l, 0) 2 = o
    · rw [if_pos y] at k ⊢
      exact k.to (c14 l) (by rw [ej]) (by rw [ej]) (by rw [ej]) (by rw [e8 6 (by decide)]; exact Int.le_refl _) (ev _ l) (ez _)
    · rw [if_neg y] at k ⊢
      exact k.to (c14 l) (by rw [ej]) (by rw [ej]) (by rw [ej]) (by rw [e8 6 (by decide)]; exact Int.le_refl _) (ev _ l) (ez _)
  · rw [e8 7 (by decide)] at l2
    rw [c14]
    exact h.2.2.2 l l0 l1 l2
theorem JW.p8 {S : XS} {o b : Int} (h : JW S o) (v : Int) (b6 : S.1 (9, b, 0) 6 ≤ S.1 (9, b, 0) 3) : JW (putI S (0, 0, 0) 8 v) o := h.cong (b := b) (fun l j _ a => by
  by_cases e : l = (0, 0, 0)
  · subst e
    rcases a with a | a
    · exact absurd rfl a
    · rw [putI_at, if_neg a]
  · rw [putI_o e]) rfl (by rw [putI_o (nK (by decide) _ _ _ _)]; exact b6)
theorem JW.p6 {S : XS} {o b : Int} (h : JW S o) (v : Int) (b6 : v ≤ S.1 (9, b, 0) 3) : JW (putI S (9, b, 0) 6 v) o := h.cong (b := b) (fun l j a _ => by
  by_cases e : l = (9, b, 0)
  · subst e
    rcases a with a | a
    · exact absurd rfl a
    · rw [putI_at, if_neg a]
  · rw [putI_o e]) rfl (by rw [putI_at, if_pos rfl]; exact b6)
/-- the tellings are merged one after the other -/
theorem JW.mg {C : XS} (hC : CB C) (h : JInv C) {o b : Int} (o0 : 0 ≤ o) (o1 : o < C.1 (0, 0, 0) 6) (b0 : 0 < b) (b1 : b < C.1 (0, 0, 0) 6) (ho : b ≠ o) (j : Nat) (hj : C.1 (9, b, 0) 6 + j ≤ C.1 (9, b, 0) 3) : JW (gMg C o b j) o := by
  have c6 := wf0_6 hC.1
  have k6 := wf9_6 hC.1 (b := b) (by omega) (by omega)
  induction j with
  | zero =>
    rw [gMg_z]
    exact (h.w o).p8 (b := b) 0 ((h.2.1 b (by omega) (by omega)).2.2.1 b0 b1).2.2
  | succ j ih =>
    have ih := ih (by omega)
    have cG := gMg_cb hC o0 o1 (by omega) (show b < 4 by omega) ho j (by omega)
    have e3 : (gMg C o b j).1 (9, b, 0) 3 = C.1 (9, b, 0) 3 := gMg_9 C j ho (by decide)
    have e6 : (gMg C o b j).1 (9, b, 0) 6 = C.1 (9, b, 0) 6 + j := by unfold gMg; rw [putI_at, if_pos rfl]
    have e0 : (gMg C o b j).1 (0, 0, 0) 6 = C.1 (0, 0, 0) 6 := gMg_0 C j (by decide)
    by_cases hc : Conf (gMg C o b j) o b (C.1 (9, b, 0) 6 + j)
    · rw [gMg_t hc ho]
      exact (ih.p8 (b := b) _ (by omega)).p6 _ (by rw [putI_o (nK (by decide) _ _ _ _)]; omega)
    · rw [gMg_f hc ho]
      refine (ih.app cG.1 o0 (by omega) ?_).p6 _ ?_
      · exact ((ih.2.1 b (by omega) (by omega)).1 (C.1 (9, b, 0) 6 + j) (by omega) (by omega)).2
      · rw [sApp_o _ _ _ _ _ _ _ _ (nK (by decide) _ _ _ _) (nK (by decide) _ _ _ _) (nX ho 0)]
        omega
