/-! the class between calls: transport; append; rules -/
theorem lv_eq {S T : XS} (hr : RuleEq S.1 T.1) {b l : Int} (h13 : ∀ k : Int, S.1 (13, b, k) = T.1 (13, b, k)) (h9 : T.1 (9, b, 0) 3 = S.1 (9, b, 0) 3) (c1 : T.1 (14, l, 0) = S.1 (14, l, 0)) (c2 : T.2.1 (14, l, 0) 5 = S.2.1 (14, l, 0) 5) : lv T b l = lv S b l := by
  unfold lv
  rw [h9, c1, c2, ← hl_congr hr h13]
theorem hldF_S {f f' : XL → Int → Int} {on : Int} (h : RuleS f f' on) (T : Int → Int64) : hldF f on T = hldF f' on T := by
  have e : (fun C => Stab f on T C) = (fun C => Stab f' on T C) := by
    funext C
    exact propext ⟨fun k => StabS h k, fun k => StabS h.symm k⟩
  exact congrArg (fun (P : (Int → Int64) → Prop) => fun x : Int => @dite Int64 (∃ C, P C) (Classical.propDecidable _) (fun h => Classical.choose h x) (fun _ => 0)) e
theorem hl_S {f f' : XL → Int → Int} {b : Int} (n : Nat) (h : RuleS f f' (onN f b n)) (h13 : ∀ k : Int, f' (13, b, k) = f (13, b, k)) (t : Int) : hl f' b n t = hl f b n t := by
  unfold hl
  have e : toldN f' b t n = toldN f b t n := toldN_below t n (fun k _ => h13 k)
  rw [onN_congr h13 n, e, hldF_S h]
theorem JInv.to {S T : XS} (h : JInv S) (e : ∀ (k : Nat) (x y : Int), k = 0 ∨ k = 4 ∨ k = 9 ∨ k = 11 ∨ k = 13 ∨ k = 14 ∨ k = 34 ∨ k = 36 ∨ k = 37 → T.1 (k, x, y) = S.1 (k, x, y)) (ej : ∀ (k : Nat) (x y : Int), k = 14 ∨ k = 30 ∨ k = 31 → T.2.1 (k, x, y) = S.2.1 (k, x, y)) : JInv T := by
  have hr : RuleEq S.1 T.1 := ⟨fun r => (e 34 r 0 (by simp)).symm, fun r i => (e 36 r i (by simp)).symm, fun r => (e 37 r 0 (by simp)).symm, (e 4 0 0 (by simp)).symm⟩
  refine ⟨fun r r0 r1 => ?_, fun b b0 b1 => (h.2.1 b b0 b1).to (e 9 b 0 (by simp)) (e 11 b 0 (by simp)) (fun k _ _ j _ => by rw [e 13 b k (by simp)]) (by rw [e 0 0 0 (by simp)]) (fun _ _ => by rw [e 9 _ 0 (by simp)]; exact Int.le_refl _), fun l l0 l1 => ?_, fun l l0 l1 l2 => ?_⟩
  · rw [e 4 0 0 (by simp)] at r0
    rw [e 34 r 0 (by simp)]
    exact h.1 r r0 r1
  · rw [e 0 0 0 (by simp)] at l1
    exact (h.2.2.1 l l0 l1).to (e 14 l 0 (by simp)) (ej 14 l 0 (by simp)) (ej 30 l 0 (by simp)) (ej 31 l 0 (by simp)) (by rw [e 0 0 0 (by simp)]; exact Int.le_refl _) (lv_eq hr (fun k => (e 13 _ k (by simp)).symm) (by rw [e 9 _ 0 (by simp)]) (e 14 l 0 (by simp)) (by rw [ej 14 l 0 (by simp)])) (szf_congr (by rw [e 9 _ 0 (by simp)]) (fun k _ _ => by rw [e 13 _ k (by simp)]))
  · rw [e 0 0 0 (by simp)] at l2
    rw [e 14 l 0 (by simp)]
    exact h.2.2.2 l l0 l1 l2
theorem JInv.q {S T : XS} (h : JInv S) (q : QEq S T) : JInv T := h.to (fun k x y hk => q.1 (k, x, y) (by rcases hk with rfl | rfl | rfl | rfl | rfl | rfl | rfl | rfl | rfl <;> rfl)) (fun k x y hk => q.2.1 (k, x, y) (by rcases hk with rfl | rfl | rfl <;> rfl))
theorem JInv.cl {S T : XS} (h : JInv S) (q : ClE S T) : JInv T := h.to (fun k x y hk => q.1 (k, x, y) (Or.inl (show k < 50 by omega))) (fun k x y _ => by rw [q.2.1])
/-- rules change that were never on -/
theorem JInv.rul {S T : XS} (hb : CB S) (w : WI T) (h : JInv S) (hn : NewOk T) (e1 : ∀ (k : Nat) (x y : Int), k ≠ 4 → k ≠ 34 → k ≠ 36 → k ≠ 37 → T.1 (k, x, y) = S.1 (k, x, y)) (e2 : ∀ (k : Nat) (x y : Int), T.2.1 (k, x, y) = S.2.1 (k, x, y)) (h4 : S.1 (4, 0, 0) 2 ≤ T.1 (4, 0, 0) 2)
    (hs : ∀ j : Nat, (j : Int) < S.1 (4, 0, 0) 2 → S.1 (34, j, 0) 5 = 1 → (∀ k : Int, k ≠ 5 → S.1 (34, j, 0) k = T.1 (34, j, 0) k) ∧ (∀ i : Int, S.1 (36, j, i) = T.1 (36, j, i)) ∧ S.1 (37, j, 0) = T.1 (37, j, 0)) : JInv T := by
  have rs : ∀ on, OnL S on → RuleS S.1 T.1 on := fun on h j hj => by
    have z1 := wf4_2 hb.1
    have z2 := wf4_2 w
    by_cases hj2 : j < 31
    · obtain ⟨q1, q2⟩ := h j hj2 hj
      exact ⟨⟨fun _ => by omega, fun _ => q1⟩, fun _ => hs j q1 q2⟩
    · exact ⟨⟨fun _ => by omega, fun _ => by omega⟩, fun _ => by omega⟩
  have c1 : ∀ {k : Nat}, (k ≠ 4 ∧ k ≠ 34 ∧ k ≠ 36 ∧ k ≠ 37) → ∀ x y : Int, T.1 (k, x, y) = S.1 (k, x, y) := fun h x y => e1 _ x y h.1 h.2.1 h.2.2.1 h.2.2.2
  refine ⟨hn, fun b b0 b1 => (h.2.1 b b0 b1).to (c1 (k := 9) (by decide) b 0) (c1 (k := 11) (by decide) b 0) (fun k _ _ j _ => by rw [c1 (k := 13) (by decide) b k]) (by rw [c1 (k := 0) (by decide)]) (fun _ _ => by rw [c1 (k := 9) (by decide)]; exact Int.le_refl _), fun l l0 l1 => ?_, fun l l0 l1 l2 => ?_⟩
  · rw [c1 (k := 0) (by decide)] at l1
    have h7 := wf0_7 hb.1
    have hb2 := wf14_2 hb.1 l0 (show l < 5 by omega)
    have h9 := wf9_3 hb.1 (b := S.1 (14, l, 0) 2) (by omega) (by omega)
    refine (h.2.2.1 l l0 l1).to (c1 (k := 14) (by decide) l 0) (e2 14 l 0) (e2 30 l 0) (e2 31 l 0) (by rw [c1 (k := 0) (by decide)]; exact Int.le_refl _) ?_ (szf_congr (by rw [c1 (k := 9) (by decide)]) (fun k _ _ => by rw [c1 (k := 13) (by decide)]))
    unfold lv
    rw [c1 (k := 9) (by decide), c1 (k := 14) (by decide), e2 14 l 0, hl_S _ (rs _ (hb.2.2.2.2.2.2.on hb.1 _ (by omega) (by omega) _ (by omega))) (fun k => c1 (k := 13) (by decide) _ k)]
  · rw [c1 (k := 0) (by decide)] at l2
    rw [c1 (k := 14) (by decide)]
    exact h.2.2.2 l l0 l1 l2
theorem JInv.was {S : XS} (hb : CB S) (h : JInv S) {r v : Int} (r0 : 0 ≤ r) (r1 : r < S.1 (4, 0, 0) 2) (hv : v = 1 ∨ v = S.1 (34, r, 0) 5) : JInv (sWas S r v) := by
  have z := wf4_2 hb.1
  have w : WI (sWas S r v) := (hb.was r0 (by omega) hv).1
  refine h.rul hb w (fun r' a0 a1 => ?_) (fun k x y _ a2 _ _ => putI_o (nK a2 _ _ _ _)) (fun _ _ _ => rfl) (by unfold sWas; rw [putI_o (nK (by decide) _ _ _ _)]; exact Int.le_refl _) (fun j _ _ => ⟨fun k hk => ?_, fun i => (putI_o (nK (by decide) _ _ _ _)).symm, (putI_o (nK (by decide) _ _ _ _)).symm⟩)
  · unfold sWas at a0 ⊢
    rw [putI_o (nK (by decide) _ _ _ _)] at a0
    rw [putI_o (nX (by omega) 0)]
    exact h.1 r' a0 a1
  · unfold sWas
    by_cases e : (j : Int) = r
    · rw [e, putI_at, if_neg hk]
    · rw [putI_o (nX e 0)]
theorem JInv.addC {S : XS} (hb : CB S) (h : JInv S) {r : Int} (r0 : 0 ≤ r) (r1 : r < S.1 (4, 0, 0) 2) (hn : S.1 (34, r, 0) 5 = 0) {x y z c : Int} (w : WI (sCond S r x y z c)) : JInv (sCond S r x y z c) := by
  have o : ∀ l : XL, l ≠ (34, r, 0) → l ≠ (36, r, S.1 (34, r, 0) 2) → (sCond S r x y z c).1 l = S.1 l := fun l a b => sCond_o S r x y z c a b
  refine h.rul hb w (fun r' a0 a1 => ?_) (fun k x' y' a1 a2 a3 a4 => o _ (nK a2 _ _ _ _) (nK a3 _ _ _ _)) (fun k x' y' => by rw [sCond_j]) (by rw [o _ (nK (by decide) _ _ _ _) (nK (by decide) _ _ _ _)]; exact Int.le_refl _) (fun j hj q => ⟨fun k _ => ?_, fun i => ?_, ?_⟩)
  · rw [o _ (nK (by decide) _ _ _ _) (nK (by decide) _ _ _ _)] at a0
    rw [o (34, r', 0) (nX (by omega) _) (nK (by decide) _ _ _ _)]
    exact h.1 r' a0 a1
  · rw [o (34, j, 0) (nX (fun e => by rw [e, hn] at q; cases q) _) (nK (by decide) _ _ _ _)]
  · rw [o (36, j, i) (nK (by decide) _ _ _ _) (n36 (fun e => by rw [e.1, hn] at q; cases q))]
  · rw [o (37, j, 0) (nK (by decide) _ _ _ _) (nK (by decide) _ _ _ _)]
theorem addR_o (S : XS) (h a b c u v : Int) {l : XL} (h1 : l ≠ (34, S.1 (4, 0, 0) 2, 0)) (h2 : l.1 ≠ 36 ∨ l.2.1 ≠ S.1 (4, 0, 0) 2) (h3 : l ≠ (37, S.1 (4, 0, 0) 2, 0)) (h4 : l ≠ (4, 0, 0)) : (sAddR S h a b c u v).1 l = S.1 l := by
  unfold sAddR
  rw [putI_o h4, sCond_o _ _ _ _ _ _ h1 (fun z => by rw [z] at h2; rcases h2 with h2 | h2; exact h2 rfl; exact h2 rfl), sHead_o _ _ _ _ _ h1 h3]
theorem addR_j (S : XS) (h a b c u v : Int) : (sAddR S h a b c u v).2 = S.2 := by
  unfold sAddR
  show (sCond _ _ _ _ _ _).2 = _
  rw [sCond_j]
  rfl
theorem addR_n (S : XS) (h a b c u v : Int) : (sAddR S h a b c u v).1 (4, 0, 0) 2 = S.1 (4, 0, 0) 2 + 1 := by
  unfold sAddR
  rw [putI_at, if_pos rfl]
theorem JInv.addR {S : XS} (hb : CB S) (hi : JInv S) {h a b c u v : Int} (w : WI (sAddR S h a b c u v)) : JInv (sAddR S h a b c u v) := by
  refine hi.rul hb w (fun r' a0 a1 => ?_) (fun k x' y' a1 a2 a3 a4 => addR_o S h a b c u v (nK a2 _ _ _ _) (Or.inl a3) (nK a4 _ _ _ _) (nK a1 _ _ _ _)) (fun k x' y' => by rw [addR_j]) (by rw [addR_n]; omega) (fun j hj q => ⟨fun k _ => ?_, fun i => ?_, ?_⟩)
  · rw [addR_n] at a0
    rw [addR_o S h a b c u v (nX (by omega) _) (Or.inl (show (34 : Nat) ≠ 36 by decide)) (nK (by decide) _ _ _ _) (nK (by decide) _ _ _ _)]
    exact hi.1 r' (by omega) a1
  · rw [addR_o S h a b c u v (nX (by omega) _) (Or.inl (show (34 : Nat) ≠ 36 by decide)) (nK (by decide) _ _ _ _) (nK (by decide) _ _ _ _)]
  · rw [addR_o S h a b c u v (nK (by decide) _ _ _ _) (Or.inr (show (j : Int) ≠ _ by omega)) (nK (by decide) _ _ _ _) (nK (by decide) _ _ _ _)]
  · rw [addR_o S h a b c u v (nK (by decide) _ _ _ _) (Or.inl (show (37 : Nat) ≠ 36 by decide)) (nX (by omega) _) (nK (by decide) _ _ _ _)]
theorem app_11 (S : XS) (b r s a f t c : Int) (j : Int) : (sApp S b r s a f t c).1 (11, b, 0) j = if j = S.1 (9, b, 0) 3 + 1 then fCh (S.1 (11, b, 0) (S.1 (9, b, 0) 3)) ((sApp S b r s a f t c).1 (13, b, S.1 (9, b, 0) 3) 5) else S.1 (11, b, 0) j := by
  simp [sApp, putI, xUpd]
theorem app_5 (S : XS) (b r s a f t c : Int) : (sApp S b r s a f t c).1 (13, b, S.1 (9, b, 0) 3) 5 = fDigest (sApp S b r s a f t c) (13, b, S.1 (9, b, 0) 3) := by
  obtain ⟨e0, e1, e2, e3, e4, -⟩ := sApp_13 S b r s a f t c
  unfold fDigest
  rw [e0, e1, e2, e3, e4]
  simp [sApp, putI, xUpd, fDigest]
theorem szf_app (S : XS) (b r s a f t c : Int) (h0 : 0 ≤ S.1 (9, b, 0) 3) : szf (sApp S b r s a f t c) b = szf S b + 1 := by
  obtain ⟨-, -, -, -, -, e6, -⟩ := sApp_13 S b r s a f t c
  unfold szf
  rw [app_size]
  obtain ⟨n, hn⟩ : ∃ n : Nat, S.1 (9, b, 0) 3 = n := ⟨(S.1 (9, b, 0) 3).toNat, by omega⟩
  rw [hn] at e6 ⊢
  rw [show ((n : Int) + 1).toNat = n + 1 by omega, show ((n : Int)).toNat = n by omega]
  simp only [fgc]
  rw [e6, if_pos rfl, fgc_congr n (f := (sApp S b r s a f t c).1) (f' := S.1) (fun k hk => by rw [sApp_tel S b r s a f t c b k (fun z => by omega)])]
  omega
theorem BrI.app {S : XS} {b : Int} (b0 : 0 ≤ b) (b1 : b < S.1 (0, 0, 0) 6) (hsz : 0 ≤ S.1 (9, b, 0) 3) {r s a f t c : Int} (hft : r = 0 → f ≤ t) {b' : Int} (h : BrI S b') : BrI (sApp S b r s a f t c) b' := by
  have hk : ∀ {k : Nat}, k ≠ 13 ∧ k ≠ 11 ∧ k ≠ 9 → ∀ x y : Int, (sApp S b r s a f t c).1 (k, x, y) = S.1 (k, x, y) := fun h x y => sApp_k S b r s a f t c h x y
  by_cases e : b' = b
  · subst e
    obtain ⟨h1, h2, h3, h4⟩ := h
    refine ⟨fun k k0 k1 => ?_, fun j hj => ?_, fun c0 c1 => ?_, fun z => ?_⟩
    · rw [app_size] at k1
      by_cases q : k = S.1 (9, b', 0) 3
      · subst q
        obtain ⟨e0, e1, e2, e3, e4, -⟩ := sApp_13 S b' r s a f t c
        refine ⟨app_5 S b' r s a f t c, fun z => ?_⟩
        rw [e3, e4]
        rw [e0] at z
        exact hft z
      · have et := sApp_tel S b' r s a f t c b' k (fun z => q z.2)
        obtain ⟨a1, a2⟩ := h1 k k0 (by omega)
        rw [fDig_congr (S := S) (T := sApp S b' r s a f t c) (l := (13, b', k)) (m := (13, b', k)) (fun j _ _ => by rw [et]), et]
        exact ⟨a1, a2⟩
    · rw [app_size] at hj
      have ed : ∀ m : Nat, (m : Int) ≤ S.1 (9, b', 0) 3 → dueN (sApp S b' r s a f t c).1 b' m = dueN S.1 b' m := fun m hm => due_below m (fun k hk => by rw [sApp_tel S b' r s a f t c b' k (fun z => by omega)])
      rw [app_11]
      by_cases q : (j : Int) = S.1 (9, b', 0) 3 + 1
      · rw [if_pos q]
        obtain ⟨m, rfl⟩ : ∃ m, j = m + 1 := ⟨j - 1, by omega⟩
        have hm : S.1 (9, b', 0) 3 = m := by omega
        rw [hm]
        simp only [dueN]
        rw [ed m (by omega), h2 m (by omega)]
      · rw [if_neg q, ed j (by omega), h2 j (by omega)]
    · rw [hk (k := 0) (by decide)] at c1
      obtain ⟨a1, a2, a3⟩ := h3 c0 c1
      rw [sApp_9, sApp_9, sApp_9, sApp_9, if_neg (by decide), if_neg (by decide), if_neg (by decide), if_pos rfl, sApp_o S b' r s a f t c (nK (by decide) _ _ _ _) (nK (by decide) _ _ _ _) (nX (by omega) _)]
      exact ⟨a1, a2, by omega⟩
    · rw [hk (k := 0) (by decide)] at z
      omega
  · refine h.to (sApp_o S b r s a f t c (nK (by decide) _ _ _ _) (nK (by decide) _ _ _ _) (nX e _)) (sApp_o S b r s a f t c (nK (by decide) _ _ _ _) (nX e _) (nK (by decide) _ _ _ _)) (fun k _ _ j _ => by rw [sApp_tel S b r s a f t c b' k (fun z => e z.1)]) (by rw [hk (k := 0) (by decide)]) (fun _ _ => ?_)
    by_cases y : S.1 (9, b', 0) 4 = b
    · rw [y, app_size]; omega
    · rw [sApp_o S b r s a f t c (nK (by decide) _ _ _ _) (nK (by decide) _ _ _ _) (nX y _)]
      exact Int.le_refl _
theorem JW.app {S : XS} (hw : WI S) {b : Int} (h : JW S b) (b0 : 0 ≤ b) (b1 : b < S.1 (0, 0, 0) 6) {r s a f t c : Int} (hft : r = 0 → f ≤ t) : JW (sApp S b r s a f t c) b := by
  have h6 := wf0_6 hw
  have h9 := wf9_3 hw b0 (show b < 4 by omega)
  have hk : ∀ {k : Nat}, k ≠ 13 ∧ k ≠ 11 ∧ k ≠ 9 → ∀ x y : Int, (sApp S b r s a f t c).1 (k, x, y) = S.1 (k, x, y) := fun h x y => sApp_k S b r s a f t c h x y
  refine ⟨fun r' a0 a1 => ?_, fun b' c0 c1 => (h.2.1 b' c0 c1).app b0 b1 h9.1 hft, fun l l0 l1 => ?_, fun l l0 l1 l2 => ?_⟩
  · rw [hk (k := 4) (by decide)] at a0
    rw [hk (k := 34) (by decide)]
    exact h.1 r' a0 a1
  · rw [hk (k := 0) (by decide)] at l1
    have k := h.2.2.1 l l0 l1
    have e14 : (sApp S b r s a f t c).1 (14, l, 0) = S.1 (14, l, 0) := hk (k := 14) (by decide) l 0
    rw [e14]
    by_cases y : S.1 (14, l, 0) 2 = b
    · rw [if_pos y] at k ⊢
      exact k.up e14 rfl rfl (by rw [hk (k := 0) (by decide)]; exact Int.le_refl _) (by rw [y, szf_app S b r s a f t c h9.1]; exact Int.le_refl _)
    · rw [if_neg y] at k ⊢
      have e13 : ∀ k : Int, (sApp S b r s a f t c).1 (13, S.1 (14, l, 0) 2, k) = S.1 (13, S.1 (14, l, 0) 2, k) := fun k => sApp_tel S b r s a f t c _ k (fun z => y z.1)
      have e9 : (sApp S b r s a f t c).1 (9, S.1 (14, l, 0) 2, 0) = S.1 (9, S.1 (14, l, 0) 2, 0) := sApp_o S b r s a f t c (nK (by decide) _ _ _ _) (nK (by decide) _ _ _ _) (nX y _)
      exact k.to e14 rfl rfl rfl (by rw [hk (k := 0) (by decide)]; exact Int.le_refl _) (lv_eq (sApp_rule S b r s a f t c) (fun k => (e13 k).symm) (by rw [e9]) e14 rfl) (szf_congr (by rw [e9]) (fun k _ _ => by rw [e13]))
  · rw [hk (k := 0) (by decide)] at l2
    rw [hk (k := 14) (by decide)]
    exact h.2.2.2 l l0 l1 l2

