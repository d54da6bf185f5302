/-! the class between calls: next, listen, fork -/
theorem take_o (S : XS) (l : Int) (p : Nat) {l' : Int} (h : l' ≠ l) : (sTake S l p).1 (14, l', 0) = S.1 (14, l', 0) ∧ (sTake S l p).2.1 (14, l', 0) = S.2.1 (14, l', 0) ∧ (sTake S l p).2.1 (30, l', 0) = S.2.1 (30, l', 0) ∧ (sTake S l p).2.1 (31, l', 0) = S.2.1 (31, l', 0) := by
  have n : ∀ k k' : Nat, ((k, l', 0) : XL) ≠ (k', l, 0) := fun k k' z => h (by injection z with _ z; injection z)
  have n1 := n 14 14; have n2 := n 14 30; have n3 := n 14 31; have n4 := n 30 14; have n5 := n 30 30; have n6 := n 30 31; have n7 := n 31 14; have n8 := n 31 30; have n9 := n 31 31
  unfold sTake
  dsimp only
  split <;> simp [putI, putJ, n1, n2, n3, n4, n5, n6, n7, n8, n9]
theorem JInv.take {S : XS} (h : JInv S) {l : Int} (l0 : 0 ≤ l) (l1 : l < S.1 (0, 0, 0) 7) (h9 : S.1 (14, l, 0) 9 ≠ 0) {p : Nat} (hp : Low (S.2.1 (30, l, 0) (S.1 (14, l, 0) 7) ||| S.2.1 (31, l, 0) (S.1 (14, l, 0) 7)) p) : JInv (sTake S l p) := by
  have hL := LEq.take S l p
  have e0 : (sTake S l p).1 (0, 0, 0) = S.1 (0, 0, 0) := hL.i (by decide) 0 0
  refine ⟨fun r r0 r1 => ?_, fun b' b0 b1 => (h.2.1 b' b0 b1).L hL, fun l' c0 c1 => ?_, fun l' c0 c1 c2 => ?_⟩
  · rw [hL.i (k := 4) (by decide)] at r0
    rw [hL.i (k := 34) (by decide)]
    exact h.1 r r0 r1
  · rw [e0] at c1
    by_cases e : l' = l
    · subst e
      obtain ⟨k1, k2, k3, k4⟩ := h.2.2.1 l' c0 c1
      obtain ⟨a2, a3, a4, a7, a8, a9, aj, -⟩ := sTake_at S l' p
      refine ⟨(k1.take h9 hp).2, by rw [a2, e0]; exact k2, ?_, ?_⟩
      · rw [aj, a2, lv_L hL a4 a3 (by rw [aj])]
        exact k3
      · rw [a8, a2, szf_L hL]; exact k4
    · obtain ⟨a1, a2, a3, a4⟩ := take_o S l p e
      exact (h.2.2.1 l' c0 c1).to a1 a2 a3 a4 (by rw [e0]; exact Int.le_refl _) (lv_L hL (by rw [a1]) (by rw [a1]) (by rw [a2])) (szf_L hL _)
  · rw [e0] at c2
    obtain ⟨a1, -⟩ := take_o S l p (l' := l') (by omega)
    rw [a1]
    exact h.2.2.2 l' c0 c1 c2
theorem JInv.hf {S : XS} (h : JInv S) : ∀ l : Int, 0 ≤ l → l < S.1 (0, 0, 0) 7 → S.1 (14, l, 0) 9 ≠ 0 → S.1 (14, l, 0) 7 < 120 := fun l l0 l1 h9 => by
  obtain ⟨k1, k2, k3, k4, -⟩ := (h.2.2.1 l l0 l1).1
  by_cases y : S.1 (14, l, 0) 7 = S.1 (14, l, 0) 8
  · exfalso
    apply h9
    rw [k4]
    unfold quC
    rw [y, Int.sub_self]
    rfl
  · omega
/-- a change waits just where a call with one is kept -/
theorem JInv.hq {S : XS} (h : JInv S) : ∀ l : Int, 0 ≤ l → l < S.1 (0, 0, 0) 7 → (S.1 (14, l, 0) 7 < S.1 (14, l, 0) 8 ↔ S.1 (14, l, 0) 9 ≠ 0) := fun l l0 l1 => by
  obtain ⟨k1, k2, k3, k4, k5⟩ := (h.2.2.1 l l0 l1).1
  refine ⟨fun y => ?_, fun z => ?_⟩
  · obtain ⟨q, q1, q2⟩ := jne_bit (k5 _ (Int.le_refl _) y)
    rw [bitJ_or _ _ _ q1] at q2
    obtain ⟨m, hm⟩ : ∃ m : Nat, (S.1 (14, l, 0) 8 - S.1 (14, l, 0) 7).toNat = m + 1 := ⟨(S.1 (14, l, 0) 8 - S.1 (14, l, 0) 7).toNat - 1, by omega⟩
    have e1 : (quC S l).length = (chgN (S.1 (14, l, 0) 3) (S.2.1 (30, l, 0) (S.1 (14, l, 0) 7)) (S.2.1 (31, l, 0) (S.1 (14, l, 0) 7)) 64).length + (quF (S.1 (14, l, 0) 3) (S.2.1 (30, l, 0)) (S.2.1 (31, l, 0)) (S.1 (14, l, 0) 7 + 1) m).length := by
      unfold quC
      rw [hm, quF_front, List.length_append]
    have e2 := chgN_mono (S.1 (14, l, 0) 3) (S.2.1 (30, l, 0) (S.1 (14, l, 0) 7)) (S.2.1 (31, l, 0) (S.1 (14, l, 0) 7)) (show q + 1 ≤ 64 by omega)
    rw [chgN_t q2, List.length_append] at e2
    have e3 : [chgV (S.1 (14, l, 0) 3) (S.2.1 (31, l, 0) (S.1 (14, l, 0) 7)) q].length = 1 := rfl
    omega
  · rcases Int.lt_or_eq_of_le k2 with y | y
    · exact y
    · exfalso
      apply z
      rw [k4]
      unfold quC
      rw [y, Int.sub_self]
      rfl
/-- another listener -/
theorem JInv.lis {S : XS} (hw : WI S) (h : JInv S) {i r a s t : Int} (i0 : 0 ≤ i) (i1 : i < S.1 (0, 0, 0) 6) (h7 : S.1 (0, 0, 0) 7 < 5) : JInv (sLis S i r a s t) := by
  have c7 := wf0_7 hw
  have c0 : ∀ (k : Nat) (x y : Int), k ≠ 14 → k ≠ 0 → (sLis S i r a s t).1 (k, x, y) = S.1 (k, x, y) := fun k x y z1 z2 => lis_o S i r a s t (nK z1 _ _ _ _) (nK z2 _ _ _ _)
  have hr : RuleEq S.1 (sLis S i r a s t).1 := ⟨fun r => (c0 34 r 0 (by decide) (by decide)).symm, fun r i => (c0 36 r i (by decide) (by decide)).symm, fun r => (c0 37 r 0 (by decide) (by decide)).symm, (c0 4 0 0 (by decide) (by decide)).symm⟩
  have e13 : ∀ b k : Int, S.1 (13, b, k) = (sLis S i r a s t).1 (13, b, k) := fun b k => (c0 13 b k (by decide) (by decide)).symm
  have e6 : (sLis S i r a s t).1 (0, 0, 0) 6 = S.1 (0, 0, 0) 6 := by rw [lis_0, if_neg (by decide)]
  have ez : ∀ b : Int, szf (sLis S i r a s t) b = szf S b := fun b => szf_congr (by rw [c0 9 b 0 (by decide) (by decide)]) (fun k _ _ => by rw [c0 13 b k (by decide) (by decide)])
  refine ⟨fun r' a0 a1 => ?_, fun b b0 b1 => (h.2.1 b b0 b1).to (c0 9 b 0 (by decide) (by decide)) (c0 11 b 0 (by decide) (by decide)) (fun k _ _ j _ => by rw [c0 13 b k (by decide) (by decide)]) e6 (fun _ _ => by rw [c0 9 _ 0 (by decide) (by decide)]; exact Int.le_refl _), fun l l0 l1 => ?_, fun l l0 l1 l2 => ?_⟩
  · rw [c0 4 0 0 (by decide) (by decide)] at a0
    rw [c0 34 r' 0 (by decide) (by decide)]
    exact h.1 r' a0 a1
  · rw [lis_0, if_pos rfl] at l1
    by_cases e : l = S.1 (0, 0, 0) 7
    · subst e
      obtain ⟨a2, a3, a4, a5, j5, j6⟩ := lis_at S i r a s t
      obtain ⟨z7, z8, z9⟩ := h.2.2.2 _ c7.1 h7 (Int.le_refl _)
      have q7 := a5 7 (by decide)
      have q8 := a5 8 (by decide)
      have q9 := a5 9 (by decide)
      rw [z7] at q7
      rw [z8] at q8
      rw [z9] at q9
      refine ⟨⟨by omega, by omega, by omega, ?_, fun e x1 x2 => by omega⟩, by rw [a2, e6]; exact i1, ?_, ?_⟩
      · unfold quC
        rw [q9, q8, q7]
        rfl
      · rw [j6, a2]
        unfold lv
        rw [c0 9 i 0 (by decide) (by decide), a3, a4, j5, hl_congr hr (e13 i)]
      · rw [a2, q8, ez]
        have := wf9_3 hw i0 (show i < 4 by have := wf0_6 hw; omega)
        have := fgc_in S.1 i (S.1 (9, i, 0) 3).toNat
        unfold szf
        omega
    · have n : ∀ k : Nat, ((k, l, 0) : XL) ≠ (14, S.1 (0, 0, 0) 7, 0) := fun k z => e (by injection z with _ z; injection z)
      have c1 := lis_o S i r a s t (n 14) (nK (by decide) _ _ _ _)
      exact (h.2.2.1 l l0 (by omega)).to c1 (lis_j S i r a s t (n 14)) (lis_j S i r a s t (n 30)) (lis_j S i r a s t (n 31)) (by rw [e6]; exact Int.le_refl _) (lv_eq hr (e13 _) (by rw [c0 9 _ 0 (by decide) (by decide)]) c1 (by rw [lis_j S i r a s t (n 14)])) (ez _)
  · rw [lis_0, if_pos rfl] at l2
    rw [lis_o S i r a s t (nX (by omega) 0) (nK (by decide) _ _ _ _)]
    exact h.2.2.2 l l0 l1 (by omega)
/-- alike, where the number of branches may have grown -/
theorem BrI.to2 {S T : XS} {b : Int} (h : BrI S b) (e3 : T.1 (9, b, 0) = S.1 (9, b, 0)) (e11 : T.1 (11, b, 0) = S.1 (11, b, 0)) (e13 : ∀ k : Int, 0 ≤ k → k < S.1 (9, b, 0) 3 → ∀ j : Int, j ≤ 5 → T.1 (13, b, k) j = S.1 (13, b, k) j) (e6 : b < T.1 (0, 0, 0) 6 ↔ b < S.1 (0, 0, 0) 6) (eo : 0 < b → b < S.1 (0, 0, 0) 6 → S.1 (9, S.1 (9, b, 0) 4, 0) 3 ≤ T.1 (9, S.1 (9, b, 0) 4, 0) 3) : BrI T b := by
  obtain ⟨h1, h2, h3, h4⟩ := h
  refine ⟨fun k k0 k1 => ?_, fun j hj => ?_, fun b0 b1 => ?_, fun z => ?_⟩
  · rw [e3] at k1
    obtain ⟨a1, a2⟩ := h1 k k0 k1
    have e := e13 k k0 k1
    rw [e 5 (by decide), e 0 (by decide), e 3 (by decide), e 4 (by decide), fDig_congr (S := S) (T := T) (l := (13, b, k)) (m := (13, b, k)) (fun j j0 j1 => e j (by omega))]
    exact ⟨a1, a2⟩
  · rw [e3] at hj
    rw [e11, h2 j hj]
    exact due_below j (fun k hk => (e13 k (by omega) (by omega) 5 (by decide)).symm)
  · rw [e6] at b1
    rw [e3]
    have := h3 b0 b1
    have := eo b0 b1
    exact ⟨by omega, by omega, by omega⟩
  · rw [e3]
    exact h4 (by omega)
theorem due_two {f f' : XL → Int → Int} {b b' : Int} (n : Nat) (h : ∀ k : Nat, k < n → f (13, b, k) 5 = f' (13, b', k) 5) : dueN f b n = dueN f' b' n := by
  induction n with
  | zero => rfl
  | succ n ih => simp only [dueN]; rw [ih (fun k hk => h k (by omega)), h n (by omega)]
theorem frk_11 (S : XS) {b : Int} (n : Nat) (hb : b ≠ S.1 (0, 0, 0) 6) (j : Int) : (sFrk S b n).1 (11, S.1 (0, 0, 0) 6, 0) j = if 1 ≤ j ∧ j ≤ n then S.1 (11, b, 0) j else S.1 (11, S.1 (0, 0, 0) 6, 0) j := by
  have e : (sFrk S b n).1 (11, S.1 (0, 0, 0) 6, 0) = (sFork S (S.1 (0, 0, 0) 6) b n).1 (11, S.1 (0, 0, 0) 6, 0) := putI_o (nK (by decide) _ _ _ _)
  rw [e, fork_o _ _ _ _ (nK (by decide) _ _ _ _), forkN_11 S hb]
theorem frk_11o (S : XS) (b : Int) (n : Nat) (b' : Int) (h : b' ≠ S.1 (0, 0, 0) 6) : (sFrk S b n).1 (11, b', 0) = S.1 (11, b', 0) := by
  have e : (sFrk S b n).1 (11, b', 0) = (sFork S (S.1 (0, 0, 0) 6) b n).1 (11, b', 0) := putI_o (nK (by decide) _ _ _ _)
  rw [e, fork_o _ _ _ _ (nK (by decide) _ _ _ _), forkN_o _ _ _ _ (fun k' _ => nK (by decide) _ _ _ _) (nX h _)]
theorem frk_456 (S : XS) (b : Int) (n : Nat) : (sFrk S b n).1 (9, S.1 (0, 0, 0) 6, 0) 4 = b ∧ (sFrk S b n).1 (9, S.1 (0, 0, 0) 6, 0) 5 = n ∧ (sFrk S b n).1 (9, S.1 (0, 0, 0) 6, 0) 6 = n := by
  have e : (sFrk S b n).1 (9, S.1 (0, 0, 0) 6, 0) = (sFork S (S.1 (0, 0, 0) 6) b n).1 (9, S.1 (0, 0, 0) 6, 0) := putI_o (nK (by decide) _ _ _ _)
  rw [e]
  exact (fork_9 S _ b n).2
/-- another branch -/
theorem JInv.frk {S : XS} (hw : WI S) (h : JInv S) {i : Int} (i0 : 0 ≤ i) (i1 : i < S.1 (0, 0, 0) 6) (h6 : S.1 (0, 0, 0) 6 < 4) {n : Nat} (hn : (n : Int) ≤ S.1 (9, i, 0) 3) : JInv (sFrk S i n) := by
  have c6 := wf0_6 hw
  have c7 := wf0_7 hw
  have ni : i ≠ S.1 (0, 0, 0) 6 := by omega
  have e7 : (sFrk S i n).1 (0, 0, 0) 7 = S.1 (0, 0, 0) 7 := by rw [frk_0, if_neg (by decide)]
  have e6 : (sFrk S i n).1 (0, 0, 0) 6 = S.1 (0, 0, 0) 6 + 1 := by rw [frk_0, if_pos rfl]
  have hr : RuleEq S.1 (sFrk S i n).1 := ⟨fun r => (frk_o S i n (k := 34) (by decide) r 0).symm, fun r j => (frk_o S i n (k := 36) (by decide) r j).symm, fun r => (frk_o S i n (k := 37) (by decide) r 0).symm, (frk_o S i n (k := 4) (by decide) 0 0).symm⟩
  refine ⟨fun r r0 r1 => ?_, fun b b0 b1 => ?_, fun l l0 l1 => ?_, fun l l0 l1 l2 => ?_⟩
  · rw [frk_o S i n (k := 4) (by decide)] at r0
    rw [frk_o S i n (k := 34) (by decide)]
    exact h.1 r r0 r1
  · by_cases e : b = S.1 (0, 0, 0) 6
    · subst e
      obtain ⟨f3, f13⟩ := frk_new S n ni
      obtain ⟨f4, f5, f6⟩ := frk_456 S i n
      obtain ⟨h1, h2, h3, h4⟩ := h.2.1 i i0 (by omega)
      have g2 := (h.2.1 _ b0 b1).2.1 0 (by have := wf9_3 hw b0 b1; omega)
      refine ⟨fun k k0 k1 => ?_, fun j hj => ?_, fun d0 d1 => ?_, fun z => ?_⟩
      · rw [f3] at k1
        obtain ⟨x0, x1, x2, x3, x4, x5, x6, x7⟩ := f13 k.toNat (by omega)
        rw [show ((k.toNat : Nat) : Int) = k by omega] at x0 x1 x2 x3 x4 x5
        obtain ⟨a1, a2⟩ := h1 k k0 (by omega)
        refine ⟨?_, ?_⟩
        · rw [x5, a1]
          unfold fDigest
          rw [x0, x1, x2, x3, x4]
        · rw [x0, x3, x4]; exact a2
      · rw [f3] at hj
        rw [frk_11 S n ni]
        have ed : dueN (sFrk S i n).1 (S.1 (0, 0, 0) 6) j = dueN S.1 i j := due_two j (fun k hk => (f13 k (by omega)).2.2.2.2.2.1)
        rw [ed]
        by_cases q : j = 0
        · subst q
          rw [if_neg (by omega)]
          exact g2
        · rw [if_pos (by omega), h2 j (by omega)]
      · rw [f3, f4, f5, f6, frk_9 S i n i ni]
        exact ⟨i1, hn, Int.le_refl _⟩
      · rw [e6] at z; omega
    · refine (h.2.1 b b0 b1).to2 (frk_9 S i n b e) (frk_11o S i n b e) (fun k _ _ j _ => by rw [frk_13 S i n b k e]) (by rw [e6]; omega) (fun d0 d1 => ?_)
      have := ((h.2.1 b b0 b1).2.2.1 d0 d1).1
      rw [frk_9 S i n _ (by omega)]
      exact Int.le_refl _
  · rw [e7] at l1
    have k := h.2.2.1 l l0 l1
    have nb : S.1 (14, l, 0) 2 ≠ S.1 (0, 0, 0) 6 := by have := k.2.1; omega
    have c1 := frk_o S i n (k := 14) (by decide) l 0
    refine k.to c1 (by rw [frk_j]) (by rw [frk_j]) (by rw [frk_j]) (by rw [e6]; omega) (lv_eq hr (fun k => (frk_13 S i n _ k nb).symm) (by rw [frk_9 S i n _ nb]) c1 (by rw [frk_j])) (szf_congr (by rw [frk_9 S i n _ nb]) (fun k _ _ => by rw [frk_13 S i n _ k nb]))
  · rw [e7] at l2
    rw [frk_o S i n (k := 14) (by decide)]
    exact h.2.2.2 l l0 l1 l2
