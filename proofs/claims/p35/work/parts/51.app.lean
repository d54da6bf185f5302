/-! what an append leaves -/
theorem onN_below {f f' : XL → Int → Int} {b : Int} (n : Nat) (h : ∀ k : Nat, k < n → f (13, b, k) = f' (13, b, k)) : onN f b n = onN f' b n := by
  induction n with
  | zero => rfl
  | succ n ih => simp only [onN, h n (by omega), ih (fun k hk => h k (by omega))]
theorem toldN_below {f f' : XL → Int → Int} {b : Int} (t : Int) (n : Nat) (h : ∀ k : Nat, k < n → f (13, b, k) = f' (13, b, k)) : toldN f b t n = toldN f' b t n := by
  induction n with
  | zero => rfl
  | succ n ih => simp only [toldN, h n (by omega), ih (fun k hk => h k (by omega))]
theorem hl_below {f f' : XL → Int → Int} (hr : RuleEq f f') {b : Int} (n : Nat) (h : ∀ k : Nat, k < n → f (13, b, k) = f' (13, b, k)) (t : Int) : hl f b n t = hl f' b n t := by
  unfold hl
  rw [onN_below n h, toldN_below t n h, hldF_rule hr]
theorem sApp_o (S : XS) (b r s a f t c : Int) {l : XL} (h : l ≠ (13, b, S.1 (9, b, 0) 3)) (h2 : l ≠ (11, b, 0)) (h3 : l ≠ (9, b, 0)) : (sApp S b r s a f t c).1 l = S.1 l := by
  simp [sApp, putI, h, h2, h3]
theorem sApp_j (S : XS) (b r s a f t c : Int) : (sApp S b r s a f t c).2 = S.2 := rfl
theorem sApp_9 (S : XS) (b r s a f t c : Int) (k : Int) : (sApp S b r s a f t c).1 (9, b, 0) k = if k = 3 then S.1 (9, b, 0) 3 + 1 else S.1 (9, b, 0) k := by
  simp [sApp, putI, xUpd]
theorem sApp_13 (S : XS) (b r s a f t c : Int) : (sApp S b r s a f t c).1 (13, b, S.1 (9, b, 0) 3) 0 = r ∧ (sApp S b r s a f t c).1 (13, b, S.1 (9, b, 0) 3) 1 = s ∧ (sApp S b r s a f t c).1 (13, b, S.1 (9, b, 0) 3) 2 = a ∧ (sApp S b r s a f t c).1 (13, b, S.1 (9, b, 0) 3) 3 = f ∧ (sApp S b r s a f t c).1 (13, b, S.1 (9, b, 0) 3) 4 = t ∧ (sApp S b r s a f t c).1 (13, b, S.1 (9, b, 0) 3) 6 = 0 ∧ (sApp S b r s a f t c).1 (13, b, S.1 (9, b, 0) 3) 7 = c := by
  refine ⟨?_, ?_, ?_, ?_, ?_, ?_, ?_⟩ <;> simp [sApp, putI, xUpd]
theorem n13 {b b' k k' : Int} (h : ¬ (b = b' ∧ k = k')) : ((13, b, k) : XL) ≠ (13, b', k') := fun z => h (by injection z with _ z; injection z with z1 z2; exact ⟨z1, z2⟩)
theorem nK {k k' : Nat} (h : k ≠ k') (x y x' y' : Int) : ((k, x, y) : XL) ≠ (k', x', y') := fun z => h (by injection z)
theorem sApp_tel (S : XS) (b r s a f t c : Int) (b' k : Int) (h : ¬ (b' = b ∧ k = S.1 (9, b, 0) 3)) : (sApp S b r s a f t c).1 (13, b', k) = S.1 (13, b', k) := sApp_o S b r s a f t c (n13 h) (nK (by decide) _ _ _ _) (nK (by decide) _ _ _ _)
theorem sApp_k (S : XS) (b r s a f t c : Int) {k : Nat} (h : k ≠ 13 ∧ k ≠ 11 ∧ k ≠ 9) (x y : Int) : (sApp S b r s a f t c).1 (k, x, y) = S.1 (k, x, y) := sApp_o S b r s a f t c (nK h.1 _ _ _ _) (nK h.2.1 _ _ _ _) (nK h.2.2 _ _ _ _)
theorem sApp_rule (S : XS) (b r s a f t c : Int) : RuleEq S.1 (sApp S b r s a f t c).1 := ⟨fun x => (sApp_k S b r s a f t c (by decide) x 0).symm, fun x i => (sApp_k S b r s a f t c (by decide) x i).symm, fun x => (sApp_k S b r s a f t c (by decide) x 0).symm, (sApp_k S b r s a f t c (by decide) 0 0).symm⟩
theorem wi_app {S : XS} (hw : WI S) {b : Int} (h1 : 0 ≤ b) (h2 : b < 4) (hs : S.1 (9, b, 0) 3 < 60) {r s a f t c : Int} (g1 : r = 0 ∨ r = 1) (g2 : s = 0 ∨ s = 1) (g3 : 0 ≤ a ∧ a ≤ 383) (g4 : 0 ≤ f ∧ f ≤ 23) (g5 : 0 ≤ t ∧ t ≤ 23) (g6 : -1 ≤ c ∧ c ≤ 3) : WI (sApp S b r s a f t c) := by
  have h3 := (wf9_3 hw h1 h2).1
  have w0 := wp13_0 hw h1 h2 h3 hs g1
  have w1 := wp13_1 w0 h1 h2 h3 hs g2
  have w2 := wp13_2 w1 h1 h2 h3 hs g3
  have w3 := wp13_3 w2 h1 h2 h3 hs g4
  have w4 := wp13_4 w3 h1 h2 h3 hs g5
  have w6 := wp13_6 w4 h1 h2 h3 hs (Or.inl rfl)
  have w7 := wp13_7 w6 h1 h2 h3 hs g6
  have w5 := wp13_5 w7 h1 h2 h3 hs (fDigest_in (putI (putI (putI (putI (putI (putI (putI S (13, b, S.1 (9, b, 0) 3) 0 r) (13, b, S.1 (9, b, 0) 3) 1 s) (13, b, S.1 (9, b, 0) 3) 2 a) (13, b, S.1 (9, b, 0) 3) 3 f) (13, b, S.1 (9, b, 0) 3) 4 t) (13, b, S.1 (9, b, 0) 3) 6 0) (13, b, S.1 (9, b, 0) 3) 7 c) (13, b, S.1 (9, b, 0) 3))
  have w8 := wpa11 w5 h1 h2 (i := S.1 (9, b, 0) 3 + 1) (fCh_in (S.1 (11, b, 0) (S.1 (9, b, 0) 3)) ((putI (putI (putI (putI (putI (putI (putI (putI S (13, b, S.1 (9, b, 0) 3) 0 r) (13, b, S.1 (9, b, 0) 3) 1 s) (13, b, S.1 (9, b, 0) 3) 2 a) (13, b, S.1 (9, b, 0) 3) 3 f) (13, b, S.1 (9, b, 0) 3) 4 t) (13, b, S.1 (9, b, 0) 3) 6 0) (13, b, S.1 (9, b, 0) 3) 7 c) (13, b, S.1 (9, b, 0) 3) 5 (fDigest (putI (putI (putI (putI (putI (putI (putI S (13, b, S.1 (9, b, 0) 3) 0 r) (13, b, S.1 (9, b, 0) 3) 1 s) (13, b, S.1 (9, b, 0) 3) 2 a) (13, b, S.1 (9, b, 0) 3) 3 f) (13, b, S.1 (9, b, 0) 3) 4 t) (13, b, S.1 (9, b, 0) 3) 6 0) (13, b, S.1 (9, b, 0) 3) 7 c) (13, b, S.1 (9, b, 0) 3))).1 (13, b, S.1 (9, b, 0) 3) 5))
  exact wp9_3 w8 h1 h2 (v := S.1 (9, b, 0) 3 + 1) ⟨by omega, by omega⟩
theorem on_app_lt (S : XS) (b r s a f t c : Int) (b' : Int) (n : Nat) (h : b' = b → (n : Int) ≤ S.1 (9, b, 0) 3) : onN (sApp S b r s a f t c).1 b' n = onN S.1 b' n := onN_below n (fun k hk => sApp_tel S b r s a f t c b' k (fun z => by have := h z.1; omega))
theorem on_app_eq (S : XS) (b r s a f t c : Int) (n : Nat) (hn : S.1 (9, b, 0) 3 = n) : onN (sApp S b r s a f t c).1 b (n + 1) = if r = 0 then onN S.1 b n else if s = 0 then zAnd (onN S.1 b n) (zXor (zShl 1 a) (-1)) else zOr (onN S.1 b n) (zShl 1 a) := by
  obtain ⟨e0, e1, e2, -⟩ := sApp_13 S b r s a f t c
  rw [hn] at e0 e1 e2
  simp only [onN]
  rw [e0, e1, e2, on_app_lt S b r s a f t c b n (fun _ => by omega)]
/-- the class's state after an append -/
theorem CB.app {S : XS} (hb : CB S) {b : Int} (h1 : 0 ≤ b) (h2 : b < S.1 (0, 0, 0) 6) (hs : S.1 (9, b, 0) 3 < 60) {r s a f t c : Int} (g1 : r = 0 ∨ r = 1) (g2 : s = 0 ∨ s = 1) (g3 : 0 ≤ a ∧ a ≤ 383) (g4 : 0 ≤ f ∧ f ≤ 23) (g5 : 0 ≤ t ∧ t ≤ 23) (g6 : -1 ≤ c ∧ c ≤ 3) (hl : r ≠ 0 → ∃ g, GOk g ∧ Lay S.1 (if s = 0 then zAnd (onN S.1 b (S.1 (9, b, 0) 3).toNat) (zXor (zShl 1 a) (-1)) else zOr (onN S.1 b (S.1 (9, b, 0) 3).toNat) (zShl 1 a)) g) (ht : r ≠ 0 → a < S.1 (4, 0, 0) 2 ∧ (s ≠ 0 → S.1 (34, a, 0) 5 = 1)) : CB (sApp S b r s a f t c) := by
  obtain ⟨b1, b2, b3, b4, b5, b6, b7⟩ := hb
  have k6 := wf0_6 b1
  have k9 := wf9_3 b1 h1 (show b < 4 by omega)
  have hr := sApp_rule S b r s a f t c
  have hk : ∀ {k : Nat}, k ≠ 13 ∧ k ≠ 11 ∧ k ≠ 9 → ∀ x y : Int, (sApp S b r s a f t c).1 (k, x, y) = S.1 (k, x, y) := fun h x y => sApp_k S b r s a f t c h x y
  have hol : ∀ on, OnL S on → OnL (sApp S b r s a f t c) on := fun on h x hx hb => by
    rw [hk (k := 4) (by decide), hk (k := 34) (by decide)]
    exact h x hx hb
  refine ⟨wi_app b1 h1 (by omega) hs g1 g2 g3 g4 g5 g6, RulesOk_eq hr b2, fun b' t' a0 a1 a2 a3 => ?_, fun b' a0 a1 n hn => ?_, ?_, ⟨fun b' t' a0 a1 a2 a3 => ?_, ?_⟩, fun b' a0 a1 k hkk => ?_⟩
  · rw [hk (k := 8) (by decide)]
    exact Stab_eq hr (b3 b' t' a0 a1 a2 a3)
  · rw [hk (k := 0) (by decide)] at a1
    by_cases e : b' = b
    · subst e
      rw [sApp_9, if_pos rfl] at hn
      by_cases e2 : (n : Int) ≤ S.1 (9, b', 0) 3
      · obtain ⟨g, y1, y2⟩ := b4 b' a0 a1 n e2
        rw [on_app_lt S b' r s a f t c b' n (fun _ => e2)]
        exact ⟨g, y1, Lay_eq hr y2⟩
      · obtain ⟨m, rfl⟩ : ∃ m, n = m + 1 := ⟨n - 1, by omega⟩
        rw [on_app_eq S b' r s a f t c m (by omega)]
        by_cases q : r = 0
        · rw [if_pos q]
          obtain ⟨g, y1, y2⟩ := b4 b' a0 a1 m (by omega)
          exact ⟨g, y1, Lay_eq hr y2⟩
        · rw [if_neg q]
          obtain ⟨g, y1, y2⟩ := hl q
          rw [show (S.1 (9, b', 0) 3).toNat = m by omega] at y2
          exact ⟨g, y1, Lay_eq hr y2⟩
    · rw [sApp_o S b r s a f t c (nK (by decide) _ _ _ _) (nK (by decide) _ _ _ _) (fun z => e (by injection z with _ z; injection z))] at hn
      obtain ⟨g, y1, y2⟩ := b4 b' a0 a1 n hn
      rw [on_app_lt S b r s a f t c b' n (fun z => absurd z e)]
      exact ⟨g, y1, Lay_eq hr y2⟩
  · unfold RGood
    rw [hk (k := 7) (by decide), hk (k := 40) (by decide), hk (k := 41) (by decide), hk (k := 42) (by decide)]
    exact ⟨Stab_eq hr b5.1, RFin_eq hr b5.2⟩
  · rw [hk (k := 8) (by decide)]
    exact hol _ (b6.1 b' t' a0 a1 a2 a3)
  · rw [hk (k := 7) (by decide)]
    exact hol _ b6.2
  · rw [hk (k := 4) (by decide), hk (k := 34) (by decide)]
    by_cases e : b' = b ∧ (k : Int) = S.1 (9, b, 0) 3
    · obtain ⟨rfl, e2⟩ := e
      obtain ⟨e0, e1, e3, -⟩ := sApp_13 S b' r s a f t c
      rw [e2, e0, e1, e3]
      exact ht
    · rw [sApp_tel S b r s a f t c b' k e]
      refine b7 b' a0 a1 k ?_
      by_cases e3 : b' = b
      · subst e3
        rw [sApp_9, if_pos rfl] at hkk
        have : ¬ (k : Int) = S.1 (9, b', 0) 3 := fun z => e ⟨rfl, z⟩
        omega
      · rw [sApp_o S b r s a f t c (nK (by decide) _ _ _ _) (nK (by decide) _ _ _ _) (fun z => e3 (by injection z with _ z; injection z))] at hkk
        exact hkk
theorem QEq.app {S S' : XS} (q : QEq S S') (b r s a f t c : Int) : QEq (sApp S b r s a f t c) (sApp S' b r s a f t c) := by
  have e1 : S'.1 (9, b, 0) = S.1 (9, b, 0) := q.1 (9, b, 0) rfl
  have e2 : S'.1 (11, b, 0) = S.1 (11, b, 0) := q.1 (11, b, 0) rfl
  have e3 : S'.1 (13, b, S.1 (9, b, 0) 3) = S.1 (13, b, S.1 (9, b, 0) 3) := q.1 (13, b, _) rfl
  refine ⟨fun l hl => ?_, fun l hl => q.2.1 l hl, q.2.2⟩
  simp only [sApp, putI, fDigest, e1, e2, e3, q.1 l hl]
theorem QEq.inf {S S' : XS} (q : QEq S S') (b : Int) (n : Nat) : QEq (sInf S b n) (sInf S' b n) := by
  induction n with
  | zero => exact q
  | succ n ih =>
    have e1 : S'.1 (14, (n : Int), 0) = S.1 (14, (n : Int), 0) := q.1 (14, (n : Int), 0) rfl
    have e2 : S'.2.1 (14, (n : Int), 0) = S.2.1 (14, (n : Int), 0) := q.2.1 (14, (n : Int), 0) rfl
    have e3 : S'.1 (9, b, 0) = S.1 (9, b, 0) := q.1 (9, b, 0) rfl
    have e4 : lv S' b n = lv S b n := by unfold lv; rw [e1, e2, e3, q.hl]
    by_cases h : S.1 (14, n, 0) 2 = b
    · rw [sInf_t h, sInf_t (by rw [e1]; exact h), e4]
      exact ih.hrV _ _
    · rw [sInf_f h, sInf_f (by rw [e1]; exact h)]
      exact ih
theorem CapOk.q {S S' : XS} {b : Int} (h : CapOk S b) (q : QEq S S') : CapOk S' b := by
  intro l l0 l1 l2
  have e1 : S'.1 (14, l, 0) = S.1 (14, l, 0) := q.1 (14, l, 0) rfl
  have e2 : S'.2.1 (14, l, 0) = S.2.1 (14, l, 0) := q.2.1 (14, l, 0) rfl
  have e3 : S'.1 (9, b, 0) = S.1 (9, b, 0) := q.1 (9, b, 0) rfl
  rw [q.1 (0, 0, 0) rfl] at l1
  rw [e1] at l2
  have e4 : lv S' b l = lv S b l := by unfold lv; rw [e1, e2, e3, q.hl]
  rw [e1, e2, e4]
  exact h l l0 l1 l2
/-- the class's state is the one that is said, but for what is kept -/
def pN (S : XS) (v : Option XV) : XO → XH → Prop := fun o h' => o = .inl v ∧ ∃ S', h' = hp S' ∧ QEq S S' ∧ CB S'
