/-! p35: the law's head -/
theorem dfl_8 : ([xN, xN, xN, xN, xN, xN, xI 0, xI 0, xI 0] : List XV).length = 9 ∧ ∀ k v, ([xN, xN, xN, xN, xN, xN, xI 0, xI 0, xI 0] : List XV)[k]? = some v → (v = xI 0 ∧ defaultValue (xFT 8 k) = .int 0) ∨ (v = xJ 0 ∧ defaultValue (xFT 8 k) = .long 0) ∨ (v = xN ∧ defaultValue (xFT 8 k) = .null) := by
  refine ⟨rfl, fun k v hk => ?_⟩
  match k, hk with
  | 0, hk => cases hk; exact Or.inr (Or.inr ⟨rfl, rfl⟩)
  | 1, hk => cases hk; exact Or.inr (Or.inr ⟨rfl, rfl⟩)
  | 2, hk => cases hk; exact Or.inr (Or.inr ⟨rfl, rfl⟩)
  | 3, hk => cases hk; exact Or.inr (Or.inr ⟨rfl, rfl⟩)
  | 4, hk => cases hk; exact Or.inr (Or.inr ⟨rfl, rfl⟩)
  | 5, hk => cases hk; exact Or.inr (Or.inr ⟨rfl, rfl⟩)
  | 6, hk => cases hk; exact Or.inl ⟨rfl, rfl⟩
  | 7, hk => cases hk; exact Or.inl ⟨rfl, rfl⟩
  | 8, hk => cases hk; exact Or.inl ⟨rfl, rfl⟩
  | k + 9, hk => exact absurd hk (by simp)
def gSt (n : Nat) (sc : Int → Int) : XH := fun l => if l = (99, 0, 0) then some (.inr (0, n, .inl sc)) else none
theorem gSt_o (n : Nat) (sc : Int → Int) {l : XL} (h : l ≠ (99, 0, 0)) : gSt n sc l = none := if_neg h
theorem xsh_no (g : XG) (d : UInt64) (k : Nat) (a b : Int) (f : Int → Int) (j : Int → Int64) (h1 : ¬ (k ≤ 14 ∨ (16 ≤ k ∧ k ≤ 18) ∨ (26 ≤ k ∧ k ≤ 28) ∨ (30 ≤ k ∧ k ≤ 37) ∨ (40 ≤ k ∧ k ≤ 46))) (h2 : ¬ (50 ≤ k ∧ k ≤ 55)) (h6 : k ≠ 99) : xsh g d (k, a, b) f j = none := by
  unfold xsh
  split <;> first | rfl | (exfalso; simp_all; done) | (exfalso; rename_i q; injection q with q; omega)
theorem dzz_iS (n : Nat) (sc : Int → Int) {l : XL} (h : xdm (iS n sc).2.2.2 l) (h5 : l.1 < 51 ∨ 55 < l.1) : dzz l := by
  obtain ⟨k, a, b⟩ := l
  revert h h5
  unfold dzz xdm iS
  split <;> first | exact fun x _ => x | (intro _ h5; exfalso; revert h5; simp)
theorem nVf_no {k : Nat} {a b : Int} (h : 50 ≤ k) : ¬ nVf (k, a, b) := fun z => by
  have z1 : (k ≤ 14 ∨ (16 ≤ k ∧ k ≤ 18) ∨ (26 ≤ k ∧ k ≤ 28) ∨ (30 ≤ k ∧ k ≤ 37) ∨ (40 ≤ k ∧ k ≤ 46)) := z.1
  omega
theorem n99V {l : XL} (h : nVf l) : l ≠ (99, 0, 0) := fun z => by
  subst z
  exact nVf_no (by decide) h
set_option maxHeartbeats 4000000 in
theorem gSt_end (n : Nat) (sc : Int → Int) (g : XH) (h1 : ∀ l, nVf l → g l = z0 l) (h2 : g (50, 0, 0) = some (.inr (0, 1800, xZero 0))) (h5 : ∀ l : XL, ¬ nVf l → l ≠ (50, 0, 0) → g l = gSt n sc l) : hp (iS n sc) = g := by
  funext l
  by_cases a1 : nVf l
  · have q : l.1 ≠ 99 := by
      have := a1.1
      omega
    rw [h1 l a1, z0_eq n sc q]
  by_cases a3 : l = (50, 0, 0)
  · subst a3
    rw [h2, hp50]
    rfl
  rw [h5 l a1 a3]
  by_cases a5 : l = (99, 0, 0)
  · subst a5
    rw [hp99]
    exact (if_pos rfl).symm
  rw [gSt_o n sc a5]
  by_cases x : xdm (iS n sc).2.2.2 l
  · obtain ⟨k, a, b⟩ := l
    have h0 : ¬ (51 ≤ k ∧ k ≤ 55) := fun z => by
      have c : k = 51 ∨ k = 52 ∨ k = 53 ∨ k = 54 ∨ k = 55 := by omega
      have d : 0 ≤ a ∧ a < 0 := by
        rcases c with rfl | rfl | rfl | rfl | rfl <;> exact ⟨x.1, x.2.1⟩
      omega
    rw [hp_of x]
    have d := dzz_iS n sc x (by dsimp only; omega)
    refine xsh_no _ _ k a b _ _ (fun z => a1 ⟨z, d⟩) (fun z => ?_) (fun z => ?_)
    · have e : k = 50 := by omega
      subst e
      have d : a = 0 ∧ b = 0 := d
      obtain ⟨rfl, rfl⟩ := d
      exact a3 rfl
    · subst z
      have d : a = 0 ∧ b = 0 := d
      obtain ⟨rfl, rfl⟩ := d
      exact a5 rfl
  · exact hp_no x
set_option maxHeartbeats 4000000 in
set_option maxRecDepth 100000 in
theorem c_law (n : Nat) (sc : Int → Int) (hn : n ≤ 260) (hz : ∀ k, zR (sc k)) : X mL_law 0 (xEnt mL_law [xR (99, 0, 0)]) [] (gSt n sc) 600222 7295558 (fun o _ => o = .inl (some (xI 1))) := by
  show X mL_law 0 [xR (99, 0, 0), none, none, none, none, none, none, none, none] [] (gSt n sc) 600222 7295558 _
  refine X.weak (kc := 60000) (ks := 200000) ?_ (by omega) (by omega) (fun _ _ q => q)
  refine x_newN (n := 9) (0, 0, 0) [xN, xN, xN, xN, xN, xN, xI 0, xI 0, xI 0] dL_law_0 (r := (RX8, TX8, 9)) rfl rfl wdL10 (gSt_o n sc (nK (by decide) _ _ _ _)) (show (0 : Nat) ≠ 99 by decide) (by omega) (by omega) dfl_8 ?_
  refine x_hg (fun g1 e1 => ?_)
  have v1 : g1 (0, 0, 0) = some (.inl (8, [xN, xN, xN, xN, xN, xN, xI 0, xI 0, xI 0])) := by rw [e1]; exact xu_at
  have f1 : ∀ l : XL, l ≠ (0, 0, 0) → g1 l = gSt n sc l := fun l h => by rw [e1]; exact xu_o h
  refine x_dup dL_law_3 rfl ?_
  refine x_callI 642 7149 (as := []) (rest := [xR (0, 0, 0)]) ok_X8_init rfl rfl dL_law_4 wd42 wd43 (c_init8 g1 v1 (fun l hl h => (f1 l h).trans (gSt_o n sc (n99V hl)))) (fun _ _ z => by cases z.1) rfl (Nat.le_of_ble_eq_true rfl) (Nat.le_of_ble_eq_true rfl) (by decide) (by omega) (by omega) (fun g2 q => ?_) (fun _ _ z => by cases z.1)
  obtain ⟨-, a2, b2⟩ := q
  have f2 : ∀ l : XL, ¬ nVf l → l ≠ (0, 0, 0) → g2 l = gSt n sc l := fun l h h' => (b2 l h).trans (f1 l h')
  refine x_astore_n (L' := [xR (99, 0, 0), xR (0, 0, 0), none, none, none, none, none, none, none]) dL_law_7 (by decide) rfl ?_
  refine x_sipush (v := 1800) dL_law_8 (by decide) ?_
  refine x_newarray (50, 0, 0) (t := 0) (n := 1800) (N := 1800) dL_law_11 rfl wd89 ((f2 _ (nVf_no (by decide)) (nK (by decide) _ _ _ _)).trans (gSt_o n sc (nK (by decide) _ _ _ _))) (show (50 : Nat) ≠ 99 by decide) rfl (by decide) (by omega) (by omega) ?_
  refine x_hg (fun g3 e3 => ?_)
  have v3 : g3 (50, 0, 0) = some (.inr (0, 1800, xZero 0)) := by rw [e3]; exact xu_at
  have f3 : ∀ l : XL, l ≠ (50, 0, 0) → g3 l = g2 l := fun l h => by rw [e3]; exact xu_o h
  refine x_astore_n (L' := [xR (99, 0, 0), xR (0, 0, 0), xR (50, 0, 0), none, none, none, none, none, none]) dL_law_13 (by decide) rfl ?_
  have hV : ∀ l : XL, nVf l → g3 l = z0 l := fun l h => by
    have n3 : l ≠ (50, 0, 0) := fun z => by subst z; exact nVf_no (by decide) h
    rw [f3 l n3, a2 l h]
  have hO : ∀ l : XL, ¬ nVf l → l ≠ (50, 0, 0) → g3 l = gSt n sc l := fun l h1 h2 => by
    have n1 : l ≠ (0, 0, 0) := fun z => by subst z; exact h1 ⟨Or.inl (by decide), (show (0 : Int) = 0 ∧ (0 : Int) = 0 from ⟨rfl, rfl⟩)⟩
    rw [f3 l h2, f2 l h1 n1]
  refine x_heq (gSt_end n sc g3 hV v3 hO) ?_
  exact X.weak (l_lawB (iS n sc) (show n < 1000000 by omega) (iS_lw n sc hz) rfl rfl) (by omega) (by omega) (fun _ _ q => q)
