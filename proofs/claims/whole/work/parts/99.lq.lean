/-! the law's head -/
def gSt (n : Nat) (sc : Int → Int) : XH := fun l => if l = (99, 0, 0) then some (.inr (0, n, .inl sc)) else none
theorem gSt_o (n : Nat) (sc : Int → Int) {l : XL} (h : l ≠ (99, 0, 0)) : gSt n sc l = none := if_neg h
theorem xsh_no (g : XG) (d : UInt64) (k : Nat) (a b : Int) (f : Int → Int) (j : Int → Int64) (h1 : ¬ (k ≤ 14 ∨ (16 ≤ k ∧ k ≤ 18) ∨ (26 ≤ k ∧ k ≤ 28) ∨ (30 ≤ k ∧ k ≤ 37) ∨ (40 ≤ k ∧ k ≤ 46))) (h2 : ¬ ((50 ≤ k ∧ k ≤ 75) ∨ k = 80 ∨ k = 81)) (h3 : k ≠ 82) (h4 : k ≠ 90) (h5 : k ≠ 91) (h6 : k ≠ 99) : xsh g d (k, a, b) f j = none := by
  unfold xsh
  split <;> first | rfl | (exfalso; simp_all; done) | (exfalso; rename_i q; injection q with q; omega)
theorem dzz_iS (n : Nat) (sc : Int → Int) {l : XL} (h : xdm (iS n sc).2.2.2 l) : dzz l := by
  obtain ⟨k, a, b⟩ := l
  revert h
  unfold dzz xdm iS
  split <;> exact id
set_option maxHeartbeats 4000000 in
theorem gSt_end (n : Nat) (sc : Int → Int) (g : XH) (h1 : ∀ l, nVf l → g l = z0 l) (h2 : ∀ l, nMd l → g l = z0 l) (h3 : g (90, 0, 0) = some (.inr (1, 1, xZero 1))) (h4 : g (91, 0, 0) = some (.inr (4, 1, xZero 4))) (h5 : ∀ l : XL, ¬ nVf l → ¬ nMd l → l ≠ (90, 0, 0) → l ≠ (91, 0, 0) → g l = gSt n sc l) : hp (iS n sc) = g := by
  funext l
  by_cases a1 : nVf l
  · have q : l.1 ≠ 99 := by
      have := a1.1
      omega
    rw [h1 l a1, z0_eq n sc q]
  by_cases a2 : nMd l
  · have q : l.1 ≠ 99 := by
      have := a2.1
      omega
    rw [h2 l a2, z0_eq n sc q]
  by_cases a3 : l = (90, 0, 0)
  · subst a3
    rw [h3, hp90]
    rfl
  by_cases a4 : l = (91, 0, 0)
  · subst a4
    rw [h4, hp91]
    have e : (fun i : Int => if i = 0 then (iS n sc).2.2.1 else 0) = fun _ => (0 : UInt64) := by
      funext i
      by_cases y : i = 0
      · rw [if_pos y]; rfl
      · rw [if_neg y]
    rw [e]
    rfl
  rw [h5 l a1 a2 a3 a4]
  by_cases a5 : l = (99, 0, 0)
  · subst a5
    rw [hp99]
    exact (if_pos rfl).symm
  rw [gSt_o n sc a5]
  by_cases x : xdm (iS n sc).2.2.2 l
  · rw [hp_of x]
    have d := dzz_iS n sc x
    obtain ⟨k, a, b⟩ := l
    refine xsh_no _ _ k a b _ _ (fun z => a1 ⟨z, d⟩) (fun z => a2 ⟨z, d⟩) (fun z => ?_) (fun z => ?_) (fun z => ?_) (fun z => ?_)
    · subst z
      have d : 0 ≤ a ∧ a < 0 ∧ b = 0 := d
      omega
    · subst z
      have d : a = 0 ∧ b = 0 := d
      obtain ⟨rfl, rfl⟩ := d
      exact a3 rfl
    · subst z
      have d : a = 0 ∧ b = 0 := d
      obtain ⟨rfl, rfl⟩ := d
      exact a4 rfl
    · subst z
      have d : a = 0 ∧ b = 0 := d
      obtain ⟨rfl, rfl⟩ := d
      exact a5 rfl
  · exact hp_no x
theorem iS_lwi (n : Nat) (sc : Int → Int) (hz : ∀ k, zR (sc k)) : LwI (iS n sc) := ⟨iS_cb n sc (iS_wi n sc hz), iS_mr n sc, iS_mrl n sc, iS_jinv n sc, iS_mn n sc, Int.le_refl 0⟩
theorem nVf_no {k : Nat} {a b : Int} (h : 50 ≤ k) : ¬ nVf (k, a, b) := fun z => by
  have z1 : (k ≤ 14 ∨ (16 ≤ k ∧ k ≤ 18) ∨ (26 ≤ k ∧ k ≤ 28) ∨ (30 ≤ k ∧ k ≤ 37) ∨ (40 ≤ k ∧ k ≤ 46)) := z.1
  omega
theorem nMd_no {k : Nat} {a b : Int} (h : k < 50 ∨ 82 ≤ k) : ¬ nMd (k, a, b) := fun z => by
  have z1 : ((50 ≤ k ∧ k ≤ 75) ∨ k = 80 ∨ k = 81) := z.1
  omega
theorem nVM {l : XL} (h : nMd l) : ¬ nVf l := fun z => by
  have z1 := z.1
  have z2 := h.1
  omega
theorem n99V {l : XL} (h : nVf l) : l ≠ (99, 0, 0) := fun z => by
  subst z
  exact nVf_no (by decide) h
theorem n99M {l : XL} (h : nMd l) : l ≠ (99, 0, 0) := fun z => by
  subst z
  exact nMd_no (by decide) h
set_option maxHeartbeats 4000000 in
set_option maxRecDepth 100000 in
theorem c_law (n : Nat) (sc : Int → Int) (hn : n ≤ 3584) (hz : ∀ k, zR (sc k)) : X mL_law 0 (xEnt mL_law [xR (99, 0, 0)]) [] (gSt n sc) 603072 7215210 (fun o _ => o = .inl (some (xI 1))) := by
  show X mL_law 0 [xR (99, 0, 0), none, none, none, none, none, none, none, none] [] (gSt n sc) 603072 7215210 _
  refine X.weak (kc := 20000) (ks := 400000) ?_ (by omega) (by omega) (fun _ _ q => q)
  refine x_newN (n := 9) (0, 0, 0) [xN, xN, xN, xN, xN, xN, xI 0, xI 0, xI 0] dL_law_0 (r := (RX8, TX8, 9)) rfl rfl wd74 (gSt_o n sc (nK (by decide) _ _ _ _)) (show (0 : Nat) ≠ 99 by decide) (by omega) (by omega) dfl_8 ?_
  refine x_hg (fun g1 e1 => ?_)
  have v1 : g1 (0, 0, 0) = some (.inl (8, [xN, xN, xN, xN, xN, xN, xI 0, xI 0, xI 0])) := by rw [e1]; exact xu_at
  have f1 : ∀ l : XL, l ≠ (0, 0, 0) → g1 l = gSt n sc l := fun l h => by rw [e1]; exact xu_o h
  refine x_dup dL_law_3 rfl ?_
  refine x_callI 642 7149 (as := []) (rest := [xR (0, 0, 0)]) ok_X8_init rfl rfl dL_law_4 wd76 wd77 (c_init8 g1 v1 (fun l hl h => (f1 l h).trans (gSt_o n sc (n99V hl)))) (fun _ _ z => by cases z.1) rfl (Nat.le_of_ble_eq_true rfl) (Nat.le_of_ble_eq_true rfl) (by decide) (by omega) (by omega) (fun g2 q => ?_) (fun _ _ z => by cases z.1)
  obtain ⟨-, a2, b2⟩ := q
  have f2 : ∀ l : XL, ¬ nVf l → l ≠ (0, 0, 0) → g2 l = gSt n sc l := fun l h h' => (b2 l h).trans (f1 l h')
  refine x_astore_n (L' := [xR (99, 0, 0), xR (0, 0, 0), none, none, none, none, none, none, none]) dL_law_7 (by decide) rfl ?_
  refine x_newN (n := 31) (50, 0, 0) [xN, xN, xN, xN, xN, xN, xN, xN, xN, xN, xN, xI 0, xI 0, xI 0, xN, xN, xN, xN, xN, xN, xN, xN, xN, xN, xI 0, xI 0, xN, xN, xN, xN, xN] dL_law_8 (r := (RX9, TX9, 31)) rfl rfl wd1093 ((f2 _ (nVf_no (by decide)) (nK (by decide) _ _ _ _)).trans (gSt_o n sc (nK (by decide) _ _ _ _))) (show (50 : Nat) ≠ 99 by decide) (by omega) (by omega) dfl_9 ?_
  refine x_hg (fun g3 e3 => ?_)
  have v3 : g3 (50, 0, 0) = some (.inl (9, [xN, xN, xN, xN, xN, xN, xN, xN, xN, xN, xN, xI 0, xI 0, xI 0, xN, xN, xN, xN, xN, xN, xN, xN, xN, xN, xI 0, xI 0, xN, xN, xN, xN, xN])) := by rw [e3]; exact xu_at
  have f3 : ∀ l : XL, l ≠ (50, 0, 0) → g3 l = g2 l := fun l h => by rw [e3]; exact xu_o h
  refine x_dup dL_law_11 rfl ?_
  refine x_callI 40 4000 (as := []) (rest := [xR (50, 0, 0)]) ok_X9_init rfl rfl dL_law_12 wd1095 wd1096 (c_init9 g3 v3 (fun l hl h => (f3 l h).trans ((f2 l (nVM hl) (fun z => by subst z; exact nMd_no (Or.inl (by decide)) hl)).trans (gSt_o n sc (n99M hl)))) (fun l hl => by
    obtain ⟨k, a, b⟩ := l
    have hl : k = 81 := hl
    subst hl
    exact (f3 _ (nK (by decide) _ _ _ _)).trans ((f2 _ (nVf_no (by decide)) (nK (by decide) _ _ _ _)).trans (gSt_o n sc (nK (by decide) _ _ _ _))))) (fun _ _ z => by cases z.1) rfl (Nat.le_of_ble_eq_true rfl) (Nat.le_of_ble_eq_true rfl) (by decide) (by omega) (by omega) (fun g4 q => ?_) (fun _ _ z => by cases z.1)
  obtain ⟨-, a4, b4⟩ := q
  refine x_astore_n (L' := [xR (99, 0, 0), xR (0, 0, 0), xR (50, 0, 0), none, none, none, none, none, none]) dL_law_15 (by decide) rfl ?_
  have f4 : ∀ l : XL, ¬ nMd l → ¬ nVf l → l ≠ (0, 0, 0) → l ≠ (50, 0, 0) → g4 l = gSt n sc l := fun l h h' h1 h2 => (b4 l h).trans ((f3 l h2).trans (f2 l h' h1))
  refine x_iconst dL_law_16 ?_
  refine x_newarray (90, 0, 0) (t := 1) (n := 1) (N := 1) dL_law_17 rfl wd203 ((f4 _ (nMd_no (Or.inr (by decide))) (nVf_no (by decide)) (nK (by decide) _ _ _ _) (nK (by decide) _ _ _ _)).trans (gSt_o n sc (nK (by decide) _ _ _ _))) (show (90 : Nat) ≠ 99 by decide) rfl (by decide) (by omega) (by omega) ?_
  refine x_hg (fun g5 e5 => ?_)
  have v5 : g5 (90, 0, 0) = some (.inr (1, 1, xZero 1)) := by rw [e5]; exact xu_at
  have f5 : ∀ l : XL, l ≠ (90, 0, 0) → g5 l = g4 l := fun l h => by rw [e5]; exact xu_o h
  refine x_astore_n (L' := [xR (99, 0, 0), xR (0, 0, 0), xR (50, 0, 0), xR (90, 0, 0), none, none, none, none, none]) dL_law_19 (by decide) rfl ?_
  refine x_iconst dL_law_20 ?_
  refine x_newarray (91, 0, 0) (t := 4) (n := 1) (N := 1) dL_law_21 rfl wd1474 ((f5 _ (nK (by decide) _ _ _ _)).trans ((f4 _ (nMd_no (Or.inr (by decide))) (nVf_no (by decide)) (nK (by decide) _ _ _ _) (nK (by decide) _ _ _ _)).trans (gSt_o n sc (nK (by decide) _ _ _ _)))) (show (91 : Nat) ≠ 99 by decide) rfl (by decide) (by omega) (by omega) ?_
  refine x_hg (fun g6 e6 => ?_)
  have v6 : g6 (91, 0, 0) = some (.inr (4, 1, xZero 4)) := by rw [e6]; exact xu_at
  have f6 : ∀ l : XL, l ≠ (91, 0, 0) → g6 l = g5 l := fun l h => by rw [e6]; exact xu_o h
  refine x_astore (L' := [xR (99, 0, 0), xR (0, 0, 0), xR (50, 0, 0), xR (90, 0, 0), xR (91, 0, 0), none, none, none, none]) dL_law_23 (by decide) rfl ?_
  refine x_iconst dL_law_25 ?_
  refine x_istore (L' := [xR (99, 0, 0), xR (0, 0, 0), xR (50, 0, 0), xR (90, 0, 0), xR (91, 0, 0), xI 0, none, none, none]) dL_law_26 (by decide) rfl ?_
  have hV : ∀ l : XL, nVf l → g6 l = z0 l := fun l h => by
    have n1 : l ≠ (91, 0, 0) := fun z => by subst z; exact nVf_no (by decide) h
    have n2 : l ≠ (90, 0, 0) := fun z => by subst z; exact nVf_no (by decide) h
    have n3 : l ≠ (50, 0, 0) := fun z => by subst z; exact nVf_no (by decide) h
    rw [f6 l n1, f5 l n2, b4 l (fun z => nVM z h), f3 l n3, a2 l h]
  have hM : ∀ l : XL, nMd l → g6 l = z0 l := fun l h => by
    have n1 : l ≠ (91, 0, 0) := fun z => by subst z; exact nMd_no (Or.inr (by decide)) h
    have n2 : l ≠ (90, 0, 0) := fun z => by subst z; exact nMd_no (Or.inr (by decide)) h
    rw [f6 l n1, f5 l n2, a4 l h]
  have hO : ∀ l : XL, ¬ nVf l → ¬ nMd l → l ≠ (90, 0, 0) → l ≠ (91, 0, 0) → g6 l = gSt n sc l := fun l h1 h2 h3 h4 => by
    have n1 : l ≠ (0, 0, 0) := fun z => by subst z; exact h1 ⟨Or.inl (by decide), (show (0 : Int) = 0 ∧ (0 : Int) = 0 from ⟨rfl, rfl⟩)⟩
    have n2 : l ≠ (50, 0, 0) := fun z => by subst z; exact h2 ⟨Or.inl (by decide), (show (0 : Int) = 0 ∧ (0 : Int) = 0 from ⟨rfl, rfl⟩)⟩
    rw [f6 l h4, f5 l h3, f4 l h2 h1 n1 n2]
  refine x_heq (gSt_end n sc g6 hV hM ((f6 _ (nK (by decide) _ _ _ _)).trans v5) v6 hO) ?_
  exact l_law n (by omega) 512 (iS n sc) 0 _ _ (iS_lwi n sc hz) rfl (by decide) (by omega) (by omega) (by omega) (by omega)
