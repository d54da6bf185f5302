/-! constructors: a heap that is only known cell by cell -/
theorem x_hg {M : XM} {pc : Nat} {L st : List XV} {h : XH} {kc ks : Nat} {Q : XO → XH → Prop} (k : ∀ g : XH, g = h → X M pc L st g kc ks Q) : X M pc L st h kc ks Q := k h rfl
theorem nL3 {k : Nat} {a b a' b' : Int} (h : ¬ (a = a' ∧ b = b')) : ((k, a, b) : XL) ≠ (k, a', b') := fun z => h (by injection z with _ z; injection z with z1 z2; exact ⟨z1, z2⟩)
theorem x_newN {M : XM} {pc i ci n : Nat} {L st : List XV} {h : XH} {kc ks : Nat} {Q : XO → XH → Prop} {r : vw_C} (l' : XL) (fs : List XV) (hd : decode (xmC M) pc = .ok (.new i, 3)) (hr : xCl[ci]? = some r) (hn : r.2.2 = n) (hw : Cond.classLink (xmY M).cls i r.1 ∈ xW) (hfree : h l' = none) (h99 : l'.1 ≠ 99) (h1 : 1 ≤ kc) (h2 : n ≤ ks)
    (hfs : fs.length = n ∧ ∀ k v, fs[k]? = some v → (v = xI 0 ∧ defaultValue (xFT ci k) = .int 0) ∨ (v = xJ 0 ∧ defaultValue (xFT ci k) = .long 0) ∨ (v = xN ∧ defaultValue (xFT ci k) = .null))
    (k : X M (pc + 3) L (xR l' :: st) (xUp h l' (.inl (ci, fs))) (kc - 1) (ks - n) Q) : X M pc L st h kc ks Q := by
  subst hn
  exact x_new l' fs hd hr hw hfree h99 h1 h2 hfs k
/-- where the cells of a fresh world may lie -/
def dzz (l : XL) : Prop := xdm ((fun _ => 0), 0, 0) l
theorem dfl_0 : ([xN, xN, xN, xI 0, xI 0, xI 0, xI 0] : List XV).length = 7 ∧ ∀ k v, ([xN, xN, xN, xI 0, xI 0, xI 0, xI 0] : List XV)[k]? = some v → (v = xI 0 ∧ defaultValue (xFT 0 k) = .int 0) ∨ (v = xJ 0 ∧ defaultValue (xFT 0 k) = .long 0) ∨ (v = xN ∧ defaultValue (xFT 0 k) = .null) := by
  refine ⟨rfl, fun k v hk => ?_⟩
  match k, hk with
  | 0, hk => cases hk; exact Or.inr (Or.inr ⟨rfl, rfl⟩)
  | 1, hk => cases hk; exact Or.inr (Or.inr ⟨rfl, rfl⟩)
  | 2, hk => cases hk; exact Or.inr (Or.inr ⟨rfl, rfl⟩)
  | 3, hk => cases hk; exact Or.inl ⟨rfl, rfl⟩
  | 4, hk => cases hk; exact Or.inl ⟨rfl, rfl⟩
  | 5, hk => cases hk; exact Or.inl ⟨rfl, rfl⟩
  | 6, hk => cases hk; exact Or.inl ⟨rfl, rfl⟩
  | k + 7, hk => exact absurd hk (by simp)
theorem dfl_1 : ([xN, xN, xI 0, xI 0, xI 0, xJ 0, xJ 0, xI 0, xI 0, xI 0] : List XV).length = 10 ∧ ∀ k v, ([xN, xN, xI 0, xI 0, xI 0, xJ 0, xJ 0, xI 0, xI 0, xI 0] : List XV)[k]? = some v → (v = xI 0 ∧ defaultValue (xFT 1 k) = .int 0) ∨ (v = xJ 0 ∧ defaultValue (xFT 1 k) = .long 0) ∨ (v = xN ∧ defaultValue (xFT 1 k) = .null) := by
  refine ⟨rfl, fun k v hk => ?_⟩
  match k, hk with
  | 0, hk => cases hk; exact Or.inr (Or.inr ⟨rfl, rfl⟩)
  | 1, hk => cases hk; exact Or.inr (Or.inr ⟨rfl, rfl⟩)
  | 2, hk => cases hk; exact Or.inl ⟨rfl, rfl⟩
  | 3, hk => cases hk; exact Or.inl ⟨rfl, rfl⟩
  | 4, hk => cases hk; exact Or.inl ⟨rfl, rfl⟩
  | 5, hk => cases hk; exact Or.inr (Or.inl ⟨rfl, rfl⟩)
  | 6, hk => cases hk; exact Or.inr (Or.inl ⟨rfl, rfl⟩)
  | 7, hk => cases hk; exact Or.inl ⟨rfl, rfl⟩
  | 8, hk => cases hk; exact Or.inl ⟨rfl, rfl⟩
  | 9, hk => cases hk; exact Or.inl ⟨rfl, rfl⟩
  | k + 10, hk => exact absurd hk (by simp)
theorem dfl_2 : ([xI 0, xI 0, xI 0, xI 0] : List XV).length = 4 ∧ ∀ k v, ([xI 0, xI 0, xI 0, xI 0] : List XV)[k]? = some v → (v = xI 0 ∧ defaultValue (xFT 2 k) = .int 0) ∨ (v = xJ 0 ∧ defaultValue (xFT 2 k) = .long 0) ∨ (v = xN ∧ defaultValue (xFT 2 k) = .null) := by
  refine ⟨rfl, fun k v hk => ?_⟩
  match k, hk with
  | 0, hk => cases hk; exact Or.inl ⟨rfl, rfl⟩
  | 1, hk => cases hk; exact Or.inl ⟨rfl, rfl⟩
  | 2, hk => cases hk; exact Or.inl ⟨rfl, rfl⟩
  | 3, hk => cases hk; exact Or.inl ⟨rfl, rfl⟩
  | k + 4, hk => exact absurd hk (by simp)
theorem dfl_3 : ([xN, xN, xN, xN, xN, xN, xN, xN] : List XV).length = 8 ∧ ∀ k v, ([xN, xN, xN, xN, xN, xN, xN, xN] : List XV)[k]? = some v → (v = xI 0 ∧ defaultValue (xFT 3 k) = .int 0) ∨ (v = xJ 0 ∧ defaultValue (xFT 3 k) = .long 0) ∨ (v = xN ∧ defaultValue (xFT 3 k) = .null) := by
  refine ⟨rfl, fun k v hk => ?_⟩
  match k, hk with
  | 0, hk => cases hk; exact Or.inr (Or.inr ⟨rfl, rfl⟩)
  | 1, hk => cases hk; exact Or.inr (Or.inr ⟨rfl, rfl⟩)
  | 2, hk => cases hk; exact Or.inr (Or.inr ⟨rfl, rfl⟩)
  | 3, hk => cases hk; exact Or.inr (Or.inr ⟨rfl, rfl⟩)
  | 4, hk => cases hk; exact Or.inr (Or.inr ⟨rfl, rfl⟩)
  | 5, hk => cases hk; exact Or.inr (Or.inr ⟨rfl, rfl⟩)
  | 6, hk => cases hk; exact Or.inr (Or.inr ⟨rfl, rfl⟩)
  | 7, hk => cases hk; exact Or.inr (Or.inr ⟨rfl, rfl⟩)
  | k + 8, hk => exact absurd hk (by simp)
theorem dfl_4 : ([xN, xN, xI 0, xI 0, xI 0, xI 0] : List XV).length = 6 ∧ ∀ k v, ([xN, xN, xI 0, xI 0, xI 0, xI 0] : List XV)[k]? = some v → (v = xI 0 ∧ defaultValue (xFT 4 k) = .int 0) ∨ (v = xJ 0 ∧ defaultValue (xFT 4 k) = .long 0) ∨ (v = xN ∧ defaultValue (xFT 4 k) = .null) := by
  refine ⟨rfl, fun k v hk => ?_⟩
  match k, hk with
  | 0, hk => cases hk; exact Or.inr (Or.inr ⟨rfl, rfl⟩)
  | 1, hk => cases hk; exact Or.inr (Or.inr ⟨rfl, rfl⟩)
  | 2, hk => cases hk; exact Or.inl ⟨rfl, rfl⟩
  | 3, hk => cases hk; exact Or.inl ⟨rfl, rfl⟩
  | 4, hk => cases hk; exact Or.inl ⟨rfl, rfl⟩
  | 5, hk => cases hk; exact Or.inl ⟨rfl, rfl⟩
  | k + 6, hk => exact absurd hk (by simp)
theorem dfl_5 : ([xN, xN, xI 0] : List XV).length = 3 ∧ ∀ k v, ([xN, xN, xI 0] : List XV)[k]? = some v → (v = xI 0 ∧ defaultValue (xFT 5 k) = .int 0) ∨ (v = xJ 0 ∧ defaultValue (xFT 5 k) = .long 0) ∨ (v = xN ∧ defaultValue (xFT 5 k) = .null) := by
  refine ⟨rfl, fun k v hk => ?_⟩
  match k, hk with
  | 0, hk => cases hk; exact Or.inr (Or.inr ⟨rfl, rfl⟩)
  | 1, hk => cases hk; exact Or.inr (Or.inr ⟨rfl, rfl⟩)
  | 2, hk => cases hk; exact Or.inl ⟨rfl, rfl⟩
  | k + 3, hk => exact absurd hk (by simp)
theorem dfl_6 : ([xN, xN, xI 0] : List XV).length = 3 ∧ ∀ k v, ([xN, xN, xI 0] : List XV)[k]? = some v → (v = xI 0 ∧ defaultValue (xFT 6 k) = .int 0) ∨ (v = xJ 0 ∧ defaultValue (xFT 6 k) = .long 0) ∨ (v = xN ∧ defaultValue (xFT 6 k) = .null) := by
  refine ⟨rfl, fun k v hk => ?_⟩
  match k, hk with
  | 0, hk => cases hk; exact Or.inr (Or.inr ⟨rfl, rfl⟩)
  | 1, hk => cases hk; exact Or.inr (Or.inr ⟨rfl, rfl⟩)
  | 2, hk => cases hk; exact Or.inl ⟨rfl, rfl⟩
  | k + 3, hk => exact absurd hk (by simp)
theorem dfl_7 : ([xI 0, xI 0, xI 0, xI 0, xI 0, xI 0, xI 0, xI 0] : List XV).length = 8 ∧ ∀ k v, ([xI 0, xI 0, xI 0, xI 0, xI 0, xI 0, xI 0, xI 0] : List XV)[k]? = some v → (v = xI 0 ∧ defaultValue (xFT 7 k) = .int 0) ∨ (v = xJ 0 ∧ defaultValue (xFT 7 k) = .long 0) ∨ (v = xN ∧ defaultValue (xFT 7 k) = .null) := by
  refine ⟨rfl, fun k v hk => ?_⟩
  match k, hk with
  | 0, hk => cases hk; exact Or.inl ⟨rfl, rfl⟩
  | 1, hk => cases hk; exact Or.inl ⟨rfl, rfl⟩
  | 2, hk => cases hk; exact Or.inl ⟨rfl, rfl⟩
  | 3, hk => cases hk; exact Or.inl ⟨rfl, rfl⟩
  | 4, hk => cases hk; exact Or.inl ⟨rfl, rfl⟩
  | 5, hk => cases hk; exact Or.inl ⟨rfl, rfl⟩
  | 6, hk => cases hk; exact Or.inl ⟨rfl, rfl⟩
  | 7, hk => cases hk; exact Or.inl ⟨rfl, rfl⟩
  | k + 8, hk => exact absurd hk (by simp)
set_option maxHeartbeats 4000000 in
set_option maxRecDepth 100000 in
theorem c_init7 (g : XH) (o : XL) (ho : g o ≠ none) : X mX7_init 0 (xEnt mX7_init [xR o]) [] g 0 0 (pVoid g) := by
  show X mX7_init 0 [xR o] [] g 0 0 _
  refine x_aload_n dX7_init_0 rfl ?_
  refine x_objInit dX7_init_1 wd211 wd46 wd47 (by decide) (Nat.le_of_ble_eq_true rfl) ?_
  exact x_vret dX7_init_4 rfl pV
set_option maxHeartbeats 4000000 in
set_option maxRecDepth 100000 in
theorem c_init2 (g : XH) (o : XL) (ho : g o ≠ none) : X mX2_init 0 (xEnt mX2_init [xR o]) [] g 0 0 (pVoid g) := by
  show X mX2_init 0 [xR o] [] g 0 0 _
  refine x_aload_n dX2_init_0 rfl ?_
  refine x_objInit dX2_init_1 wd70 wd46 wd47 (by decide) (Nat.le_of_ble_eq_true rfl) ?_
  exact x_vret dX2_init_4 rfl pV
set_option maxHeartbeats 4000000 in
set_option maxRecDepth 100000 in
theorem c_init6_6 (g0 : XH) (b t : Int) (h0 : g0 (6, b, t) = some (.inl (6, [xN, xN, xI 0]))) (h1 : g0 (16, b, t) = none) (h2 : g0 (26, b, t) = none) : X mX6_init 0 (xEnt mX6_init [xR (6, b, t)]) [] g0 2 12 (fun o h' => o = .inl none ∧ h' (6, b, t) = some (.inl (6, [xR (16, b, t), xR (26, b, t), xI 0])) ∧ h' (16, b, t) = some (.inr (1, 6, xZero 1)) ∧ h' (26, b, t) = some (.inr (1, 6, xZero 1)) ∧ ∀ l : XL, l ≠ (6, b, t) → l ≠ (16, b, t) → l ≠ (26, b, t) → h' l = g0 l) := by
  show X mX6_init 0 [xR (6, b, t)] [] g0 2 12 _
  refine x_aload_n dX6_init_0 rfl ?_
  refine x_objInit dX6_init_1 wd144 wd46 wd47 (by decide) (Nat.le_of_ble_eq_true rfl) ?_
  refine x_aload_n dX6_init_4 rfl ?_
  refine x_bipush (v := 6) dX6_init_5 (by decide) ?_
  refine x_newarray (16, b, t) (t := 1) (n := 6) (N := 6) dX6_init_7 rfl wd166 h1 (show (16 : Nat) ≠ 99 by decide) rfl (by decide) (by omega) (by omega) ?_
  refine x_hg (fun g1_1 eg1_1 => ?_)
  have h0_g1_1 : g1_1 (6, b, t) = some (.inl (6, [xN, xN, xI 0])) := by rw [eg1_1]; exact (xu_o (nK (by decide) _ _ _ _)).trans h0
  have h2_g1_1 : g1_1 (26, b, t) = none := by rw [eg1_1]; exact (xu_o (nK (by decide) _ _ _ _)).trans h2
  have v16_g1_1 : g1_1 (16, b, t) = some (.inr (1, 6, xZero 1)) := by rw [eg1_1]; exact xu_at
  refine x_putF dX6_init_9 fl_RX6_9 (fun r hr => by cases hr; exact ⟨rfl, rfl⟩) h0_g1_1 xfit_a (Nat.le_of_ble_eq_true rfl) rfl rfl ?_
  refine x_hg (fun g1_2 eg1_2 => ?_)
  have h2_g1_2 : g1_2 (26, b, t) = none := by rw [eg1_2]; exact (xu_o (nK (by decide) _ _ _ _)).trans h2_g1_1
  have v16_g1_2 : g1_2 (16, b, t) = some (.inr (1, 6, xZero 1)) := by rw [eg1_2]; exact (xu_o (nK (by decide) _ _ _ _)).trans v16_g1_1
  have v6_g1_2 : g1_2 (6, b, t) = some (.inl (6, [xR (16, b, t), xN, xI 0])) := by rw [eg1_2]; exact xu_at
  refine x_aload_n dX6_init_12 rfl ?_
  refine x_bipush (v := 6) dX6_init_13 (by decide) ?_
  refine x_newarray (26, b, t) (t := 1) (n := 6) (N := 6) dX6_init_15 rfl wd166 h2_g1_2 (show (26 : Nat) ≠ 99 by decide) rfl (by decide) (by omega) (by omega) ?_
  refine x_hg (fun g1_3 eg1_3 => ?_)
  have v16_g1_3 : g1_3 (16, b, t) = some (.inr (1, 6, xZero 1)) := by rw [eg1_3]; exact (xu_o (nK (by decide) _ _ _ _)).trans v16_g1_2
  have v6_g1_3 : g1_3 (6, b, t) = some (.inl (6, [xR (16, b, t), xN, xI 0])) := by rw [eg1_3]; exact (xu_o (nK (by decide) _ _ _ _)).trans v6_g1_2
  have v26_g1_3 : g1_3 (26, b, t) = some (.inr (1, 6, xZero 1)) := by rw [eg1_3]; exact xu_at
  refine x_putF dX6_init_17 fl_RX6_15 (fun r hr => by cases hr; exact ⟨rfl, rfl⟩) v6_g1_3 xfit_a (Nat.le_of_ble_eq_true rfl) rfl rfl ?_
  refine x_hg (fun g1_4 eg1_4 => ?_)
  have v16_g1_4 : g1_4 (16, b, t) = some (.inr (1, 6, xZero 1)) := by rw [eg1_4]; exact (xu_o (nK (by decide) _ _ _ _)).trans v16_g1_3
  have v26_g1_4 : g1_4 (26, b, t) = some (.inr (1, 6, xZero 1)) := by rw [eg1_4]; exact (xu_o (nK (by decide) _ _ _ _)).trans v26_g1_3
  have v6_g1_4 : g1_4 (6, b, t) = some (.inl (6, [xR (16, b, t), xR (26, b, t), xI 0])) := by rw [eg1_4]; exact xu_at
  refine x_aload_n dX6_init_20 rfl ?_
  refine x_iconst dX6_init_21 ?_
  refine x_put dX6_init_22 fl_RX6_18 (fun r hr => by cases hr; rfl) v6_g1_4 xfit_i (Nat.le_of_ble_eq_true rfl) rfl ?_
  refine x_hg (fun g1_5 eg1_5 => ?_)
  have v16_g1_5 : g1_5 (16, b, t) = some (.inr (1, 6, xZero 1)) := by rw [eg1_5]; exact (xu_o (nK (by decide) _ _ _ _)).trans v16_g1_4
  have v26_g1_5 : g1_5 (26, b, t) = some (.inr (1, 6, xZero 1)) := by rw [eg1_5]; exact (xu_o (nK (by decide) _ _ _ _)).trans v26_g1_4
  have v6_g1_5 : g1_5 (6, b, t) = some (.inl (6, [xR (16, b, t), xR (26, b, t), xI 0])) := by rw [eg1_5]; exact xu_at
  exact x_vret dX6_init_25 rfl ⟨rfl, v6_g1_5, v16_g1_5, v26_g1_5, fun l n0 n1 n2 => (by rw [eg1_5, xu_o n0]; rw [eg1_4, xu_o n0]; rw [eg1_3, xu_o n2]; rw [eg1_2, xu_o n0]; rw [eg1_1, xu_o n1])⟩
set_option maxHeartbeats 4000000 in
set_option maxRecDepth 100000 in
theorem c_init6_7 (g0 : XH) (b t : Int) (h0 : g0 (7, b, t) = some (.inl (6, [xN, xN, xI 0]))) (h1 : g0 (17, b, t) = none) (h2 : g0 (27, b, t) = none) : X mX6_init 0 (xEnt mX6_init [xR (7, b, t)]) [] g0 2 12 (fun o h' => o = .inl none ∧ h' (7, b, t) = some (.inl (6, [xR (17, b, t), xR (27, b, t), xI 0])) ∧ h' (17, b, t) = some (.inr (1, 6, xZero 1)) ∧ h' (27, b, t) = some (.inr (1, 6, xZero 1)) ∧ ∀ l : XL, l ≠ (7, b, t) → l ≠ (17, b, t) → l ≠ (27, b, t) → h' l = g0 l) := by
  show X mX6_init 0 [xR (7, b, t)] [] g0 2 12 _
  refine x_aload_n dX6_init_0 rfl ?_
  refine x_objInit dX6_init_1 wd144 wd46 wd47 (by decide) (Nat.le_of_ble_eq_true rfl) ?_
  refine x_aload_n dX6_init_4 rfl ?_
  refine x_bipush (v := 6) dX6_init_5 (by decide) ?_
  refine x_newarray (17, b, t) (t := 1) (n := 6) (N := 6) dX6_init_7 rfl wd166 h1 (show (17 : Nat) ≠ 99 by decide) rfl (by decide) (by omega) (by omega) ?_
  refine x_hg (fun g1_1 eg1_1 => ?_)
  have h0_g1_1 : g1_1 (7, b, t) = some (.inl (6, [xN, xN, xI 0])) := by rw [eg1_1]; exact (xu_o (nK (by decide) _ _ _ _)).trans h0
  have h2_g1_1 : g1_1 (27, b, t) = none := by rw [eg1_1]; exact (xu_o (nK (by decide) _ _ _ _)).trans h2
  have v17_g1_1 : g1_1 (17, b, t) = some (.inr (1, 6, xZero 1)) := by rw [eg1_1]; exact xu_at
  refine x_putF dX6_init_9 fl_RX6_9 (fun r hr => by cases hr; exact ⟨rfl, rfl⟩) h0_g1_1 xfit_a (Nat.le_of_ble_eq_true rfl) rfl rfl ?_
  refine x_hg (fun g1_2 eg1_2 => ?_)
  have h2_g1_2 : g1_2 (27, b, t) = none := by rw [eg1_2]; exact (xu_o (nK (by decide) _ _ _ _)).trans h2_g1_1
  have v17_g1_2 : g1_2 (17, b, t) = some (.inr (1, 6, xZero 1)) := by rw [eg1_2]; exact (xu_o (nK (by decide) _ _ _ _)).trans v17_g1_1
  have v7_g1_2 : g1_2 (7, b, t) = some (.inl (6, [xR (17, b, t), xN, xI 0])) := by rw [eg1_2]; exact xu_at
  refine x_aload_n dX6_init_12 rfl ?_
  refine x_bipush (v := 6) dX6_init_13 (by decide) ?_
  refine x_newarray (27, b, t) (t := 1) (n := 6) (N := 6) dX6_init_15 rfl wd166 h2_g1_2 (show (27 : Nat) ≠ 99 by decide) rfl (by decide) (by omega) (by omega) ?_
  refine x_hg (fun g1_3 eg1_3 => ?_)
  have v17_g1_3 : g1_3 (17, b, t) = some (.inr (1, 6, xZero 1)) := by rw [eg1_3]; exact (xu_o (nK (by decide) _ _ _ _)).trans v17_g1_2
  have v7_g1_3 : g1_3 (7, b, t) = some (.inl (6, [xR (17, b, t), xN, xI 0])) := by rw [eg1_3]; exact (xu_o (nK (by decide) _ _ _ _)).trans v7_g1_2
  have v27_g1_3 : g1_3 (27, b, t) = some (.inr (1, 6, xZero 1)) := by rw [eg1_3]; exact xu_at
  refine x_putF dX6_init_17 fl_RX6_15 (fun r hr => by cases hr; exact ⟨rfl, rfl⟩) v7_g1_3 xfit_a (Nat.le_of_ble_eq_true rfl) rfl rfl ?_
  refine x_hg (fun g1_4 eg1_4 => ?_)
  have v17_g1_4 : g1_4 (17, b, t) = some (.inr (1, 6, xZero 1)) := by rw [eg1_4]; exact (xu_o (nK (by decide) _ _ _ _)).trans v17_g1_3
  have v27_g1_4 : g1_4 (27, b, t) = some (.inr (1, 6, xZero 1)) := by rw [eg1_4]; exact (xu_o (nK (by decide) _ _ _ _)).trans v27_g1_3
  have v7_g1_4 : g1_4 (7, b, t) = some (.inl (6, [xR (17, b, t), xR (27, b, t), xI 0])) := by rw [eg1_4]; exact xu_at
  refine x_aload_n dX6_init_20 rfl ?_
  refine x_iconst dX6_init_21 ?_
  refine x_put dX6_init_22 fl_RX6_18 (fun r hr => by cases hr; rfl) v7_g1_4 xfit_i (Nat.le_of_ble_eq_true rfl) rfl ?_
  refine x_hg (fun g1_5 eg1_5 => ?_)
  have v17_g1_5 : g1_5 (17, b, t) = some (.inr (1, 6, xZero 1)) := by rw [eg1_5]; exact (xu_o (nK (by decide) _ _ _ _)).trans v17_g1_4
  have v27_g1_5 : g1_5 (27, b, t) = some (.inr (1, 6, xZero 1)) := by rw [eg1_5]; exact (xu_o (nK (by decide) _ _ _ _)).trans v27_g1_4
  have v7_g1_5 : g1_5 (7, b, t) = some (.inl (6, [xR (17, b, t), xR (27, b, t), xI 0])) := by rw [eg1_5]; exact xu_at
  exact x_vret dX6_init_25 rfl ⟨rfl, v7_g1_5, v17_g1_5, v27_g1_5, fun l n0 n1 n2 => (by rw [eg1_5, xu_o n0]; rw [eg1_4, xu_o n0]; rw [eg1_3, xu_o n2]; rw [eg1_2, xu_o n0]; rw [eg1_1, xu_o n1])⟩
set_option maxHeartbeats 4000000 in
set_option maxRecDepth 100000 in
theorem c_init6_8 (g0 : XH) (b t : Int) (h0 : g0 (8, b, t) = some (.inl (6, [xN, xN, xI 0]))) (h1 : g0 (18, b, t) = none) (h2 : g0 (28, b, t) = none) : X mX6_init 0 (xEnt mX6_init [xR (8, b, t)]) [] g0 2 12 (fun o h' => o = .inl none ∧ h' (8, b, t) = some (.inl (6, [xR (18, b, t), xR (28, b, t), xI 0])) ∧ h' (18, b, t) = some (.inr (1, 6, xZero 1)) ∧ h' (28, b, t) = some (.inr (1, 6, xZero 1)) ∧ ∀ l : XL, l ≠ (8, b, t) → l ≠ (18, b, t) → l ≠ (28, b, t) → h' l = g0 l) := by
  show X mX6_init 0 [xR (8, b, t)] [] g0 2 12 _
  refine x_aload_n dX6_init_0 rfl ?_
  refine x_objInit dX6_init_1 wd144 wd46 wd47 (by decide) (Nat.le_of_ble_eq_true rfl) ?_
  refine x_aload_n dX6_init_4 rfl ?_
  refine x_bipush (v := 6) dX6_init_5 (by decide) ?_
  refine x_newarray (18, b, t) (t := 1) (n := 6) (N := 6) dX6_init_7 rfl wd166 h1 (show (18 : Nat) ≠ 99 by decide) rfl (by decide) (by omega) (by omega) ?_
  refine x_hg (fun g1_1 eg1_1 => ?_)
  have h0_g1_1 : g1_1 (8, b, t) = some (.inl (6, [xN, xN, xI 0])) := by rw [eg1_1]; exact (xu_o (nK (by decide) _ _ _ _)).trans h0
  have h2_g1_1 : g1_1 (28, b, t) = none := by rw [eg1_1]; exact (xu_o (nK (by decide) _ _ _ _)).trans h2
  have v18_g1_1 : g1_1 (18, b, t) = some (.inr (1, 6, xZero 1)) := by rw [eg1_1]; exact xu_at
  refine x_putF dX6_init_9 fl_RX6_9 (fun r hr => by cases hr; exact ⟨rfl, rfl⟩) h0_g1_1 xfit_a (Nat.le_of_ble_eq_true rfl) rfl rfl ?_
  refine x_hg (fun g1_2 eg1_2 => ?_)
  have h2_g1_2 : g1_2 (28, b, t) = none := by rw [eg1_2]; exact (xu_o (nK (by decide) _ _ _ _)).trans h2_g1_1
  have v18_g1_2 : g1_2 (18, b, t) = some (.inr (1, 6, xZero 1)) := by rw [eg1_2]; exact (xu_o (nK (by decide) _ _ _ _)).trans v18_g1_1
  have v8_g1_2 : g1_2 (8, b, t) = some (.inl (6, [xR (18, b, t), xN, xI 0])) := by rw [eg1_2]; exact xu_at
  refine x_aload_n dX6_init_12 rfl ?_
  refine x_bipush (v := 6) dX6_init_13 (by decide) ?_
  refine x_newarray (28, b, t) (t := 1) (n := 6) (N := 6) dX6_init_15 rfl wd166 h2_g1_2 (show (28 : Nat) ≠ 99 by decide) rfl (by decide) (by omega) (by omega) ?_
  refine x_hg (fun g1_3 eg1_3 => ?_)
  have v18_g1_3 : g1_3 (18, b, t) = some (.inr (1, 6, xZero 1)) := by rw [eg1_3]; exact (xu_o (nK (by decide) _ _ _ _)).trans v18_g1_2
  have v8_g1_3 : g1_3 (8, b, t) = some (.inl (6, [xR (18, b, t), xN, xI 0])) := by rw [eg1_3]; exact (xu_o (nK (by decide) _ _ _ _)).trans v8_g1_2
  have v28_g1_3 : g1_3 (28, b, t) = some (.inr (1, 6, xZero 1)) := by rw [eg1_3]; exact xu_at
  refine x_putF dX6_init_17 fl_RX6_15 (fun r hr => by cases hr; exact ⟨rfl, rfl⟩) v8_g1_3 xfit_a (Nat.le_of_ble_eq_true rfl) rfl rfl ?_
  refine x_hg (fun g1_4 eg1_4 => ?_)
  have v18_g1_4 : g1_4 (18, b, t) = some (.inr (1, 6, xZero 1)) := by rw [eg1_4]; exact (xu_o (nK (by decide) _ _ _ _)).trans v18_g1_3
  have v28_g1_4 : g1_4 (28, b, t) = some (.inr (1, 6, xZero 1)) := by rw [eg1_4]; exact (xu_o (nK (by decide) _ _ _ _)).trans v28_g1_3
  have v8_g1_4 : g1_4 (8, b, t) = some (.inl (6, [xR (18, b, t), xR (28, b, t), xI 0])) := by rw [eg1_4]; exact xu_at
  refine x_aload_n dX6_init_20 rfl ?_
  refine x_iconst dX6_init_21 ?_
  refine x_put dX6_init_22 fl_RX6_18 (fun r hr => by cases hr; rfl) v8_g1_4 xfit_i (Nat.le_of_ble_eq_true rfl) rfl ?_
  refine x_hg (fun g1_5 eg1_5 => ?_)
  have v18_g1_5 : g1_5 (18, b, t) = some (.inr (1, 6, xZero 1)) := by rw [eg1_5]; exact (xu_o (nK (by decide) _ _ _ _)).trans v18_g1_4
  have v28_g1_5 : g1_5 (28, b, t) = some (.inr (1, 6, xZero 1)) := by rw [eg1_5]; exact (xu_o (nK (by decide) _ _ _ _)).trans v28_g1_4
  have v8_g1_5 : g1_5 (8, b, t) = some (.inl (6, [xR (18, b, t), xR (28, b, t), xI 0])) := by rw [eg1_5]; exact xu_at
  exact x_vret dX6_init_25 rfl ⟨rfl, v8_g1_5, v18_g1_5, v28_g1_5, fun l n0 n1 n2 => (by rw [eg1_5, xu_o n0]; rw [eg1_4, xu_o n0]; rw [eg1_3, xu_o n2]; rw [eg1_2, xu_o n0]; rw [eg1_1, xu_o n1])⟩
set_option maxHeartbeats 4000000 in
set_option maxRecDepth 100000 in
theorem c_init1 (g0 : XH) (b : Int) (h0 : g0 (14, b, 0) = some (.inl (1, [xN, xN, xI 0, xI 0, xI 0, xJ 0, xJ 0, xI 0, xI 0, xI 0]))) (h1 : g0 (30, b, 0) = none) (h2 : g0 (31, b, 0) = none) : X mX1_init 0 (xEnt mX1_init [xR (14, b, 0)]) [] g0 2 240 (fun o h' => o = .inl none ∧ h' (14, b, 0) = some (.inl (1, [xR (30, b, 0), xR (31, b, 0), xI 0, xI 0, xI 0, xJ 0, xJ 0, xI 0, xI 0, xI 0])) ∧ h' (30, b, 0) = some (.inr (1, 120, xZero 1)) ∧ h' (31, b, 0) = some (.inr (1, 120, xZero 1)) ∧ ∀ l : XL, l ≠ (14, b, 0) → l ≠ (30, b, 0) → l ≠ (31, b, 0) → h' l = g0 l) := by
  show X mX1_init 0 [xR (14, b, 0)] [] g0 2 240 _
  refine x_aload_n dX1_init_0 rfl ?_
  refine x_objInit dX1_init_1 wd272 wd46 wd47 (by decide) (Nat.le_of_ble_eq_true rfl) ?_
  refine x_aload_n dX1_init_4 rfl ?_
  refine x_bipush (v := 120) dX1_init_5 (by decide) ?_
  refine x_newarray (30, b, 0) (t := 1) (n := 120) (N := 120) dX1_init_7 rfl wd166 h1 (show (30 : Nat) ≠ 99 by decide) rfl (by decide) (by omega) (by omega) ?_
  refine x_hg (fun g1_1 eg1_1 => ?_)
  have h0_g1_1 : g1_1 (14, b, 0) = some (.inl (1, [xN, xN, xI 0, xI 0, xI 0, xJ 0, xJ 0, xI 0, xI 0, xI 0])) := by rw [eg1_1]; exact (xu_o (nK (by decide) _ _ _ _)).trans h0
  have h2_g1_1 : g1_1 (31, b, 0) = none := by rw [eg1_1]; exact (xu_o (nK (by decide) _ _ _ _)).trans h2
  have v30_g1_1 : g1_1 (30, b, 0) = some (.inr (1, 120, xZero 1)) := by rw [eg1_1]; exact xu_at
  refine x_putF dX1_init_9 fl_RX1_9 (fun r hr => by cases hr; exact ⟨rfl, rfl⟩) h0_g1_1 xfit_a (Nat.le_of_ble_eq_true rfl) rfl rfl ?_
  refine x_hg (fun g1_2 eg1_2 => ?_)
  have h2_g1_2 : g1_2 (31, b, 0) = none := by rw [eg1_2]; exact (xu_o (nK (by decide) _ _ _ _)).trans h2_g1_1
  have v30_g1_2 : g1_2 (30, b, 0) = some (.inr (1, 120, xZero 1)) := by rw [eg1_2]; exact (xu_o (nK (by decide) _ _ _ _)).trans v30_g1_1
  have v14_g1_2 : g1_2 (14, b, 0) = some (.inl (1, [xR (30, b, 0), xN, xI 0, xI 0, xI 0, xJ 0, xJ 0, xI 0, xI 0, xI 0])) := by rw [eg1_2]; exact xu_at
  refine x_aload_n dX1_init_12 rfl ?_
  refine x_bipush (v := 120) dX1_init_13 (by decide) ?_
  refine x_newarray (31, b, 0) (t := 1) (n := 120) (N := 120) dX1_init_15 rfl wd166 h2_g1_2 (show (31 : Nat) ≠ 99 by decide) rfl (by decide) (by omega) (by omega) ?_
  refine x_hg (fun g1_3 eg1_3 => ?_)
  have v30_g1_3 : g1_3 (30, b, 0) = some (.inr (1, 120, xZero 1)) := by rw [eg1_3]; exact (xu_o (nK (by decide) _ _ _ _)).trans v30_g1_2
  have v14_g1_3 : g1_3 (14, b, 0) = some (.inl (1, [xR (30, b, 0), xN, xI 0, xI 0, xI 0, xJ 0, xJ 0, xI 0, xI 0, xI 0])) := by rw [eg1_3]; exact (xu_o (nK (by decide) _ _ _ _)).trans v14_g1_2
  have v31_g1_3 : g1_3 (31, b, 0) = some (.inr (1, 120, xZero 1)) := by rw [eg1_3]; exact xu_at
  refine x_putF dX1_init_17 fl_RX1_15 (fun r hr => by cases hr; exact ⟨rfl, rfl⟩) v14_g1_3 xfit_a (Nat.le_of_ble_eq_true rfl) rfl rfl ?_
  refine x_hg (fun g1_4 eg1_4 => ?_)
  have v30_g1_4 : g1_4 (30, b, 0) = some (.inr (1, 120, xZero 1)) := by rw [eg1_4]; exact (xu_o (nK (by decide) _ _ _ _)).trans v30_g1_3
  have v31_g1_4 : g1_4 (31, b, 0) = some (.inr (1, 120, xZero 1)) := by rw [eg1_4]; exact (xu_o (nK (by decide) _ _ _ _)).trans v31_g1_3
  have v14_g1_4 : g1_4 (14, b, 0) = some (.inl (1, [xR (30, b, 0), xR (31, b, 0), xI 0, xI 0, xI 0, xJ 0, xJ 0, xI 0, xI 0, xI 0])) := by rw [eg1_4]; exact xu_at
  refine x_aload_n dX1_init_20 rfl ?_
  refine x_iconst dX1_init_21 ?_
  refine x_put dX1_init_22 fl_RX1_18 (fun r hr => by cases hr; rfl) v14_g1_4 xfit_i (Nat.le_of_ble_eq_true rfl) rfl ?_
  refine x_hg (fun g1_5 eg1_5 => ?_)
  have v30_g1_5 : g1_5 (30, b, 0) = some (.inr (1, 120, xZero 1)) := by rw [eg1_5]; exact (xu_o (nK (by decide) _ _ _ _)).trans v30_g1_4
  have v31_g1_5 : g1_5 (31, b, 0) = some (.inr (1, 120, xZero 1)) := by rw [eg1_5]; exact (xu_o (nK (by decide) _ _ _ _)).trans v31_g1_4
  have v14_g1_5 : g1_5 (14, b, 0) = some (.inl (1, [xR (30, b, 0), xR (31, b, 0), xI 0, xI 0, xI 0, xJ 0, xJ 0, xI 0, xI 0, xI 0])) := by rw [eg1_5]; exact xu_at
  refine x_aload_n dX1_init_25 rfl ?_
  refine x_iconst dX1_init_26 ?_
  refine x_put dX1_init_27 fl_RX1_22 (fun r hr => by cases hr; rfl) v14_g1_5 xfit_i (Nat.le_of_ble_eq_true rfl) rfl ?_
  refine x_hg (fun g1_6 eg1_6 => ?_)
  have v30_g1_6 : g1_6 (30, b, 0) = some (.inr (1, 120, xZero 1)) := by rw [eg1_6]; exact (xu_o (nK (by decide) _ _ _ _)).trans v30_g1_5
  have v31_g1_6 : g1_6 (31, b, 0) = some (.inr (1, 120, xZero 1)) := by rw [eg1_6]; exact (xu_o (nK (by decide) _ _ _ _)).trans v31_g1_5
  have v14_g1_6 : g1_6 (14, b, 0) = some (.inl (1, [xR (30, b, 0), xR (31, b, 0), xI 0, xI 0, xI 0, xJ 0, xJ 0, xI 0, xI 0, xI 0])) := by rw [eg1_6]; exact xu_at
  refine x_aload_n dX1_init_30 rfl ?_
  refine x_iconst dX1_init_31 ?_
  refine x_put dX1_init_32 fl_RX1_25 (fun r hr => by cases hr; rfl) v14_g1_6 xfit_i (Nat.le_of_ble_eq_true rfl) rfl ?_
  refine x_hg (fun g1_7 eg1_7 => ?_)
  have v30_g1_7 : g1_7 (30, b, 0) = some (.inr (1, 120, xZero 1)) := by rw [eg1_7]; exact (xu_o (nK (by decide) _ _ _ _)).trans v30_g1_6
  have v31_g1_7 : g1_7 (31, b, 0) = some (.inr (1, 120, xZero 1)) := by rw [eg1_7]; exact (xu_o (nK (by decide) _ _ _ _)).trans v31_g1_6
  have v14_g1_7 : g1_7 (14, b, 0) = some (.inl (1, [xR (30, b, 0), xR (31, b, 0), xI 0, xI 0, xI 0, xJ 0, xJ 0, xI 0, xI 0, xI 0])) := by rw [eg1_7]; exact xu_at
  refine x_aload_n dX1_init_35 rfl ?_
  refine x_lconst (v := 0) dX1_init_36 (by decide) ?_
  refine x_put dX1_init_37 fl_RX1_28 (fun r hr => by cases hr; rfl) v14_g1_7 xfit_j (Nat.le_of_ble_eq_true rfl) rfl ?_
  refine x_hg (fun g1_8 eg1_8 => ?_)
  have v30_g1_8 : g1_8 (30, b, 0) = some (.inr (1, 120, xZero 1)) := by rw [eg1_8]; exact (xu_o (nK (by decide) _ _ _ _)).trans v30_g1_7
  have v31_g1_8 : g1_8 (31, b, 0) = some (.inr (1, 120, xZero 1)) := by rw [eg1_8]; exact (xu_o (nK (by decide) _ _ _ _)).trans v31_g1_7
  have v14_g1_8 : g1_8 (14, b, 0) = some (.inl (1, [xR (30, b, 0), xR (31, b, 0), xI 0, xI 0, xI 0, xJ 0, xJ 0, xI 0, xI 0, xI 0])) := by rw [eg1_8]; exact xu_at
  refine x_aload_n dX1_init_40 rfl ?_
  refine x_lconst (v := 0) dX1_init_41 (by decide) ?_
  refine x_put dX1_init_42 fl_RX1_32 (fun r hr => by cases hr; rfl) v14_g1_8 xfit_j (Nat.le_of_ble_eq_true rfl) rfl ?_
  refine x_hg (fun g1_9 eg1_9 => ?_)
  have v30_g1_9 : g1_9 (30, b, 0) = some (.inr (1, 120, xZero 1)) := by rw [eg1_9]; exact (xu_o (nK (by decide) _ _ _ _)).trans v30_g1_8
  have v31_g1_9 : g1_9 (31, b, 0) = some (.inr (1, 120, xZero 1)) := by rw [eg1_9]; exact (xu_o (nK (by decide) _ _ _ _)).trans v31_g1_8
  have v14_g1_9 : g1_9 (14, b, 0) = some (.inl (1, [xR (30, b, 0), xR (31, b, 0), xI 0, xI 0, xI 0, xJ 0, xJ 0, xI 0, xI 0, xI 0])) := by rw [eg1_9]; exact xu_at
  refine x_aload_n dX1_init_45 rfl ?_
  refine x_iconst dX1_init_46 ?_
  refine x_put dX1_init_47 fl_RX1_35 (fun r hr => by cases hr; rfl) v14_g1_9 xfit_i (Nat.le_of_ble_eq_true rfl) rfl ?_
  refine x_hg (fun g1_10 eg1_10 => ?_)
  have v30_g1_10 : g1_10 (30, b, 0) = some (.inr (1, 120, xZero 1)) := by rw [eg1_10]; exact (xu_o (nK (by decide) _ _ _ _)).trans v30_g1_9
  have v31_g1_10 : g1_10 (31, b, 0) = some (.inr (1, 120, xZero 1)) := by rw [eg1_10]; exact (xu_o (nK (by decide) _ _ _ _)).trans v31_g1_9
  have v14_g1_10 : g1_10 (14, b, 0) = some (.inl (1, [xR (30, b, 0), xR (31, b, 0), xI 0, xI 0, xI 0, xJ 0, xJ 0, xI 0, xI 0, xI 0])) := by rw [eg1_10]; exact xu_at
  refine x_aload_n dX1_init_50 rfl ?_
  refine x_iconst dX1_init_51 ?_
  refine x_put dX1_init_52 fl_RX1_38 (fun r hr => by cases hr; rfl) v14_g1_10 xfit_i (Nat.le_of_ble_eq_true rfl) rfl ?_
  refine x_hg (fun g1_11 eg1_11 => ?_)
  have v30_g1_11 : g1_11 (30, b, 0) = some (.inr (1, 120, xZero 1)) := by rw [eg1_11]; exact (xu_o (nK (by decide) _ _ _ _)).trans v30_g1_10
  have v31_g1_11 : g1_11 (31, b, 0) = some (.inr (1, 120, xZero 1)) := by rw [eg1_11]; exact (xu_o (nK (by decide) _ _ _ _)).trans v31_g1_10
  have v14_g1_11 : g1_11 (14, b, 0) = some (.inl (1, [xR (30, b, 0), xR (31, b, 0), xI 0, xI 0, xI 0, xJ 0, xJ 0, xI 0, xI 0, xI 0])) := by rw [eg1_11]; exact xu_at
  refine x_aload_n dX1_init_55 rfl ?_
  refine x_iconst dX1_init_56 ?_
  refine x_put dX1_init_57 fl_RX1_41 (fun r hr => by cases hr; rfl) v14_g1_11 xfit_i (Nat.le_of_ble_eq_true rfl) rfl ?_
  refine x_hg (fun g1_12 eg1_12 => ?_)
  have v30_g1_12 : g1_12 (30, b, 0) = some (.inr (1, 120, xZero 1)) := by rw [eg1_12]; exact (xu_o (nK (by decide) _ _ _ _)).trans v30_g1_11
  have v31_g1_12 : g1_12 (31, b, 0) = some (.inr (1, 120, xZero 1)) := by rw [eg1_12]; exact (xu_o (nK (by decide) _ _ _ _)).trans v31_g1_11
  have v14_g1_12 : g1_12 (14, b, 0) = some (.inl (1, [xR (30, b, 0), xR (31, b, 0), xI 0, xI 0, xI 0, xJ 0, xJ 0, xI 0, xI 0, xI 0])) := by rw [eg1_12]; exact xu_at
  exact x_vret dX1_init_60 rfl ⟨rfl, v14_g1_12, v30_g1_12, v31_g1_12, fun l n0 n1 n2 => (by rw [eg1_12, xu_o n0]; rw [eg1_11, xu_o n0]; rw [eg1_10, xu_o n0]; rw [eg1_9, xu_o n0]; rw [eg1_8, xu_o n0]; rw [eg1_7, xu_o n0]; rw [eg1_6, xu_o n0]; rw [eg1_5, xu_o n0]; rw [eg1_4, xu_o n0]; rw [eg1_3, xu_o n2]; rw [eg1_2, xu_o n0]; rw [eg1_1, xu_o n1])⟩

