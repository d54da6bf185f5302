/-! may a rule be on -/
def CanOn (S : XS) (r on : Int) : Prop := boundN S r (S.1 (34, r, 0) 2).toNat = 511 ∧ ∃ g, GOk g ∧ Lay S.1 (zOr on (zShl 1 r)) g
def pCan (S : XS) (r on : Int) : XO → XH → Prop := fun o h' => ∃ g, GOk g ∧ h' = hp (rowI S (33, 0, 0) g 6) ∧ ((o = .inl (some (xI 1)) ∧ CanOn S r on) ∨ (o = .inl (some (xI 0)) ∧ ¬ CanOn S r on))
theorem GOk.of {S : XS} (hw : WI S) : GOk (S.1 (33, 0, 0)) := fun x _ _ => wfa33 hw x
set_option maxHeartbeats 4000000 in
set_option maxRecDepth 100000 in
theorem c_canBeOn (S : XS) (hw : WI S) (r on : Int) (h1 : 0 ≤ r) (h2 : r < 10) : X mX5_canBeOn 0 (xEnt mX5_canBeOn [xR (4, 0, 0), xI r, xI on]) [] (hp S) 0 0 (pCan S r on) := by
  show X mX5_canBeOn 0 [xR (4, 0, 0), xI r, xI on] [] (hp S) 0 0 _
  refine x_aload_n dX5_canBeOn_0 rfl ?_
  refine x_get (v := xR (32, 0, 0)) dX5_canBeOn_1 fl_RX5_11 (hp4 S) rfl ?_
  refine x_iload_n dX5_canBeOn_4 rfl ?_
  refine x_alda (l2 := (34, r, 0)) dX5_canBeOn_5 (hp32 S) (show (32 : Nat) ≠ 99 by decide) (by decide) (by decide) (by omega) (by omega) (by decide) rfl ?_
  refine x_callV_r (a := 0) (b := 0) (as := []) (rest := []) ok_X4_isBound dX5_canBeOn_6 wd693 ⟨wd694, wd695⟩ (hp34 S (by omega) (by omega)) rfl rfl (c_isBound S hw r (by omega) (by omega) (S.1 (34, r, 0) 2).toNat (by have q := wf34_2 hw (b := r) (by omega) (by omega); exact (Int.toNat_of_nonneg q.1).symm) (by have q := wf34_2 hw (b := r) (by omega) (by omega); omega)) rfl (Nat.le_of_ble_eq_true rfl) (Nat.le_of_ble_eq_true rfl) (by decide) (by omega) (by omega) ?_
  by_cases b6 : boundN S r (S.1 (34, r, 0) 2).toNat = 511
  · refine x_top (bI_t b6) ?_
    refine x_if_eq (tgt := 28) dX5_canBeOn_9 (by decide) ⟨by decide, by decide⟩ (fun z => absurd z (by decide)) (fun _ => ?_)
    refine x_aload_n dX5_canBeOn_12 rfl ?_
    refine x_iload_n dX5_canBeOn_13 rfl ?_
    refine x_iconst dX5_canBeOn_14 ?_
    refine x_iload_n dX5_canBeOn_15 rfl ?_
    refine x_ishl dX5_canBeOn_16 ?_
    refine x_ior dX5_canBeOn_17 ?_
    refine x_callV (a := 0) (b := 0) (as := [xI (zOr on (zShl 1 r))]) (rest := []) ok_X5_findLayers dX5_canBeOn_18 wd377 ⟨wd378, wd379⟩ (hp4 S) rfl rfl (c_findLayers S hw (zOr on (zShl 1 r))) rfl (Nat.le_of_ble_eq_true rfl) (Nat.le_of_ble_eq_true rfl) (by decide) (by omega) (by omega) (fun _ q => by obtain ⟨g, q0, q1, q2⟩ := q; rcases q2 with ⟨q2, -⟩ | ⟨q2, -⟩ <;> cases q2) (fun _ _ q => ?_) (fun _ _ q => by obtain ⟨g, q0, q1, q2⟩ := q; rcases q2 with ⟨q2, -⟩ | ⟨q2, -⟩ <;> cases q2)
    obtain ⟨g18, gq18, rfl, q18⟩ := q
    rcases q18 with ⟨qo18, ql18, qb18⟩ | ⟨qo18, qn18⟩
    · cases qo18
      refine x_if_eq (tgt := 28) dX5_canBeOn_21 (by decide) ⟨by decide, by decide⟩ (fun z => absurd z (by decide)) (fun _ => ?_)
      refine x_iconst dX5_canBeOn_24 ?_
      refine x_goto (tgt := 29) dX5_canBeOn_25 (by decide) ?_
      exact x_zret dX5_canBeOn_29 rfl (Or.inr rfl) ⟨g18, gq18, rfl, Or.inl ⟨rfl, b6, g18, gq18, ql18⟩⟩
    · cases qo18
      refine x_if_eq (tgt := 28) dX5_canBeOn_21 (by decide) ⟨by decide, by decide⟩ (fun _ => ?_) (fun z => absurd z (by decide))
      refine x_iconst dX5_canBeOn_28 ?_
      exact x_zret dX5_canBeOn_29 rfl (Or.inl rfl) ⟨g18, gq18, rfl, Or.inr ⟨rfl, fun z => by obtain ⟨-, g', a, b⟩ := z; exact qn18 g' a b⟩⟩
  · refine x_top (bI_f b6) ?_
    refine x_if_eq (tgt := 28) dX5_canBeOn_9 (by decide) ⟨by decide, by decide⟩ (fun _ => ?_) (fun z => absurd z (by decide))
    refine x_iconst dX5_canBeOn_28 ?_
    exact x_zret dX5_canBeOn_29 rfl (Or.inl rfl) ⟨S.1 (33, 0, 0), GOk.of hw, by rw [rowI_self], Or.inr ⟨rfl, fun z => b6 z.1⟩⟩
/-! sets of facts: six longs -/
def Sub (A B : Int → Int64) : Prop := ∀ x : Int, 0 ≤ x → x ≤ 5 → ∀ p : Nat, p < 64 → bitJ (A x) p → bitJ (B x) p
/-- a rule's heads are there -/
def Cls (f : XL → Int → Int) (A B : Int → Int64) (j : Int) : Prop := ∀ p : Nat, p < 64 → bitJ (headsF f A B j) p → bitJ (A (f (37, j, 0) 0)) p
/-- which relations feed a rule; some do -/
def StrOk (f : XL → Int → Int) (j : Int) : Prop := (∀ x : Nat, x < 6 → (bitI (f (34, j, 0) 3) x ↔ ∃ i : Nat, (i : Int) < f (34, j, 0) 2 ∧ f (36, j, i) 1 = 0 ∧ f (36, j, i) 0 = x)) ∧ 0 < f (34, j, 0) 2 ∧ f (36, j, 0) 1 = 0
theorem heads_bit (f : XL → Int → Int) (A B : Int → Int64) (r : Int) (p : Nat) (hp : p < 64) : bitJ (headsF f A B r) p ↔ upto f A B r 512 p := jOf_bit _ p hp
theorem fits_mono {f : XL → Int → Int} {A B A' B' : Int → Int64} {r w : Int} (h0 : 0 ≤ w) (hw : w ≤ 511) (hr : RuleOk f r) (ha : ∀ i : Nat, (i : Int) < f (34, r, 0) 2 → f (36, r, i) 1 = 0 → ∀ p : Nat, p < 64 → bitJ (A (f (36, r, i) 0)) p → bitJ (A' (f (36, r, i) 0)) p) (hb : ∀ i : Nat, (i : Int) < f (34, r, 0) 2 → f (36, r, i) 1 ≠ 0 → ∀ p : Nat, p < 64 → bitJ (B' (f (36, r, i) 0)) p → bitJ (B (f (36, r, i) 0)) p) (h : Fits f A B r w) : Fits f A' B' r w := by
  refine ⟨h.1, fun i hi => ?_⟩
  have q := h.2 i hi
  have pi := pairF_in f (36, r, i) (hr.2.2 i hi) w h0 hw
  obtain ⟨p, hp⟩ := Int.eq_ofNat_of_zero_le pi.1
  unfold condOk at q ⊢
  rw [hp] at q ⊢
  by_cases c : f (36, r, i) 1 = 0
  · rw [if_pos c] at q ⊢
    exact ⟨fun _ => c, fun z => ha i hi c p (by omega) (q.mpr z)⟩
  · rw [if_neg c] at q ⊢
    exact ⟨fun z => q.mp (hb i hi c p (by omega) z), fun z => absurd z c⟩
theorem heads_mono {f : XL → Int → Int} {A B A' B' : Int → Int64} {r : Int} (hr : RuleOk f r) (ha : ∀ i : Nat, (i : Int) < f (34, r, 0) 2 → f (36, r, i) 1 = 0 → ∀ p : Nat, p < 64 → bitJ (A (f (36, r, i) 0)) p → bitJ (A' (f (36, r, i) 0)) p) (hb : ∀ i : Nat, (i : Int) < f (34, r, 0) 2 → f (36, r, i) 1 ≠ 0 → ∀ p : Nat, p < 64 → bitJ (B' (f (36, r, i) 0)) p → bitJ (B (f (36, r, i) 0)) p) {p : Nat} (hp : p < 64) (h : bitJ (headsF f A B r) p) : bitJ (headsF f A' B' r) p := by
  rw [heads_bit _ _ _ _ p hp] at h ⊢
  obtain ⟨w, w0, w1, w2, w3⟩ := h
  exact ⟨w, w0, w1, fits_mono w0 (by omega) hr ha hb w2, w3⟩
theorem nat_and (a b : Nat) (ha : a < 64) : a &&& b ≠ 0 ↔ ∃ x, x < 6 ∧ a.testBit x = true ∧ b.testBit x = true := by
  constructor
  · intro h
    obtain ⟨i, hi⟩ := Nat.exists_testBit_of_ne_zero h
    rw [Nat.testBit_and, Bool.and_eq_true] at hi
    refine ⟨i, ?_, hi.1, hi.2⟩
    rcases Nat.lt_or_ge i 6 with z | z
    · exact z
    · have : a < 2 ^ i := Nat.lt_of_lt_of_le ha (Nat.pow_le_pow_right (by decide) z : 2 ^ 6 ≤ 2 ^ i)
      rw [Nat.testBit_lt_two_pow this] at hi
      exact absurd hi.1 (by decide)
  · rintro ⟨x, -, h1, h2⟩ z
    have q : (a &&& b).testBit x = false := by rw [z]; exact Nat.zero_testBit x
    rw [Nat.testBit_and, h1, h2] at q
    exact absurd q (by decide)
theorem zAnd_bit (a b : Int) (h0 : 0 ≤ a) (h1 : a ≤ 63) (g0 : 0 ≤ b) (g1 : b ≤ 63) : zAnd a b ≠ 0 ↔ ∃ x : Nat, x < 6 ∧ bitI a x ∧ bitI b x := by
  obtain ⟨n, rfl⟩ := Int.eq_ofNat_of_zero_le h0
  obtain ⟨m, rfl⟩ := Int.eq_ofNat_of_zero_le g0
  rw [zAnd_nat n m (by omega) (by omega)]
  have e : ((n &&& m : Nat) : Int) ≠ 0 ↔ n &&& m ≠ 0 := by omega
  rw [e, nat_and n m (by omega)]
  constructor
  · rintro ⟨x, x0, x1, x2⟩
    exact ⟨x, x0, (bitI_nat n x (by omega) (by omega)).mpr x1, (bitI_nat m x (by omega) (by omega)).mpr x2⟩
  · rintro ⟨x, x0, x1, x2⟩
    exact ⟨x, x0, (bitI_nat n x (by omega) (by omega)).mp x1, (bitI_nat m x (by omega) (by omega)).mp x2⟩
theorem bitI_orI (s n m : Int) (h0 : 0 ≤ s) (h1 : s ≤ 1023) (n0 : 0 ≤ n) (n1 : n < 10) (m0 : 0 ≤ m) (m1 : m < 31) : bitI (zOr s (zShl 1 n)) m ↔ bitI s m ∨ m = n := by
  obtain ⟨a, rfl⟩ := Int.eq_ofNat_of_zero_le h0
  obtain ⟨b, rfl⟩ := Int.eq_ofNat_of_zero_le n0
  obtain ⟨c, rfl⟩ := Int.eq_ofNat_of_zero_le m0
  rw [bitI_or a b c (by omega) (by omega) (by omega)]
  exact or_congr Iff.rfl ⟨fun q => by omega, fun q => by omega⟩
/-- how many below n -/
noncomputable def cntN (P : Nat → Prop) : Nat → Nat
  | 0 => 0
  | n + 1 => haveI := Classical.propDecidable (P n); if P n then cntN P n + 1 else cntN P n
theorem cntN_t {P : Nat → Prop} {n : Nat} (h : P n) : cntN P (n + 1) = cntN P n + 1 := by rw [cntN]; exact if_pos h
theorem cntN_f {P : Nat → Prop} {n : Nat} (h : ¬ P n) : cntN P (n + 1) = cntN P n := by rw [cntN]; exact if_neg h
theorem cntN_le (P : Nat → Prop) (n : Nat) : cntN P n ≤ n := by
  induction n with
  | zero => exact Nat.le_refl _
  | succ n ih =>
    by_cases h : P n
    · rw [cntN_t h]; omega
    · rw [cntN_f h]; omega
theorem cntN_mono {P Q : Nat → Prop} (n : Nat) (h : ∀ k, k < n → P k → Q k) : cntN P n ≤ cntN Q n := by
  induction n with
  | zero => exact Nat.le_refl _
  | succ n ih =>
    have ih := ih (fun k hk => h k (by omega))
    by_cases z : P n
    · rw [cntN_t z, cntN_t (h n (by omega) z)]; omega
    · rw [cntN_f z]
      by_cases y : Q n
      · rw [cntN_t y]; omega
      · rw [cntN_f y]; exact ih
theorem cntN_lt {P Q : Nat → Prop} (n : Nat) (h : ∀ k, k < n → P k → Q k) {m : Nat} (hm : m < n) (h1 : ¬ P m) (h2 : Q m) : cntN P n + 1 ≤ cntN Q n := by
  induction n with
  | zero => omega
  | succ n ih =>
    by_cases e : m = n
    · subst e
      rw [cntN_f h1, cntN_t h2]
      have := cntN_mono m (fun k hk => h k (by omega))
      omega
    · have ih := ih (fun k hk => h k (by omega)) (by omega)
      by_cases z : P n
      · rw [cntN_t z, cntN_t (h n (by omega) z)]; omega
      · rw [cntN_f z]
        by_cases y : Q n
        · rw [cntN_t y]; omega
        · rw [cntN_f y]; exact ih
noncomputable def cntF (F : Int → Int64) : Nat := cntN (fun q => bitJ (F ((q / 64 : Nat) : Int)) ((q % 64 : Nat) : Int)) 384
theorem cntF_le (F : Int → Int64) : cntF F ≤ 384 := cntN_le _ _
theorem cntF_lt {F G : Int → Int64} (h : Sub F G) {x : Int} (x0 : 0 ≤ x) (x1 : x ≤ 5) (hne : F x ≠ G x) : cntF F + 1 ≤ cntF G := by
  obtain ⟨n, rfl⟩ := Int.eq_ofNat_of_zero_le x0
  have : ∃ p : Nat, p < 64 ∧ ¬ bitJ (F n) p ∧ bitJ (G n) p := by
    apply Classical.byContradiction
    intro z
    apply hne
    apply bitJ_ext
    intro p hp
    refine ⟨h n x0 x1 p hp, fun y => ?_⟩
    apply Classical.byContradiction
    intro w
    exact z ⟨p, hp, w, y⟩
  obtain ⟨p, hp, p1, p2⟩ := this
  have e1 : (64 * n + p) / 64 = n := by omega
  have e2 : (64 * n + p) % 64 = p := by omega
  refine cntN_lt 384 (fun k hk q => h _ (by omega) (by omega) _ (by omega) q) (m := 64 * n + p) (by omega) ?_ ?_
  · rw [e1, e2]; exact p1
  · rw [e1, e2]; exact p2
