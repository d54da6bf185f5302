/-! what follows, by steps and by layers -/
noncomputable def stepF (f : XL → Int → Int) (on : Int) (C F : Int → Int64) : Int → Int64 := fun x => jOf (fun p => bitJ (F x) p ∨ ∃ j : Nat, (j : Int) < f (4, 0, 0) 2 ∧ bitI on j ∧ f (37, j, 0) 0 = x ∧ bitJ (headsF f F C j) p)
/-- what is reached in n steps, where contrary conditions are read in C -/
noncomputable def levF (f : XL → Int → Int) (on : Int) (C T : Int → Int64) : Nat → Int → Int64
  | 0 => T
  | n + 1 => stepF f on C (levF f on C T n)
/-- C is just what is reached -/
def Stab (f : XL → Int → Int) (on : Int) (T C : Int → Int64) : Prop := ∀ x : Int, 0 ≤ x → x ≤ 5 → ∀ p : Nat, p < 64 → (bitJ (C x) p ↔ ∃ n, bitJ (levF f on C T n x) p)
theorem stepF_bit (f : XL → Int → Int) (on : Int) (C F : Int → Int64) (x : Int) (p : Nat) (hp : p < 64) : bitJ (stepF f on C F x) p ↔ (bitJ (F x) p ∨ ∃ j : Nat, (j : Int) < f (4, 0, 0) 2 ∧ bitI on j ∧ f (37, j, 0) 0 = x ∧ bitJ (headsF f F C j) p) := jOf_bit _ p hp
theorem levF_le (f : XL → Int → Int) (on : Int) (C T : Int → Int64) (n m : Nat) (h : n ≤ m) (x : Int) (p : Nat) (hp : p < 64) (q : bitJ (levF f on C T n x) p) : bitJ (levF f on C T m x) p := by
  induction m with
  | zero => rw [show n = 0 by omega] at q; exact q
  | succ m ih =>
    rcases Nat.lt_or_eq_of_le h with z | z
    · rw [levF, stepF_bit _ _ _ _ _ _ hp]; exact Or.inl (ih (by omega))
    · rw [← z]; exact q
/-- the cells of the rules are alike -/
def RuleEq (f f' : XL → Int → Int) : Prop := (∀ r, f (34, r, 0) = f' (34, r, 0)) ∧ (∀ r i, f (36, r, i) = f' (36, r, i)) ∧ (∀ r, f (37, r, 0) = f' (37, r, 0)) ∧ f (4, 0, 0) = f' (4, 0, 0)
theorem heads_eq {f f' : XL → Int → Int} (h : RuleEq f f') (A B : Int → Int64) (r : Int) : headsF f A B r = headsF f' A B r := by
  obtain ⟨h1, h2, h3, -⟩ := h
  unfold headsF upto Fits condOk pairF
  simp only [h1, h2, h3]
theorem stepF_eq {f f' : XL → Int → Int} (h : RuleEq f f') (on : Int) (C F : Int → Int64) : stepF f on C F = stepF f' on C F := by
  unfold stepF
  simp only [heads_eq h, h.2.2.1, h.2.2.2]
theorem levF_eq {f f' : XL → Int → Int} (h : RuleEq f f') (on : Int) (C T : Int → Int64) (n : Nat) : levF f on C T n = levF f' on C T n := by
  induction n with
  | zero => rfl
  | succ n ih => rw [levF, levF, ih, stepF_eq h]
theorem Stab_eq {f f' : XL → Int → Int} (h : RuleEq f f') {on : Int} {T C : Int → Int64} (k : Stab f on T C) : Stab f' on T C := by
  intro x x0 x1 p hp
  rw [k x x0 x1 p hp]
  simp only [levF_eq h]
theorem leastG_eq {f f' : XL → Int → Int} (h : RuleEq f f') (g : Int → Int) (r : Int) (n : Nat) : leastG f g r n = leastG f' g r n := by
  induction n with
  | zero => rfl
  | succ n ih => simp only [leastG, ih, h.2.1]
theorem Lay_eq {f f' : XL → Int → Int} (h : RuleEq f f') {on : Int} {g : Int → Int} (k : Lay f on g) : Lay f' on g := by
  intro j hj ho
  rw [← h.2.2.2] at hj
  have q := k j hj ho
  rw [leastG_eq h, h.1, h.2.2.1] at q
  exact q
theorem RuleEq.symm {f f' : XL → Int → Int} (h : RuleEq f f') : RuleEq f' f := ⟨fun r => (h.1 r).symm, fun r i => (h.2.1 r i).symm, fun r => (h.2.2.1 r).symm, h.2.2.2.symm⟩
theorem RuleOk_eq {f f' : XL → Int → Int} (h : RuleEq f f') {r : Int} (k : RuleOk f r) : RuleOk f' r := by
  unfold RuleOk ShOk at k ⊢
  simp only [h.1, h.2.1, h.2.2.1] at k
  exact k
theorem StrOk_eq {f f' : XL → Int → Int} (h : RuleEq f f') {r : Int} (k : StrOk f r) : StrOk f' r := by
  unfold StrOk at k ⊢
  simp only [h.1, h.2.1] at k
  exact k
theorem RulesOk_eq {S S' : XS} (h : RuleEq S.1 S'.1) (k : RulesOk S) : RulesOk S' := fun j hj => by
  rw [← h.2.2.2] at hj
  exact ⟨RuleOk_eq h (k j hj).1, StrOk_eq h (k j hj).2⟩
theorem RuleEq_33 (S : XS) (g : Int → Int) (n : Int) : RuleEq S.1 (rowI S (33, 0, 0) g n).1 := ⟨fun _ => rfl, fun _ _ => rfl, fun _ => rfl, rfl⟩
/-- conditions all reached: by one step's number -/
theorem lev_max (P : Nat → Nat → Prop) (hm : ∀ i n m, n ≤ m → P i n → P i m) (k : Nat) (h : ∀ i, i < k → ∃ n, P i n) : ∃ n, ∀ i, i < k → P i n := by
  induction k with
  | zero => exact ⟨0, fun i hi => by omega⟩
  | succ k ih =>
    obtain ⟨n, hn⟩ := ih (fun i hi => h i (by omega))
    obtain ⟨m, hm2⟩ := h k (by omega)
    refine ⟨n + m, fun i hi => ?_⟩
    rcases Nat.lt_or_eq_of_le (show i ≤ k by omega) with z | z
    · exact hm i n _ (by omega) (hn i z)
    · subst z; exact hm i m _ (by omega) hm2
/-- heads out of all that is reached are reached -/
theorem lev_heads {f : XL → Int → Int} {on : Int} {C T : Int → Int64} {j : Nat} (hr : RuleOk f j) (hj : (j : Int) < f (4, 0, 0) 2) (ho : bitI on j) (hs : 0 ≤ f (34, j, 0) 2) {X B : Int → Int64} (hX : ∀ i : Nat, (i : Int) < f (34, j, 0) 2 → f (36, j, i) 1 = 0 → ∀ p : Nat, p < 64 → bitJ (X (f (36, j, i) 0)) p → ∃ n, bitJ (levF f on C T n (f (36, j, i) 0)) p) (hB : ∀ i : Nat, (i : Int) < f (34, j, 0) 2 → f (36, j, i) 1 ≠ 0 → C (f (36, j, i) 0) = B (f (36, j, i) 0)) {p : Nat} (hp : p < 64) (h : bitJ (headsF f X B j) p) : ∃ n, bitJ (levF f on C T n (f (37, j, 0) 0)) p := by
  rw [heads_bit _ _ _ _ p hp] at h
  obtain ⟨w, w0, w1, ⟨w2, w3⟩, w4⟩ := h
  have pi : ∀ i : Nat, (i : Int) < f (34, j, 0) 2 → ∃ q : Nat, q < 64 ∧ pairF f (36, j, i) w = q := fun i hi => by
    have a := pairF_in f (36, j, i) (hr.2.2 i hi) w w0 (by omega)
    obtain ⟨q, hq⟩ := Int.eq_ofNat_of_zero_le a.1
    exact ⟨q, by omega, hq⟩
  obtain ⟨n, hn⟩ := lev_max (fun i n => (i : Int) < f (34, j, 0) 2 → f (36, j, i) 1 = 0 → bitJ (levF f on C T n (f (36, j, i) 0)) (pairF f (36, j, i) w)) (fun i n m hnm q a b => by
      obtain ⟨q1, q2, q3⟩ := pi i a
      have y := q a b
      rw [q3] at y ⊢
      exact levF_le f on C T n m hnm _ _ q2 y) (f (34, j, 0) 2).toNat (fun i hi => by
      by_cases c : f (36, j, i) 1 = 0
      · obtain ⟨q1, q2, q3⟩ := pi i (by omega)
        have y := w3 i (by omega)
        unfold condOk at y
        rw [if_pos c, q3] at y
        obtain ⟨n, hn⟩ := hX i (by omega) c q1 q2 (y.mpr c)
        exact ⟨n, fun _ _ => by rw [q3]; exact hn⟩
      · exact ⟨0, fun _ z => absurd z c⟩)
  refine ⟨n + 1, ?_⟩
  rw [levF, stepF_bit _ _ _ _ _ _ hp]
  refine Or.inr ⟨j, hj, ho, rfl, ?_⟩
  rw [heads_bit _ _ _ _ p hp]
  refine ⟨w, w0, w1, ⟨w2, fun i hi => ?_⟩, w4⟩
  have y := w3 i hi
  unfold condOk at y ⊢
  by_cases c : f (36, j, i) 1 = 0
  · rw [if_pos c]
    exact ⟨fun _ => c, fun _ => hn i (by omega) hi c⟩
  · rw [if_neg c] at y ⊢
    rw [hB i hi c]
    exact y
/-- the held so far, when the layers below L are done -/
def LInv (S : XS) (T : Int → Int64) (L : Int) (F : Int → Int64) : Prop :=
  Sub T F ∧ (∀ x : Int, 0 ≤ x → x ≤ 5 → L ≤ S.1 (33, 0, 0) x → F x = T x) ∧
  (∀ j : Nat, (j : Int) < S.1 (4, 0, 0) 2 → bitI (S.1 (6, 0, 0) 2) j → S.1 (33, 0, 0) (S.1 (37, j, 0) 0) < L → Cls S.1 F F j) ∧
  ∀ C : Int → Int64, (∀ x : Int, 0 ≤ x → x ≤ 5 → S.1 (33, 0, 0) x < L → C x = F x) → ∀ x : Int, 0 ≤ x → x ≤ 5 → S.1 (33, 0, 0) x < L → ∀ p : Nat, p < 64 → bitJ (F x) p → ∃ n, bitJ (levF S.1 (S.1 (6, 0, 0) 2) C T n x) p
theorem lay_cond {S : XS} (hw : WI S) (HL : Lay S.1 (S.1 (6, 0, 0) 2) (S.1 (33, 0, 0))) {j i : Nat} (hj : (j : Int) < S.1 (4, 0, 0) 2) (ho : bitI (S.1 (6, 0, 0) 2) j) (hi : (i : Int) < S.1 (34, j, 0) 2) : (S.1 (36, j, i) 1 = 0 → S.1 (33, 0, 0) (S.1 (36, j, i) 0) ≤ S.1 (33, 0, 0) (S.1 (37, j, 0) 0)) ∧ (S.1 (36, j, i) 1 ≠ 0 → S.1 (33, 0, 0) (S.1 (36, j, i) 0) < S.1 (33, 0, 0) (S.1 (37, j, 0) 0)) := by
  have y := HL j hj ho
  have w := leastG_ge S.1 (S.1 (33, 0, 0)) j (S.1 (34, j, 0) 2).toNat i (by omega)
  exact ⟨fun c => by have := w.1 c; omega, fun c => by have := w.2 c; omega⟩
noncomputable def lvX (S : XS) (C T F : Int → Int64) (L : Int) : Int → Int64 := fun x => if S.1 (33, 0, 0) x ≤ L then jOf (fun p => ∃ n, bitJ (levF S.1 (S.1 (6, 0, 0) 2) C T n x) p) else F x
theorem lvX_t {S : XS} {C T F : Int → Int64} {L x : Int} (h : S.1 (33, 0, 0) x ≤ L) {p : Nat} (hp : p < 64) : bitJ (lvX S C T F L x) p ↔ ∃ n, bitJ (levF S.1 (S.1 (6, 0, 0) 2) C T n x) p := by
  unfold lvX
  rw [if_pos h, jOf_bit _ p hp]
theorem lvX_f {S : XS} {C T F : Int → Int64} {L x : Int} (h : ¬ S.1 (33, 0, 0) x ≤ L) : lvX S C T F L x = F x := by
  unfold lvX
  rw [if_neg h]
theorem LInv.next {S : XS} (hw : WI S) (HR : RulesOk S) (HL : Lay S.1 (S.1 (6, 0, 0) 2) (S.1 (33, 0, 0))) {T : Int → Int64} {L : Int} {F F' : Int → Int64} (h : LInv S T L F) (h1 : DLInv S L F F') (h2 : ∀ j : Nat, OnAt S L j → Cls S.1 F' F' j) : LInv S T (L + 1) F' := by
  obtain ⟨a1, a2, a3, a4⟩ := h
  obtain ⟨b1, b2, b3⟩ := h1
  refine ⟨a1.tr b2, fun x x0 x1 hx => ?_, fun j hj ho hl => ?_, fun C hC => ?_⟩
  · rw [b1 x x0 x1 (by omega), a2 x x0 x1 (by omega)]
  · by_cases e : S.1 (33, 0, 0) (S.1 (37, j, 0) 0) = L
    · exact h2 j ⟨hj, ho, e⟩
    · have c := a3 j hj ho (by omega)
      intro p hp q
      have hd := wf37_0 hw (b := (j : Int)) (by omega) (by have := wf4_2 hw; omega)
      refine b2 _ hd.1 hd.2 p hp (c p hp (heads_mono (HR j hj).1 (fun i hi k p hp z => ?_) (fun i hi k p hp z => ?_) hp q))
      · have r := dl_rel hw hj hi
        have y := (lay_cond hw HL hj ho hi).1 k
        rw [b1 _ r.1 r.2 (by omega)] at z
        exact z
      · have r := dl_rel hw hj hi
        exact b2 _ r.1 r.2 p hp z
  · have hCF : ∀ x : Int, 0 ≤ x → x ≤ 5 → S.1 (33, 0, 0) x < L → C x = F x := fun x x0 x1 hx => by
      rw [hC x x0 x1 (by omega), b1 x x0 x1 (by omega)]
    have a5 := a4 C hCF
    have hX : Sub F' (lvX S C T F L) := by
      refine b3 _ (fun x x0 x1 p hp q => ?_) (fun j hj p hp q => ?_)
      · by_cases c : S.1 (33, 0, 0) x ≤ L
        · rw [lvX_t c hp]
          by_cases e : S.1 (33, 0, 0) x < L
          · exact a5 x x0 x1 e p hp q
          · rw [a2 x x0 x1 (by omega)] at q
            exact ⟨0, q⟩
        · rw [lvX_f c]; exact q
      · have sz := wf34_2 hw (b := (j : Int)) (by omega) (by have := wf4_2 hw; have := hj.1; omega)
        rw [lvX_t (by rw [hj.2.2]; exact Int.le_refl L) hp]
        refine lev_heads (HR j hj.1).1 hj.1 hj.2.1 sz.1 (fun i hi k p hp z => ?_) (fun i hi k => ?_) hp q
        · have y := (lay_cond hw HL hj.1 hj.2.1 hi).1 k
          rw [hj.2.2] at y
          exact (lvX_t y hp).mp z
        · have r := dl_rel hw hj.1 hi
          have y := (lay_cond hw HL hj.1 hj.2.1 hi).2 k
          rw [hj.2.2] at y
          exact hCF _ r.1 r.2 y
    intro x x0 x1 hx p hp q
    exact (lvX_t (by omega) hp).mp (hX x x0 x1 p hp q)
theorem LInv.done {S : XS} (hw : WI S) (HR : RulesOk S) {T F : Int → Int64} (h : LInv S T 6 F) : Stab S.1 (S.1 (6, 0, 0) 2) T F := by
  obtain ⟨a1, a2, a3, a4⟩ := h
  have g5 : ∀ x : Int, S.1 (33, 0, 0) x < 6 := fun x => by have := wfa33 hw x; omega
  intro x x0 x1 p hp
  refine ⟨a4 F (fun _ _ _ _ => rfl) x x0 x1 (g5 x) p hp, ?_⟩
  rintro ⟨n, hn⟩
  have : ∀ n : Nat, Sub (levF S.1 (S.1 (6, 0, 0) 2) F T n) F := by
    intro n
    induction n with
    | zero => exact a1
    | succ n ih =>
      intro x x0 x1 p hp q
      rw [levF, stepF_bit _ _ _ _ _ _ hp] at q
      rcases q with q | ⟨j, hj, ho, rfl, q⟩
      · exact ih x x0 x1 p hp q
      · exact a3 j hj ho (g5 _) p hp (heads_mono (HR j hj).1 (fun i hi _ p hp z => by have r := dl_rel hw hj hi; exact ih _ r.1 r.2 p hp z) (fun _ _ _ _ _ z => z) hp q)
  exact this n x x0 x1 p hp hn
theorem LInv.first (S : XS) (hw : WI S) (T : Int → Int64) : LInv S T 0 T := by
  have g0 : ∀ x : Int, 0 ≤ S.1 (33, 0, 0) x := fun x => (wfa33 hw x).1
  exact ⟨Sub.rf T, fun _ _ _ _ => rfl, fun j _ _ h => absurd (g0 (S.1 (37, j, 0) 0)) (by omega), fun C _ x _ _ h => absurd (g0 x) (by omega)⟩
/-- what derive leaves -/
def pDer (S : XS) : XO → XH → Prop := fun o h' => o = .inl none ∧ ∃ g C, GOk g ∧ h' = hp (rowJ (rowI S (33, 0, 0) g 6) (26, 0, 0) C 6) ∧ Stab S.1 (S.1 (6, 0, 0) 2) (S.2.1 (16, 0, 0)) C
set_option maxHeartbeats 4000000 in
set_option maxRecDepth 100000 in
theorem l_derive (S : XS) (hw : WI S) (HR : RulesOk S) (HL : Lay S.1 (S.1 (6, 0, 0) 2) (S.1 (33, 0, 0))) (T : Int → Int64) : ∀ (nn : Nat) (L : Int) (F : Int → Int64), 6 - L < (nn : Int) → (0 ≤ L) → (L ≤ 6) → (LInv S T L F) → X mX5_derive 26 [xR (4, 0, 0), xR (6, 0, 0), xI L] [] (hp (rowJ S (26, 0, 0) F 6)) 0 0 (fun o h' => o = .inl none ∧ ∃ C, h' = hp (rowJ S (26, 0, 0) C 6) ∧ Stab S.1 (S.1 (6, 0, 0) 2) T C) := by
  intro nn
  induction nn with
  | zero => intro L F hm g0 g1 hI; exfalso; omega
  | succ nn ih =>
    intro L F hm g0 g1 hI
    refine x_iload_n dX5_derive_26 rfl ?_
    refine x_iconst dX5_derive_27 ?_
    refine x_icmp_gt (tgt := 43) dX5_derive_28 (by decide) (by first | exact hz _ _ | exact hw.1 _ _ | exact zR_of _ | assumption | exact ⟨by omega, by omega⟩) ⟨by decide, by decide⟩ (fun c28 => ?_) (fun c28 => ?_)
    · exact x_vret dX5_derive_43 rfl (by obtain rfl : L = 6 := (by omega); exact ⟨rfl, F, rfl, hI.done hw HR⟩)
    · refine x_aload_n dX5_derive_31 rfl ?_
      refine x_aload_n dX5_derive_32 rfl ?_
      refine x_iload_n dX5_derive_33 rfl ?_
      refine x_callV (a := 0) (b := 0) (as := [xR (6, 0, 0), xI L]) (rest := []) ok_X5_deriveLayer dX5_derive_34 wd392 ⟨wd394, wd3⟩ (hp4 (rowJ S (26, 0, 0) F 6)) rfl rfl (c_deriveLayer S hw HR HL L (by omega) (by omega) F) rfl (Nat.le_of_ble_eq_true rfl) (Nat.le_of_ble_eq_true rfl) (by decide) (by omega) (by omega) (fun _ q => ?_) (fun _ _ q => by cases q.1) (fun _ _ q => by cases q.1)
      obtain ⟨-, F', rfl, d1, d2⟩ := q
      refine x_iinc (L' := [xR (4, 0, 0), xR (6, 0, 0), xI (L + 1)]) dX5_derive_37 rfl rfl ?_
      refine x_goto (tgt := 26) dX5_derive_40 (by decide) ?_
      exact ih (L + 1) _ (by omega) (by omega) (by omega) (hI.next hw HR HL d1 d2)
theorem leastG_row {S : XS} (hw : WI S) (g : Int → Int) (r : Int) (h1 : 0 ≤ r) (h2 : r < 10) (n : Nat) (hn : n ≤ 3) : leastG S.1 ((rowI S (33, 0, 0) g 6).1 (33, 0, 0)) r n = leastG S.1 g r n := by
  induction n with
  | zero => rfl
  | succ n ih =>
    have ih := ih (by omega)
    have a := wf36_0 hw h1 h2 (show (0 : Int) ≤ (n : Int) by omega) (by omega)
    simp only [leastG, ih]
    rw [rowI_at S (33, 0, 0) g (r := S.1 (36, r, n) 0) (n := 6) (by omega) (by omega)]
theorem Lay_row {S : XS} (hw : WI S) {on : Int} {g : Int → Int} (h : Lay S.1 on g) : Lay (rowI S (33, 0, 0) g 6).1 on ((rowI S (33, 0, 0) g 6).1 (33, 0, 0)) := by
  refine Lay_eq (RuleEq_33 S _ _) (fun j hj ho => ?_)
  have a := wf4_2 hw
  have m := wf34_2 hw (b := (j : Int)) (by omega) (by omega)
  have k := wf37_0 hw (b := (j : Int)) (by omega) (by omega)
  rw [leastG_row hw g j (by omega) (by omega) _ (by omega), rowI_at S (33, 0, 0) g (r := S.1 (37, j, 0) 0) (n := 6) k.1 (by omega)]
  exact h j hj ho
set_option maxHeartbeats 4000000 in
set_option maxRecDepth 100000 in
theorem c_derive (S : XS) (hw : WI S) (HR : RulesOk S) (HT : ∃ g, GOk g ∧ Lay S.1 (S.1 (6, 0, 0) 2) g) : X mX5_derive 0 (xEnt mX5_derive [xR (4, 0, 0), xR (6, 0, 0)]) [] (hp S) 0 0 (pDer S) := by
  show X mX5_derive 0 [xR (4, 0, 0), xR (6, 0, 0), none] [] (hp S) 0 0 _
  refine x_aload_n dX5_derive_0 rfl ?_
  refine x_get (v := xR (16, 0, 0)) dX5_derive_1 fl_RX5_72 (hp6 S) rfl ?_
  refine x_iconst dX5_derive_4 ?_
  refine x_aload_n dX5_derive_5 rfl ?_
  refine x_get (v := xR (26, 0, 0)) dX5_derive_6 fl_RX5_78 (hp6 S) rfl ?_
  refine x_iconst dX5_derive_9 ?_
  refine x_bipush (v := 6) dX5_derive_10 (by decide) ?_
  refine x_copyl (n := 6) dX5_derive_12 ⟨wd374, wd376, wd375, wd35⟩ (hp16 S) (hp26 S) (show (16 : Nat) ≠ 99 by decide) (show (26 : Nat) ≠ 99 by decide) (by decide) (by decide) (by decide) (by decide) (Nat.le_of_ble_eq_true rfl) ?_
  refine x_heq (pr26 S (S.2.1 (16, 0, 0)) 6) ?_
  refine x_aload_n dX5_derive_15 rfl ?_
  refine x_aload_n dX5_derive_16 rfl ?_
  refine x_get (v := xI (S.1 (6, 0, 0) 2)) dX5_derive_17 fl_RX5_87 (hp6 (rowJ S (26, 0, 0) (S.2.1 (16, 0, 0)) 6)) rfl ?_
  refine x_callV (a := 0) (b := 0) (as := [xI (S.1 (6, 0, 0) 2)]) (rest := []) ok_X5_findLayers dX5_derive_20 wd377 ⟨wd378, wd379⟩ (hp4 (rowJ S (26, 0, 0) (S.2.1 (16, 0, 0)) 6)) rfl rfl (c_findLayers (rowJ S (26, 0, 0) (S.2.1 (16, 0, 0)) 6) (WI.row hw) (S.1 (6, 0, 0) 2)) rfl (Nat.le_of_ble_eq_true rfl) (Nat.le_of_ble_eq_true rfl) (by decide) (by omega) (by omega) (fun _ q => by obtain ⟨g, q0, q1, q2⟩ := q; rcases q2 with ⟨q2, -⟩ | ⟨q2, -⟩ <;> cases q2) (fun _ _ q => ?_) (fun _ _ q => by obtain ⟨g, q0, q1, q2⟩ := q; rcases q2 with ⟨q2, -⟩ | ⟨q2, -⟩ <;> cases q2)
  obtain ⟨g20, gq20, rfl, q20⟩ := q
  rcases q20 with ⟨qo20, ql20, qb20⟩ | ⟨qo20, qn20⟩
  · cases qo20
    refine x_pop dX5_derive_23 rfl ?_
    refine x_iconst dX5_derive_24 ?_
    refine x_istore_n (L' := [xR (4, 0, 0), xR (6, 0, 0), xI 0]) dX5_derive_25 (by decide) rfl ?_
    refine x_heq (show hp (rowJ (rowI S (33, 0, 0) g20 6) (26, 0, 0) (S.2.1 (16, 0, 0)) 6) = hp (rowI (rowJ S (26, 0, 0) (S.2.1 (16, 0, 0)) 6) (33, 0, 0) g20 6) from rfl) ?_
    have w2 := WI.row33 hw gq20
    have e33 : Lay (rowI S (33, 0, 0) g20 6).1 (S.1 (6, 0, 0) 2) ((rowI S (33, 0, 0) g20 6).1 (33, 0, 0)) := Lay_row hw ql20
    refine X.weak (l_derive (rowI S (33, 0, 0) g20 6) w2 (RulesOk_eq (RuleEq_33 S _ _) HR) e33 (S.2.1 (16, 0, 0)) 7 0 (S.2.1 (16, 0, 0)) (by omega) (by omega) (by omega) (LInv.first _ w2 _)) (Nat.le_refl _) (Nat.le_refl _) (fun o h q => ?_)
    obtain ⟨q1, C, q2, q3⟩ := q
    exact ⟨q1, g20, C, gq20, q2, Stab_eq (RuleEq_33 S _ _).symm q3⟩
  · exfalso; obtain ⟨g', z1, z2⟩ := HT; exact qn20 g' z1 z2
