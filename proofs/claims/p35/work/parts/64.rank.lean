/-! what holds is there; ranks by relaxation -/
theorem lev_agree {S : XS} (hw : WI S) (HR : RulesOk S) {on : Int} {T C C' : Int → Int64} {g : Int → Int} (hl : Lay S.1 on g) {k : Int} (hk : ∀ x : Int, 0 ≤ x → x ≤ 5 → g x < k → C x = C' x) : ∀ n : Nat, ∀ x : Int, 0 ≤ x → x ≤ 5 → g x ≤ k → ∀ p : Nat, p < 64 → bitJ (levF S.1 on C T n x) p → bitJ (levF S.1 on C' T n x) p := by
  intro n
  induction n with
  | zero => intro x _ _ _ p _ q; exact q
  | succ n ih =>
    intro x x0 x1 hx p hp q
    rw [levF, stepF_bit _ _ _ _ _ _ hp] at q ⊢
    rcases q with q | ⟨j, hj, ho, e, q⟩
    · exact Or.inl (ih x x0 x1 hx p hp q)
    · have y := hl j hj ho
      rw [e] at y
      refine Or.inr ⟨j, hj, ho, e, heads_mono (HR j hj).1 (fun i hi c p hp z => ?_) (fun i hi c p hp z => ?_) hp q⟩
      · have r := dl_rel hw hj hi
        have w := (leastG_ge S.1 g j (S.1 (34, j, 0) 2).toNat i (by omega)).1 c
        exact ih _ r.1 r.2 (by omega) p hp z
      · have r := dl_rel hw hj hi
        have w := (leastG_ge S.1 g j (S.1 (34, j, 0) 2).toNat i (by omega)).2 c
        rw [hk _ r.1 r.2 (by omega)]; exact z
/-- what holds, when the layers below n are done -/
noncomputable def stG (f : XL → Int → Int) (on : Int) (T : Int → Int64) (g : Int → Int) : Nat → Int → Int64
  | 0 => T
  | n + 1 => fun x => if g x = n then jOf (fun p => ∃ m, bitJ (levF f on (stG f on T g n) T m x) p) else stG f on T g n x
theorem stG_stay (f : XL → Int → Int) (on : Int) (T : Int → Int64) (g : Int → Int) (n m : Nat) (h : n ≤ m) (x : Int) (hx : g x < n) : stG f on T g m x = stG f on T g n x := by
  induction m with
  | zero => rw [show n = 0 by omega]
  | succ m ih =>
    rcases Nat.lt_or_eq_of_le h with q | q
    · simp only [stG]
      rw [if_neg (by omega)]
      exact ih (by omega)
    · rw [q]
theorem Stab_is {S : XS} (hw : WI S) (HR : RulesOk S) {on : Int} (T : Int → Int64) {g : Int → Int} (hg : GOk g) (hl : Lay S.1 on g) : Stab S.1 on T (stG S.1 on T g 6) := by
  intro x x0 x1 p hp
  have gx := hg x x0 x1
  obtain ⟨L, hL⟩ := Int.eq_ofNat_of_zero_le gx.1
  have e : stG S.1 on T g 6 x = jOf (fun p => ∃ m, bitJ (levF S.1 on (stG S.1 on T g L) T m x) p) := by
    rw [stG_stay S.1 on T g (L + 1) 6 (by omega) x (by omega)]
    simp only [stG]
    rw [if_pos hL]
  have ag : ∀ y : Int, 0 ≤ y → y ≤ 5 → g y < (L : Int) → stG S.1 on T g L y = stG S.1 on T g 6 y := fun y y0 y1 hy => (stG_stay S.1 on T g L 6 (by omega) y hy).symm
  rw [e, jOf_bit _ _ hp]
  constructor
  · rintro ⟨m, hm⟩; exact ⟨m, lev_agree hw HR hl ag m x x0 x1 (by omega) p hp hm⟩
  · rintro ⟨m, hm⟩; exact ⟨m, lev_agree hw HR hl (fun y y0 y1 hy => (ag y y0 y1 hy).symm) m x x0 x1 (by omega) p hp hm⟩
theorem hl_stab {C : XS} (hC : CB C) {b : Int} (b0 : 0 ≤ b) (b1 : b < C.1 (0, 0, 0) 6) (n : Nat) (hn : (n : Int) ≤ C.1 (9, b, 0) 3) (t : Int) : Stab C.1 (onN C.1 b n) (toldN C.1 b t n) (hl C.1 b n t) := by
  obtain ⟨g, g1, g2⟩ := hC.2.2.2.1 b b0 b1 n hn
  exact hldF_of (Stab_is hC.1 hC.2.1 _ g1 g2)
/-- no fact comes later than with the step 385 -/
theorem lev_385 {S : XS} (hw : WI S) (HR : RulesOk S) {on : Int} {T C : Int → Int64} (m : Nat) (x : Int) (x0 : 0 ≤ x) (x1 : x ≤ 5) (p : Nat) (hp : p < 64) (h : bitJ (levF S.1 on C T m x) p) : bitJ (levF S.1 on C T 385 x) p := by
  have key : ∀ k : Nat, (∃ j, j < k ∧ ∀ x : Int, 0 ≤ x → x ≤ 5 → ∀ p : Nat, p < 64 → bitJ (levF S.1 on C T (j + 1) x) p → bitJ (levF S.1 on C T j x) p) ∨ k ≤ cntF (levF S.1 on C T k) := by
    intro k
    induction k with
    | zero => exact Or.inr (Nat.zero_le _)
    | succ k ih =>
      rcases ih with ⟨j, j1, j2⟩ | ih
      · exact Or.inl ⟨j, by omega, j2⟩
      · by_cases q : ∀ x : Int, 0 ≤ x → x ≤ 5 → ∀ p : Nat, p < 64 → bitJ (levF S.1 on C T (k + 1) x) p → bitJ (levF S.1 on C T k x) p
        · exact Or.inl ⟨k, by omega, q⟩
        · right
          obtain ⟨y, y0, y1, hy⟩ : ∃ y : Int, 0 ≤ y ∧ y ≤ 5 ∧ levF S.1 on C T k y ≠ levF S.1 on C T (k + 1) y := by
            apply Classical.byContradiction
            intro z
            apply q
            intro y y0 y1 p hp hb
            have e : levF S.1 on C T k y = levF S.1 on C T (k + 1) y := by
              apply Classical.byContradiction
              intro z2
              exact z ⟨y, y0, y1, z2⟩
            rw [e]; exact hb
          have c := cntF_lt (F := levF S.1 on C T k) (G := levF S.1 on C T (k + 1)) (fun x _ _ p hp hb => levF_le S.1 on C T k (k + 1) (by omega) x p hp hb) y0 y1 hy
          omega
  have hfix : ∃ j, j < 385 ∧ ∀ x : Int, 0 ≤ x → x ≤ 5 → ∀ p : Nat, p < 64 → bitJ (levF S.1 on C T (j + 1) x) p → bitJ (levF S.1 on C T j x) p := by
    rcases key 385 with h | h
    · exact h
    · have := cntF_le (levF S.1 on C T 385); omega
  obtain ⟨j, j1, j2⟩ := hfix
  exact levF_le S.1 on C T j 385 (by omega) x p hp (lev_fix hw HR j2 m x x0 x1 p hp h)
/-- a condition's fact by a way -/
def cfact (f : XL → Int → Int) (r w c : Int) : Int := 64 * f (36, r, c) 0 + pairF f (36, r, c) w
def hfact (f : XL → Int → Int) (r w : Int) : Int := 64 * f (37, r, 0) 0 + pairF f (37, r, 0) w
def gvN (f : XL → Int → Int) (rk : Int → Int) (r w : Int) : Nat → Int
  | 0 => 0
  | c + 1 => if f (36, r, c) 1 = 0 then (if gvN f rk r w c < rk (cfact f r w c) then rk (cfact f r w c) else gvN f rk r w c) else if rk (cfact f r w c) < 999 then 999 else gvN f rk r w c
def gvV (f : XL → Int → Int) (rk : Int → Int) (r w : Int) (n : Nat) : Int := if 999 ≤ gvN f rk r w n then 999 else gvN f rk r w n + 1
theorem gvN_in {f : XL → Int → Int} {rk : Int → Int} (h : ∀ k, 0 ≤ rk k ∧ rk k ≤ 999) (r w : Int) (n : Nat) : 0 ≤ gvN f rk r w n ∧ gvN f rk r w n ≤ 999 := by
  induction n with
  | zero => exact ⟨Int.le_refl _, by show (0 : Int) ≤ 999; omega⟩
  | succ n ih =>
    have a := h (cfact f r w n)
    simp only [gvN]
    (repeat' split) <;> omega
theorem gvV_in {f : XL → Int → Int} {rk : Int → Int} (h : ∀ k, 0 ≤ rk k ∧ rk k ≤ 999) (r w : Int) (n : Nat) : 1 ≤ gvV f rk r w n ∧ gvV f rk r w n ≤ 999 := by
  have a := gvN_in (f := f) h r w n
  unfold gvV
  split <;> omega
theorem gvN_mono {f : XL → Int → Int} {rk : Int → Int} (h : ∀ k, 0 ≤ rk k ∧ rk k ≤ 999) (r w : Int) (n : Nat) : gvN f rk r w n ≤ gvN f rk r w (n + 1) := by
  have a := gvN_in (f := f) h r w n
  simp only [gvN]
  (repeat' split) <;> omega
theorem gvN_ok {f : XL → Int → Int} {rk : Int → Int} (h : ∀ k, 0 ≤ rk k ∧ rk k ≤ 999) (r w : Int) (n : Nat) (hn : gvN f rk r w n < 999) : ∀ c : Nat, c < n → (f (36, r, c) 1 = 0 → rk (cfact f r w c) ≤ gvN f rk r w n) ∧ (f (36, r, c) 1 ≠ 0 → rk (cfact f r w c) = 999) := by
  induction n with
  | zero => intro c hc; omega
  | succ n ih =>
    intro c hc
    have m := gvN_mono (f := f) h r w n
    rcases Nat.lt_or_eq_of_le (show c ≤ n by omega) with q | q
    · obtain ⟨a, b⟩ := ih (by omega) c q
      exact ⟨fun z => by have := a z; omega, b⟩
    · subst q
      have a := h (cfact f r w c)
      simp only [gvN] at hn ⊢
      constructor
      · intro z
        rw [if_pos z] at hn ⊢
        split <;> omega
      · intro z
        rw [if_neg z] at hn
        by_cases q : rk (cfact f r w c) < 999
        · rw [if_pos q] at hn; omega
        · omega
theorem gvN_le {f : XL → Int → Int} {rk : Int → Int} {r w M : Int} (h0 : 0 ≤ M) (n : Nat) (h : ∀ c : Nat, c < n → (f (36, r, c) 1 = 0 → rk (cfact f r w c) ≤ M) ∧ (f (36, r, c) 1 ≠ 0 → ¬ rk (cfact f r w c) < 999)) : gvN f rk r w n ≤ M := by
  induction n with
  | zero => exact h0
  | succ n ih =>
    have k := ih (fun c hc => h c (by omega))
    obtain ⟨a, b⟩ := h n (by omega)
    simp only [gvN]
    split
    · rename_i z
      have := a z
      split <;> omega
    · rename_i z
      rw [if_neg (b z)]
      exact k
/-- the ranks so far, when the layers below L are done -/
def FI (C : XS) (on : Int) (T H : Int → Int64) (g : Int → Int) (L : Int) (rk : Int → Int) : Prop := (∀ k, 0 ≤ rk k ∧ rk k ≤ 999) ∧ (∀ x p : Nat, x < 6 → p < 64 → rk (64 * x + p) < 999 → bitJ (levF C.1 on H T (rk (64 * x + p)).toNat x) p) ∧ (∀ x p : Nat, x < 6 → p < 64 → bitJ (T x) p → rk (64 * x + p) = 0) ∧ ∀ x p : Nat, x < 6 → p < 64 → g x < L → ∀ m : Nat, m < 999 → bitJ (levF C.1 on H T m x) p → rk (64 * x + p) ≤ m
theorem fact_at {f : XL → Int → Int} {l : XL} (hs : ShOk f l) {w : Int} (w0 : 0 ≤ w) (w1 : w ≤ 511) {x : Int} (x0 : 0 ≤ x) (x1 : x ≤ 5) : ∃ p : Nat, p < 64 ∧ pairF f l w = p ∧ 64 * x + pairF f l w = 64 * ((x.toNat : Nat) : Int) + p := by
  have a := pairF_in f l hs w w0 w1
  exact ⟨(pairF f l w).toNat, by omega, by omega, by omega⟩
/-- what a rule gives by a way is a rank that the head reaches -/
theorem FI.sound {C : XS} (hC : WI C) (HR : RulesOk C) {on : Int} {T H : Int → Int64} {g : Int → Int} (hg : GOk g) (hl : Lay C.1 on g) (hS : Stab C.1 on T H) {L : Int} {rk : Int → Int} (h : FI C on T H g L rk) {r : Nat} (hr : (r : Int) < C.1 (4, 0, 0) 2) (ho : bitI on r) (hL : g (C.1 (37, r, 0) 0) ≤ L) {w : Int} (w0 : 0 ≤ w) (w1 : w ≤ 511) (hi : zAnd w (C.1 (34, r, 0) 4) = 0) (hn : gvV C.1 rk r w (C.1 (34, r, 0) 2).toNat < 999) : ∃ p : Nat, p < 64 ∧ pairF C.1 (37, r, 0) w = p ∧ bitJ (levF C.1 on H T (gvV C.1 rk r w (C.1 (34, r, 0) 2).toNat).toNat (C.1 (37, r, 0) 0)) p := by
  have c4 := wf4_2 hC
  have s34 := wf34_2 hC (b := (r : Int)) (by omega) (by omega)
  obtain ⟨h1, h2, h3, h4⟩ := h
  have gi := gvN_in (f := C.1) h1 r w (C.1 (34, r, 0) 2).toNat
  have e : gvV C.1 rk r w (C.1 (34, r, 0) 2).toNat = gvN C.1 rk r w (C.1 (34, r, 0) 2).toNat + 1 := by
    unfold gvV at hn ⊢
    split
    · rename_i z; rw [if_pos z] at hn; omega
    · rfl
  have gl : gvN C.1 rk r w (C.1 (34, r, 0) 2).toNat < 999 := by omega
  have ok := gvN_ok (f := C.1) h1 r w _ gl
  obtain ⟨m, hm⟩ := Int.eq_ofNat_of_zero_le gi.1
  rw [hm] at ok
  have ly := hl r hr ho
  have hf : Fits C.1 (levF C.1 on H T m) H r w := by
    refine ⟨hi, fun i hi2 => ?_⟩
    have rel := dl_rel hC hr hi2
    obtain ⟨p, p1, p2, p3⟩ := fact_at ((HR r hr).1.2.2 i hi2) w0 w1 rel.1 rel.2
    obtain ⟨o1, o2⟩ := ok i (by omega)
    have ec : cfact C.1 r w i = 64 * (((C.1 (36, (r : Int), (i : Int)) 0).toNat : Nat) : Int) + p := p3
    have er : (((C.1 (36, (r : Int), (i : Int)) 0).toNat : Nat) : Int) = C.1 (36, r, i) 0 := by omega
    unfold condOk
    rw [p2]
    by_cases q : C.1 (36, r, i) 1 = 0
    · rw [if_pos q]
      refine ⟨fun _ => q, fun _ => ?_⟩
      have k := o1 q
      rw [ec] at k
      have b := h2 (C.1 (36, (r : Int), (i : Int)) 0).toNat p (by omega) p1 (by omega)
      rw [er] at b
      exact levF_le C.1 on H T _ m (by rw [er] at k; omega) _ p p1 b
    · rw [if_neg q]
      refine ⟨fun z => ?_, fun z => absurd z q⟩
      exfalso
      have k := o2 q
      rw [ec] at k
      have lw := (leastG_ge C.1 g r (C.1 (34, r, 0) 2).toNat i (by omega)).2 q
      obtain ⟨m', hm'⟩ := (hS _ rel.1 rel.2 p p1).mp z
      have b := lev_385 hC HR m' _ rel.1 rel.2 p p1 hm'
      have k2 := h4 (C.1 (36, (r : Int), (i : Int)) 0).toNat p (by omega) p1 (by rw [er]; omega) 385 (by omega) (by rw [er]; exact b)
      omega
  have a37 := wf37_0 hC (b := (r : Int)) (by omega) (by omega)
  obtain ⟨p, p1, p2, -⟩ := fact_at (HR r hr).1.2.1 w0 w1 a37.1 a37.2
  refine ⟨p, p1, p2, ?_⟩
  rw [e, hm, show ((m : Int) + 1).toNat = m + 1 by omega, levF, stepF_bit _ _ _ _ _ _ p1]
  exact Or.inr ⟨r, hr, ho, rfl, (heads_bit _ _ _ _ _ p1).mpr ⟨w, w0, by omega, hf, p2⟩⟩
/-- a rank is lowered -/
theorem FI.low {C : XS} (hC : WI C) (HR : RulesOk C) {on : Int} {T H : Int → Int64} {g : Int → Int} (hg : GOk g) (hl : Lay C.1 on g) (hS : Stab C.1 on T H) {L : Int} {rk : Int → Int} (h : FI C on T H g L rk) {r : Nat} (hr : (r : Int) < C.1 (4, 0, 0) 2) (ho : bitI on r) (hL : g (C.1 (37, r, 0) 0) = L) {w : Int} (w0 : 0 ≤ w) (w1 : w ≤ 511) (hi : zAnd w (C.1 (34, r, 0) 4) = 0) (hn : gvV C.1 rk r w (C.1 (34, r, 0) 2).toNat < rk (hfact C.1 r w)) : FI C on T H g L (xUpd rk (hfact C.1 r w) (gvV C.1 rk r w (C.1 (34, r, 0) 2).toNat)) := by
  have c4 := wf4_2 hC
  have a37 := wf37_0 hC (b := (r : Int)) (by omega) (by omega)
  have gi := gvV_in (f := C.1) h.1 r w (C.1 (34, r, 0) 2).toNat
  have hb := h.1 (hfact C.1 r w)
  obtain ⟨p0, p1, p2, p3⟩ := h.sound hC HR hg hl hS hr ho (by omega) w0 w1 hi (by omega)
  have eh : hfact C.1 r w = 64 * (((C.1 (37, (r : Int), 0) 0).toNat : Nat) : Int) + p0 := by unfold hfact; rw [p2]; omega
  obtain ⟨h1, h2, h3, h4⟩ := h
  have at' : ∀ x p : Nat, x < 6 → p < 64 → (64 * (x : Int) + p = hfact C.1 r w ↔ x = (C.1 (37, (r : Int), 0) 0).toNat ∧ p = p0) := fun x p hx hp => by rw [eh]; omega
  refine ⟨fun k => ?_, fun x p hx hp hlt => ?_, fun x p hx hp ht => ?_, fun x p hx hp hgx m hm hb' => ?_⟩
  · simp only [xUpd]; split
    · omega
    · exact h1 k
  · simp only [xUpd] at hlt ⊢
    by_cases q : 64 * (x : Int) + p = hfact C.1 r w
    · rw [if_pos q]
      obtain ⟨q1, q2⟩ := (at' x p hx hp).mp q
      rw [q1, q2, show (((C.1 (37, (r : Int), 0) 0).toNat : Nat) : Int) = C.1 (37, (r : Int), 0) 0 by omega]
      exact p3
    · rw [if_neg q] at hlt ⊢
      exact h2 x p hx hp hlt
  · have k := h3 x p hx hp ht
    simp only [xUpd]
    by_cases q : 64 * (x : Int) + p = hfact C.1 r w
    · rw [← q, k] at hn; omega
    · rw [if_neg q]; exact k
  · have k := h4 x p hx hp hgx m hm hb'
    simp only [xUpd]
    by_cases q : 64 * (x : Int) + p = hfact C.1 r w
    · obtain ⟨q1, q2⟩ := (at' x p hx hp).mp q
      rw [q1, show (((C.1 (37, (r : Int), 0) 0).toNat : Nat) : Int) = C.1 (37, (r : Int), 0) 0 by omega, hL] at hgx
      omega
    · rw [if_neg q]; exact k
/-- no rule gives less -/
def Clo (C : XS) (on : Int) (g : Int → Int) (L : Int) (rk : Int → Int) (r : Nat) : Prop := bitI on r → g (C.1 (37, r, 0) 0) = L → ∀ w : Int, 0 ≤ w → w ≤ 511 → zAnd w (C.1 (34, r, 0) 4) = 0 → rk (hfact C.1 r w) ≤ gvV C.1 rk r w (C.1 (34, r, 0) 2).toNat
theorem FI.next {C : XS} (hC : WI C) (HR : RulesOk C) {on : Int} {T H : Int → Int64} {g : Int → Int} (hg : GOk g) (hl : Lay C.1 on g) (hS : Stab C.1 on T H) {L : Int} {rk : Int → Int} (h : FI C on T H g L rk) (hc : ∀ r : Nat, (r : Int) < C.1 (4, 0, 0) 2 → Clo C on g L rk r) : FI C on T H g (L + 1) rk := by
  have c4 := wf4_2 hC
  obtain ⟨h1, h2, h3, h4⟩ := h
  refine ⟨h1, h2, h3, ?_⟩
  have key : ∀ m : Nat, m < 999 → ∀ x p : Nat, x < 6 → p < 64 → g x ≤ L → bitJ (levF C.1 on H T m x) p → rk (64 * x + p) ≤ m := by
    intro m
    induction m with
    | zero => intro _ x p hx hp _ hb; have := h3 x p hx hp hb; omega
    | succ m ih =>
      intro hm x p hx hp hgx hb
      rw [levF, stepF_bit _ _ _ _ _ _ hp] at hb
      rcases hb with hb | ⟨j, hj, ho, e, hb⟩
      · have := ih (by omega) x p hx hp hgx hb; omega
      · by_cases q : g x < L
        · refine h4 x p hx hp q (m + 1) hm ?_
          rw [levF, stepF_bit _ _ _ _ _ _ hp]
          exact Or.inr ⟨j, hj, ho, e, hb⟩
        · obtain ⟨w, w0, w1, w2, w3⟩ := (heads_bit _ _ _ _ _ hp).mp hb
          have s34 := wf34_2 hC (b := (j : Int)) (by omega) (by omega)
          have k := hc j hj ho (by rw [e]; omega) w w0 (by omega) w2.1
          have eh : hfact C.1 j w = 64 * (x : Int) + p := by unfold hfact; rw [e, w3]
          rw [eh] at k
          have gl : gvN C.1 rk j w (C.1 (34, j, 0) 2).toNat ≤ m := by
            refine gvN_le (by omega) _ fun c hcn => ?_
            have hcc : (c : Int) < C.1 (34, j, 0) 2 := by omega
            have rel := dl_rel hC hj hcc
            obtain ⟨p', q1, q2, q3⟩ := fact_at ((HR j hj).1.2.2 c hcc) w0 (show w ≤ 511 by omega) rel.1 rel.2
            have er : (((C.1 (36, (j : Int), (c : Int)) 0).toNat : Nat) : Int) = C.1 (36, j, c) 0 := by omega
            have ec : cfact C.1 j w c = 64 * (((C.1 (36, (j : Int), (c : Int)) 0).toNat : Nat) : Int) + p' := q3
            have ly := hl j hj ho
            have le := leastG_ge C.1 g j (C.1 (34, j, 0) 2).toNat c (by omega)
            have cw := w2.2 c hcc
            unfold condOk at cw
            rw [q2] at cw
            constructor
            · intro z
              rw [if_pos z] at cw
              rw [ec]
              exact ih (by omega) _ p' (by omega) q1 (by rw [er]; have := le.1 z; rw [e] at ly; omega) (by rw [er]; exact cw.mpr z)
            · intro z zl
              rw [if_neg z] at cw
              rw [ec] at zl
              have b := h2 _ p' (by omega) q1 zl
              rw [er] at b
              exact z (cw.mp ((hS _ rel.1 rel.2 p' q1).mpr ⟨_, b⟩))
          have gz : gvV C.1 rk j w (C.1 (34, j, 0) 2).toNat ≤ ((m + 1 : Nat) : Int) := by
            unfold gvV
            rw [if_neg (by omega)]
            omega
          omega
  intro x p hx hp hgx m hm hb
  exact key m hm x p hx hp (by omega) hb
/-- every fact has its least rank, or none -/
def FinR (C : XS) (b : Int) (n : Nat) (t : Int) (rk : Int → Int) : Prop := ∀ x p : Nat, x < 6 → p < 64 → (∃ m : Nat, rk (64 * x + p) = m ∧ m ≤ 385 ∧ bitJ (levF C.1 (onN C.1 b n) (hl C.1 b n t) (toldN C.1 b t n) m x) p ∧ ∀ m' : Nat, m' < m → ¬ bitJ (levF C.1 (onN C.1 b n) (hl C.1 b n t) (toldN C.1 b t n) m' x) p) ∨ (rk (64 * x + p) = 999 ∧ ∀ m : Nat, ¬ bitJ (levF C.1 (onN C.1 b n) (hl C.1 b n t) (toldN C.1 b t n) m x) p)
theorem FI.fin {C : XS} (hC : WI C) (HR : RulesOk C) {b : Int} {n : Nat} {t : Int} {g : Int → Int} (hg : GOk g) {L : Int} (hL : 5 < L) {rk : Int → Int} (h : FI C (onN C.1 b n) (toldN C.1 b t n) (hl C.1 b n t) g L rk) : FinR C b n t rk := by
  obtain ⟨h1, h2, h3, h4⟩ := h
  intro x p hx hp
  have k := h1 (64 * x + p)
  have gx := hg x (by omega) (by omega)
  by_cases q : rk (64 * x + p) < 999
  · left
    have b1 := h2 x p hx hp q
    refine ⟨(rk (64 * x + p)).toNat, by omega, ?_, b1, fun m' hm' z => ?_⟩
    · have c := h4 x p hx hp (by omega) 385 (by omega) (lev_385 hC HR _ x (by omega) (by omega) p hp b1)
      omega
    · have c := h4 x p hx hp (by omega) m' (by omega) z
      omega
  · right
    refine ⟨by omega, fun m z => ?_⟩
    have c := h4 x p hx hp (by omega) 385 (by omega) (lev_385 hC HR m x (by omega) (by omega) p hp z)
    omega
/-- how much the ranks come to together -/
def rsum (rk : Int → Int) : Nat → Int
  | 0 => 0
  | n + 1 => rsum rk n + rk n
theorem rsum_upd (rk : Int → Int) {q v : Int} (q0 : 0 ≤ q) (n : Nat) : rsum (xUpd rk q v) n = rsum rk n + (if q < n then v - rk q else 0) := by
  induction n with
  | zero => rw [if_neg (by omega)]; rfl
  | succ n ih =>
    simp only [rsum, ih]
    by_cases e : (n : Int) = q
    · subst e
      simp only [xUpd, if_true]
      rw [if_neg (by omega), if_pos (by omega)]
      omega
    · have e2 : xUpd rk q v n = rk n := by simp only [xUpd]; rw [if_neg e]
      rw [e2]
      by_cases l : q < n
      · rw [if_pos l, if_pos (by omega)]; omega
      · rw [if_neg l, if_neg (by omega)]; omega
theorem rsum_in {rk : Int → Int} (h : ∀ k, 0 ≤ rk k ∧ rk k ≤ 999) (n : Nat) : 0 ≤ rsum rk n ∧ rsum rk n ≤ 999 * n := by
  induction n with
  | zero => exact ⟨Int.le_refl _, Int.le_refl _⟩
  | succ n ih =>
    have := h n
    simp only [rsum]
    omega

