/-! p35: the law: what the rules give, round by round -/
/-- a way without the digits of variables that are not in the rule -/
theorem wayz {C : XS} (hC : CB C) {N : Int → Int} {r : Nat} (hr : (r : Int) < C.1 (4, 0, 0) 2) (hN : NL1 C N r) {w : Int} (w0 : 0 ≤ w) (w1 : w ≤ 511) : ∃ w' : Int, 0 ≤ w' ∧ w' ≤ 511 ∧ zAnd w' (C.1 (34, r, 0) 4) = 0 ∧ hfact C.1 r w' = hfact C.1 r w ∧ ∀ c : Nat, (c : Int) < C.1 (34, r, 0) 2 → cfact C.1 r w' c = cfact C.1 r w c := by
  obtain ⟨-, ⟨-, h2, h3, h4, h5⟩, hu, hc⟩ := hN
  have s34 := wf34_2 hC.1 (b := (r : Int)) (by omega) (by have := wf4_2 hC.1; omega)
  have hi := (hC.2.1 r hr).1.1
  obtain ⟨g, hg, gw⟩ : ∃ g : Int → Int, (∀ k, 0 ≤ g k ∧ g k ≤ 7) ∧ wG g = w := ⟨fun k => if k = 0 then w / 64 else if k = 1 then w / 8 % 8 else w % 8, fun k => by dsimp only; split; omega; split <;> omega, by unfold wG; simp only [if_true, show ¬ ((1 : Int) = 0) by decide, show ¬ ((2 : Int) = 0) by decide, show ¬ ((2 : Int) = 1) by decide, if_false]; omega⟩
  let g' : Int → Int := fun v => if zAnd (C.1 (34, r, 0) 4) (zShl 7 (3 * (2 - v))) = 0 then g v else 0
  have hg' : ∀ k, 0 ≤ g' k ∧ g' k ≤ 7 := fun k => by
    have := hg k
    simp only [g']
    split <;> omega
  have eg : ∀ v : Int, 0 ≤ v → v ≤ 2 → UsL N r v (C.1 (34, r, 0) 2).toNat → g' v = g v := fun v v0 v1 hv => if_pos ((hu v v0 v1).mpr hv)
  have us0 : ∀ n : Nat, UsL N r (N (1600 + 16 * (r : Int) + 2)) n ∧ UsL N r (N (1600 + 16 * (r : Int) + 3)) n := fun n => by
    induction n with
    | zero => exact ⟨Or.inl rfl, Or.inr rfl⟩
    | succ n ih => exact ⟨Or.inl ih.1, Or.inl ih.2⟩
  have us1 : ∀ n c : Nat, c < n → UsL N r (N (1600 + 16 * (r : Int) + 5 + 4 * (c : Int))) n ∧ UsL N r (N (1600 + 16 * (r : Int) + 6 + 4 * (c : Int))) n := fun n => by
    induction n with
    | zero => intro c hc; omega
    | succ n ih =>
      intro c hc
      rcases Nat.lt_or_eq_of_le (show c ≤ n by omega) with q | q
      · exact ⟨Or.inl (ih c q).1, Or.inl (ih c q).2⟩
      · subst q; exact ⟨Or.inr (Or.inl rfl), Or.inr (Or.inr rfl)⟩
  refine ⟨wG g', (wG_in hg').1, (wG_in hg').2, ?_, ?_, fun c hcn => ?_⟩
  · unfold wG
    refine (idl_w hi (hg' 0) (hg' 1) (hg' 2)).mpr ⟨?_, ?_, ?_⟩
    · by_cases q : zAnd (C.1 (34, r, 0) 4) (zShl 7 6) = 0
      · exact Or.inl q
      · exact Or.inr (if_neg q)
    · by_cases q : zAnd (C.1 (34, r, 0) 4) (zShl 7 3) = 0
      · exact Or.inl q
      · exact Or.inr (if_neg q)
    · by_cases q : zAnd (C.1 (34, r, 0) 4) (zShl 7 0) = 0
      · exact Or.inl q
      · exact Or.inr (if_neg q)
  · rw [← hfact_g C hg' ⟨h2, h4⟩ ⟨h3, h5⟩, ← gw, ← hfact_g C hg ⟨h2, h4⟩ ⟨h3, h5⟩, eg _ h4.1 h4.2 (us0 _).1, eg _ h5.1 h5.2 (us0 _).2]
  · obtain ⟨-, k2, k3, -, k4, k5⟩ := hc c (by omega) hcn
    unfold cfact
    rw [← gw, pair_g C.1 hg' ⟨k2, k4⟩ ⟨k3, k5⟩, pair_g C.1 hg ⟨k2, k4⟩ ⟨k3, k5⟩, eg _ k4.1 k4.2 (us1 _ c (by omega)).1, eg _ k5.1 k5.2 (us1 _ c (by omega)).2]
theorem gvN_cong {f : XL → Int → Int} {rk : Int → Int} {r w w' : Int} (n : Nat) (h : ∀ c : Nat, c < n → cfact f r w' c = cfact f r w c) : gvN f rk r w' n = gvN f rk r w n := by
  induction n with
  | zero => rfl
  | succ n ih => rw [gvN_s, gvN_s, ih (fun c hc => h c (by omega)), h n (by omega)]
theorem gvV_cong {f : XL → Int → Int} {rk : Int → Int} {r w w' : Int} (n : Nat) (h : ∀ c : Nat, c < n → cfact f r w' c = cfact f r w c) : gvV f rk r w' n = gvV f rk r w n := by
  unfold gvV
  rw [gvN_cong n h]
/-- what a rule of the layer gives falls with the ranks -/
theorem gv_mono {C : XS} (hC : CB C) {on : Int} {H K : Int → Int64} {g : Int → Int} (hl : Lay C.1 on g) {L : Int} {rk rk' : Int → Int} (h : FI C on H K g L rk) (h' : FI C on H K g L rk') (hle : ∀ k, rk' k ≤ rk k) {r : Nat} (hr : (r : Int) < C.1 (4, 0, 0) 2) (ho : bitI on r) (hL : g (C.1 (37, r, 0) 0) = L) {w : Int} (w0 : 0 ≤ w) (w1 : w ≤ 511) : gvV C.1 rk' r w (C.1 (34, r, 0) 2).toNat ≤ gvV C.1 rk r w (C.1 (34, r, 0) 2).toNat := by
  have c4 := wf4_2 hC.1
  have s34 := wf34_2 hC.1 (b := (r : Int)) (by omega) (by omega)
  have key : ∀ n : Nat, n ≤ (C.1 (34, r, 0) 2).toNat → gvN C.1 rk' r w n ≤ gvN C.1 rk r w n := fun n => by
    induction n with
    | zero => intro _; exact Int.le_refl _
    | succ n ih =>
      intro hn
      have i := ih (by omega)
      have hcn : (n : Int) < C.1 (34, r, 0) 2 := by omega
      have a := hle (cfact C.1 r w n)
      have gi := gvN_in (f := C.1) h'.1 r w n
      rw [gvN_s, gvN_s]
      by_cases q : C.1 (36, r, n) 1 = 0
      · rw [if_pos q, if_pos q]
        (repeat' split) <;> omega
      · rw [if_neg q, if_neg q]
        by_cases z : rk' (cfact C.1 r w n) < 999
        · have rel := dl_rel hC.1 hr hcn
          obtain ⟨p, p1, p2, p3⟩ := fact_at ((hC.2.1 r hr).1.2.2 n hcn) w0 w1 rel.1 rel.2
          have ec : cfact C.1 r w n = 64 * (((C.1 (36, (r : Int), (n : Int)) 0).toNat : Nat) : Int) + p := p3
          have lw := (leastG_ge C.1 g r (C.1 (34, r, 0) 2).toNat n (by omega)).2 q
          have ly := hl r hr ho
          rw [ec] at z
          have z0 := (h'.1 (64 * (((C.1 (36, (r : Int), (n : Int)) 0).toNat : Nat) : Int) + p)).1
          have b := h'.2.1 _ p (by omega) p1 z
          have k := h.2.2.2 _ p (by omega) p1 (by rw [show (((C.1 (36, (r : Int), (n : Int)) 0).toNat : Nat) : Int) = C.1 (36, r, n) 0 by omega]; omega) _ (by omega) b
          rw [ec, if_pos z, if_pos (by omega)]
          exact Int.le_refl _
        · rw [if_neg z]
          split
          · have := gvN_in (f := C.1) h'.1 r w n
            omega
          · exact i
  have k := key _ (Nat.le_refl _)
  unfold gvV
  split <;> split <;> omega
/-- in the layer, the levels up to j are said -/
def Lv (C : XS) (on : Int) (H K : Int → Int64) (g : Int → Int) (L : Int) (j : Nat) (rk : Int → Int) : Prop := ∀ x p : Nat, x < 6 → p < 64 → g x = L → ∀ m : Nat, m ≤ j → bitJ (levF C.1 on K H m x) p → rk (64 * x + p) ≤ m
/-- there is a rank that can fall -/
def Ev (C : XS) (on : Int) (H K : Int → Int64) (g : Int → Int) (L : Int) (rk : Int → Int) : Prop := ∃ x p m : Nat, x < 6 ∧ p < 64 ∧ g x = L ∧ bitJ (levF C.1 on K H m x) p ∧ (m : Int) < rk (64 * x + p)
theorem Lv.zero {C : XS} {on : Int} {H K : Int → Int64} {g : Int → Int} {L : Int} {rk : Int → Int} (h : FI C on H K g L rk) : Lv C on H K g L 0 rk := fun x p hx hp _ m hm hb => by
  obtain rfl : m = 0 := by omega
  have := h.2.2.1 x p hx hp hb
  omega
theorem Ev.mono {C : XS} {on : Int} {H K : Int → Int64} {g : Int → Int} {L : Int} {rk rk' : Int → Int} (hle : ∀ k, rk' k ≤ rk k) (h : Ev C on H K g L rk') : Ev C on H K g L rk := by
  obtain ⟨x, p, m, a, b, c, d, e⟩ := h
  exact ⟨x, p, m, a, b, c, d, Int.lt_of_lt_of_le e (hle _)⟩
theorem Ev.lt {C : XS} (hC : CB C) {on : Int} {H K : Int → Int64} {g : Int → Int} {L : Int} {j : Nat} {rk : Int → Int} (h : Lv C on H K g L j rk) (e : Ev C on H K g L rk) : j < 385 := by
  obtain ⟨x, p, m, hx, hp, hg, hb, hm⟩ := e
  apply Classical.byContradiction
  intro z
  by_cases q : m ≤ j
  · have := h x p hx hp hg m q hb
    omega
  · have b := lev_385 hC.1 hC.2.1 m x (by omega) (by omega) p hp hb
    have := h x p hx hp hg 385 (by omega) b
    omega
theorem Lv.step {C : XS} (hC : CB C) {on : Int} {H K : Int → Int64} {g : Int → Int} (hl : Lay C.1 on g) (hS : Stab C.1 on H K) {L : Int} {j : Nat} {rk rk0 : Int → Int} (h0 : FI C on H K g L rk0) (h : FI C on H K g L rk) (hle : ∀ k, rk k ≤ rk0 k) (hj : j ≤ 900) (hv : Lv C on H K g L j rk0) (hr : ∀ r : Nat, (r : Int) < C.1 (4, 0, 0) 2 → bitI on r → g (C.1 (37, r, 0) 0) = L → ∀ w : Int, 0 ≤ w → w ≤ 511 → rk (hfact C.1 r w) ≤ gvV C.1 rk0 r w (C.1 (34, r, 0) 2).toNat) : Lv C on H K g L (j + 1) rk := by
  have c4 := wf4_2 hC.1
  intro x p hx hp hgx m hm hb
  match m, hm, hb with
  | 0, _, hb => have := h.2.2.1 x p hx hp hb; omega
  | m + 1, hm, hb =>
    rw [levF, stepF_bit _ _ _ _ _ _ hp] at hb
    rcases hb with hb | ⟨r, hr1, ho, e, hb⟩
    · have := hv x p hx hp hgx m (by omega) hb
      have := hle (64 * x + p)
      omega
    · obtain ⟨w, w0, w1, w2, w3⟩ := (heads_bit _ _ _ _ _ hp).mp hb
      have s34 := wf34_2 hC.1 (b := (r : Int)) (by omega) (by omega)
      have k := hr r hr1 ho (by rw [e]; exact hgx) w w0 (by omega)
      have eh : hfact C.1 r w = 64 * (x : Int) + p := by unfold hfact; rw [e, w3]
      rw [eh] at k
      have gl : gvN C.1 rk0 r w (C.1 (34, r, 0) 2).toNat ≤ m := by
        refine gvN_le (by omega) _ fun c hcn => ?_
        have hcc : (c : Int) < C.1 (34, r, 0) 2 := by omega
        have rel := dl_rel hC.1 hr1 hcc
        obtain ⟨p', q1, q2, q3⟩ := fact_at ((hC.2.1 r hr1).1.2.2 c hcc) w0 (show w ≤ 511 by omega) rel.1 rel.2
        have er : (((C.1 (36, (r : Int), (c : Int)) 0).toNat : Nat) : Int) = C.1 (36, r, c) 0 := by omega
        have ec : cfact C.1 r w c = 64 * (((C.1 (36, (r : Int), (c : Int)) 0).toNat : Nat) : Int) + p' := q3
        have ly := hl r hr1 ho
        have le := leastG_ge C.1 g r (C.1 (34, r, 0) 2).toNat c (by omega)
        have cw := w2.2 c hcc
        unfold condOk at cw
        rw [q2] at cw
        rw [e, hgx] at ly
        constructor
        · intro z
          rw [if_pos z] at cw
          rw [ec]
          have bb := cw.mpr z
          have le1 := le.1 z
          rcases Int.lt_or_eq_of_le (show g (C.1 (36, r, c) 0) ≤ L by omega) with y | y
          · exact h0.2.2.2 _ p' (by omega) q1 (by rw [er]; exact y) m (by omega) (by rw [er]; exact bb)
          · exact hv _ p' (by omega) q1 (by rw [er]; exact y) m (by omega) (by rw [er]; exact bb)
        · intro z zl
          rw [if_neg z] at cw
          rw [ec] at zl
          have b := h0.2.1 _ p' (by omega) q1 zl
          rw [er] at b
          exact z (cw.mp ((hS _ rel.1 rel.2 p' q1).mpr ⟨_, b⟩))
      have gz : gvV C.1 rk0 r w (C.1 (34, r, 0) 2).toNat ≤ ((m + 1 : Nat) : Int) := by
        unfold gvV
        split <;> omega
      omega
/-- within the ways of one rule: w are done; z: something has fallen -/
def IU (C : XS) (on : Int) (H K : Int → Int64) (g : Int → Int) (L : Int) (r : Nat) (rk0 : Int → Int) (z w : Int) (rk : Int → Int) : Prop := FI C on H K g L rk ∧ (z = 0 ∨ z = 1) ∧ (∀ k, rk k ≤ rk0 k) ∧ (∀ w' : Int, 0 ≤ w' → w' < w → rk (hfact C.1 r w') ≤ gvV C.1 rk0 r w' (C.1 (34, r, 0) 2).toNat) ∧ (z = 0 → rk = rk0) ∧ (z = 1 → Ev C on H K g L rk0)
theorem IU.start {C : XS} {on : Int} {H K : Int → Int64} {g : Int → Int} {L : Int} {r : Nat} {rk : Int → Int} (h : FI C on H K g L rk) : IU C on H K g L r rk 0 0 rk := ⟨h, Or.inl rfl, fun _ => Int.le_refl _, fun w' a b => by omega, fun _ => rfl, fun z => by cases z⟩
/-- a way that gives no less -/
theorem IU.same {C : XS} (hC : CB C) {on : Int} {H K : Int → Int64} {g : Int → Int} (hl : Lay C.1 on g) {L : Int} {r : Nat} {rk0 rk : Int → Int} {z w : Int} (h0 : FI C on H K g L rk0) (h : IU C on H K g L r rk0 z w rk) (hr : (r : Int) < C.1 (4, 0, 0) 2) (ho : bitI on r) (hL : g (C.1 (37, r, 0) 0) = L) (w0 : 0 ≤ w) (w1 : w ≤ 511) (hn : rk (hfact C.1 r w) ≤ gvV C.1 rk r w (C.1 (34, r, 0) 2).toNat) : IU C on H K g L r rk0 z (w + 1) rk := by
  obtain ⟨h1, h2, h3, h4, h5, h6⟩ := h
  refine ⟨h1, h2, h3, fun w' a b => ?_, h5, h6⟩
  rcases Int.lt_or_eq_of_le (show w' ≤ w by omega) with q | q
  · exact h4 w' a q
  · subst q
    exact Int.le_trans hn (gv_mono hC hl h0 h1 h3 hr ho hL w0 w1)
/-- a way that gives less -/
theorem IU.low {C : XS} (hC : CB C) {N : Int → Int} {on : Int} {H K : Int → Int64} {g : Int → Int} (hg : GOk g) (hl : Lay C.1 on g) (hS : Stab C.1 on H K) {L : Int} {r : Nat} {rk0 rk : Int → Int} {z w : Int} (h0 : FI C on H K g L rk0) (h : IU C on H K g L r rk0 z w rk) (hr : (r : Int) < C.1 (4, 0, 0) 2) (hN : NL1 C N r) (ho : bitI on r) (hL : g (C.1 (37, r, 0) 0) = L) (w0 : 0 ≤ w) (w1 : w ≤ 511) (hn : gvV C.1 rk r w (C.1 (34, r, 0) 2).toNat < rk (hfact C.1 r w)) : IU C on H K g L r rk0 1 (w + 1) (xUpd rk (hfact C.1 r w) (gvV C.1 rk r w (C.1 (34, r, 0) 2).toNat)) := by
  have c4 := wf4_2 hC.1
  have s34 := wf34_2 hC.1 (b := (r : Int)) (by omega) (by omega)
  obtain ⟨h1, h2, h3, h4, h5, h6⟩ := h
  obtain ⟨v, v0, v1, v2, v3, v4⟩ := wayz hC hr hN w0 w1
  have ev : gvV C.1 rk r v (C.1 (34, r, 0) 2).toNat = gvV C.1 rk r w (C.1 (34, r, 0) 2).toNat := gvV_cong _ (fun c hc => v4 c (by omega))
  have hn2 : gvV C.1 rk r v (C.1 (34, r, 0) 2).toNat < rk (hfact C.1 r v) := by rw [ev, v3]; exact hn
  have lo := h1.low hC.1 hC.2.1 hg hl hS hr ho hL v0 v1 v2 hn2
  rw [ev, v3] at lo
  have hb := h1.1 (hfact C.1 r w)
  have a37 := wf37_0 hC.1 (b := (r : Int)) (by omega) (by omega)
  have so := h1.sound hC.1 hC.2.1 hg hl hS hr ho (by omega) v0 v1 v2 (by omega)
  rw [ev] at so
  obtain ⟨p, p1, p2, p3⟩ := so
  have gi := gvV_in (f := C.1) h1.1 r w (C.1 (34, r, 0) 2).toNat
  have eh : hfact C.1 r w = 64 * (((C.1 (37, (r : Int), 0) 0).toNat : Nat) : Int) + p := by rw [← v3]; unfold hfact; rw [p2]; omega
  refine ⟨lo, Or.inr rfl, fun k => ?_, fun w' a b => ?_, fun y => (by cases y), fun _ => ?_⟩
  · simp only [xUpd]
    split
    · rename_i e
      rw [e]
      exact Int.le_of_lt (Int.lt_of_lt_of_le hn (h3 _))
    · exact h3 k
  · have m := gv_mono hC hl h0 h1 h3 hr ho hL (w := w) w0 w1
    rcases Int.lt_or_eq_of_le (show w' ≤ w by omega) with q | q
    · have k := h4 w' a q
      simp only [xUpd]
      split
      · rename_i e
        rw [e] at k
        omega
      · exact k
    · subst q
      simp only [xUpd, if_true]
      exact m
  · refine ⟨(C.1 (37, (r : Int), 0) 0).toNat, p, (gvV C.1 rk r w (C.1 (34, r, 0) 2).toNat).toNat, by omega, p1, ?_, ?_, ?_⟩
    · rw [show (((C.1 (37, (r : Int), 0) 0).toNat : Nat) : Int) = C.1 (37, r, 0) 0 by omega]; exact hL
    · rw [show (((C.1 (37, (r : Int), 0) 0).toNat : Nat) : Int) = C.1 (37, r, 0) 0 by omega]; exact p3
    · rw [← eh]
      have := h3 (hfact C.1 r w)
      omega
/-- within a round: the rules below i are done -/
def RV (C : XS) (on : Int) (H K : Int → Int64) (g : Int → Int) (L : Int) (rk0 : Int → Int) (ch : Int) (i : Nat) (rk : Int → Int) : Prop := FI C on H K g L rk ∧ (ch = 0 ∨ ch = 1) ∧ (∀ k, rk k ≤ rk0 k) ∧ (∀ r : Nat, r < i → bitI on r → g (C.1 (37, r, 0) 0) = L → ∀ w : Int, 0 ≤ w → w ≤ 511 → rk (hfact C.1 r w) ≤ gvV C.1 rk0 r w (C.1 (34, r, 0) 2).toNat) ∧ (ch = 0 → rk = rk0) ∧ (ch = 1 → Ev C on H K g L rk0)
theorem RV.start {C : XS} {on : Int} {H K : Int → Int64} {g : Int → Int} {L : Int} {rk : Int → Int} (h : FI C on H K g L rk) : RV C on H K g L rk 0 0 rk := ⟨h, Or.inl rfl, fun _ => Int.le_refl _, fun r a => by omega, fun _ => rfl, fun z => by cases z⟩
theorem RV.skip {C : XS} {on : Int} {H K : Int → Int64} {g : Int → Int} {L : Int} {rk0 rk : Int → Int} {ch : Int} {i : Nat} (h : RV C on H K g L rk0 ch i rk) (hn : ¬ (bitI on i ∧ g (C.1 (37, i, 0) 0) = L)) : RV C on H K g L rk0 ch (i + 1) rk := by
  obtain ⟨h1, h2, h3, h4, h5, h6⟩ := h
  refine ⟨h1, h2, h3, fun r hr ho hL => ?_, h5, h6⟩
  rcases Nat.lt_or_eq_of_le (show r ≤ i by omega) with q | q
  · exact h4 r q ho hL
  · subst q; exact absurd ⟨ho, hL⟩ hn
theorem RV.used {C : XS} (hC : CB C) {on : Int} {H K : Int → Int64} {g : Int → Int} (hl : Lay C.1 on g) {L : Int} {rk0 rk rk1 : Int → Int} {ch z ch' : Int} {i : Nat} (h0 : FI C on H K g L rk0) (h : RV C on H K g L rk0 ch i rk) (hi : (i : Int) < C.1 (4, 0, 0) 2) (ho : bitI on i) (hL : g (C.1 (37, i, 0) 0) = L) (u : IU C on H K g L i rk z 512 rk1) (hc : ch' = 0 ∧ ch = 0 ∧ z = 0 ∨ ch' = 1 ∧ (ch = 1 ∨ z = 1)) : RV C on H K g L rk0 ch' (i + 1) rk1 := by
  obtain ⟨h1, h2, h3, h4, h5, h6⟩ := h
  obtain ⟨u1, u2, u3, u4, u5, u6⟩ := u
  refine ⟨u1, by omega, fun k => Int.le_trans (u3 k) (h3 k), fun r hr ho' hL' w w0 w1 => ?_, fun q => ?_, fun q => ?_⟩
  · rcases Nat.lt_or_eq_of_le (show r ≤ i by omega) with y | y
    · exact Int.le_trans (u3 _) (h4 r y ho' hL' w w0 w1)
    · subst y
      exact Int.le_trans (u4 w w0 (by omega)) (gv_mono hC hl h0 h1 h3 hi ho hL w0 w1)
  · rw [u5 (by omega), h5 (by omega)]
  · by_cases y : ch = 1
    · exact h6 y
    · exact (u6 (by omega)).mono h3
/-- a layer, j rounds done -/
def LV (C : XS) (on : Int) (H K : Int → Int64) (g : Int → Int) (L : Int) (ch : Int) (j : Nat) (rk : Int → Int) : Prop := FI C on H K g L rk ∧ Lv C on H K g L j rk ∧ (ch = 0 ∨ ch = 1) ∧ (ch = 1 → j ≤ 385) ∧ (ch = 0 → FI C on H K g (L + 1) rk)
theorem LV.start {C : XS} {on : Int} {H K : Int → Int64} {g : Int → Int} {L : Int} {rk : Int → Int} (h : FI C on H K g L rk) : LV C on H K g L 1 0 rk := ⟨h, Lv.zero h, Or.inr rfl, fun _ => by omega, fun z => by cases z⟩
theorem LV.round {C : XS} (hC : CB C) {on : Int} {H K : Int → Int64} {g : Int → Int} (hg : GOk g) (hl : Lay C.1 on g) (hS : Stab C.1 on H K) {L : Int} {rk0 rk : Int → Int} {ch ch' : Int} {j n : Nat} (h : LV C on H K g L ch j rk0) (hc : ch = 1) (hn : C.1 (4, 0, 0) 2 ≤ n) (k : RV C on H K g L rk0 ch' n rk) : LV C on H K g L ch' (j + 1) rk := by
  have c4 := wf4_2 hC.1
  obtain ⟨h1, h2, h3, h4, h5⟩ := h
  obtain ⟨k1, k2, k3, k4, k5, k6⟩ := k
  refine ⟨k1, Lv.step hC hl hS h1 k1 k3 (by have := h4 hc; omega) h2 (fun r hr ho hL w w0 w1 => k4 r (by omega) ho hL w w0 w1), k2, fun z => ?_, fun z => ?_⟩
  · have := Ev.lt hC h2 (k6 z)
    omega
  · have e := k5 z
    refine FI.next hC.1 hC.2.1 hg hl hS k1 (fun r hr ho hL w w0 w1 _ => ?_)
    have q := k4 r (by omega) ho hL w w0 w1
    rw [← e] at q
    exact q
