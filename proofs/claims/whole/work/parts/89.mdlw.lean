/-! the reference: a listener hears -/
/-- alike but for the listener l and what the reference works on -/
def HrE (l : Int) (S T : XS) : Prop := (∀ l' : XL, mI l'.1 = false → l'.1 ≠ 50 → l' ≠ (68, 0, 0) → l' ≠ (70, 0, 0) → (∀ t : Int, l' ≠ (81, l, t)) → T.1 l' = S.1 l') ∧ (∀ j : Int, j ≠ l → T.1 (68, 0, 0) j = S.1 (68, 0, 0) j) ∧ (∀ j : Int, j < 64 * l ∨ 64 * l + 64 ≤ j → T.1 (70, 0, 0) j = S.1 (70, 0, 0) j) ∧ T.2.1 = S.2.1 ∧ T.2.2.1 = S.2.2.1 ∧ (∀ j : Int, j ≠ l → T.2.2.2.1 j = S.2.2.2.1 j) ∧ T.2.2.2.2.2 = S.2.2.2.2.2 ∧ S.2.2.2.2.1 ≤ T.2.2.2.2.1 ∧ T.1 (50, 0, 0) = S.1 (50, 0, 0)
theorem HrE.rf (l : Int) (S : XS) : HrE l S S := ⟨fun _ _ _ _ _ _ => rfl, fun _ _ => rfl, fun _ _ => rfl, rfl, rfl, fun _ _ => rfl, rfl, Int.le_refl _, rfl⟩
theorem HrE.tr {l : Int} {S T U : XS} (h : HrE l S T) (k : HrE l T U) : HrE l S U := by
  obtain ⟨h1, h2, h3, h4, h5, h6, h7, h8, h9⟩ := h
  obtain ⟨k1, k2, k3, k4, k5, k6, k7, k8, k9⟩ := k
  exact ⟨fun l' a z b c d => (k1 l' a z b c d).trans (h1 l' a z b c d), fun j a => (k2 j a).trans (h2 j a), fun j a => (k3 j a).trans (h3 j a), k4.trans h4, k5.trans h5, fun j a => (k6 j a).trans (h6 j a), k7.trans h7, Int.le_trans h8 k8, k9.trans h9⟩
theorem MdF.hr {S T : XS} (h : MdF S T) (l : Int) : HrE l S T ∧ T.2.2.2.1 = S.2.2.2.1 ∧ T.1 (68, 0, 0) = S.1 (68, 0, 0) ∧ T.1 (70, 0, 0) = S.1 (70, 0, 0) ∧ ∀ t : Int, T.1 (81, l, t) = S.1 (81, l, t) := by
  obtain ⟨⟨q1, q2, q3, q4, q5, q6, q7⟩, h2⟩ := h
  have e : ∀ (k : Nat) (x y : Int), mI k = false → k ≠ 50 → T.1 (k, x, y) = S.1 (k, x, y) := fun k x y a b => q1 (k, x, y) a b
  exact ⟨⟨fun l' a z _ _ _ => q1 l' a z, fun j _ => by rw [e 68 0 0 rfl (by decide)], fun j _ => by rw [e 70 0 0 rfl (by decide)], q3, q4, fun j _ => by rw [q5], q6, q7, h2⟩, q5, e 68 0 0 rfl (by decide), e 70 0 0 rfl (by decide), fun t => e 81 l t rfl (by decide)⟩
theorem KpE.hr {l : Int} {S T : XS} (h : KpE l S T) : HrE l S T := ⟨fun l' _ _ b _ d => h.1 l' b d, h.2.1, fun j _ => by rw [h.k (by decide) (by decide) 0 0], h.2.2.1, h.2.2.2.1, h.2.2.2.2.1, by rw [h.2.2.2.2.2], Int.le_of_eq (by rw [h.2.2.2.2.2]), h.k (by decide) (by decide) 0 0⟩
theorem HrE.p70 {l : Int} {S T : XS} (h : HrE l S T) {j : Int} (j0 : 64 * l ≤ j) (j1 : j < 64 * l + 64) (v : Int) : HrE l S (putI T (70, 0, 0) j v) := by
  obtain ⟨h1, h2, h3, h4, h5, h6, h7, h8, h9⟩ := h
  refine ⟨fun l' a z b c d => (putI_o c).trans (h1 l' a z b c d), fun i a => by rw [putI_o (nK (by decide) _ _ _ _)]; exact h2 i a, fun i a => ?_, h4, h5, h6, h7, h8, by rw [putI_o (nK (by decide) _ _ _ _)]; exact h9⟩
  rw [putI_at, if_neg (by omega)]
  exact h3 i a
theorem HrE.k {l : Int} {S T : XS} (h : HrE l S T) {k : Nat} (h0 : mI k = false) (h1 : k ≠ 50) (h2 : k ≠ 68) (h3 : k ≠ 70) (h4 : k ≠ 81) (x y : Int) : T.1 (k, x, y) = S.1 (k, x, y) := h.1 _ h0 h1 (nK h2 _ _ _ _) (nK h3 _ _ _ _) (fun _ => nK h4 _ _ _ _)
theorem MRt.hr {C S T : XS} {l : Int} (h : MRt C S) (q : HrE l S T) : MRt C T := by
  intro b k b0 b1 k0 k1
  rw [q.k (k := 51) rfl (by decide) (by decide) (by decide) (by decide), q.k (k := 52) rfl (by decide) (by decide) (by decide) (by decide), q.k (k := 53) rfl (by decide) (by decide) (by decide) (by decide), q.k (k := 54) rfl (by decide) (by decide) (by decide) (by decide), q.k (k := 55) rfl (by decide) (by decide) (by decide) (by decide), q.k (k := 56) rfl (by decide) (by decide) (by decide) (by decide)]
  exact h b k b0 b1 k0 k1
theorem chgN_mono (r : Int) (cm gn : Int64) {a b : Nat} (h : a ≤ b) : (chgN r cm gn a).length ≤ (chgN r cm gn b).length := by
  induction b with
  | zero => rw [show a = 0 by omega]; exact Nat.le_refl _
  | succ b ih =>
    rcases Nat.lt_or_eq_of_le h with y | y
    · have := ih (by omega)
      by_cases z : bitJ cm b ∨ bitJ gn b
      · rw [chgN_t z, List.length_append]; omega
      · rw [chgN_f z]; exact this
    · rw [y]; exact Nat.le_refl _
/-- what came, what went -/
abbrev jCm (v o : Int64) : Int64 := v &&& (o ^^^ (-1))
abbrev jGn (v o : Int64) : Int64 := o &&& (v ^^^ (-1))
theorem cg_iff (v o : Int64) {k : Nat} (hk : k < 64) : (bitJ (jCm v o) k ∨ bitJ (jGn v o) k) ↔ ¬ (bitJ v k ↔ bitJ o k) := by
  obtain ⟨a, b⟩ := cg_bits v o k hk
  rw [a, b]
  by_cases x : bitJ v k <;> by_cases y : bitJ o k <;> simp [x, y]
/-- the listener l hears; the first k pairs are done -/
def HI (C S : XS) (b l r : Int) (n : Nat) (t : Int) (v o : Int64) (L0 : List Int) (k : Nat) (T : XS) : Prop :=
  HrE l S T ∧ WI T ∧ FinR C b n t (T.1 (73, 0, 0)) ∧ (∀ j : Nat, j < 64 → T.1 (70, 0, 0) (64 * l + j) = bI (bitJ (if j < k then v else o) j)) ∧ LR T l (L0 ++ chgN r (jCm v o) (jGn v o) k) ∧ (T.1 (68, 0, 0) l ≤ (chLen (S.2.2.2.1 l) : Nat) → T.2.2.2.1 l = S.2.2.2.1 l) ∧ ((chLen (S.2.2.2.1 l) : Nat) < T.1 (68, 0, 0) l → T.2.2.2.1 l = S.2.2.2.1 l + 1)
/-- room for a row that must still grow -/
def HRm (S : XS) (l : Int) (N : Nat) (T : XS) (kc ks : Nat) : Prop := T.1 (68, 0, 0) l ≤ (chLen (S.2.2.2.1 l) : Nat) → (chLen (S.2.2.2.1 l) : Nat) < S.1 (68, 0, 0) l + N → 1 ≤ kc ∧ 2 * chLen (S.2.2.2.1 l) ≤ ks
theorem HI.n68 {C S : XS} {b l r : Int} {n : Nat} {t : Int} {v o : Int64} {L0 : List Int} {k : Nat} {T : XS} (h : HI C S b l r n t v o L0 k T) (hS : S.1 (68, 0, 0) l = S.1 (69, 0, 0) l + (L0.length : Nat)) : T.1 (68, 0, 0) l = S.1 (68, 0, 0) l + ((chgN r (jCm v o) (jGn v o) k).length : Nat) := by
  obtain ⟨h1, -, -, -, ⟨-, -, -, h5, -, -⟩, -, -⟩ := h
  rw [h5, h1.k (k := 69) rfl (by decide) (by decide) (by decide) (by decide), List.length_append]
  omega
theorem HI.p70 {C S : XS} {b l r : Int} {n : Nat} {t : Int} {v o : Int64} {L0 : List Int} {k : Nat} {U : XS} (hk : k < 64) (e : HrE l S U) (w : WI U) (f : FinR C b n t (U.1 (73, 0, 0))) (h7 : ∀ j : Nat, j < 64 → U.1 (70, 0, 0) (64 * l + j) = bI (bitJ (if j < k then v else o) j)) (hL : LR U l (L0 ++ chgN r (jCm v o) (jGn v o) (k + 1))) (g1 : U.1 (68, 0, 0) l ≤ (chLen (S.2.2.2.1 l) : Nat) → U.2.2.2.1 l = S.2.2.2.1 l) (g2 : (chLen (S.2.2.2.1 l) : Nat) < U.1 (68, 0, 0) l → U.2.2.2.1 l = S.2.2.2.1 l + 1) {z : Int} (hz : z = bI (bitJ v k)) : HI C S b l r n t v o L0 (k + 1) (putI U (70, 0, 0) (64 * l + k) z) := by
  refine ⟨e.p70 (by omega) (by omega) z, wpa70 w (by rw [hz]; exact bI_01 _), f, fun j hj => ?_, hL, g1, g2⟩
  rw [putI_at]
  by_cases y : j = k
  · subst y
    rw [if_pos rfl, if_pos (by omega), hz]
  · rw [if_neg (by omega), h7 j hj]
    by_cases x : j < k
    · rw [if_pos x, if_pos (by omega)]
    · rw [if_neg x, if_neg (by omega)]
theorem HI.skip {C S : XS} {b l r : Int} {n : Nat} {t : Int} {v o : Int64} {L0 : List Int} {k : Nat} {T : XS} (h : HI C S b l r n t v o L0 k T) (hk : k < 64) (hb : bitJ v k ↔ bitJ o k) {z : Int} (hz : z = bI (bitJ v k)) : HI C S b l r n t v o L0 (k + 1) (putI T (70, 0, 0) (64 * l + k) z) := by
  obtain ⟨h1, h2, h3, h4, h5, h6, h7⟩ := h
  have x : ¬ (bitJ (jCm v o) k ∨ bitJ (jGn v o) k) := fun y => (cg_iff v o hk).mp y hb
  exact HI.p70 hk h1 h2 h3 h4 (by rw [chgN_f x]; exact h5) h6 h7 hz
theorem HI.room {C S : XS} {b l r : Int} {n : Nat} {t : Int} {v o : Int64} {L0 : List Int} {k : Nat} {T : XS} (h : HI C S b l r n t v o L0 k T) (hk : k < 64) (hb : ¬ (bitJ v k ↔ bitJ o k)) (hS : S.1 (68, 0, 0) l = S.1 (69, 0, 0) l + (L0.length : Nat)) (g0 : 0 ≤ S.2.2.2.1 l) (hSc : S.1 (68, 0, 0) l ≤ (chLen (S.2.2.2.1 l) : Nat)) (h7 : S.1 (68, 0, 0) l + ((chgN r (jCm v o) (jGn v o) 64).length : Nat) ≤ 7680) {kc ks : Nat} (hR : HRm S l (chgN r (jCm v o) (jGn v o) 64).length T kc ks) : kpA T l ≤ kc ∧ kpB T l ≤ ks ∧ T.1 (68, 0, 0) l < 7680 ∧ (T.1 (68, 0, 0) l = (chLen (T.2.2.2.1 l) : Nat) → T.2.2.2.1 l = S.2.2.2.1 l) ∧ ∀ U : XS, U.1 (68, 0, 0) l = T.1 (68, 0, 0) l + 1 → HRm S l (chgN r (jCm v o) (jGn v o) 64).length U (kc - kpA T l) (ks - kpB T l) := by
  have e := h.n68 hS
  obtain ⟨h1, h2, h3, h4, h5, h6, h8⟩ := h
  have x := (cg_iff v o hk).mpr hb
  have m : (chgN r (jCm v o) (jGn v o) k).length + 1 ≤ (chgN r (jCm v o) (jGn v o) 64).length := by
    have := chgN_mono r (jCm v o) (jGn v o) (show k + 1 ≤ 64 by omega)
    rw [chgN_t x, List.length_append] at this
    exact this
  have m64 : (chgN r (jCm v o) (jGn v o) 64).length ≤ 64 := by
    rw [chgN_len]; exact cntN_le _ _
  have c64 := chLen_64 (S.2.2.2.1 l)
  have gs : T.1 (68, 0, 0) l = (chLen (T.2.2.2.1 l) : Nat) → T.2.2.2.1 l = S.2.2.2.1 l := fun y => by
    by_cases q : T.1 (68, 0, 0) l ≤ (chLen (S.2.2.2.1 l) : Nat)
    · exact h6 q
    · have g := h8 (by omega)
      have c2 := chLen_s g0
      rw [g, c2] at y
      omega
  by_cases y : T.1 (68, 0, 0) l = (chLen (T.2.2.2.1 l) : Nat)
  · have g := gs y
    have ka : kpA T l = 1 := if_pos y
    have kb : kpB T l = 2 * chLen (T.2.2.2.1 l) := if_pos y
    obtain ⟨r1, r2⟩ := hR (by rw [g] at y; omega) (by rw [g] at y; omega)
    refine ⟨by omega, by rw [kb, g]; exact r2, by omega, gs, fun U hU q1 q2 => ?_⟩
    rw [g] at y
    omega
  · have ka : kpA T l = 0 := if_neg y
    have kb : kpB T l = 0 := if_neg y
    refine ⟨by omega, by omega, by omega, gs, fun U hU q1 q2 => ?_⟩
    rw [ka, kb, Nat.sub_zero, Nat.sub_zero]
    exact hR (by omega) q2
theorem HI.keep {C S : XS} {b l r : Int} {n : Nat} {t : Int} {v o : Int64} {L0 : List Int} {k : Nat} {T : XS} (h : HI C S b l r n t v o L0 k T) (hk : k < 64) (hb : ¬ (bitJ v k ↔ bitJ o k)) (g0 : 0 ≤ S.2.2.2.1 l) (h7 : T.1 (68, 0, 0) l < 7680) (gs : T.1 (68, 0, 0) l = (chLen (T.2.2.2.1 l) : Nat) → T.2.2.2.1 l = S.2.2.2.1 l) {U : XS} (eU : KpE l T U) (wU : WI U) (u68 : U.1 (68, 0, 0) l = T.1 (68, 0, 0) l + 1) (ug1 : T.1 (68, 0, 0) l = (chLen (T.2.2.2.1 l) : Nat) → U.2.2.2.1 l = T.2.2.2.1 l + 1) (ug2 : T.1 (68, 0, 0) l ≠ (chLen (T.2.2.2.1 l) : Nat) → U.2.2.2.1 l = T.2.2.2.1 l) (u81 : ∀ j : Int, 0 ≤ j → j < T.1 (68, 0, 0) l → U.1 (81, l, U.2.2.2.1 l) j = T.1 (81, l, T.2.2.2.1 l) j) {w : Int} (uv : U.1 (81, l, U.2.2.2.1 l) (T.1 (68, 0, 0) l) = w) (hw : w = chgV r (jGn v o) k) {z : Int} (hz : z = bI (bitJ v k)) : HI C S b l r n t v o L0 (k + 1) (putI U (70, 0, 0) (64 * l + k) z) := by
  obtain ⟨h1, h2, h3, h4, ⟨p1, p2, p3, p4, p5, p6⟩, h6, h8⟩ := h
  have x := (cg_iff v o hk).mpr hb
  have u69 : U.1 (69, 0, 0) = T.1 (69, 0, 0) := eU.k (by decide) (by decide) 0 0
  have c64 := chLen_64 (S.2.2.2.1 l)
  refine HI.p70 hk (h1.tr eU.hr) wU (by rw [eU.k (by decide) (by decide) 0 0]; exact h3) (fun j hj => by rw [eU.k (by decide) (by decide) 0 0]; exact h4 j hj) ?_ (fun q => ?_) (fun q => ?_) hz
  · rw [chgN_t x, ← List.append_assoc]
    by_cases y : T.1 (68, 0, 0) l = (chLen (T.2.2.2.1 l) : Nat)
    · have g := ug1 y
      have c2 := chLen_s p1
      have g6 := (chLen_7 p1 p2).2 (by omega)
      have c64t := chLen_64 (T.2.2.2.1 l)
      refine ⟨by omega, by omega, by rw [u69]; exact p3, by rw [u68, u69, List.length_append, p4]; simp only [List.length_cons, List.length_nil]; omega, by rw [g, c2]; omega, ?_⟩
      rw [u69]
      refine p6.snoc (fun i hi => u81 _ (by omega) (by omega)) ?_
      rw [← p4, uv, hw]
    · have g := ug2 y
      refine ⟨by omega, by omega, by rw [u69]; exact p3, by rw [u68, u69, List.length_append, p4]; simp only [List.length_cons, List.length_nil]; omega, by rw [g]; omega, ?_⟩
      rw [u69]
      refine p6.snoc (fun i hi => u81 _ (by omega) (by omega)) ?_
      rw [← p4, uv, hw]
  · have y : T.1 (68, 0, 0) l ≠ (chLen (T.2.2.2.1 l) : Nat) := fun y => by
      have := gs y
      rw [this] at y
      omega
    rw [ug2 y]
    exact h6 (by omega)
  · by_cases q2 : T.1 (68, 0, 0) l ≤ (chLen (S.2.2.2.1 l) : Nat)
    · have g := h6 q2
      have y : T.1 (68, 0, 0) l = (chLen (T.2.2.2.1 l) : Nat) := by rw [g]; omega
      rw [ug1 y, g]
    · have g := h8 (by omega)
      have y : T.1 (68, 0, 0) l ≠ (chLen (T.2.2.2.1 l) : Nat) := fun y => by
        have := gs y
        omega
      rw [ug2 y]
      exact g
theorem hr_bit {f : XL → Int → Int} {b r a s t : Int} {n : Nat} {v : Int64} (hv : v = hl f b n t r &&& pairsN a s 64) (a0 : -1 ≤ a) (s0 : -1 ≤ s) {k : Nat} (hk : k < 64) : bitJ v k ↔ hB f b n t (64 * r + k) ∧ (a < 0 ∨ (64 * r + (k : Int)) / 8 % 8 = a) ∧ (s < 0 ∨ (64 * r + (k : Int)) % 8 = s) := by
  rw [hv, bitJ_and _ _ _ hk, pairsN_bit a s 64 (Nat.le_refl _) k hk]
  unfold hB
  rw [show (64 * r + (k : Int)) / 64 = r by omega, show (64 * r + (k : Int)) % 64 = k by omega, show (64 * r + (k : Int)) / 8 % 8 = (k : Int) / 8 by omega, show (64 * r + (k : Int)) % 8 = (k : Int) % 8 by omega]
  constructor
  · rintro ⟨x1, x2, x3, x4⟩; exact ⟨x1, by omega, by omega⟩
  · rintro ⟨x1, x2, x3⟩; exact ⟨x1, hk, by omega, by omega⟩
set_option maxHeartbeats 4000000 in
set_option maxRecDepth 100000 in
theorem l_hears (C S : XS) (hC : CB C) (l b r a s t : Int) (l0 : 0 ≤ l) (l1 : l < 5) (b0 : 0 ≤ b) (b1 : b < C.1 (0, 0, 0) 6) (r0 : 0 ≤ r) (r1 : r ≤ 5) (a0 : -1 ≤ a) (s0 : -1 ≤ s) (n : Nat) (hn9 : (n : Int) ≤ C.1 (9, b, 0) 3) (e1 : S.1 (67, 0, 0) (5 * l + 1) = r) (e2 : S.1 (67, 0, 0) (5 * l + 2) = a) (e3 : S.1 (67, 0, 0) (5 * l + 3) = s) (v : Int64) (hv : v = hl C.1 b n t r &&& pairsN a s 64) (o : Int64) (L0 : List Int) (hS : S.1 (68, 0, 0) l = S.1 (69, 0, 0) l + (L0.length : Nat)) (g0 : 0 ≤ S.2.2.2.1 l) (hSc : S.1 (68, 0, 0) l ≤ (chLen (S.2.2.2.1 l) : Nat)) (h7 : S.1 (68, 0, 0) l + ((chgN r (jCm v o) (jGn v o) 64).length : Nat) ≤ 7680) : ∀ (nn : Nat) (T : XS) (k : Nat) (kc ks : Nat), 65 - (k : Int) < (nn : Int) → (HI C S b l r n t v o L0 k T) → (HRm S l (chgN r (jCm v o) (jGn v o) 64).length T kc ks) → (k ≤ 64) → X mX9_hears 37 [xR (50, 0, 0), xI l, xI 0, xI (k : Int), none, none] [] (hp T) kc ks (fun o' h' => o' = .inl none ∧ ∃ T, h' = hp T ∧ HI C S b l r n t v o L0 64 T) := by
  intro nn
  induction nn with
  | zero => intro T k kc ks hm hI rm hk; exfalso; omega
  | succ nn ih =>
    intro T k kc ks hm hI rm hk
    have wT := hI.2.1
    have hz := wT.1
    have hF := hI.2.2.1
    have e67 := hI.1.k (k := 67) rfl (by decide) (by decide) (by decide) (by decide) 0 0
    refine x_iload_n dX9_hears_37 rfl ?_
    refine x_bipush (v := 64) dX9_hears_38 (by decide) ?_
    refine x_icmp_ge (tgt := 150) dX9_hears_40 (by decide) (by first | exact hz _ _ | exact hw.1 _ _ | exact zR_of _ | exact bI_z _ | assumption | exact ⟨by omega, by omega⟩) ⟨by decide, by decide⟩ (fun c40 => ?_) (fun c40 => ?_)
    · exact x_vret dX9_hears_150 rfl ⟨rfl, T, rfl, by rw [show (64 : Nat) = k by omega]; exact hI⟩
    · have hk64 : k < 64 := by omega
      have fb := hF.hb hC b0 b1 hn9 (q := 64 * r + (k : Int)) (by omega) (by omega)
      have bit := hr_bit hv a0 s0 (k := k) (by omega)
      rw [← fb.1] at bit
      have v01 := bI_01 (bitJ v k)
      have vi := bI_1 (P := bitJ v k)
      have o01 := bI_01 (bitJ o k)
      have oi := bI_1 (P := bitJ o k)
      rw [← e2, ← e3, ← e67] at bit
      refine x_bipush (v := 64) dX9_hears_43 (by decide) ?_
      refine x_aload_n dX9_hears_45 rfl ?_
      refine x_get (v := xR (67, 0, 0)) dX9_hears_46 fl_RX9_64 (hp50 T) rfl ?_
      refine x_iconst dX9_hears_49 ?_
      refine x_iload_n dX9_hears_50 rfl ?_
      refine x_imul dX9_hears_51 ?_
      refine x_iconst dX9_hears_52 ?_
      refine x_iadd dX9_hears_53 ?_
      refine x_aldi (f := T.1 (67, 0, 0)) dX9_hears_54 (hp67 T) (show (67 : Nat) ≠ 99 by decide) (by omega) (by omega) (by decide) ?_
      have f54_1 := wfa67 wT (S := T) ((5 * l) + 1)
      refine x_imul dX9_hears_55 ?_
      refine x_iload_n dX9_hears_56 rfl ?_
      refine x_iadd dX9_hears_57 ?_
      refine x_top (show (64 * (T.1 (67, 0, 0) ((5 * l) + 1))) + (k : Int) = 64 * r + (k : Int) from by rw [e67, e1]) ?_
      refine x_istore (L' := [xR (50, 0, 0), xI l, xI 0, xI (k : Int), xI (64 * r + (k : Int)), none]) dX9_hears_58 (by decide) rfl ?_
      refine x_aload_n dX9_hears_60 rfl ?_
      refine x_get (v := xR (73, 0, 0)) dX9_hears_61 fl_RX9_87 (hp50 T) rfl ?_
      refine x_iload dX9_hears_64 rfl ?_
      refine x_aldi (f := T.1 (73, 0, 0)) dX9_hears_66 (hp73 T) (show (73 : Nat) ≠ 99 by decide) (by omega) (by omega) (by decide) ?_
      have f66_2 := wfa73 wT (S := T) (64 * r + (k : Int))
      refine x_sipush (v := 9999) dX9_hears_67 (by decide) ?_
      refine x_icmp_ge (tgt := 87) dX9_hears_70 (by decide) (by first | exact hz _ _ | exact hw.1 _ _ | exact zR_of _ | exact bI_z _ | assumption | exact ⟨by omega, by omega⟩) ⟨by decide, by decide⟩ (fun c70 => ?_) (fun c70 => ?_)
      · refine x_iconst dX9_hears_87 ?_
        have hzv : (0 : Int) = bI (bitJ v k) := by exact (bI_f (fun y => by have := bit.mp y; omega)).symm
        refine x_istore (L' := [xR (50, 0, 0), xI l, xI 0, xI (k : Int), xI (64 * r + (k : Int)), xI 0]) dX9_hears_88 (by decide) rfl ?_
        refine x_iload dX9_hears_90 rfl ?_
        refine x_aload_n dX9_hears_92 rfl ?_
        refine x_get (v := xR (70, 0, 0)) dX9_hears_93 fl_RX9_78 (hp50 T) rfl ?_
        refine x_bipush (v := 64) dX9_hears_96 (by decide) ?_
        refine x_iload_n dX9_hears_98 rfl ?_
        refine x_imul dX9_hears_99 ?_
        refine x_iload_n dX9_hears_100 rfl ?_
        refine x_iadd dX9_hears_101 ?_
        refine x_aldz (f := T.1 (70, 0, 0)) dX9_hears_102 (hp70 T) (show (70 : Nat) ≠ 99 by decide) (by omega) (by omega) (by decide) ?_
        have f102_3 := wfa70 wT (S := T) ((64 * l) + (k : Int))
        have e70 := hI.2.2.2.1 k (by omega)
        rw [if_neg (by omega)] at e70
        refine x_icmp_eq (tgt := 131) dX9_hears_103 (by decide) ⟨by decide, by decide⟩ (by first | exact hz _ _ | exact hw.1 _ _ | exact zR_of _ | exact bI_z _ | assumption | exact ⟨by omega, by omega⟩) (fun c103 => ?_) (fun c103 => ?_)
        · refine x_aload_n dX9_hears_131 rfl ?_
          refine x_get (v := xR (70, 0, 0)) dX9_hears_132 fl_RX9_78 (hp50 T) rfl ?_
          refine x_bipush (v := 64) dX9_hears_135 (by decide) ?_
          refine x_iload_n dX9_hears_137 rfl ?_
          refine x_imul dX9_hears_138 ?_
          refine x_iload_n dX9_hears_139 rfl ?_
          refine x_iadd dX9_hears_140 ?_
          refine x_iload dX9_hears_141 rfl ?_
          refine x_astz dX9_hears_143 (hp70 T) (show (70 : Nat) ≠ 99 by decide) (by omega) (by omega) (by decide) (Or.inl rfl) ?_
          refine x_heq (pa70 T ((64 * l) + (k : Int)) 0) ?_
          have hw143_4 : WI (putI T (70, 0, 0) ((64 * l) + (k : Int)) 0) := wpa70 wT (Or.inl rfl)
          refine x_iinc (L' := [xR (50, 0, 0), xI l, xI 0, xI ((k : Int) + 1), xI (64 * r + (k : Int)), xI 0]) dX9_hears_144 rfl rfl ?_
          refine x_goto (tgt := 37) dX9_hears_147 (by decide) ?_
          refine X.loc (L' := [xR (50, 0, 0), xI l, xI 0, xI ((k : Int) + 1), none, none]) ⟨rfl, ⟨rfl, ⟨rfl, ⟨rfl, trivial⟩⟩⟩⟩ ?_
          have hsk : bitJ v k ↔ bitJ o k := ⟨fun y => by have := bI_t y; exact bI_1.mp (by omega), fun y => by have := bI_t y; exact bI_1.mp (by omega)⟩
          exact ih (putI T (70, 0, 0) ((64 * l) + (k : Int)) 0) (k + 1) _ _ (by omega) (hI.skip (by omega) hsk hzv) (by intro q1 q2; exact rm q1 q2) (by omega)
        · refine x_iload_n dX9_hears_106 rfl ?_
          refine x_if_ne (tgt := 131) dX9_hears_107 (by decide) ⟨by decide, by decide⟩ (fun z => absurd z (by decide)) (fun _ => ?_)
          have hne : ¬ (bitJ v k ↔ bitJ o k) := fun y => by have := bI_c y; omega
          obtain ⟨rmA, rmB, rm7, rmg, rmn⟩ := hI.room (by omega) hne hS g0 hSc h7 rm
          refine x_aload_n dX9_hears_110 rfl ?_
          refine x_iload_n dX9_hears_111 rfl ?_
          refine x_iload dX9_hears_112 rfl ?_
          refine x_if_eq (tgt := 124) dX9_hears_114 (by decide) ⟨by decide, by decide⟩ (fun _ => ?_) (fun z => absurd z (by decide))
          refine x_iconst dX9_hears_124 ?_
          refine x_iload dX9_hears_125 rfl ?_
          refine x_isub dX9_hears_127 ?_
          refine x_callV (a := (kpA T l)) (b := (kpB T l)) (as := [xI l, xI ((-1) - (64 * r + (k : Int)))]) (rest := []) ok_X9_keeps dX9_hears_128 wd1288 ⟨wd1290, wd35⟩ (hp50 T) rfl rfl (m_keeps T wT l ((-1) - (64 * r + (k : Int))) l0 l1 (by constructor <;> omega) hI.2.2.2.2.1.1 hI.2.2.2.2.1.2.1 hI.2.2.2.2.1.2.2.2.2.1 rm7) rfl (Nat.le_of_ble_eq_true rfl) (Nat.le_of_ble_eq_true rfl) (by decide) (by omega) (by omega) (fun _ q => ?_) (fun _ _ q => by cases q.1) (fun _ _ q => by cases q.1)
          obtain ⟨-, U, rfl, eU, wU, u68, ug1, ug2, u81, uv⟩ := q
          have hI2 := fun (z : Int) (hz2 : z = bI (bitJ v k)) => hI.keep (by omega) hne g0 rm7 rmg eU wU u68 ug1 ug2 u81 uv (by rw [chgV_t ((cg_bits v o k (by omega)).2.mpr ⟨by first | omega | exact bI_1.mp (by omega), fun y => by have := bI_t y; omega⟩)]; omega) hz2
          have rmU := rmn U u68
          refine x_aload_n dX9_hears_131 rfl ?_
          refine x_get (v := xR (70, 0, 0)) dX9_hears_132 fl_RX9_78 (hp50 U) rfl ?_
          refine x_bipush (v := 64) dX9_hears_135 (by decide) ?_
          refine x_iload_n dX9_hears_137 rfl ?_
          refine x_imul dX9_hears_138 ?_
          refine x_iload_n dX9_hears_139 rfl ?_
          refine x_iadd dX9_hears_140 ?_
          refine x_iload dX9_hears_141 rfl ?_
          refine x_astz dX9_hears_143 (hp70 U) (show (70 : Nat) ≠ 99 by decide) (by omega) (by omega) (by decide) (Or.inl rfl) ?_
          refine x_heq (pa70 U ((64 * l) + (k : Int)) 0) ?_
          have hw143_5 : WI (putI U (70, 0, 0) ((64 * l) + (k : Int)) 0) := wpa70 wU (Or.inl rfl)
          refine x_iinc (L' := [xR (50, 0, 0), xI l, xI 0, xI ((k : Int) + 1), xI (64 * r + (k : Int)), xI 0]) dX9_hears_144 rfl rfl ?_
          refine x_goto (tgt := 37) dX9_hears_147 (by decide) ?_
          refine X.loc (L' := [xR (50, 0, 0), xI l, xI 0, xI ((k : Int) + 1), none, none]) ⟨rfl, ⟨rfl, ⟨rfl, ⟨rfl, trivial⟩⟩⟩⟩ ?_
          exact ih (putI U (70, 0, 0) ((64 * l) + (k : Int)) 0) (k + 1) _ _ (by omega) (hI2 _ hzv) rmU (by omega)
      · refine x_aload_n dX9_hears_73 rfl ?_
        refine x_iload_n dX9_hears_74 rfl ?_
        refine x_iload dX9_hears_75 rfl ?_
        refine x_callV_r (a := 0) (b := 0) (as := [xI l, xI (64 * r + (k : Int))]) (rest := []) ok_X9_isMeant dX9_hears_77 wd1284 ⟨wd1286, wd34⟩ (hp50 T) rfl rfl (m_isMeant T wT l (64 * r + (k : Int)) l0 l1 (by omega) (by omega)) rfl (Nat.le_of_ble_eq_true rfl) (Nat.le_of_ble_eq_true rfl) (by decide) (by omega) (by omega) ?_
        by_cases b77 : (T.1 (67, 0, 0) (5 * l + 2) < 0 ∨ (64 * r + (k : Int)) / 8 % 8 = T.1 (67, 0, 0) (5 * l + 2)) ∧ (T.1 (67, 0, 0) (5 * l + 3) < 0 ∨ (64 * r + (k : Int)) % 8 = T.1 (67, 0, 0) (5 * l + 3))
        · refine x_top (bI_t b77) ?_
          refine x_if_eq (tgt := 87) dX9_hears_80 (by decide) ⟨by decide, by decide⟩ (fun z => absurd z (by decide)) (fun _ => ?_)
          refine x_iconst dX9_hears_83 ?_
          refine x_goto (tgt := 88) dX9_hears_84 (by decide) ?_
          have hzv : (1 : Int) = bI (bitJ v k) := by exact (bI_t (bit.mpr (by omega))).symm
          refine x_istore (L' := [xR (50, 0, 0), xI l, xI 0, xI (k : Int), xI (64 * r + (k : Int)), xI 1]) dX9_hears_88 (by decide) rfl ?_
          refine x_iload dX9_hears_90 rfl ?_
          refine x_aload_n dX9_hears_92 rfl ?_
          refine x_get (v := xR (70, 0, 0)) dX9_hears_93 fl_RX9_78 (hp50 T) rfl ?_
          refine x_bipush (v := 64) dX9_hears_96 (by decide) ?_
          refine x_iload_n dX9_hears_98 rfl ?_
          refine x_imul dX9_hears_99 ?_
          refine x_iload_n dX9_hears_100 rfl ?_
          refine x_iadd dX9_hears_101 ?_
          refine x_aldz (f := T.1 (70, 0, 0)) dX9_hears_102 (hp70 T) (show (70 : Nat) ≠ 99 by decide) (by omega) (by omega) (by decide) ?_
          have f102_6 := wfa70 wT (S := T) ((64 * l) + (k : Int))
          have e70 := hI.2.2.2.1 k (by omega)
          rw [if_neg (by omega)] at e70
          refine x_icmp_eq (tgt := 131) dX9_hears_103 (by decide) ⟨by decide, by decide⟩ (by first | exact hz _ _ | exact hw.1 _ _ | exact zR_of _ | exact bI_z _ | assumption | exact ⟨by omega, by omega⟩) (fun c103 => ?_) (fun c103 => ?_)
          · refine x_aload_n dX9_hears_131 rfl ?_
            refine x_get (v := xR (70, 0, 0)) dX9_hears_132 fl_RX9_78 (hp50 T) rfl ?_
            refine x_bipush (v := 64) dX9_hears_135 (by decide) ?_
            refine x_iload_n dX9_hears_137 rfl ?_
            refine x_imul dX9_hears_138 ?_
            refine x_iload_n dX9_hears_139 rfl ?_
            refine x_iadd dX9_hears_140 ?_
            refine x_iload dX9_hears_141 rfl ?_
            refine x_astz dX9_hears_143 (hp70 T) (show (70 : Nat) ≠ 99 by decide) (by omega) (by omega) (by decide) (Or.inr rfl) ?_
            refine x_heq (pa70 T ((64 * l) + (k : Int)) 1) ?_
            have hw143_7 : WI (putI T (70, 0, 0) ((64 * l) + (k : Int)) 1) := wpa70 wT (Or.inr rfl)
            refine x_iinc (L' := [xR (50, 0, 0), xI l, xI 0, xI ((k : Int) + 1), xI (64 * r + (k : Int)), xI 1]) dX9_hears_144 rfl rfl ?_
            refine x_goto (tgt := 37) dX9_hears_147 (by decide) ?_
            refine X.loc (L' := [xR (50, 0, 0), xI l, xI 0, xI ((k : Int) + 1), none, none]) ⟨rfl, ⟨rfl, ⟨rfl, ⟨rfl, trivial⟩⟩⟩⟩ ?_
            have hsk : bitJ v k ↔ bitJ o k := ⟨fun y => by have := bI_t y; exact bI_1.mp (by omega), fun y => by have := bI_t y; exact bI_1.mp (by omega)⟩
            exact ih (putI T (70, 0, 0) ((64 * l) + (k : Int)) 1) (k + 1) _ _ (by omega) (hI.skip (by omega) hsk hzv) (by intro q1 q2; exact rm q1 q2) (by omega)
          · refine x_iload_n dX9_hears_106 rfl ?_
            refine x_if_ne (tgt := 131) dX9_hears_107 (by decide) ⟨by decide, by decide⟩ (fun z => absurd z (by decide)) (fun _ => ?_)
            have hne : ¬ (bitJ v k ↔ bitJ o k) := fun y => by have := bI_c y; omega
            obtain ⟨rmA, rmB, rm7, rmg, rmn⟩ := hI.room (by omega) hne hS g0 hSc h7 rm
            refine x_aload_n dX9_hears_110 rfl ?_
            refine x_iload_n dX9_hears_111 rfl ?_
            refine x_iload dX9_hears_112 rfl ?_
            refine x_if_eq (tgt := 124) dX9_hears_114 (by decide) ⟨by decide, by decide⟩ (fun z => absurd z (by decide)) (fun _ => ?_)
            refine x_iconst dX9_hears_117 ?_
            refine x_iload dX9_hears_118 rfl ?_
            refine x_iadd dX9_hears_120 ?_
            refine x_goto (tgt := 128) dX9_hears_121 (by decide) ?_
            refine x_callV (a := (kpA T l)) (b := (kpB T l)) (as := [xI l, xI (1 + (64 * r + (k : Int)))]) (rest := []) ok_X9_keeps dX9_hears_128 wd1288 ⟨wd1290, wd35⟩ (hp50 T) rfl rfl (m_keeps T wT l (1 + (64 * r + (k : Int))) l0 l1 (by constructor <;> omega) hI.2.2.2.2.1.1 hI.2.2.2.2.1.2.1 hI.2.2.2.2.1.2.2.2.2.1 rm7) rfl (Nat.le_of_ble_eq_true rfl) (Nat.le_of_ble_eq_true rfl) (by decide) (by omega) (by omega) (fun _ q => ?_) (fun _ _ q => by cases q.1) (fun _ _ q => by cases q.1)
            obtain ⟨-, U, rfl, eU, wU, u68, ug1, ug2, u81, uv⟩ := q
            have hI2 := fun (z : Int) (hz2 : z = bI (bitJ v k)) => hI.keep (by omega) hne g0 rm7 rmg eU wU u68 ug1 ug2 u81 uv (by rw [chgV_f (fun y => by have := ((cg_bits v o k (by omega)).2.mp y).2; first | omega | exact this (bI_1.mp (by omega)))]; omega) hz2
            have rmU := rmn U u68
            refine x_aload_n dX9_hears_131 rfl ?_
            refine x_get (v := xR (70, 0, 0)) dX9_hears_132 fl_RX9_78 (hp50 U) rfl ?_
            refine x_bipush (v := 64) dX9_hears_135 (by decide) ?_
            refine x_iload_n dX9_hears_137 rfl ?_
            refine x_imul dX9_hears_138 ?_
            refine x_iload_n dX9_hears_139 rfl ?_
            refine x_iadd dX9_hears_140 ?_
            refine x_iload dX9_hears_141 rfl ?_
            refine x_astz dX9_hears_143 (hp70 U) (show (70 : Nat) ≠ 99 by decide) (by omega) (by omega) (by decide) (Or.inr rfl) ?_
            refine x_heq (pa70 U ((64 * l) + (k : Int)) 1) ?_
            have hw143_8 : WI (putI U (70, 0, 0) ((64 * l) + (k : Int)) 1) := wpa70 wU (Or.inr rfl)
            refine x_iinc (L' := [xR (50, 0, 0), xI l, xI 0, xI ((k : Int) + 1), xI (64 * r + (k : Int)), xI 1]) dX9_hears_144 rfl rfl ?_
            refine x_goto (tgt := 37) dX9_hears_147 (by decide) ?_
            refine X.loc (L' := [xR (50, 0, 0), xI l, xI 0, xI ((k : Int) + 1), none, none]) ⟨rfl, ⟨rfl, ⟨rfl, ⟨rfl, trivial⟩⟩⟩⟩ ?_
            exact ih (putI U (70, 0, 0) ((64 * l) + (k : Int)) 1) (k + 1) _ _ (by omega) (hI2 _ hzv) rmU (by omega)
        · refine x_top (bI_f b77) ?_
          refine x_if_eq (tgt := 87) dX9_hears_80 (by decide) ⟨by decide, by decide⟩ (fun _ => ?_) (fun z => absurd z (by decide))
          refine x_iconst dX9_hears_87 ?_
          have hzv : (0 : Int) = bI (bitJ v k) := by exact (bI_f (fun y => by have := bit.mp y; omega)).symm
          refine x_istore (L' := [xR (50, 0, 0), xI l, xI 0, xI (k : Int), xI (64 * r + (k : Int)), xI 0]) dX9_hears_88 (by decide) rfl ?_
          refine x_iload dX9_hears_90 rfl ?_
          refine x_aload_n dX9_hears_92 rfl ?_
          refine x_get (v := xR (70, 0, 0)) dX9_hears_93 fl_RX9_78 (hp50 T) rfl ?_
          refine x_bipush (v := 64) dX9_hears_96 (by decide) ?_
          refine x_iload_n dX9_hears_98 rfl ?_
          refine x_imul dX9_hears_99 ?_
          refine x_iload_n dX9_hears_100 rfl ?_
          refine x_iadd dX9_hears_101 ?_
          refine x_aldz (f := T.1 (70, 0, 0)) dX9_hears_102 (hp70 T) (show (70 : Nat) ≠ 99 by decide) (by omega) (by omega) (by decide) ?_
          have f102_9 := wfa70 wT (S := T) ((64 * l) + (k : Int))
          have e70 := hI.2.2.2.1 k (by omega)
          rw [if_neg (by omega)] at e70
          refine x_icmp_eq (tgt := 131) dX9_hears_103 (by decide) ⟨by decide, by decide⟩ (by first | exact hz _ _ | exact hw.1 _ _ | exact zR_of _ | exact bI_z _ | assumption | exact ⟨by omega, by omega⟩) (fun c103 => ?_) (fun c103 => ?_)
          · refine x_aload_n dX9_hears_131 rfl ?_
            refine x_get (v := xR (70, 0, 0)) dX9_hears_132 fl_RX9_78 (hp50 T) rfl ?_
            refine x_bipush (v := 64) dX9_hears_135 (by decide) ?_
            refine x_iload_n dX9_hears_137 rfl ?_
            refine x_imul dX9_hears_138 ?_
            refine x_iload_n dX9_hears_139 rfl ?_
            refine x_iadd dX9_hears_140 ?_
            refine x_iload dX9_hears_141 rfl ?_
            refine x_astz dX9_hears_143 (hp70 T) (show (70 : Nat) ≠ 99 by decide) (by omega) (by omega) (by decide) (Or.inl rfl) ?_
            refine x_heq (pa70 T ((64 * l) + (k : Int)) 0) ?_
            have hw143_10 : WI (putI T (70, 0, 0) ((64 * l) + (k : Int)) 0) := wpa70 wT (Or.inl rfl)
            refine x_iinc (L' := [xR (50, 0, 0), xI l, xI 0, xI ((k : Int) + 1), xI (64 * r + (k : Int)), xI 0]) dX9_hears_144 rfl rfl ?_
            refine x_goto (tgt := 37) dX9_hears_147 (by decide) ?_
            refine X.loc (L' := [xR (50, 0, 0), xI l, xI 0, xI ((k : Int) + 1), none, none]) ⟨rfl, ⟨rfl, ⟨rfl, ⟨rfl, trivial⟩⟩⟩⟩ ?_
            have hsk : bitJ v k ↔ bitJ o k := ⟨fun y => by have := bI_t y; exact bI_1.mp (by omega), fun y => by have := bI_t y; exact bI_1.mp (by omega)⟩
            exact ih (putI T (70, 0, 0) ((64 * l) + (k : Int)) 0) (k + 1) _ _ (by omega) (hI.skip (by omega) hsk hzv) (by intro q1 q2; exact rm q1 q2) (by omega)
          · refine x_iload_n dX9_hears_106 rfl ?_
            refine x_if_ne (tgt := 131) dX9_hears_107 (by decide) ⟨by decide, by decide⟩ (fun z => absurd z (by decide)) (fun _ => ?_)
            have hne : ¬ (bitJ v k ↔ bitJ o k) := fun y => by have := bI_c y; omega
            obtain ⟨rmA, rmB, rm7, rmg, rmn⟩ := hI.room (by omega) hne hS g0 hSc h7 rm
            refine x_aload_n dX9_hears_110 rfl ?_
            refine x_iload_n dX9_hears_111 rfl ?_
            refine x_iload dX9_hears_112 rfl ?_
            refine x_if_eq (tgt := 124) dX9_hears_114 (by decide) ⟨by decide, by decide⟩ (fun _ => ?_) (fun z => absurd z (by decide))
            refine x_iconst dX9_hears_124 ?_
            refine x_iload dX9_hears_125 rfl ?_
            refine x_isub dX9_hears_127 ?_
            refine x_callV (a := (kpA T l)) (b := (kpB T l)) (as := [xI l, xI ((-1) - (64 * r + (k : Int)))]) (rest := []) ok_X9_keeps dX9_hears_128 wd1288 ⟨wd1290, wd35⟩ (hp50 T) rfl rfl (m_keeps T wT l ((-1) - (64 * r + (k : Int))) l0 l1 (by constructor <;> omega) hI.2.2.2.2.1.1 hI.2.2.2.2.1.2.1 hI.2.2.2.2.1.2.2.2.2.1 rm7) rfl (Nat.le_of_ble_eq_true rfl) (Nat.le_of_ble_eq_true rfl) (by decide) (by omega) (by omega) (fun _ q => ?_) (fun _ _ q => by cases q.1) (fun _ _ q => by cases q.1)
            obtain ⟨-, U, rfl, eU, wU, u68, ug1, ug2, u81, uv⟩ := q
            have hI2 := fun (z : Int) (hz2 : z = bI (bitJ v k)) => hI.keep (by omega) hne g0 rm7 rmg eU wU u68 ug1 ug2 u81 uv (by rw [chgV_t ((cg_bits v o k (by omega)).2.mpr ⟨by first | omega | exact bI_1.mp (by omega), fun y => by have := bI_t y; omega⟩)]; omega) hz2
            have rmU := rmn U u68
            refine x_aload_n dX9_hears_131 rfl ?_
            refine x_get (v := xR (70, 0, 0)) dX9_hears_132 fl_RX9_78 (hp50 U) rfl ?_
            refine x_bipush (v := 64) dX9_hears_135 (by decide) ?_
            refine x_iload_n dX9_hears_137 rfl ?_
            refine x_imul dX9_hears_138 ?_
            refine x_iload_n dX9_hears_139 rfl ?_
            refine x_iadd dX9_hears_140 ?_
            refine x_iload dX9_hears_141 rfl ?_
            refine x_astz dX9_hears_143 (hp70 U) (show (70 : Nat) ≠ 99 by decide) (by omega) (by omega) (by decide) (Or.inl rfl) ?_
            refine x_heq (pa70 U ((64 * l) + (k : Int)) 0) ?_
            have hw143_11 : WI (putI U (70, 0, 0) ((64 * l) + (k : Int)) 0) := wpa70 wU (Or.inl rfl)
            refine x_iinc (L' := [xR (50, 0, 0), xI l, xI 0, xI ((k : Int) + 1), xI (64 * r + (k : Int)), xI 0]) dX9_hears_144 rfl rfl ?_
            refine x_goto (tgt := 37) dX9_hears_147 (by decide) ?_
            refine X.loc (L' := [xR (50, 0, 0), xI l, xI 0, xI ((k : Int) + 1), none, none]) ⟨rfl, ⟨rfl, ⟨rfl, ⟨rfl, trivial⟩⟩⟩⟩ ?_
            exact ih (putI U (70, 0, 0) ((64 * l) + (k : Int)) 0) (k + 1) _ _ (by omega) (hI2 _ hzv) rmU (by omega)
