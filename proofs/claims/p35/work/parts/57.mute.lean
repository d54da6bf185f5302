/-! merge -/
theorem QEq.symm {S S' : XS} (q : QEq S S') : QEq S' S := ⟨fun l h => (q.1 l h).symm, fun l h => (q.2.1 l h).symm, q.2.2.symm⟩
theorem Riv.q {S S' : XS} (q : QEq S S') {b x u v : Int} (h : Riv S.1 b x u v) : Riv S'.1 b x u v := by
  obtain ⟨h1, t, h2, h3, p, p1, p2, p3, p4⟩ := h
  exact ⟨by rw [q.1 (3, 0, 0) rfl]; exact h1, t, h2, h3, p, p1, p2, p3, by rw [q.1 (9, b, 0) rfl, q.toldN]; exact p4⟩
theorem CanTell.q {S S' : XS} (q : QEq S S') {b c k : Int} (h : CanTell S b c k) : CanTell S' b c k := by
  obtain ⟨h1, h2⟩ := h
  unfold CanTell
  rw [q.1 (9, b, 0) rfl, q.1 (13, c, k) rfl, q.onN]
  exact ⟨h1, fun z => ⟨fun y => q.can ((h2 z).1 y), fun y w => (h2 z).2 y (w.q q.symm)⟩⟩
theorem fHasC.q {S S' : XS} (q : QEq S S') {b f t : Int} {c k : Int} (h : fHasC S b f t (13, c, k)) : fHasC S' b f t (13, c, k) := by
  obtain ⟨i, h1, h2, h3, h4, h5⟩ := h
  refine ⟨i, h1, by rw [q.1 (9, b, 0) rfl]; exact h2, by rw [q.1 (13, b, _) rfl]; exact h3, by rw [q.1 (13, b, _) rfl]; exact h4, ?_⟩
  unfold fAgainst at *
  rw [q.1 (13, b, _) rfl, q.1 (13, c, k) rfl]
  exact h5
/-- a telling is passed over -/
def Conf (T : XS) (o b k : Int) : Prop := T.1 (13, b, k) 6 ≠ 0 ∨ fHasC T o (T.1 (9, b, 0) 5) b (13, b, k) ∨ ¬ CanTell T o b k
theorem Conf.q {S S' : XS} (q : QEq S S') {o b k : Int} (h : Conf S o b k) : Conf S' o b k := by
  unfold Conf at *
  rw [q.1 (13, b, k) rfl, q.1 (9, b, 0) rfl]
  rcases h with h | h | h
  · exact Or.inl h
  · exact Or.inr (Or.inl (h.q q))
  · exact Or.inr (Or.inr (fun z => h (z.q q.symm)))
def sPut8 (T : XS) : XS := putI T (0, 0, 0) 8 (T.1 (0, 0, 0) 8 + 1)
def sTake1 (T : XS) (o b k : Int) : XS := sApp T o (T.1 (13, b, k) 0) (T.1 (13, b, k) 1) (T.1 (13, b, k) 2) (T.1 (13, b, k) 3) (T.1 (13, b, k) 4) b
/-- n of the tellings are merged -/
noncomputable def sMgN (S : XS) (o b : Int) : Nat → XS
  | 0 => putI S (0, 0, 0) 8 0
  | n + 1 => @ite _ (Conf (sMgN S o b n) o b (S.1 (9, b, 0) 6 + n)) (Classical.propDecidable _) (sPut8 (sMgN S o b n)) (sTake1 (sMgN S o b n) o b (S.1 (9, b, 0) 6 + n))
theorem sMgN_t {S : XS} {o b : Int} {n : Nat} (h : Conf (sMgN S o b n) o b (S.1 (9, b, 0) 6 + n)) : sMgN S o b (n + 1) = sPut8 (sMgN S o b n) := if_pos h
theorem sMgN_f {S : XS} {o b : Int} {n : Nat} (h : ¬ Conf (sMgN S o b n) o b (S.1 (9, b, 0) 6 + n)) : sMgN S o b (n + 1) = sTake1 (sMgN S o b n) o b (S.1 (9, b, 0) 6 + n) := if_neg h
theorem QEq.put8 {S S' : XS} (q : QEq S S') : QEq (sPut8 S) (sPut8 S') := by
  unfold sPut8
  rw [q.1 (0, 0, 0) rfl]
  exact q.pI rfl _ _
theorem QEq.take1 {S S' : XS} (q : QEq S S') (o b k : Int) : QEq (sTake1 S o b k) (sTake1 S' o b k) := by
  unfold sTake1
  rw [q.1 (13, b, k) rfl]
  exact q.app _ _ _ _ _ _ _
/-- what merging leaves alone -/
theorem mg_o (S : XS) {o b : Int} (n : Nat) {l : XL} (h1 : l.1 ≠ 13) (h2 : l.1 ≠ 11) (h3 : l ≠ (9, o, 0)) (h4 : l ≠ (0, 0, 0)) : (sMgN S o b n).1 l = S.1 l := by
  induction n with
  | zero => exact putI_o h4
  | succ n ih =>
    by_cases h : Conf (sMgN S o b n) o b (S.1 (9, b, 0) 6 + n)
    · rw [sMgN_t h]
      exact (putI_o h4).trans ih
    · rw [sMgN_f h]
      exact (sApp_o _ _ _ _ _ _ _ _ (fun z => h1 (by rw [z])) (fun z => h2 (by rw [z])) h3).trans ih
theorem mg_0 (S : XS) {o b : Int} (n : Nat) {j : Int} (h : j ≠ 8) : (sMgN S o b n).1 (0, 0, 0) j = S.1 (0, 0, 0) j := by
  induction n with
  | zero =>
    show (putI S (0, 0, 0) 8 0).1 (0, 0, 0) j = _
    rw [putI_at, if_neg h]
  | succ n ih =>
    by_cases hc : Conf (sMgN S o b n) o b (S.1 (9, b, 0) 6 + n)
    · rw [sMgN_t hc]
      unfold sPut8
      rw [putI_at, if_neg h]
      exact ih
    · rw [sMgN_f hc]
      unfold sTake1
      rw [sApp_k _ _ _ _ _ _ _ _ (k := 0) (by decide)]
      exact ih
theorem mg_13 (S : XS) {o b : Int} (n : Nat) (b' k : Int) (h : b' ≠ o) : (sMgN S o b n).1 (13, b', k) = S.1 (13, b', k) := by
  induction n with
  | zero => exact putI_o (nK (by decide) _ _ _ _)
  | succ n ih =>
    by_cases hc : Conf (sMgN S o b n) o b (S.1 (9, b, 0) 6 + n)
    · rw [sMgN_t hc]
      exact (putI_o (nK (by decide) _ _ _ _)).trans ih
    · rw [sMgN_f hc]
      exact (sApp_tel _ _ _ _ _ _ _ _ _ _ (fun z => h z.1)).trans ih
theorem CB.take1 {V : XS} (hb : CB V) {o b k : Int} (o0 : 0 ≤ o) (o1 : o < V.1 (0, 0, 0) 6) (b0 : 0 ≤ b) (b1 : b < 4) (k0 : 0 ≤ k) (k1 : k < V.1 (9, b, 0) 3) (hc : CanTell V o b k) : CB (sTake1 V o b k) := by
  have k9 := wf9_3 hb.1 b0 b1
  have a0 := wf13_0 hb.1 b0 b1 k0 (show k < 60 by omega)
  have a1 := wf13_1 hb.1 b0 b1 k0 (show k < 60 by omega)
  have a2 := wf13_2 hb.1 b0 b1 k0 (show k < 60 by omega)
  have a3 := wf13_3 hb.1 b0 b1 k0 (show k < 60 by omega)
  have a4 := wf13_4 hb.1 b0 b1 k0 (show k < 60 by omega)
  have ht := hb.2.2.2.2.2.2 b b0 b1 k.toNat (by omega)
  rw [show (k.toNat : Int) = k by omega] at ht
  obtain ⟨c1, c2⟩ := hc
  exact hb.app o0 o1 c1 a0 a1 (by omega) (by omega) (by omega) (by omega) (fun z => turn_lay hb o0 o1 a2.1 (ht z).1 (fun y => by obtain ⟨-, g, g1, g2⟩ := (c2 y).1 z; exact ⟨g, g1, g2⟩)) ht
theorem CB.put8 {V : XS} (hb : CB V) (h : V.1 (0, 0, 0) 8 < 60) : CB (sPut8 V) := by
  have k8 := wf0_8 hb.1
  exact hb.gen (wp0_8 hb.1 ⟨by omega, by omega⟩) (fun k x y a b c d e => putI_o (nK a _ _ _ _)) (by unfold sPut8; rw [putI_at, if_neg (by decide)]) (fun b' => by unfold sPut8; rw [putI_o (nK (by decide) _ _ _ _)]) (fun k x y a b c => rfl)
/-- the state after merge, before the listeners hear -/
noncomputable def sMgF (S : XS) (o b : Int) : XS := putI (sMgN S o b (S.1 (9, b, 0) 3 - S.1 (9, b, 0) 6).toNat) (9, b, 0) 6 (S.1 (9, b, 0) 3)
