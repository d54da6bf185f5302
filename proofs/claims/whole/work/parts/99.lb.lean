/-! the law: what rows may still grow; the state between calls -/
theorem nd_le {C S : XS} (hM : MRl C S) {b : Int} (hE : EndOk C b) {i : Nat} (hi : (i : Int) < C.1 (0, 0, 0) 7) (h5 : i < 5) : ndN C S b i + 2 * chLen (S.2.2.2.1 i) ≤ 16384 := by
  obtain ⟨-, -, hc, hR, h68⟩ := (hM i (by omega) (by omega)).1 hi
  obtain ⟨g0, g7, r0, r1, r2, -⟩ := hR
  obtain ⟨l1, l2, l3, -⟩ := hc
  obtain ⟨q1, q2⟩ := chLen_7 g0 g7
  unfold ndN
  split
  · rename_i hb
    unfold hrB
    split
    · rename_i hN
      have hne : lv C b i ≠ C.2.1 (14, (i : Int), 0) 6 := fun z => by
        rw [chgN_none 64 (fun p hp y => (cg_iff _ _ hp).mp y (by rw [z]))] at hN
        simp at hN
        omega
      have h8 := hE i (by omega) hi hb hne
      have m64 : (chgN (C.1 (14, (i : Int), 0) 3) (jCm (lv C b i) (C.2.1 (14, (i : Int), 0) 6)) (jGn (lv C b i) (C.2.1 (14, (i : Int), 0) 6)) 64).length ≤ 64 := by
        rw [chgN_len]; exact cntN_le _ _
      have g6 := q2 (by omega)
      have hs := chLen_s g0
      have q3 := (chLen_7 (t := S.2.2.2.1 i + 1) (by omega) (by omega)).1
      omega
    · omega
  · omega
theorem usum_le {S : XS} (h : ∀ l : Nat, l < 5 → 0 ≤ S.2.2.2.1 l ∧ S.2.2.2.1 l ≤ 7) (n : Nat) (hn : n ≤ 5) : usum S n ≤ 16384 * n := by
  induction n with
  | zero => exact Nat.le_refl _
  | succ n ih =>
    have := (chLen_7 (h n (by omega)).1 (h n (by omega)).2).1
    have := ih (by omega)
    rw [usum]
    omega
theorem mrl_gen {C S : XS} (hM : MRl C S) (l : Nat) (hl : l < 5) : 0 ≤ S.2.2.2.1 l ∧ S.2.2.2.1 l ≤ 7 := by
  by_cases y : (l : Int) < C.1 (0, 0, 0) 7
  · obtain ⟨-, -, -, hR, -⟩ := (hM l (by omega) (by omega)).1 y
    exact ⟨hR.1, hR.2.1⟩
  · obtain ⟨f1, -⟩ := (hM l (by omega) (by omega)).2 (by omega)
    omega
/-- what a listener's row must grow when it hears of the branches below n -/
noncomputable def gS (C S : XS) (l : Nat) : Nat → Nat
  | 0 => 0
  | n + 1 => gS C S l n + ndN C S n l
noncomputable def gT (C S : XS) (nb : Nat) : Nat → Nat
  | 0 => 0
  | c + 1 => gT C S nb c + gS C S c nb
theorem gT_0 (C S : XS) (c : Nat) : gT C S 0 c = 0 := by
  induction c with
  | zero => rfl
  | succ c ih => rw [gT, ih]; rfl
theorem gT_s (C S : XS) (nb c : Nat) : gT C S (nb + 1) c = gT C S nb c + ndS C S nb c := by
  induction c with
  | zero => rfl
  | succ c ih => rw [gT, gT, ndS, ih, gS]; omega
theorem fgCost_t (C S : XS) (c nb : Nat) : fgCost C S c nb = gT C S nb c := by
  induction nb with
  | zero => rw [gT_0]; rfl
  | succ nb ih => rw [gT_s, fgCost, ih]
theorem gS_le {C S : XS} (hM : MRl C S) {nb : Nat} (hE : ∀ b : Nat, b < nb → EndOk C b) {i : Nat} (hi : (i : Int) < C.1 (0, 0, 0) 7) (h5 : i < 5) : gS C S i nb + 2 * chLen (S.2.2.2.1 i) ≤ 16384 ∧ ((∀ b : Nat, b < nb → C.1 (14, (i : Int), 0) 2 ≠ b) → gS C S i nb = 0) := by
  have hg := mrl_gen hM i h5
  have q1 := (chLen_7 hg.1 hg.2).1
  induction nb with
  | zero => exact ⟨by show 0 + _ ≤ _; omega, fun _ => rfl⟩
  | succ nb ih =>
    obtain ⟨i1, i2⟩ := ih (fun b hb => hE b (by omega))
    have h2 := nd_le hM (hE nb (by omega)) hi h5
    rw [gS]
    by_cases y : C.1 (14, (i : Int), 0) 2 = nb
    · have z := i2 (fun b hb => by omega)
      refine ⟨by omega, fun w => absurd y (w nb (by omega))⟩
    · have z : ndN C S nb i = 0 := if_neg y
      refine ⟨by omega, fun w => ?_⟩
      rw [z, i2 (fun b hb => w b (by omega))]
theorem ndS_le {C S : XS} (hM : MRl C S) {b : Int} (hE : EndOk C b) (h7 : C.1 (0, 0, 0) 7 ≤ 5) {n : Nat} (hn : (n : Int) ≤ C.1 (0, 0, 0) 7) : ndS C S b n + usum S 5 ≤ 81920 := by
  have key : ∀ m : Nat, m ≤ n → ndS C S b m + usum S m ≤ 16384 * m := fun m => by
    induction m with
    | zero => intro _; exact Nat.le_refl _
    | succ m ih =>
      intro hm
      have := nd_le hM hE (i := m) (by omega) (by omega)
      have := ih (by omega)
      rw [ndS, usum]
      omega
  have k2 : ∀ m : Nat, m ≤ 5 → n ≤ m → usum S m ≤ usum S n + 16384 * (m - n) := fun m => by
    induction m with
    | zero => intro _ h; rw [show n = 0 by omega]; exact Nat.le_refl _
    | succ m ih =>
      intro h5 hnm
      rcases Nat.lt_or_eq_of_le hnm with y | y
      · have := ih (by omega) (by omega)
        have hg := mrl_gen hM m (by omega)
        have := (chLen_7 hg.1 hg.2).1
        rw [usum]
        omega
      · rw [← y]; omega
  have := key n (Nat.le_refl _)
  have := k2 5 (Nat.le_refl _) (by omega)
  omega
theorem fgCost_le {C S : XS} (hM : MRl C S) {nb : Nat} (hE : ∀ b : Nat, b < nb → EndOk C b) (h7 : C.1 (0, 0, 0) 7 ≤ 5) {n : Nat} (hn : (n : Int) ≤ C.1 (0, 0, 0) 7) : fgCost C S n nb + usum S 5 ≤ 81920 := by
  rw [fgCost_t]
  have key : ∀ m : Nat, m ≤ n → gT C S nb m + usum S m ≤ 16384 * m := fun m => by
    induction m with
    | zero => intro _; exact Nat.le_refl _
    | succ m ih =>
      intro hm
      have := (gS_le hM hE (i := m) (by omega) (by omega)).1
      have := ih (by omega)
      rw [gT, usum]
      omega
  have k2 : ∀ m : Nat, m ≤ 5 → n ≤ m → usum S m ≤ usum S n + 16384 * (m - n) := fun m => by
    induction m with
    | zero => intro _ h; rw [show n = 0 by omega]; exact Nat.le_refl _
    | succ m ih =>
      intro h5 hnm
      rcases Nat.lt_or_eq_of_le hnm with y | y
      · have := ih (by omega) (by omega)
        have hg := mrl_gen hM m (by omega)
        have := (chLen_7 hg.1 hg.2).1
        rw [usum]
        omega
      · rw [← y]; omega
  have := key n (Nat.le_refl _)
  have := k2 5 (Nat.le_refl _) (by omega)
  omega
/-- the reference's cells, the script and the names stay -/
def MdE (S T : XS) : Prop := (∀ (k : Nat) (x y : Int), 50 ≤ k → T.1 (k, x, y) = S.1 (k, x, y)) ∧ T.2.2.2 = S.2.2.2
theorem MdE.rf (S : XS) : MdE S S := ⟨fun _ _ _ _ => rfl, rfl⟩
theorem MdE.tr {S T U : XS} (h : MdE S T) (k : MdE T U) : MdE S U := ⟨fun a x y z => (k.1 a x y z).trans (h.1 a x y z), k.2.trans h.2⟩
theorem MdE.q {S T : XS} (h : QEq S T) : MdE S T := ⟨fun k x y hk => h.1 (k, x, y) (by
  unfold kI
  simp only [List.contains_eq_mem, List.mem_cons, List.not_mem_nil, or_false, decide_eq_false_iff_not]
  omega), by rw [h.2.2]⟩
theorem MR.e {C S T : XS} (h : MR C S) (e : MdE S T) : MR C T := h.rows (fun k _ _ => e.1 k 0 0 (by omega)) (fun j _ => by rw [e.1 50 0 0 (by decide)])
theorem MRl.e {C S T : XS} (h : MRl C S) (e : MdE S T) : MRl C T := h.to (fun _ => ⟨rfl, rfl, rfl, rfl⟩) rfl (fun k _ _ => e.1 k 0 0 (by omega)) (by rw [e.2]) (fun l u => e.1 81 l u (by decide))
theorem MN.e {C S T : XS} (h : MN C S) (e : MdE S T) : MN C T := fun r r0 => by rw [e.1 64 0 0 (by decide), e.1 66 0 0 (by decide)]; exact h r r0
theorem usum_e {S T : XS} (e : MdE S T) (n : Nat) : usum T n = usum S n := usum_eq n (fun l _ => by rw [e.2])
theorem MN.cl {C S T : XS} (h : MN C S) (hM : MRn C S) (e : ClE S T) : MN C T := fun r r0 => by
  rw [e.1 (64, 0, 0) (Or.inr (Or.inr rfl)), e.2.2.2.2.2.2 r (by rw [hM.2.1]; exact r0)]
  exact h r r0
theorem MN.to {C D S : XS} (h : MN C S) (e : D.1 (4, 0, 0) 2 = C.1 (4, 0, 0) 2) : MN D S := fun r r0 => h r (by omega)
/-- between two calls of the law -/
def LwI (S : XS) : Prop := CB S ∧ MR S S ∧ MRl S S ∧ JInv S ∧ MN S S ∧ 0 ≤ S.2.2.2.2.1
theorem CB.cl {S T : XS} (b : CB S) (w : WI T) (e : ∀ {k : Nat}, k < 50 → ∀ x y : Int, T.1 (k, x, y) = S.1 (k, x, y)) (ej : ∀ {k : Nat}, k < 50 → ∀ x y : Int, T.2.1 (k, x, y) = S.2.1 (k, x, y)) : CB T := by
  obtain ⟨b1, b2, b3, b4, b5, b6, b7⟩ := b
  have hr : RuleEq S.1 T.1 := ⟨fun r => (e (k := 34) (by decide) r 0).symm, fun r i => (e (k := 36) (by decide) r i).symm, fun r => (e (k := 37) (by decide) r 0).symm, (e (k := 4) (by decide) 0 0).symm⟩
  have ol : ∀ on, OnL S on → OnL T on := fun on k r hr hb => by
    rw [e (k := 4) (by decide), e (k := 34) (by decide)]
    exact k r hr hb
  refine ⟨w, RulesOk_eq hr b2, fun b' t' a0 a1 a2 a3 => ?_, fun b' a0 a1 n hn => ?_, ?_, ⟨fun b' t' a0 a1 a2 a3 => ?_, ?_⟩, fun b' a0 a1 k hk => ?_⟩
  · rw [e (k := 8) (by decide), ej (k := 18) (by decide), ej (k := 28) (by decide)]
    exact Stab_eq hr (b3 b' t' a0 a1 a2 a3)
  · rw [e (k := 0) (by decide)] at a1
    rw [e (k := 9) (by decide)] at hn
    obtain ⟨g, g1, g2⟩ := b4 b' a0 a1 n hn
    rw [onN_congr (f := T.1) (f' := S.1) (fun k => e (k := 13) (by decide) b' k)]
    exact ⟨g, g1, Lay_eq hr g2⟩
  · unfold RGood
    rw [e (k := 7) (by decide), e (k := 40) (by decide), e (k := 41) (by decide), e (k := 42) (by decide), ej (k := 17) (by decide), ej (k := 27) (by decide)]
    exact ⟨Stab_eq hr b5.1, RFin_eq hr b5.2⟩
  · rw [e (k := 8) (by decide)]
    exact ol _ (b6.1 b' t' a0 a1 a2 a3)
  · rw [e (k := 7) (by decide)]
    exact ol _ b6.2
  · rw [e (k := 9) (by decide)] at hk
    rw [e (k := 13) (by decide), e (k := 4) (by decide), e (k := 34) (by decide)]
    exact b7 b' a0 a1 k hk
/-- the law's own cells have changed -/
def OutE (S T : XS) : Prop := (∀ l : XL, T.1 l = S.1 l) ∧ (∀ (k : Nat) (x y : Int), k < 90 → T.2.1 (k, x, y) = S.2.1 (k, x, y)) ∧ T.2.2.2 = S.2.2.2
theorem OutE.rf (S : XS) : OutE S S := ⟨fun _ => rfl, fun _ _ _ _ => rfl, rfl⟩
theorem OutE.md {S T : XS} (h : OutE S T) : MdE S T := ⟨fun _ _ _ _ => h.1 _, h.2.2⟩
theorem OutE.wi {S T : XS} (h : OutE S T) (w : WI S) : WI T := ⟨fun l k => by rw [h.1]; exact w.1 l k, fun l hl k => by rw [h.1]; rw [h.2.2] at hl; exact w.2 l hl k⟩
theorem OutE.out (S : XS) (v : Int64) : OutE S (putJ S (90, 0, 0) 0 v) := ⟨fun _ => rfl, fun k x y hk => by
  show (if _ = _ then _ else _) = _
  rw [if_neg (nK (by omega) _ _ _ _)], rfl⟩
theorem LwI.fin {D S1 S2 T : XS} (hC : CB S1) (hq : QEq D S1) (ho : OutE S1 S2) (hT : ClE S2 T) (w : WI T) (hM : MR D T) (hL : MRl D T) (hJ : JInv D) (hN : MN D T) (h0 : 0 ≤ S2.2.2.2.2.1) : LwI T := by
  have e1 : ∀ {k : Nat}, k < 50 → ∀ x y : Int, T.1 (k, x, y) = S1.1 (k, x, y) := fun hk x y => (hT.1 _ (Or.inl hk)).trans (ho.1 _)
  have j1 : ∀ {k : Nat}, k < 50 → ∀ x y : Int, T.2.1 (k, x, y) = S1.2.1 (k, x, y) := fun hk x y => by rw [hT.2.1]; exact ho.2.1 _ x y (by omega)
  have e : ∀ {k : Nat}, k < 50 → kI k = false → ∀ x y : Int, T.1 (k, x, y) = D.1 (k, x, y) := fun hk hk2 x y => (e1 hk x y).trans (hq.1 (_, x, y) hk2)
  have j : ∀ {k : Nat}, k < 50 → kJ k = false → ∀ x y : Int, T.2.1 (k, x, y) = D.2.1 (k, x, y) := fun hk hk2 x y => (j1 hk x y).trans (hq.2.1 (_, x, y) hk2)
  refine ⟨hC.cl w e1 j1, hM.cls (fun k x y hk => ?_), ?_, hJ.to (fun k x y hk => ?_) (fun k x y hk => ?_), hN.to (by rw [e (k := 4) (by decide) rfl]), Int.le_trans h0 hT.2.2.2.2.1⟩
  · rcases hk with rfl | rfl | rfl | rfl | rfl | rfl | rfl | rfl <;> exact e (by decide) rfl x y
  · exact hL.to (fun l => ⟨e (k := 14) (by decide) rfl l 0, j (k := 14) (by decide) rfl l 0, j (k := 30) (by decide) rfl l 0, j (k := 31) (by decide) rfl l 0⟩) (by rw [e (k := 0) (by decide) rfl]) (fun _ _ _ => rfl) rfl (fun _ _ => rfl)
  · rcases hk with rfl | rfl | rfl | rfl | rfl | rfl | rfl | rfl | rfl <;> exact e (by decide) rfl x y
  · rcases hk with rfl | rfl | rfl <;> exact j (by decide) rfl x y
/-- nothing has changed -/
theorem LwI.same {S S1 S2 T : XS} (h : LwI S) (hC : CB S1) (hq : QEq S S1) (ho : OutE S1 S2) (hT : MdQ S2 T) (w : WI T) : LwI T := by
  obtain ⟨h1, h2, h3, h4, h5, h6⟩ := h
  have em := (MdE.q hq).tr ho.md
  refine LwI.fin hC hq ho hT.cl w ?_ ((h3.e em).q hT) h4 ?_ (by rw [ho.2.2, hq.2.2]; exact h6)
  · exact (h2.e em).rows (fun k a b => hT.1 _ (by unfold mI; simp only [List.contains_eq_mem, List.mem_cons, List.not_mem_nil, or_false, decide_eq_false_iff_not]; omega) (by show k ≠ 50; omega)) (fun j a => hT.2.1 j a)
  · exact (h5.e em).cl (h2.e em).2.1 hT.cl
