/-- the reference's cells, the script and the names stay -/
def MdE (S T : XS) : Prop := (∀ (k : Nat) (x y : Int), 50 ≤ k → T.1 (k, x, y) = S.1 (k, x, y)) ∧ T.2.2.2 = S.2.2.2
theorem MdE.rf (S : XS) : MdE S S := ⟨fun _ _ _ _ => rfl, rfl⟩
theorem MdE.tr {S T U : XS} (h : MdE S T) (k : MdE T U) : MdE S U := ⟨fun a x y z => (k.1 a x y z).trans (h.1 a x y z), k.2.trans h.2⟩
theorem MdE.q {S T : XS} (h : QEq S T) : MdE S T := ⟨fun k x y hk => h.1 (k, x, y) (by
  unfold kI
  simp only [List.contains_eq_mem, List.mem_cons, List.not_mem_nil, or_false, decide_eq_false_iff_not]
  omega), by rw [h.2.2]⟩
/-- between two calls of the class (the shape is that of whole) -/
def LwI (S : XS) : Prop := CB S ∧ True ∧ True ∧ JInv S ∧ True ∧ True
theorem CB.cl {S T : XS} (b : CB S) (w : WI T) (e : ∀ {k : Nat}, k < 50 → ∀ x y : Int, T.1 (k, x, y) = S.1 (k, x, y)) (ej : ∀ {k : Nat}, k < 50 → ∀ x y : Int, T.2.1 (k, x, y) = S.2.1 (k, x, y)) : CB T := by
  obtain ⟨b1, b2, b3, b4, b5, b6, b7⟩ := b
  have hr : RuleEq S.1 T.1 := ⟨fun r => (e (k := 34) (by decide) r 0).symm, fun r i => (e (k := 36) (by decide) r i).symm, fun r => (e (k := 37) (by decide) r 0).symm, (e (k := 4) (by decide) 0 0).symm⟩
  have ol : ∀ on, OnL S on → OnL T on := fun on k r hr hb => by
    rw [e (k := 4) (by decide), e (k := 34) (by decide)]
    exact k r hr hb
  refine ⟨w, RulesOk_eq hr b2, fun b' t' a0 a1 a2 a3 => ?_, fun b' a0 a1 n hn => ?_, ?_, ⟨fun b' t' a0 a1 a2 a3 => ?_, ?_⟩, fun b' a0 a1 k hk => ?_⟩
  · rw [e (k := 8) (by decide), ej (k := 18) (by decide), ej (k := 28) (by decide)]
    exact Stab_eq hr (b3 b' t' a0 a1 a2 a3)
  · rw [e (k := 0) (by decide)] at a1
    rw [e (k := 9) (by decide)] at hn
    obtain ⟨g, g1, g2⟩ := b4 b' a0 a1 n hn
    rw [onN_congr (f := T.1) (f' := S.1) (fun k => e (k := 13) (by decide) b' k)]
    exact ⟨g, g1, Lay_eq hr g2⟩
  · unfold RGood
    rw [e (k := 7) (by decide), e (k := 40) (by decide), e (k := 41) (by decide), e (k := 42) (by decide), ej (k := 17) (by decide), ej (k := 27) (by decide)]
    exact ⟨Stab_eq hr b5.1, RFin_eq hr b5.2⟩
  · rw [e (k := 8) (by decide)]
    exact ol _ (b6.1 b' t' a0 a1 a2 a3)
  · rw [e (k := 7) (by decide)]
    exact ol _ b6.2
  · rw [e (k := 9) (by decide)] at hk
    rw [e (k := 13) (by decide), e (k := 4) (by decide), e (k := 34) (by decide)]
    exact b7 b' a0 a1 k hk
/-- the law's own cells have changed -/
def OutE (S T : XS) : Prop := (∀ l : XL, T.1 l = S.1 l) ∧ (∀ (k : Nat) (x y : Int), k < 90 → T.2.1 (k, x, y) = S.2.1 (k, x, y)) ∧ T.2.2.2 = S.2.2.2
theorem OutE.rf (S : XS) : OutE S S := ⟨fun _ => rfl, fun _ _ _ _ => rfl, rfl⟩
theorem OutE.out (S : XS) (v : Int64) : OutE S (putJ S (90, 0, 0) 0 v) := ⟨fun _ => rfl, fun k x y hk => by
  show (if _ = _ then _ else _) = _
  rw [if_neg (nK (by omega) _ _ _ _)], rfl⟩
