/-! the law's cases with a double -/
def COv (S : XS) (Es : List String) (R : Nat → XV → Prop) : XO → XH → Prop := fun o h' => ∃ S1, h' = hp S1 ∧ QEq S S1 ∧ CB S1 ∧ ((∃ v, o = .inl (some v) ∧ R 0 v) ∨ ∃ E k, o = .inr E ∧ Es[k]? = some E ∧ R (k + 1) none)
def setD (S : XS) (x : UInt64) : XS := (S.1, S.2.1, x, S.2.2.2)
theorem OutE.setD (S : XS) (x : UInt64) : OutE S (setD S x) := ⟨fun _ => rfl, fun _ _ _ _ => rfl, rfl⟩
theorem xsh_d (g : XG) (d d' : UInt64) {l : XL} (h : l.1 ≠ 91) (f : Int → Int) (j : Int → Int64) : xsh g d l f j = xsh g d' l f j := by
  unfold xsh
  split
  all_goals first | rfl | exact absurd rfl h
theorem hp_setD (S : XS) (x : UInt64) {f : Int → UInt64} (hf : hp S (91, 0, 0) = some (.inr (4, 1, .inr (.inr (.inl f))))) : xUp (hp S) (91, 0, 0) (.inr (4, 1, .inr (.inr (.inl (xUpd f 0 x))))) = hp (setD S x) := by
  rw [hp91] at hf
  cases hf
  funext l
  by_cases e : l = (91, 0, 0)
  · subst e
    rw [xu_at, hp91]
    have ef : xUpd (fun i : Int => if i = 0 then S.2.2.1 else 0) 0 x = fun i : Int => if i = 0 then x else 0 := by
      funext i
      by_cases y : i = 0
      · simp [xUpd, y]
      · simp [xUpd, y]
    rw [ef]
    rfl
  · rw [xu_o e]
    by_cases y : l.1 = 91
    · obtain ⟨k, a, b⟩ := l
      have y : k = 91 := y
      subst y
      have n : ¬ (a = 0 ∧ b = 0) := fun z => e (by rw [z.1, z.2])
      rw [hp_no (S := S) (l := (91, a, b)) (fun z => n z), hp_no (S := setD S x) (l := (91, a, b)) (fun z => n z)]
    · unfold hp
      rw [xsh_d S.2.2.2 S.2.2.1 (setD S x).2.2.1 y]
      rfl
/-- how a wrapper with a double ends -/
def WOv (S : XS) (R : Nat → XV → Prop) (dv : XV → UInt64) : XO → XH → Prop := fun o h' => ∃ S1 S2 k v, h' = hp S2 ∧ o = .inl (some (xI ((k : Nat) : Int))) ∧ QEq S S1 ∧ CB S1 ∧ OutE S1 S2 ∧ R k v ∧ (k = 0 → S2.2.2.1 = dv v)
def dvV : XV → UInt64 := fun v => match v with
  | some (.inr (.inr (.inr (.inl x)))) => FP.f2d x
  | some (.inr (.inr (.inr (.inr (.inl x))))) => x
  | _ => 0
theorem COv.wf {S : XS} {Es : List String} {R : Nat → XV → Prop} (h : ∀ v, R 0 v → ∃ x, v = xF x ∧ vf_n64 (FP.f2d x)) : pWFq Es (COv S Es R) := by
  rintro o h' ⟨S1, rfl, q, cb, H⟩
  rcases H with ⟨v, rfl, hv⟩ | ⟨E, k, rfl, hk, -⟩
  · obtain ⟨x, rfl, hx⟩ := h v hv
    exact Or.inl ⟨x, _, rfl, hp91 S1, hx⟩
  · exact Or.inr ⟨E, k, rfl, hk⟩
theorem COv.wd {S : XS} {Es : List String} {R : Nat → XV → Prop} (h : ∀ v, R 0 v → ∃ x, v = xD x) : pWDq Es (COv S Es R) := by
  rintro o h' ⟨S1, rfl, q, cb, H⟩
  rcases H with ⟨v, rfl, hv⟩ | ⟨E, k, rfl, hk, -⟩
  · obtain ⟨x, rfl⟩ := h v hv
    exact Or.inl ⟨x, _, rfl, hp91 S1⟩
  · exact Or.inr ⟨E, k, rfl, hk⟩
theorem pWF.wov {S : XS} {Es : List String} {R : Nat → XV → Prop} (hd : Es.Nodup) {o : XO} {h' : XH} (h : pWF Es (COv S Es R) o h') : WOv S R dvV o h' := by
  rcases h with ⟨x, f, h1, ⟨S1, rfl, q, cb, H⟩, hf, rfl, rfl⟩ | ⟨E, k, ⟨S1, rfl, q, cb, H⟩, hk, rfl⟩
  · rcases H with ⟨v, e, hv⟩ | ⟨E, k, e, -⟩
    · cases e
      exact ⟨S1, setD S1 (FP.f2d x), 0, xF x, hp_setD S1 _ hf, rfl, q, cb, OutE.setD S1 _, hv, fun _ => rfl⟩
    · cases e
  · rcases H with ⟨v, e, -⟩ | ⟨E2, k2, e, hk2, hr⟩
    · cases e
    · cases e
      have hl : k2 < Es.length := (List.getElem?_eq_some_iff.mp hk2).1
      have ek : k2 = k := (List.getElem?_inj hl hd).mp (hk2.trans hk.symm)
      subst ek
      exact ⟨S1, S1, k2 + 1, none, rfl, rfl, q, cb, OutE.rf S1, hr, fun z => absurd z (by omega)⟩
theorem pWD.wov {S : XS} {Es : List String} {R : Nat → XV → Prop} (hd : Es.Nodup) {o : XO} {h' : XH} (h : pWD Es (COv S Es R) o h') : WOv S R dvV o h' := by
  rcases h with ⟨x, f, h1, ⟨S1, rfl, q, cb, H⟩, hf, rfl, rfl⟩ | ⟨E, k, ⟨S1, rfl, q, cb, H⟩, hk, rfl⟩
  · rcases H with ⟨v, e, hv⟩ | ⟨E, k, e, -⟩
    · cases e
      exact ⟨S1, setD S1 x, 0, xD x, hp_setD S1 _ hf, rfl, q, cb, OutE.setD S1 _, hv, fun _ => rfl⟩
    · cases e
  · rcases H with ⟨v, e, -⟩ | ⟨E2, k2, e, hk2, hr⟩
    · cases e
    · cases e
      have hl : k2 < Es.length := (List.getElem?_eq_some_iff.mp hk2).1
      have ek : k2 = k := (List.getElem?_inj hl hd).mp (hk2.trans hk.symm)
      subst ek
      exact ⟨S1, S1, k2 + 1, none, rfl, rfl, q, cb, OutE.rf S1, hr, fun z => absurd z (by omega)⟩
noncomputable def shV (S : XS) (i t : Int) : XV := xF (FP.fdiv (FP.i2f (zI (shD S.1 i (S.1 (9, i, 0) 3).toNat t 6))) (FP.i2f (zI (shA S.1 i (S.1 (9, i, 0) 3).toNat t 6))))
abbrev R_derivedShare (S : XS) (i t : Int) : Nat → XV → Prop := fun k9 v9 => (k9 = 0 ∧ (0 ≤ i ∧ i < S.1 (0, 0, 0) 6) ∧ (0 ≤ t ∧ t < 24) ∧ shA S.1 i (S.1 (9, i, 0) 3).toNat t 6 ≠ 0 ∧ v9 = shV S i t) ∨ (k9 = 1 ∧ ¬ (0 ≤ i ∧ i < S.1 (0, 0, 0) 6)) ∨ (k9 = 2 ∧ (0 ≤ i ∧ i < S.1 (0, 0, 0) 6) ∧ ¬ (0 ≤ t ∧ t < 24)) ∨ (k9 = 3 ∧ (0 ≤ i ∧ i < S.1 (0, 0, 0) 6) ∧ (0 ≤ t ∧ t < 24) ∧ ¬ (shA S.1 i (S.1 (9, i, 0) 3).toNat t 6 ≠ 0))
theorem COv.x {S : XS} {Es : List String} {R : Nat → XV → Prop} {E : String} {o : XO} {h' : XH} (h : pX S E o h') (k : Nat) (hk : Es[k]? = some E) (r : R (k + 1) none) : COv S Es R o h' := by
  obtain ⟨rfl, S1, rfl, q, cb⟩ := h
  exact ⟨S1, rfl, q, cb, Or.inr ⟨E, k, rfl, hk, r⟩⟩
theorem COv.q {S : XS} {Es : List String} {R : Nat → XV → Prop} {v : XV} {o : XO} {h' : XH} (h : pQ S (some v) o h') (r : R 0 v) : COv S Es R o h' := by
  obtain ⟨rfl, S1, rfl, q, cb⟩ := h
  exact ⟨S1, rfl, q, cb, Or.inl ⟨v, rfl, r⟩⟩
theorem cu_derivedShare (S : XS) (hI : LwI S) (i t : Int) (zi : zR i) (zt : zR t) : X mX8_derivedShare 0 (xEnt mX8_derivedShare [xR (0, 0, 0), xI i, xI t]) [] (hp S) 6 36 (COv S ["java/lang/IndexOutOfBoundsException", "java/lang/IllegalArgumentException", "java/lang/ArithmeticException"] (R_derivedShare S i t)) := by
  refine X.weak (c_derivedShare S hI.1 i t zi zt) (by decide) (by decide) (fun o h' qq => ?_)
  rcases qq with ⟨c1, qq⟩ | ⟨c1, qq⟩
  · rcases qq with ⟨c2, qq⟩ | ⟨c2, qq⟩
    · rcases qq with ⟨c3, qq⟩ | ⟨c3, qq⟩
      · exact COv.q qq (Or.inl ⟨rfl, c1, c2, c3, rfl⟩)
      · exact COv.x qq 2 rfl (Or.inr (Or.inr (Or.inr ⟨rfl, c1, c2, c3⟩)))
    · exact COv.x qq 1 rfl (Or.inr (Or.inr (Or.inl ⟨rfl, c1, c2⟩)))
  · exact COv.x qq 0 rfl (Or.inr (Or.inl ⟨rfl, c1⟩))
abbrev R_meanRank (S : XS) (i t : Int) : Nat → XV → Prop := fun k9 v9 => (k9 = 0 ∧ (0 ≤ i ∧ i < S.1 (0, 0, 0) 6) ∧ (0 ≤ t ∧ t < 24) ∧ ∃ rk ru wy, Rsn S.1 i (S.1 (9, i, 0) 3).toNat t rk ru wy ∧ mrA rk 384 ≠ 0 ∧ v9 = xD (FP.ddiv (FP.i2d (zI (mrS rk 384))) (FP.i2d (zI (mrA rk 384))))) ∨ (k9 = 1 ∧ ¬ (0 ≤ i ∧ i < S.1 (0, 0, 0) 6)) ∨ (k9 = 2 ∧ (0 ≤ i ∧ i < S.1 (0, 0, 0) 6) ∧ ¬ (0 ≤ t ∧ t < 24)) ∨ (k9 = 3 ∧ (0 ≤ i ∧ i < S.1 (0, 0, 0) 6) ∧ (0 ≤ t ∧ t < 24) ∧ ∃ rk ru wy, Rsn S.1 i (S.1 (9, i, 0) 3).toNat t rk ru wy ∧ ¬ (mrA rk 384 ≠ 0))
theorem cu_meanRank (S : XS) (hI : LwI S) (i t : Int) (zi : zR i) (zt : zR t) : X mX8_meanRank 0 (xEnt mX8_meanRank [xR (0, 0, 0), xI i, xI t]) [] (hp S) 6 36 (COv S ["java/lang/IndexOutOfBoundsException", "java/lang/IllegalArgumentException", "java/lang/ArithmeticException"] (R_meanRank S i t)) := by
  refine X.weak (c_meanRank S hI.1 i t zi zt) (by decide) (by decide) (fun o h' qq => ?_)
  rcases qq with ⟨c1, qq⟩ | ⟨c1, qq⟩
  · rcases qq with ⟨c2, qq⟩ | ⟨c2, qq⟩
    · obtain ⟨rk, ru, wy, hr, qq⟩ := qq
      rcases qq with ⟨c3, qq⟩ | ⟨c3, qq⟩
      · exact COv.q qq (Or.inl ⟨rfl, c1, c2, rk, ru, wy, hr, c3, rfl⟩)
      · exact COv.x qq 2 rfl (Or.inr (Or.inr (Or.inr ⟨rfl, c1, c2, rk, ru, wy, hr, c3⟩)))
    · exact COv.x qq 1 rfl (Or.inr (Or.inr (Or.inl ⟨rfl, c1, c2⟩)))
  · exact COv.x qq 0 rfl (Or.inr (Or.inl ⟨rfl, c1⟩))

