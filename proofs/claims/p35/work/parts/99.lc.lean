/-! the law's calls: what class and reference answer -/
/-- how a call of the class ends: R says with which exception's number (0: none), which answer, and what state -/
def CO (S : XS) (Es : List String) (R : Nat → Int → XS → Prop) : XO → XH → Prop := fun o h' => ∃ S1 D, h' = hp S1 ∧ QEq D S1 ∧ CB S1 ∧ MdE S D ∧ JInv D ∧ ((∃ v, o = .inl (some (xI v)) ∧ R 0 v D) ∨ ∃ E k, o = .inr E ∧ Es[k]? = some E ∧ R (k + 1) 0 D)
theorem CO.x {S : XS} {Es : List String} {R : Nat → Int → XS → Prop} (hI : LwI S) {E : String} {o : XO} {h' : XH} (h : pX S E o h') (k : Nat) (hk : Es[k]? = some E) (r : R (k + 1) 0 S) : CO S Es R o h' := by
  obtain ⟨rfl, S1, rfl, q, cb⟩ := h
  exact ⟨S1, S, rfl, q, cb, MdE.rf S, hI.2.2.2.1, Or.inr ⟨E, k, rfl, hk, r⟩⟩
theorem CO.n {S D : XS} {Es : List String} {R : Nat → Int → XS → Prop} {v : Int} {o : XO} {h' : XH} (h : pN D (some (xI v)) o h') (em : MdE S D) (ji : JInv D) (r : R 0 v D) : CO S Es R o h' := by
  obtain ⟨rfl, S1, rfl, q, cb⟩ := h
  exact ⟨S1, D, rfl, q, cb, em, ji, Or.inl ⟨v, rfl, r⟩⟩
theorem CO.q {S : XS} {Es : List String} {R : Nat → Int → XS → Prop} (hI : LwI S) {v : Int} {o : XO} {h' : XH} (h : pQ S (some (xI v)) o h') (r : R 0 v S) : CO S Es R o h' := CO.n h (MdE.rf S) hI.2.2.2.1 r
theorem pX.of {S : XS} {E : String} {o : XO} {h' : XH} (hI : LwI S) (h : pThr E (hp S) o h') : pX S E o h' := by
  obtain ⟨rfl, rfl⟩ := h
  exact ⟨rfl, S, rfl, QEq.rf S, hI.1⟩
theorem pQ.of {S : XS} {v : XV} {o : XO} {h' : XH} (hI : LwI S) (h : pRet v (hp S) o h') : pQ S (some v) o h' := by
  obtain ⟨rfl, rfl⟩ := h
  exact ⟨rfl, S, rfl, QEq.rf S, hI.1⟩
