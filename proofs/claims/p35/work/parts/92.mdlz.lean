/-! the reference: tell, untell, turn -/
/-- the class's cells, and what the law keeps, stay -/
def ClE (S T : XS) : Prop := (∀ l : XL, (l.1 < 50 ∨ 90 ≤ l.1 ∨ l.1 = 64) → T.1 l = S.1 l) ∧ T.2.1 = S.2.1 ∧ T.2.2.1 = S.2.2.1 ∧ T.2.2.2.2.2 = S.2.2.2.2.2 ∧ S.2.2.2.2.1 ≤ T.2.2.2.2.1 ∧ T.1 (50, 0, 0) 12 = S.1 (50, 0, 0) 12 ∧ ∀ r : Int, S.1 (50, 0, 0) 12 ≤ r → T.1 (66, 0, 0) r = S.1 (66, 0, 0) r
theorem ClE.rf (S : XS) : ClE S S := ⟨fun _ _ => rfl, rfl, rfl, rfl, Int.le_refl _, rfl, fun _ _ => rfl⟩
theorem ClE.tr {S T U : XS} (h : ClE S T) (k : ClE T U) : ClE S U := ⟨fun l a => (k.1 l a).trans (h.1 l a), k.2.1.trans h.2.1, k.2.2.1.trans h.2.2.1, k.2.2.2.1.trans h.2.2.2.1, Int.le_trans h.2.2.2.2.1 k.2.2.2.2.1, k.2.2.2.2.2.1.trans h.2.2.2.2.2.1, fun r hr => (k.2.2.2.2.2.2 r (by rw [h.2.2.2.2.2.1]; exact hr)).trans (h.2.2.2.2.2.2 r hr)⟩
theorem ClE.put {S T : XS} (h : ClE S T) {l : XL} {k v : Int} (hl : 50 ≤ l.1 ∧ l.1 < 90 ∧ l.1 ≠ 64 ∧ l.1 ≠ 66 ∧ (l.1 ≠ 50 ∨ k ≠ 12)) : ClE S (putI T l k v) := ⟨fun l' a => (putI_o (fun z => by rw [z] at a; omega)).trans (h.1 l' a), h.2.1, h.2.2.1, h.2.2.2.1, h.2.2.2.2.1, by
  by_cases e : l = (50, 0, 0)
  · subst e
    rw [putI_at, if_neg (fun z => by have q := hl.2.2.2.2; rcases q with q | q; exact q rfl; exact q z.symm)]
    exact h.2.2.2.2.2.1
  · rw [putI_o (fun z => e z.symm)]
    exact h.2.2.2.2.2.1, fun r hr => by rw [putI_o (fun z => hl.2.2.2.1 (by rw [← z]))]; exact h.2.2.2.2.2.2 r hr⟩
