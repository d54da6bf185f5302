/-- the same listeners -/
def LsE (S T : XS) : Prop := (∀ l : XL, l.1 = 14 → T.1 l = S.1 l) ∧ T.2 = S.2
theorem LsE.hrV {S T : XS} (h : LsE S T) (l : Int) (v : Int64) : LsE (sHrV S l v) (sHrV T l v) := by
  obtain ⟨h1, h2⟩ := h
  have e1 := h1 (14, l, 0) rfl
  unfold sHrV
  rw [e1, h2]
  split
  · refine ⟨fun l' hl => ?_, ?_⟩
    · show (putI _ _ _ _).1 l' = (putI _ _ _ _).1 l'
      simp only [putI, putJ, e1, h1 l' hl, h2]
    · simp only [putI, putJ, e1, h2]
  · refine ⟨fun l' hl => ?_, ?_⟩
    · simp only [putJ, h1 l' hl]
    · simp only [putJ, h2]
theorem LsE.inf {S T : XS} (h : LsE S T) {b : Int} (hv : ∀ l : Int, lv T b l = lv S b l) (n : Nat) : LsE (sInf S b n) (sInf T b n) := by
  induction n with
  | zero => exact h
  | succ n ih =>
    have e := h.1 (14, (n : Int), 0) rfl
    by_cases y : S.1 (14, n, 0) 2 = b
    · rw [sInf_t y, sInf_t (by rw [e]; exact y), hv]
      exact ih.hrV _ _
    · rw [sInf_f y, sInf_f (by rw [e]; exact y)]
      exact ih
theorem JInv.seal {C : XS} (h : JInv C) (c6 : C.1 (0, 0, 0) 6 ≤ 4) : SealOk C := fun b b0 b1 j hj => (h.2.1 b b0 (by omega)).2.1 j hj
theorem JInv.dig {C : XS} (h : JInv C) : DigOk C := fun b k b0 b1 k0 k1 => ((h.2.1 b b0 b1).1 k k0 k1).1
/-- a telling more, and the listeners hear -/
theorem JInv.app {C : XS} (hC : CB C) (h : JInv C) {b : Int} (b0 : 0 ≤ b) (b1 : b < C.1 (0, 0, 0) 6) {r s a f t c : Int} (hft : r = 0 → f ≤ t) : JW (sApp C b r s a f t c) b := (h.w b).app hC.1 b0 b1 hft

