/-! what a listener is still to be told: rows of changes -/
/-- the change of a pair p: negative if it went -/
noncomputable def chgV (r : Int) (gn : Int64) (p : Nat) : Int := haveI := Classical.propDecidable (bitJ gn p); if bitJ gn p then -(1 + 64 * r + p) else 1 + 64 * r + p
/-- the changes of the first n pairs: what came, what went -/
noncomputable def chgN (r : Int) (cm gn : Int64) : Nat → List Int
  | 0 => []
  | p + 1 => haveI := Classical.propDecidable (bitJ cm p ∨ bitJ gn p); if bitJ cm p ∨ bitJ gn p then chgN r cm gn p ++ [chgV r gn p] else chgN r cm gn p
theorem chgN_t {r : Int} {cm gn : Int64} {p : Nat} (h : bitJ cm p ∨ bitJ gn p) : chgN r cm gn (p + 1) = chgN r cm gn p ++ [chgV r gn p] := by rw [chgN]; exact if_pos h
theorem chgN_f {r : Int} {cm gn : Int64} {p : Nat} (h : ¬ (bitJ cm p ∨ bitJ gn p)) : chgN r cm gn (p + 1) = chgN r cm gn p := by rw [chgN]; exact if_neg h
theorem chgN_len (r : Int) (cm gn : Int64) (n : Nat) : (chgN r cm gn n).length = cntN (fun p => bitJ cm p ∨ bitJ gn p) n := by
  induction n with
  | zero => rfl
  | succ n ih =>
    by_cases h : bitJ cm n ∨ bitJ gn n
    · rw [chgN_t h, cntN_t (P := fun p : Nat => bitJ cm p ∨ bitJ gn p) h, List.length_append, ih]; rfl
    · rw [chgN_f h, cntN_f (P := fun p : Nat => bitJ cm p ∨ bitJ gn p) h, ih]
theorem chgN_none {r : Int} {cm gn : Int64} (n : Nat) (h : ∀ p : Nat, p < n → ¬ (bitJ cm p ∨ bitJ gn p)) : chgN r cm gn n = [] := by
  induction n with
  | zero => rfl
  | succ n ih => rw [chgN_f (h n (by omega)), ih (fun p hp => h p (by omega))]
/-- the changes of m calls, from the place f on -/
noncomputable def quF (r : Int) (cm gn : Int → Int64) (f : Int) : Nat → List Int
  | 0 => []
  | m + 1 => quF r cm gn f m ++ chgN r (cm (f + m)) (gn (f + m)) 64
theorem quF_congr {r : Int} {cm gn cm' gn' : Int → Int64} {f : Int} (m : Nat) (h : ∀ e : Int, f ≤ e → e < f + m → cm' e = cm e ∧ gn' e = gn e) : quF r cm' gn' f m = quF r cm gn f m := by
  induction m with
  | zero => rfl
  | succ m ih =>
    obtain ⟨a, b⟩ := h (f + m) (by omega) (by omega)
    rw [quF, quF, ih (fun e h1 h2 => h e h1 (by omega)), a, b]
theorem quF_len (r : Int) (cm gn : Int → Int64) (f : Int) (m : Nat) : (quF r cm gn f m).length ≤ 64 * m := by
  induction m with
  | zero => exact Nat.le_refl _
  | succ m ih =>
    have := cntN_le (fun p : Nat => bitJ (cm (f + m)) p ∨ bitJ (gn (f + m)) p) 64
    rw [quF, List.length_append, chgN_len]
    omega
noncomputable def quC (C : XS) (l : Int) : List Int := quF (C.1 (14, l, 0) 3) (C.2.1 (30, l, 0)) (C.2.1 (31, l, 0)) (C.1 (14, l, 0) 7) (C.1 (14, l, 0) 8 - C.1 (14, l, 0) 7).toNat
/-- a listener of the class: its counts, and no call without a change -/
def LC (C : XS) (l : Int) : Prop := 0 ≤ C.1 (14, l, 0) 7 ∧ C.1 (14, l, 0) 7 ≤ C.1 (14, l, 0) 8 ∧ C.1 (14, l, 0) 8 ≤ 120 ∧ C.1 (14, l, 0) 9 = ((quC C l).length : Nat) ∧ ∀ e : Int, C.1 (14, l, 0) 7 ≤ e → e < C.1 (14, l, 0) 8 → C.2.1 (30, l, 0) e ||| C.2.1 (31, l, 0) e ≠ 0
theorem LC.congr {C D : XS} {l : Int} (h : LC C l) (h1 : D.1 (14, l, 0) = C.1 (14, l, 0)) (h2 : D.2.1 (30, l, 0) = C.2.1 (30, l, 0)) (h3 : D.2.1 (31, l, 0) = C.2.1 (31, l, 0)) : LC D l ∧ quC D l = quC C l := by
  have e : quC D l = quC C l := by unfold quC; rw [h1, h2, h3]
  refine ⟨?_, e⟩
  unfold LC
  rw [e, h1, h2, h3]
  exact h
/-- the cells of a listener behind a call that changed what it knows -/
theorem hrV_at (C : XS) (l : Int) {v : Int64} (hv : v ≠ C.2.1 (14, l, 0) 6) (h8 : C.1 (14, l, 0) 8 < 120) : (sHrV C l v).1 (14, l, 0) 2 = C.1 (14, l, 0) 2 ∧ (sHrV C l v).1 (14, l, 0) 3 = C.1 (14, l, 0) 3 ∧ (sHrV C l v).1 (14, l, 0) 4 = C.1 (14, l, 0) 4 ∧ (sHrV C l v).1 (14, l, 0) 7 = C.1 (14, l, 0) 7 ∧ (sHrV C l v).1 (14, l, 0) 8 = C.1 (14, l, 0) 8 + 1 ∧ (sHrV C l v).1 (14, l, 0) 9 = C.1 (14, l, 0) 9 + fBits (v ^^^ C.2.1 (14, l, 0) 6) ∧ (sHrV C l v).2.1 (14, l, 0) 5 = C.2.1 (14, l, 0) 5 ∧ (sHrV C l v).2.1 (14, l, 0) 6 = v ∧ (sHrV C l v).2.1 (30, l, 0) = xUpd (C.2.1 (30, l, 0)) (C.1 (14, l, 0) 8) (v &&& (C.2.1 (14, l, 0) 6 ^^^ (-1))) ∧ (sHrV C l v).2.1 (31, l, 0) = xUpd (C.2.1 (31, l, 0)) (C.1 (14, l, 0) 8) (C.2.1 (14, l, 0) 6 &&& (v ^^^ (-1))) := by
  unfold sHrV
  rw [if_pos ⟨hv, h8⟩]
  refine ⟨?_, ?_, ?_, ?_, ?_, ?_, ?_, ?_, ?_, ?_⟩ <;> simp [putI, putJ, xUpd]
theorem hrV_eq (C : XS) (l : Int) {v : Int64} (hv : v = C.2.1 (14, l, 0) 6) : sHrV C l v = putJ C (14, l, 0) 6 v := by
  unfold sHrV
  rw [if_neg (fun z => z.1 hv)]
theorem hrV_at0 (C : XS) (l : Int) {v : Int64} (hv : v = C.2.1 (14, l, 0) 6) : (sHrV C l v).1 = C.1 ∧ (sHrV C l v).2.1 (14, l, 0) 5 = C.2.1 (14, l, 0) 5 ∧ (sHrV C l v).2.1 (14, l, 0) 6 = C.2.1 (14, l, 0) 6 ∧ (sHrV C l v).2.1 (30, l, 0) = C.2.1 (30, l, 0) ∧ (sHrV C l v).2.1 (31, l, 0) = C.2.1 (31, l, 0) := by
  rw [hrV_eq C l hv]
  refine ⟨rfl, ?_, ?_, ?_, ?_⟩ <;> simp [putJ, xUpd, hv]
theorem cg_bits (v o : Int64) (p : Nat) (hp : p < 64) : (bitJ (v &&& (o ^^^ (-1))) p ↔ bitJ v p ∧ ¬ bitJ o p) ∧ (bitJ (o &&& (v ^^^ (-1))) p ↔ bitJ o p ∧ ¬ bitJ v p) := by
  rw [bitJ_and _ _ _ hp, bitJ_not _ _ hp, bitJ_and _ _ _ hp, bitJ_not _ _ hp]
  exact ⟨Iff.rfl, Iff.rfl⟩
theorem cg_len (r : Int) (v o : Int64) : fBits (v ^^^ o) = ((chgN r (v &&& (o ^^^ (-1))) (o &&& (v ^^^ (-1))) 64).length : Nat) := by
  rw [fBits_cnt, chgN_len]
  congr 1
  refine cntN_eq 64 fun p hp => ?_
  obtain ⟨a, b⟩ := cg_bits v o p hp
  rw [bitJ_xor _ _ _ hp, a, b]
  by_cases x : bitJ v p <;> by_cases y : bitJ o p <;> simp [x, y]
/-- a listener of the class hears -/
theorem LC.hear {C : XS} {l : Int} (h : LC C l) {v : Int64} (h8 : v ≠ C.2.1 (14, l, 0) 6 → C.1 (14, l, 0) 8 < 120) : LC (sHrV C l v) l ∧ quC (sHrV C l v) l = quC C l ++ chgN (C.1 (14, l, 0) 3) (v &&& (C.2.1 (14, l, 0) 6 ^^^ (-1))) (C.2.1 (14, l, 0) 6 &&& (v ^^^ (-1))) 64 := by
  obtain ⟨h1, h2, h3, h4, h5⟩ := h
  by_cases hv : v = C.2.1 (14, l, 0) 6
  · obtain ⟨a1, a2, a3, a4, a5⟩ := hrV_at0 C l hv
    obtain ⟨k1, k2⟩ := LC.congr (D := sHrV C l v) ⟨h1, h2, h3, h4, h5⟩ (by rw [a1]) a4 a5
    refine ⟨k1, ?_⟩
    rw [k2, chgN_none 64 (fun p hp => ?_), List.append_nil]
    obtain ⟨b1, b2⟩ := cg_bits v (C.2.1 (14, l, 0) 6) p hp
    rw [b1, b2, hv]
    rintro (⟨x, y⟩ | ⟨x, y⟩) <;> exact y x
  · have h8' := h8 hv
    obtain ⟨a1, a2, a3, a4, a5, a6, a7, a8, a9, a10⟩ := hrV_at C l hv h8'
    have e : quC (sHrV C l v) l = quC C l ++ chgN (C.1 (14, l, 0) 3) (v &&& (C.2.1 (14, l, 0) 6 ^^^ (-1))) (C.2.1 (14, l, 0) 6 &&& (v ^^^ (-1))) 64 := by
      unfold quC
      rw [a2, a4, a5, a9, a10, show (C.1 (14, l, 0) 8 + 1 - C.1 (14, l, 0) 7).toNat = (C.1 (14, l, 0) 8 - C.1 (14, l, 0) 7).toNat + 1 by omega, quF, quF_congr (cm := C.2.1 (30, l, 0)) (gn := C.2.1 (31, l, 0)) _ (fun e e1 e2 => ?_)]
      · rw [show C.1 (14, l, 0) 7 + (((C.1 (14, l, 0) 8 - C.1 (14, l, 0) 7).toNat : Nat) : Int) = C.1 (14, l, 0) 8 by omega]
        simp only [xUpd, if_true]
      · have ne : ¬ e = C.1 (14, l, 0) 8 := by omega
        constructor <;> simp [xUpd, ne]
    refine ⟨⟨by omega, by omega, by omega, ?_, fun x x1 x2 => ?_⟩, e⟩
    · rw [a6, h4, e, List.length_append, cg_len (C.1 (14, l, 0) 3)]
      omega
    · rw [a9, a10]
      by_cases ne : x = C.1 (14, l, 0) 8
      · subst ne
        simp only [xUpd, if_true]
        intro z
        refine hv (bitJ_ext fun p hp => ?_)
        obtain ⟨b1, b2⟩ := cg_bits v (C.2.1 (14, l, 0) 6) p hp
        have y : ¬ bitJ (v &&& (C.2.1 (14, l, 0) 6 ^^^ (-1)) ||| C.2.1 (14, l, 0) 6 &&& (v ^^^ (-1))) p := by rw [z]; exact bitJ_0 p hp
        rw [bitJ_or _ _ _ hp, b1, b2] at y
        by_cases u1 : bitJ v p <;> by_cases u2 : bitJ (C.2.1 (14, l, 0) 6) p <;> simp_all
      · simp only [xUpd, if_neg ne]
        exact h5 x (by omega) (by omega)
