/-! what a listener is still to be told: rows of changes -/
/-- the change of a pair p: negative if it went -/
noncomputable def chgV (r : Int) (gn : Int64) (p : Nat) : Int := haveI := Classical.propDecidable (bitJ gn p); if bitJ gn p then -(1 + 64 * r + p) else 1 + 64 * r + p
theorem chgV_t {r : Int} {gn : Int64} {p : Nat} (h : bitJ gn p) : chgV r gn p = -(1 + 64 * r + p) := if_pos h
theorem chgV_f {r : Int} {gn : Int64} {p : Nat} (h : ¬ bitJ gn p) : chgV r gn p = 1 + 64 * r + p := if_neg h
/-- the changes of the first n pairs: what came, what went -/
noncomputable def chgN (r : Int) (cm gn : Int64) : Nat → List Int
  | 0 => []
  | p + 1 => haveI := Classical.propDecidable (bitJ cm p ∨ bitJ gn p); if bitJ cm p ∨ bitJ gn p then chgN r cm gn p ++ [chgV r gn p] else chgN r cm gn p
theorem chgN_t {r : Int} {cm gn : Int64} {p : Nat} (h : bitJ cm p ∨ bitJ gn p) : chgN r cm gn (p + 1) = chgN r cm gn p ++ [chgV r gn p] := by rw [chgN]; exact if_pos h
theorem chgN_f {r : Int} {cm gn : Int64} {p : Nat} (h : ¬ (bitJ cm p ∨ bitJ gn p)) : chgN r cm gn (p + 1) = chgN r cm gn p := by rw [chgN]; exact if_neg h
theorem chgN_len (r : Int) (cm gn : Int64) (n : Nat) : (chgN r cm gn n).length = cntN (fun p => bitJ cm p ∨ bitJ gn p) n := by
  induction n with
  | zero => rfl
  | succ n ih =>
    by_cases h : bitJ cm n ∨ bitJ gn n
    · rw [chgN_t h, cntN_t (P := fun p : Nat => bitJ cm p ∨ bitJ gn p) h, List.length_append, ih]; rfl
    · rw [chgN_f h, cntN_f (P := fun p : Nat => bitJ cm p ∨ bitJ gn p) h, ih]
theorem chgN_none {r : Int} {cm gn : Int64} (n : Nat) (h : ∀ p : Nat, p < n → ¬ (bitJ cm p ∨ bitJ gn p)) : chgN r cm gn n = [] := by
  induction n with
  | zero => rfl
  | succ n ih => rw [chgN_f (h n (by omega)), ih (fun p hp => h p (by omega))]
/-- the lowest change is the first; without it the others stay -/
theorem chgN_pop {r : Int} {cm gn cm' gn' : Int64} {p : Nat} (hl : ∀ q : Nat, q < p → ¬ (bitJ cm q ∨ bitJ gn q)) (hp : bitJ cm p ∨ bitJ gn p) (h : ∀ q : Nat, q < 64 → (bitJ cm' q ↔ bitJ cm q ∧ q ≠ p) ∧ (bitJ gn' q ↔ bitJ gn q ∧ q ≠ p)) (n : Nat) (hn : p + n + 1 ≤ 64) : chgN r cm gn (p + n + 1) = chgV r gn p :: chgN r cm' gn' (p + n + 1) := by
  induction n with
  | zero =>
    rw [Nat.add_zero, chgN_t hp, chgN_none p hl, chgN_none (p + 1) (fun q hq => ?_)]
    · rfl
    · obtain ⟨a, b⟩ := h q (by omega)
      rw [a, b]
      rintro (⟨y, z⟩ | ⟨y, z⟩)
      · exact hl q (by omega) (Or.inl y)
      · exact hl q (by omega) (Or.inr y)
  | succ n ih =>
    have e := ih (by omega)
    obtain ⟨a, b⟩ := h (p + n + 1) (by omega)
    have ne : p + n + 1 ≠ p := by omega
    rw [show p + (n + 1) + 1 = (p + n + 1) + 1 by omega]
    by_cases x : bitJ cm ((p + n + 1 : Nat) : Int) ∨ bitJ gn ((p + n + 1 : Nat) : Int)
    · have x' : bitJ cm' ((p + n + 1 : Nat) : Int) ∨ bitJ gn' ((p + n + 1 : Nat) : Int) := x.imp (fun z => a.mpr ⟨z, ne⟩) (fun z => b.mpr ⟨z, ne⟩)
      rw [chgN_t x, chgN_t x', e]
      have ev : chgV r gn (p + n + 1) = chgV r gn' (p + n + 1) := by
        by_cases y : bitJ gn ((p + n + 1 : Nat) : Int)
        · rw [chgV_t y, chgV_t (b.mpr ⟨y, ne⟩)]
        · rw [chgV_f y, chgV_f (fun z => y (b.mp z).1)]
      rw [ev]; rfl
    · have x' : ¬ (bitJ cm' ((p + n + 1 : Nat) : Int) ∨ bitJ gn' ((p + n + 1 : Nat) : Int)) := fun z => x (z.imp (fun z => (a.mp z).1) (fun z => (b.mp z).1))
      rw [chgN_f x, chgN_f x', e]
/-- the changes of m calls, from the place f on -/
noncomputable def quF (r : Int) (cm gn : Int → Int64) (f : Int) : Nat → List Int
  | 0 => []
  | m + 1 => quF r cm gn f m ++ chgN r (cm (f + m)) (gn (f + m)) 64
theorem quF_front (r : Int) (cm gn : Int → Int64) (f : Int) (m : Nat) : quF r cm gn f (m + 1) = chgN r (cm f) (gn f) 64 ++ quF r cm gn (f + 1) m := by
  induction m with
  | zero => simp [quF]
  | succ m ih =>
    rw [quF, ih, quF, List.append_assoc, show f + 1 + (m : Int) = f + ((m + 1 : Nat) : Int) by omega]
theorem quF_congr {r : Int} {cm gn cm' gn' : Int → Int64} {f : Int} (m : Nat) (h : ∀ e : Int, f ≤ e → e < f + m → cm' e = cm e ∧ gn' e = gn e) : quF r cm' gn' f m = quF r cm gn f m := by
  induction m with
  | zero => rfl
  | succ m ih =>
    obtain ⟨a, b⟩ := h (f + m) (by omega) (by omega)
    rw [quF, quF, ih (fun e h1 h2 => h e h1 (by omega)), a, b]
theorem quF_len (r : Int) (cm gn : Int → Int64) (f : Int) (m : Nat) : (quF r cm gn f m).length ≤ 64 * m := by
  induction m with
  | zero => exact Nat.le_refl _
  | succ m ih =>
    have := cntN_le (fun p : Nat => bitJ (cm (f + m)) p ∨ bitJ (gn (f + m)) p) 64
    rw [quF, List.length_append, chgN_len]
    omega
noncomputable def quC (C : XS) (l : Int) : List Int := quF (C.1 (14, l, 0) 3) (C.2.1 (30, l, 0)) (C.2.1 (31, l, 0)) (C.1 (14, l, 0) 7) (C.1 (14, l, 0) 8 - C.1 (14, l, 0) 7).toNat
/-- a listener of the class: its counts, and no call without a change -/
def LC (C : XS) (l : Int) : Prop := 0 ≤ C.1 (14, l, 0) 7 ∧ C.1 (14, l, 0) 7 ≤ C.1 (14, l, 0) 8 ∧ C.1 (14, l, 0) 8 ≤ 120 ∧ C.1 (14, l, 0) 9 = ((quC C l).length : Nat) ∧ ∀ e : Int, C.1 (14, l, 0) 7 ≤ e → e < C.1 (14, l, 0) 8 → C.2.1 (30, l, 0) e ||| C.2.1 (31, l, 0) e ≠ 0
theorem LC.congr {C D : XS} {l : Int} (h : LC C l) (h1 : D.1 (14, l, 0) = C.1 (14, l, 0)) (h2 : D.2.1 (30, l, 0) = C.2.1 (30, l, 0)) (h3 : D.2.1 (31, l, 0) = C.2.1 (31, l, 0)) : LC D l ∧ quC D l = quC C l := by
  have e : quC D l = quC C l := by unfold quC; rw [h1, h2, h3]
  refine ⟨?_, e⟩
  unfold LC
  rw [e, h1, h2, h3]
  exact h
theorem jne_bit {x : Int64} (h : x ≠ 0) : ∃ p : Nat, p < 64 ∧ bitJ x p := by
  apply Classical.byContradiction
  intro z
  exact h (bitJ_ext fun p hp => ⟨fun y => absurd ⟨p, hp, y⟩ z, fun y => absurd y (bitJ_0 p hp)⟩)
/-- the cells of a listener behind a call that changed what it knows -/
theorem hrV_at (C : XS) (l : Int) {v : Int64} (hv : v ≠ C.2.1 (14, l, 0) 6) (h8 : C.1 (14, l, 0) 8 < 120) : (sHrV C l v).1 (14, l, 0) 2 = C.1 (14, l, 0) 2 ∧ (sHrV C l v).1 (14, l, 0) 3 = C.1 (14, l, 0) 3 ∧ (sHrV C l v).1 (14, l, 0) 4 = C.1 (14, l, 0) 4 ∧ (sHrV C l v).1 (14, l, 0) 7 = C.1 (14, l, 0) 7 ∧ (sHrV C l v).1 (14, l, 0) 8 = C.1 (14, l, 0) 8 + 1 ∧ (sHrV C l v).1 (14, l, 0) 9 = C.1 (14, l, 0) 9 + fBits (v ^^^ C.2.1 (14, l, 0) 6) ∧ (sHrV C l v).2.1 (14, l, 0) 5 = C.2.1 (14, l, 0) 5 ∧ (sHrV C l v).2.1 (14, l, 0) 6 = v ∧ (sHrV C l v).2.1 (30, l, 0) = xUpd (C.2.1 (30, l, 0)) (C.1 (14, l, 0) 8) (v &&& (C.2.1 (14, l, 0) 6 ^^^ (-1))) ∧ (sHrV C l v).2.1 (31, l, 0) = xUpd (C.2.1 (31, l, 0)) (C.1 (14, l, 0) 8) (C.2.1 (14, l, 0) 6 &&& (v ^^^ (-1))) := by
  unfold sHrV
  rw [if_pos ⟨hv, h8⟩]
  refine ⟨?_, ?_, ?_, ?_, ?_, ?_, ?_, ?_, ?_, ?_⟩ <;> simp [putI, putJ, xUpd]
theorem hrV_eq (C : XS) (l : Int) {v : Int64} (hv : v = C.2.1 (14, l, 0) 6) : sHrV C l v = putJ C (14, l, 0) 6 v := by
  unfold sHrV
  rw [if_neg (fun z => z.1 hv)]
theorem hrV_at0 (C : XS) (l : Int) {v : Int64} (hv : v = C.2.1 (14, l, 0) 6) : (sHrV C l v).1 = C.1 ∧ (sHrV C l v).2.1 (14, l, 0) 5 = C.2.1 (14, l, 0) 5 ∧ (sHrV C l v).2.1 (14, l, 0) 6 = C.2.1 (14, l, 0) 6 ∧ (sHrV C l v).2.1 (30, l, 0) = C.2.1 (30, l, 0) ∧ (sHrV C l v).2.1 (31, l, 0) = C.2.1 (31, l, 0) := by
  rw [hrV_eq C l hv]
  refine ⟨rfl, ?_, ?_, ?_, ?_⟩ <;> simp [putJ, xUpd, hv]
theorem cg_bits (v o : Int64) (p : Nat) (hp : p < 64) : (bitJ (v &&& (o ^^^ (-1))) p ↔ bitJ v p ∧ ¬ bitJ o p) ∧ (bitJ (o &&& (v ^^^ (-1))) p ↔ bitJ o p ∧ ¬ bitJ v p) := by
  rw [bitJ_and _ _ _ hp, bitJ_not _ _ hp, bitJ_and _ _ _ hp, bitJ_not _ _ hp]
  exact ⟨Iff.rfl, Iff.rfl⟩
theorem cg_len (r : Int) (v o : Int64) : fBits (v ^^^ o) = ((chgN r (v &&& (o ^^^ (-1))) (o &&& (v ^^^ (-1))) 64).length : Nat) := by
  rw [fBits_cnt, chgN_len]
  congr 1
  refine cntN_eq 64 fun p hp => ?_
  obtain ⟨a, b⟩ := cg_bits v o p hp
  rw [bitJ_xor _ _ _ hp, a, b]
  by_cases x : bitJ v p <;> by_cases y : bitJ o p <;> simp [x, y]
/-- a listener of the class hears -/
theorem LC.hear {C : XS} {l : Int} (h : LC C l) {v : Int64} (h8 : v ≠ C.2.1 (14, l, 0) 6 → C.1 (14, l, 0) 8 < 120) : LC (sHrV C l v) l ∧ quC (sHrV C l v) l = quC C l ++ chgN (C.1 (14, l, 0) 3) (v &&& (C.2.1 (14, l, 0) 6 ^^^ (-1))) (C.2.1 (14, l, 0) 6 &&& (v ^^^ (-1))) 64 := by
  obtain ⟨h1, h2, h3, h4, h5⟩ := h
  by_cases hv : v = C.2.1 (14, l, 0) 6
  · obtain ⟨a1, a2, a3, a4, a5⟩ := hrV_at0 C l hv
    obtain ⟨k1, k2⟩ := LC.congr (D := sHrV C l v) ⟨h1, h2, h3, h4, h5⟩ (by rw [a1]) a4 a5
    refine ⟨k1, ?_⟩
    rw [k2, chgN_none 64 (fun p hp => ?_), List.append_nil]
    obtain ⟨b1, b2⟩ := cg_bits v (C.2.1 (14, l, 0) 6) p hp
    rw [b1, b2, hv]
    rintro (⟨x, y⟩ | ⟨x, y⟩) <;> exact y x
  · have h8' := h8 hv
    obtain ⟨a1, a2, a3, a4, a5, a6, a7, a8, a9, a10⟩ := hrV_at C l hv h8'
    have e : quC (sHrV C l v) l = quC C l ++ chgN (C.1 (14, l, 0) 3) (v &&& (C.2.1 (14, l, 0) 6 ^^^ (-1))) (C.2.1 (14, l, 0) 6 &&& (v ^^^ (-1))) 64 := by
      unfold quC
      rw [a2, a4, a5, a9, a10, show (C.1 (14, l, 0) 8 + 1 - C.1 (14, l, 0) 7).toNat = (C.1 (14, l, 0) 8 - C.1 (14, l, 0) 7).toNat + 1 by omega, quF, quF_congr (cm := C.2.1 (30, l, 0)) (gn := C.2.1 (31, l, 0)) _ (fun e e1 e2 => ?_)]
      · rw [show C.1 (14, l, 0) 7 + (((C.1 (14, l, 0) 8 - C.1 (14, l, 0) 7).toNat : Nat) : Int) = C.1 (14, l, 0) 8 by omega]
        simp only [xUpd, if_true]
      · have ne : ¬ e = C.1 (14, l, 0) 8 := by omega
        constructor <;> simp [xUpd, ne]
    refine ⟨⟨by omega, by omega, by omega, ?_, fun x x1 x2 => ?_⟩, e⟩
    · rw [a6, h4, e, List.length_append, cg_len (C.1 (14, l, 0) 3)]
      omega
    · rw [a9, a10]
      by_cases ne : x = C.1 (14, l, 0) 8
      · subst ne
        simp only [xUpd, if_true]
        intro z
        refine hv (bitJ_ext fun p hp => ?_)
        obtain ⟨b1, b2⟩ := cg_bits v (C.2.1 (14, l, 0) 6) p hp
        have y : ¬ bitJ (v &&& (C.2.1 (14, l, 0) 6 ^^^ (-1)) ||| C.2.1 (14, l, 0) 6 &&& (v ^^^ (-1))) p := by rw [z]; exact bitJ_0 p hp
        rw [bitJ_or _ _ _ hp, b1, b2] at y
        by_cases u1 : bitJ v p <;> by_cases u2 : bitJ (C.2.1 (14, l, 0) 6) p <;> simp_all
      · simp only [xUpd, if_neg ne]
        exact h5 x (by omega) (by omega)
theorem tk_bits (x : Int64) (p q : Nat) (hp : p < 64) (hq : q < 64) : bitJ (x &&& (jShl 1 p ^^^ (-1))) q ↔ bitJ x q ∧ q ≠ p := by
  rw [bitJ_and _ _ _ hq, bitJ_not _ _ hq, bitJ_one p q hp hq]
theorem sTake_at (C : XS) (l : Int) (p : Nat) : (sTake C l p).1 (14, l, 0) 2 = C.1 (14, l, 0) 2 ∧ (sTake C l p).1 (14, l, 0) 3 = C.1 (14, l, 0) 3 ∧ (sTake C l p).1 (14, l, 0) 4 = C.1 (14, l, 0) 4 ∧ (sTake C l p).1 (14, l, 0) 7 = (if C.2.1 (30, l, 0) (C.1 (14, l, 0) 7) ||| C.2.1 (31, l, 0) (C.1 (14, l, 0) 7) = jShl 1 p then C.1 (14, l, 0) 7 + 1 else C.1 (14, l, 0) 7) ∧ (sTake C l p).1 (14, l, 0) 8 = C.1 (14, l, 0) 8 ∧ (sTake C l p).1 (14, l, 0) 9 = C.1 (14, l, 0) 9 - 1 ∧ (sTake C l p).2.1 (14, l, 0) = C.2.1 (14, l, 0) ∧ (sTake C l p).2.1 (30, l, 0) = xUpd (C.2.1 (30, l, 0)) (C.1 (14, l, 0) 7) (C.2.1 (30, l, 0) (C.1 (14, l, 0) 7) &&& (jShl 1 p ^^^ (-1))) ∧ (sTake C l p).2.1 (31, l, 0) = xUpd (C.2.1 (31, l, 0)) (C.1 (14, l, 0) 7) (C.2.1 (31, l, 0) (C.1 (14, l, 0) 7) &&& (jShl 1 p ^^^ (-1))) := by
  unfold sTake
  by_cases h : C.2.1 (30, l, 0) (C.1 (14, l, 0) 7) ||| C.2.1 (31, l, 0) (C.1 (14, l, 0) 7) = jShl 1 p
  · simp only [if_pos h]
    refine ⟨?_, ?_, ?_, ?_, ?_, ?_, ?_, ?_, ?_⟩ <;> simp [putI, putJ, xUpd]
  · simp only [if_neg h]
    refine ⟨?_, ?_, ?_, ?_, ?_, ?_, ?_, ?_, ?_⟩ <;> simp [putI, putJ, xUpd]
/-- the change at the front is taken -/
theorem LC.take {C : XS} {l : Int} (h : LC C l) (h9 : C.1 (14, l, 0) 9 ≠ 0) {p : Nat} (hp : Low (C.2.1 (30, l, 0) (C.1 (14, l, 0) 7) ||| C.2.1 (31, l, 0) (C.1 (14, l, 0) 7)) p) : quC C l = takeV C l p :: quC (sTake C l p) l ∧ LC (sTake C l p) l := by
  obtain ⟨h1, h2, h3, h4, h5⟩ := h
  obtain ⟨a1, a2, a3, a4, a5, a6, a7, a8, a9⟩ := sTake_at C l p
  obtain ⟨p64, pl, pb⟩ := hp
  have hfe : C.1 (14, l, 0) 7 < C.1 (14, l, 0) 8 := by
    rcases Int.lt_or_eq_of_le h2 with y | y
    · exact y
    · exfalso
      apply h9
      rw [h4]
      unfold quC
      rw [y, Int.sub_self]
      rfl
  have hne := h5 _ (Int.le_refl _) hfe
  have hb : bitJ (C.2.1 (30, l, 0) (C.1 (14, l, 0) 7) ||| C.2.1 (31, l, 0) (C.1 (14, l, 0) 7)) p := by
    rcases pb with y | y
    · obtain ⟨q, q1, q2⟩ := jne_bit hne
      by_cases z : q < p
      · exact absurd q2 (pl q z)
      · rw [show p = q by omega]; exact q2
    · exact y
  have hb' := hb
  rw [bitJ_or _ _ _ p64] at hb'
  have hlo : ∀ q : Nat, q < p → ¬ (bitJ (C.2.1 (30, l, 0) (C.1 (14, l, 0) 7)) q ∨ bitJ (C.2.1 (31, l, 0) (C.1 (14, l, 0) 7)) q) := fun q hq => by
    have := pl q hq
    rw [bitJ_or _ _ _ (by omega)] at this
    exact this
  have pop := chgN_pop (r := C.1 (14, l, 0) 3) hlo hb' (fun q hq => ⟨tk_bits _ p q p64 hq, tk_bits _ p q p64 hq⟩) (63 - p) (by omega)
  rw [show p + (63 - p) + 1 = 64 by omega] at pop
  have ev : takeV C l p = chgV (C.1 (14, l, 0) 3) (C.2.1 (31, l, 0) (C.1 (14, l, 0) 7)) p := by
    have ab := and_bit (C.2.1 (31, l, 0) (C.1 (14, l, 0) 7)) p p64
    unfold takeV
    by_cases y : bitJ (C.2.1 (31, l, 0) (C.1 (14, l, 0) 7)) p
    · rw [chgV_t y, if_neg (ab.mpr y)]
    · rw [chgV_f y, if_pos (Classical.byContradiction fun z => y (ab.mp z))]
  obtain ⟨m, hm⟩ : ∃ m : Nat, (C.1 (14, l, 0) 8 - C.1 (14, l, 0) 7).toNat = m + 1 := ⟨(C.1 (14, l, 0) 8 - C.1 (14, l, 0) 7).toNat - 1, by omega⟩
  have rest : quF (C.1 (14, l, 0) 3) (xUpd (C.2.1 (30, l, 0)) (C.1 (14, l, 0) 7) (C.2.1 (30, l, 0) (C.1 (14, l, 0) 7) &&& (jShl 1 p ^^^ (-1)))) (xUpd (C.2.1 (31, l, 0)) (C.1 (14, l, 0) 7) (C.2.1 (31, l, 0) (C.1 (14, l, 0) 7) &&& (jShl 1 p ^^^ (-1)))) (C.1 (14, l, 0) 7 + 1) m = quF (C.1 (14, l, 0) 3) (C.2.1 (30, l, 0)) (C.2.1 (31, l, 0)) (C.1 (14, l, 0) 7 + 1) m :=
    quF_congr m (fun e e1 e2 => by
      have ne : ¬ e = C.1 (14, l, 0) 7 := by omega
      constructor <;> simp [xUpd, ne])
  have q1 : quC C l = takeV C l p :: (chgN (C.1 (14, l, 0) 3) (C.2.1 (30, l, 0) (C.1 (14, l, 0) 7) &&& (jShl 1 p ^^^ (-1))) (C.2.1 (31, l, 0) (C.1 (14, l, 0) 7) &&& (jShl 1 p ^^^ (-1))) 64 ++ quF (C.1 (14, l, 0) 3) (C.2.1 (30, l, 0)) (C.2.1 (31, l, 0)) (C.1 (14, l, 0) 7 + 1) m) := by
    unfold quC
    rw [hm, quF_front, pop, ev]
    rfl
  have q2 : quC (sTake C l p) l = chgN (C.1 (14, l, 0) 3) (C.2.1 (30, l, 0) (C.1 (14, l, 0) 7) &&& (jShl 1 p ^^^ (-1))) (C.2.1 (31, l, 0) (C.1 (14, l, 0) 7) &&& (jShl 1 p ^^^ (-1))) 64 ++ quF (C.1 (14, l, 0) 3) (C.2.1 (30, l, 0)) (C.2.1 (31, l, 0)) (C.1 (14, l, 0) 7 + 1) m := by
    unfold quC
    rw [a2, a4, a5, a8, a9]
    by_cases y : C.2.1 (30, l, 0) (C.1 (14, l, 0) 7) ||| C.2.1 (31, l, 0) (C.1 (14, l, 0) 7) = jShl 1 p
    · rw [if_pos y, show (C.1 (14, l, 0) 8 - (C.1 (14, l, 0) 7 + 1)).toNat = m by omega, rest, chgN_none 64 (fun q hq => ?_), List.nil_append]
      rw [tk_bits _ p q p64 hq, tk_bits _ p q p64 hq]
      have z : bitJ (C.2.1 (30, l, 0) (C.1 (14, l, 0) 7) ||| C.2.1 (31, l, 0) (C.1 (14, l, 0) 7)) q ↔ q = p := by rw [y]; exact bitJ_one p q p64 hq
      rw [bitJ_or _ _ _ hq] at z
      rintro (⟨u, v⟩ | ⟨u, v⟩)
      · exact v (z.mp (Or.inl u))
      · exact v (z.mp (Or.inr u))
    · rw [if_neg y, hm, quF_front, rest]
      simp only [xUpd, if_true]
  refine ⟨by rw [q1, q2], ?_⟩
  have hlen : ((quC C l).length : Int) = (quC (sTake C l p) l).length + 1 := by rw [q1, q2]; simp
  refine ⟨?_, ?_, by omega, by omega, fun x x1 x2 => ?_⟩
  · rw [a4]; split <;> omega
  · rw [a4, a5]; split <;> omega
  · rw [a4] at x1
    rw [a5] at x2
    rw [a8, a9]
    by_cases y : C.2.1 (30, l, 0) (C.1 (14, l, 0) 7) ||| C.2.1 (31, l, 0) (C.1 (14, l, 0) 7) = jShl 1 p
    · rw [if_pos y] at x1
      have ne : ¬ x = C.1 (14, l, 0) 7 := by omega
      simp only [xUpd, if_neg ne]
      exact h5 x (by omega) (by omega)
    · rw [if_neg y] at x1
      by_cases ne : x = C.1 (14, l, 0) 7
      · subst ne
        simp only [xUpd, if_true]
        intro z
        refine y (bitJ_ext fun q hq => ?_)
        rw [bitJ_one p q p64 hq]
        constructor
        · intro u
          apply Classical.byContradiction
          intro w
          have k : ¬ bitJ (C.2.1 (30, l, 0) (C.1 (14, l, 0) 7) &&& (jShl 1 p ^^^ (-1)) ||| C.2.1 (31, l, 0) (C.1 (14, l, 0) 7) &&& (jShl 1 p ^^^ (-1))) q := by rw [z]; exact bitJ_0 q hq
          rw [bitJ_or _ _ _ hq, tk_bits _ p q p64 hq, tk_bits _ p q p64 hq] at k
          rw [bitJ_or _ _ _ hq] at u
          exact k (u.imp (fun u => ⟨u, w⟩) (fun u => ⟨u, w⟩))
        · intro u; rw [u]; exact hb
      · simp only [xUpd, if_neg ne]
        exact h5 x (by omega) (by omega)
/-- what the reference has written down, from the place g on -/
def RQ (ch : Int → Int) (g : Int) (L : List Int) : Prop := ∀ (i : Nat) (v : Int), L[i]? = some v → ch (g + i) = v
/-- a row of changes of the reference -/
def LR (S : XS) (l : Int) (L : List Int) : Prop := 0 ≤ S.2.2.2.1 l ∧ S.2.2.2.1 l ≤ 7 ∧ 0 ≤ S.1 (69, 0, 0) l ∧ S.1 (68, 0, 0) l = S.1 (69, 0, 0) l + (L.length : Nat) ∧ S.1 (68, 0, 0) l ≤ (chLen (S.2.2.2.1 l) : Nat) ∧ RQ (S.1 (81, l, S.2.2.2.1 l)) (S.1 (69, 0, 0) l) L
/-- a listener of the class and one of the reference are the same -/
def LQ (C S : XS) (l : Int) : Prop := (S.1 (67, 0, 0) (5 * l) = C.1 (14, l, 0) 2 ∧ S.1 (67, 0, 0) (5 * l + 1) = C.1 (14, l, 0) 3 ∧ S.1 (67, 0, 0) (5 * l + 4) = C.1 (14, l, 0) 4 ∧ C.2.1 (14, l, 0) 5 = pairsN (S.1 (67, 0, 0) (5 * l + 2)) (S.1 (67, 0, 0) (5 * l + 3)) 64 ∧ S.1 (67, 0, 0) (5 * l + 2) ≤ 7 ∧ S.1 (67, 0, 0) (5 * l + 3) ≤ 7) ∧ (∀ k : Nat, k < 64 → S.1 (70, 0, 0) (64 * l + k) = bI (bitJ (C.2.1 (14, l, 0) 6) k)) ∧ LC C l ∧ LR S l (quC C l) ∧ S.1 (68, 0, 0) l ≤ 64 * C.1 (14, l, 0) 8
/-- a listener that is not yet there -/
def LF (C S : XS) (l : Int) : Prop := S.2.2.2.1 l = 0 ∧ S.1 (68, 0, 0) l = 0 ∧ S.1 (69, 0, 0) l = 0 ∧ C.1 (14, l, 0) 7 = 0 ∧ C.1 (14, l, 0) 8 = 0 ∧ C.1 (14, l, 0) 9 = 0
/-- the listeners -/
def MRl (C S : XS) : Prop := ∀ l : Int, 0 ≤ l → l < 5 → (l < C.1 (0, 0, 0) 7 → LQ C S l) ∧ (C.1 (0, 0, 0) 7 ≤ l → LF C S l)
theorem LR.congr {S T : XS} {l : Int} {L : List Int} (h : LR S l L) (h1 : T.2.2.2.1 l = S.2.2.2.1 l) (h2 : T.1 (68, 0, 0) l = S.1 (68, 0, 0) l) (h3 : T.1 (69, 0, 0) l = S.1 (69, 0, 0) l) (h4 : T.1 (81, l, S.2.2.2.1 l) = S.1 (81, l, S.2.2.2.1 l)) : LR T l L := by
  unfold LR
  rw [h1, h2, h3, h4]
  exact h
theorem RQ.snoc {ch ch' : Int → Int} {g : Int} {L : List Int} {v : Int} (h : RQ ch g L) (h1 : ∀ i : Nat, i < L.length → ch' (g + i) = ch (g + i)) (h2 : ch' (g + (L.length : Nat)) = v) : RQ ch' g (L ++ [v]) := by
  intro i w hw
  by_cases hi : i < L.length
  · rw [List.getElem?_append_left hi] at hw
    rw [h1 i hi]
    exact h i w hw
  · rw [List.getElem?_append_right (by omega)] at hw
    have : i = L.length := by
      have := (List.getElem?_eq_some_iff.mp hw).1
      simp at this
      omega
    subst this
    simp at hw
    rw [h2, hw]
theorem chLen_s {t : Int} (h : 0 ≤ t) : chLen (t + 1) = 2 * chLen t := by
  unfold chLen
  rw [show (t + 1).toNat = t.toNat + 1 by omega, Nat.pow_succ]
  omega
theorem chLen_64 (t : Int) : 64 ≤ chLen t := by
  unfold chLen
  have := Nat.one_le_two_pow (n := t.toNat)
  omega
theorem chLen_7 {t : Int} (h0 : 0 ≤ t) (h : t ≤ 7) : chLen t ≤ 8192 ∧ (chLen t < 7680 → t ≤ 6) := by
  obtain ⟨n, rfl⟩ := Int.eq_ofNat_of_zero_le h0
  have hn : n ≤ 7 := by omega
  unfold chLen
  match n, hn with
  | 0, _ => decide
  | 1, _ => decide
  | 2, _ => decide
  | 3, _ => decide
  | 4, _ => decide
  | 5, _ => decide
  | 6, _ => decide
  | 7, _ => decide
