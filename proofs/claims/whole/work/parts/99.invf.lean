/-! forget, on both sides; merge -/
theorem forg_congr {S T : XS} {b x : Int} (h : ∀ k : Int, T.1 (13, b, k) = S.1 (13, b, k)) (n : Nat) : (∀ k : Int, (sForgN T b x n).1 (13, b, k) = (sForgN S b x n).1 (13, b, k)) ∧ forgN T b x n = forgN S b x n := by
  induction n with
  | zero => exact ⟨h, rfl⟩
  | succ n ih =>
    obtain ⟨h1, h2⟩ := ih
    have e := h1 n
    by_cases z : (sForgN S b x n).1 (13, b, n) 6 = 0 ∧ fConcerns (sForgN S b x n) (13, b, n) x
    · have z' : (sForgN T b x n).1 (13, b, n) 6 = 0 ∧ fConcerns (sForgN T b x n) (13, b, n) x := by unfold fConcerns at *; rw [e]; exact z
      rw [(sForgN_t S b x n z).1, (sForgN_t S b x n z).2, (sForgN_t T b x n z').1, (sForgN_t T b x n z').2, h2]
      refine ⟨fun k => ?_, rfl⟩
      by_cases q : k = n
      · subst q
        funext j
        rw [putI_at, putI_at, e]
      · rw [putI_o (n13 (fun y => q y.2)), putI_o (n13 (fun y => q y.2))]
        exact h1 k
    · have z' : ¬ ((sForgN T b x n).1 (13, b, n) 6 = 0 ∧ fConcerns (sForgN T b x n) (13, b, n) x) := by unfold fConcerns at *; rw [e]; exact z
      rw [(sForgN_f S b x n z).1, (sForgN_f S b x n z).2, (sForgN_f T b x n z').1, (sForgN_f T b x n z').2, h2]
      exact ⟨h1, rfl⟩
/-- the same listeners -/
def LsE (S T : XS) : Prop := (∀ l : XL, l.1 = 14 → T.1 l = S.1 l) ∧ T.2 = S.2
theorem LsE.hrV {S T : XS} (h : LsE S T) (l : Int) (v : Int64) : LsE (sHrV S l v) (sHrV T l v) := by
  obtain ⟨h1, h2⟩ := h
  have e1 := h1 (14, l, 0) rfl
  unfold sHrV
  rw [e1, h2]
  split
  · refine ⟨fun l' hl => ?_, ?_⟩
    · show (putI _ _ _ _).1 l' = (putI _ _ _ _).1 l'
      simp only [putI, putJ, e1, h1 l' hl, h2]
    · simp only [putI, putJ, e1, h2]
  · refine ⟨fun l' hl => ?_, ?_⟩
    · simp only [putJ, h1 l' hl]
    · simp only [putJ, h2]
theorem LsE.inf {S T : XS} (h : LsE S T) {b : Int} (hv : ∀ l : Int, lv T b l = lv S b l) (n : Nat) : LsE (sInf S b n) (sInf T b n) := by
  induction n with
  | zero => exact h
  | succ n ih =>
    have e := h.1 (14, (n : Int), 0) rfl
    by_cases y : S.1 (14, n, 0) 2 = b
    · rw [sInf_t y, sInf_t (by rw [e]; exact y), hv]
      exact ih.hrV _ _
    · rw [sInf_f y, sInf_f (by rw [e]; exact y)]
      exact ih
theorem inA_5 (S : XS) (c n : Nat) (l : Int) : (sInA S c n).2.1 (14, l, 0) 5 = S.2.1 (14, l, 0) 5 := by
  induction n with
  | zero => rfl
  | succ n ih => rw [sInA, inf_5, ih]
theorem inA_lv (S : XS) (c n : Nat) (b l : Int) : lv (sInA S c n) b l = lv S b l := lv_L (inA_L S c n) (inA_i S c n _ (by decide) (by decide)) (inA_i S c n _ (by decide) (by decide)) (inA_5 S c n l)
theorem LsE.inA {S T : XS} (h : LsE S T) (c n : Nat) (hv : ∀ b : Nat, b < n → ∀ l : Int, lv T b l = lv S b l) : LsE (sInA S c n) (sInA T c n) := by
  induction n with
  | zero => exact h
  | succ n ih =>
    rw [sInA, sInA]
    exact (ih (fun b hb => hv b (by omega))).inf (fun l => by rw [inA_lv, inA_lv, hv n (by omega)]) c
theorem forg_inA (U : XS) (c n m : Nat) (x : Int) : sForgN (sInA U c n) n x m = sInA (sForgN U n x m) c n := by
  have hL := inA_L U c n
  have hL2 := inA_L (sForgN U n x m) c n
  have hE : LsE U (sForgN U n x m) := ⟨fun l hl => sForgN_o U n x m (by omega), forgN_j U n x m⟩
  have hI := hE.inA c n (fun b hb l => lv_eq (forg_rule U n x m) (fun k => (forg_b U n x m (Or.inl (by omega))).symm) (by rw [sForgN_o U n x m (l := (9, _, 0)) (show (9 : Nat) ≠ 13 by decide)]) (forg_14 U n x m l) (by rw [forgN_j]))
  refine Prod.ext (funext fun l => ?_) ?_
  · by_cases h13 : l.1 = 13
    · obtain ⟨k, b, t⟩ := l
      have h13 : k = 13 := h13
      subst h13
      rw [hL2.i (k := 13) (by decide)]
      by_cases y : b = n
      · subst y
        exact (forg_congr (fun k => hL.i (k := 13) (by decide) n k) m).1 t
      · rw [forg_b _ _ _ _ (Or.inl y), forg_b _ _ _ _ (Or.inl y), hL.i (k := 13) (by decide)]
    · rw [sForgN_o _ _ _ _ h13]
      by_cases h14 : l.1 = 14
      · exact (hI.1 l h14).symm
      · rw [hL.1 l h14, hL2.1 l h14, sForgN_o _ _ _ _ h13]
  · rw [forgN_j]
    exact hI.2.symm
theorem fgB_eq (C : XS) (x : Int) (n : Nat) : sFgB C x n = sInA (sFgA C x n) (C.1 (0, 0, 0) 7).toNat n ∧ fgS C x n = fgA C x n := by
  induction n with
  | zero => exact ⟨rfl, rfl⟩
  | succ n ih =>
    obtain ⟨i1, i2⟩ := ih
    refine ⟨?_, ?_⟩
    · rw [sFgB, i1, forg_inA]
      rfl
    · rw [fgS, fgA, i1, i2, (forg_congr (fun k => (inA_L (sFgA C x n) (C.1 (0, 0, 0) 7).toNat n).i (k := 13) (by decide) n k) _).2]
/-- merge -/
theorem mgF_eq {C : XS} {o b : Int} (h : C.1 (9, b, 0) 6 ≤ C.1 (9, b, 0) 3) : sMgF C o b = gMg C o b (C.1 (9, b, 0) 3 - C.1 (9, b, 0) 6).toNat := by
  unfold sMgF gMg
  rw [show C.1 (9, b, 0) 6 + (((C.1 (9, b, 0) 3 - C.1 (9, b, 0) 6).toNat : Nat) : Int) = C.1 (9, b, 0) 3 by omega]
theorem JInv.mgF {C : XS} (hC : CB C) (h : JInv C) {b : Int} (b0 : 0 < b) (b1 : b < C.1 (0, 0, 0) 6) : CB (sMgF C (C.1 (9, b, 0) 4) b) ∧ JW (sMgF C (C.1 (9, b, 0) 4) b) (C.1 (9, b, 0) 4) := by
  have c6 := wf0_6 hC.1
  obtain ⟨q1, q2, q3⟩ := (h.2.1 b (by omega) (by omega)).2.2.1 b0 b1
  have k4 := wf9_4 hC.1 (b := b) (by omega) (by omega)
  have k6 := wf9_6 hC.1 (b := b) (by omega) (by omega)
  rw [mgF_eq q3]
  exact ⟨gMg_cb hC k4.1 (by omega) (by omega) (by omega) (by omega) _ (by omega), JW.mg hC h k4.1 (by omega) b0 b1 (by omega) _ (by omega)⟩
theorem JInv.ho {C : XS} (h : JInv C) (c6 : C.1 (0, 0, 0) 6 ≤ 4) : ∀ b : Int, 0 < b → b < C.1 (0, 0, 0) 6 → C.1 (9, b, 0) 4 < b ∧ C.1 (9, b, 0) 5 ≤ C.1 (9, C.1 (9, b, 0) 4, 0) 3 ∧ C.1 (9, b, 0) 6 ≤ C.1 (9, b, 0) 3 := fun b b0 b1 => (h.2.1 b (by omega) (by omega)).2.2.1 b0 b1
theorem JInv.hsp {C : XS} (h : JInv C) : ∀ b : Int, 0 ≤ b → b < 4 → ∀ k : Int, 0 ≤ k → k < C.1 (9, b, 0) 3 → C.1 (13, b, k) 0 = 0 → C.1 (13, b, k) 3 ≤ C.1 (13, b, k) 4 := fun b b0 b1 k k0 k1 => ((h.2.1 b b0 b1).1 k k0 k1).2
theorem JInv.seal {C : XS} (h : JInv C) (c6 : C.1 (0, 0, 0) 6 ≤ 4) : SealOk C := fun b b0 b1 j hj => (h.2.1 b b0 (by omega)).2.1 j hj
theorem JInv.dig {C : XS} (h : JInv C) : DigOk C := fun b k b0 b1 k0 k1 => ((h.2.1 b b0 b1).1 k k0 k1).1
/-- a telling more, and the listeners hear -/
theorem JInv.app {C : XS} (hC : CB C) (h : JInv C) {b : Int} (b0 : 0 ≤ b) (b1 : b < C.1 (0, 0, 0) 6) {r s a f t c : Int} (hft : r = 0 → f ≤ t) : JW (sApp C b r s a f t c) b := (h.w b).app hC.1 b0 b1 hft
