/-! addRule, addCondition -/
theorem id_tab : ∀ m ∈ [0, 7, 56, 63, 448, 455, 504, 511], ∀ a ∈ [0, 3, 6], ∀ b ∈ [0, 3, 6], zAnd m (zXor (zOr (zShl 7 a) (zShl 7 b)) (-1)) ∈ [0, 7, 56, 63, 448, 455, 504, 511] ∧ ∀ s ∈ [0, 3, 6], (zAnd (zAnd m (zXor (zOr (zShl 7 a) (zShl 7 b)) (-1))) (zShl 7 s) = 0 ↔ zAnd m (zShl 7 s) = 0 ∨ s = a ∨ s = b) := by decide +kernel
theorem IdOk_mem {m : Int} : IdOk m ↔ m ∈ ([0, 7, 56, 63, 448, 455, 504, 511] : List Int) := by simp [IdOk]
theorem sh_mem {x : Int} (h : 0 ≤ x ∧ x ≤ 2) : 3 * (2 - x) ∈ ([0, 3, 6] : List Int) := by
  have : x = 0 ∨ x = 1 ∨ x = 2 := by omega
  rcases this with rfl | rfl | rfl <;> decide
theorem id_next {m a b : Int} (h : IdOk m) (ha : 0 ≤ a ∧ a ≤ 2) (hb : 0 ≤ b ∧ b ≤ 2) : IdOk (zAnd m (zXor (zOr (zShl 7 (3 * (2 - a))) (zShl 7 (3 * (2 - b)))) (-1))) := IdOk_mem.mpr (id_tab m (IdOk_mem.mp h) _ (sh_mem ha) _ (sh_mem hb)).1
/-- the digits of a variable are idle -/
def Idle (f : XL → Int → Int) (r v : Int) : Prop := zAnd (f (34, r, 0) 4) (zShl 7 (3 * (2 - v))) ≠ 0
theorem id_use {m a b v : Int} (h : IdOk m) (ha : 0 ≤ a ∧ a ≤ 2) (hb : 0 ≤ b ∧ b ≤ 2) (hv : 0 ≤ v ∧ v ≤ 2) : zAnd (zAnd m (zXor (zOr (zShl 7 (3 * (2 - a))) (zShl 7 (3 * (2 - b)))) (-1))) (zShl 7 (3 * (2 - v))) = 0 ↔ zAnd m (zShl 7 (3 * (2 - v))) = 0 ∨ v = a ∨ v = b := by
  rw [(id_tab m (IdOk_mem.mp h) _ (sh_mem ha) _ (sh_mem hb)).2 _ (sh_mem hv)]
  constructor <;> rintro (z | z | z)
  · exact Or.inl z
  · right; left; omega
  · right; right; omega
  · exact Or.inl z
  · right; left; omega
  · right; right; omega
theorem sCond_34 (S : XS) (r x y z c : Int) : (sCond S r x y z c).1 (34, r, 0) 2 = S.1 (34, r, 0) 2 + 1 ∧ (sCond S r x y z c).1 (34, r, 0) 3 = (if c = 0 then zOr (S.1 (34, r, 0) 3) (zShl 1 x) else S.1 (34, r, 0) 3) ∧ (sCond S r x y z c).1 (34, r, 0) 4 = zAnd (S.1 (34, r, 0) 4) (zXor (zOr (zShl 7 (3 * (2 - y))) (zShl 7 (3 * (2 - z)))) (-1)) ∧ (sCond S r x y z c).1 (34, r, 0) 5 = S.1 (34, r, 0) 5 := by
  by_cases h : c = 0 <;> simp [sCond, sBecome, putI, xUpd, fDig, h]
theorem sCond_36 (S : XS) (r x y z c : Int) : (sCond S r x y z c).1 (36, r, S.1 (34, r, 0) 2) 0 = x ∧ (sCond S r x y z c).1 (36, r, S.1 (34, r, 0) 2) 1 = c ∧ (sCond S r x y z c).1 (36, r, S.1 (34, r, 0) 2) 2 = 3 * (2 - y) ∧ (sCond S r x y z c).1 (36, r, S.1 (34, r, 0) 2) 3 = 3 * (2 - z) := by
  by_cases h : c = 0 <;> simp [sCond, sBecome, putI, xUpd, fDig, h]
theorem sCond_o (S : XS) (r x y z c : Int) {l : XL} (h : l ≠ (34, r, 0)) (h2 : l ≠ (36, r, S.1 (34, r, 0) 2)) : (sCond S r x y z c).1 l = S.1 l := by
  by_cases hc : c = 0 <;> simp [sCond, sBecome, putI, h, h2, hc]
theorem sCond_j (S : XS) (r x y z c : Int) : (sCond S r x y z c).2 = S.2 := by
  unfold sCond
  dsimp only
  split <;> rfl
theorem n36 {r r' i i' : Int} (h : ¬ (r = r' ∧ i = i')) : ((36, r, i) : XL) ≠ (36, r', i') := fun z => h (by injection z with _ z; injection z with z1 z2; exact ⟨z1, z2⟩)
theorem nX {k : Nat} {r r' : Int} (h : r ≠ r') (x : Int) : ((k, r, x) : XL) ≠ (k, r', x) := fun z => h (by injection z with _ z; injection z)
theorem bitI_orX {s x y : Int} (h0 : 0 ≤ s) (h1 : s ≤ 63) (x0 : 0 ≤ x) (x1 : x ≤ 5) (y0 : 0 ≤ y) (y1 : y < 6) : bitI (zOr s (zShl 1 x)) y ↔ bitI s y ∨ y = x := bitI_orI s x y h0 (by omega) x0 (by omega) y0 (by omega)
/-- a rule gets one more condition -/
theorem rule_next {S : XS} {r x y z c : Int} (w63 : 0 ≤ S.1 (34, r, 0) 3 ∧ S.1 (34, r, 0) 3 ≤ 63) (n0 : 0 ≤ S.1 (34, r, 0) 2) (g1 : 0 ≤ x ∧ x ≤ 5) (g2 : 0 ≤ y ∧ y ≤ 2) (g3 : 0 ≤ z ∧ z ≤ 2) (h1 : IdOk (S.1 (34, r, 0) 4)) (h2 : ShOk S.1 (37, r, 0)) (h3 : ∀ i : Nat, (i : Int) < S.1 (34, r, 0) 2 → ShOk S.1 (36, r, i)) (h4 : ∀ x' : Nat, x' < 6 → (bitI (S.1 (34, r, 0) 3) x' ↔ ∃ i : Nat, (i : Int) < S.1 (34, r, 0) 2 ∧ S.1 (36, r, i) 1 = 0 ∧ S.1 (36, r, i) 0 = x')) (h5 : S.1 (34, r, 0) 2 = 0 ∧ c = 0 ∨ 0 < S.1 (34, r, 0) 2 ∧ S.1 (36, r, 0) 1 = 0) : RuleOk (sCond S r x y z c).1 r ∧ StrOk (sCond S r x y z c).1 r := by
  obtain ⟨a2, a3, a4, a5⟩ := sCond_34 S r x y z c
  obtain ⟨b0, b1, b2, b3⟩ := sCond_36 S r x y z c
  have o37 : (sCond S r x y z c).1 (37, r, 0) = S.1 (37, r, 0) := sCond_o S r x y z c (nK (by decide) _ _ _ _) (nK (by decide) _ _ _ _)
  have o36 : ∀ i : Int, i ≠ S.1 (34, r, 0) 2 → (sCond S r x y z c).1 (36, r, i) = S.1 (36, r, i) := fun i hi => sCond_o S r x y z c (nK (by decide) _ _ _ _) (n36 (fun q => hi q.2))
  have m : ∀ v : Int, 0 ≤ v ∧ v ≤ 2 → 3 * (2 - v) = 0 ∨ 3 * (2 - v) = 3 ∨ 3 * (2 - v) = 6 := fun v hv => by omega
  refine ⟨⟨by rw [a4]; exact id_next h1 g2 g3, by unfold ShOk; rw [o37]; exact h2, fun i hi => ?_⟩, fun x' hx' => ?_, by rw [a2]; omega, ?_⟩
  · rw [a2] at hi
    by_cases e : (i : Int) = S.1 (34, r, 0) 2
    · unfold ShOk
      rw [e, b2, b3]
      exact ⟨m y g2, m z g3⟩
    · unfold ShOk
      rw [o36 _ e]
      exact h3 i (by omega)
  · rw [a2, a3]
    have key : (∃ i : Nat, (i : Int) < S.1 (34, r, 0) 2 + 1 ∧ (sCond S r x y z c).1 (36, r, i) 1 = 0 ∧ (sCond S r x y z c).1 (36, r, i) 0 = x') ↔ (∃ i : Nat, (i : Int) < S.1 (34, r, 0) 2 ∧ S.1 (36, r, i) 1 = 0 ∧ S.1 (36, r, i) 0 = x') ∨ (c = 0 ∧ x = x') := by
      constructor
      · rintro ⟨i, i1, i2, i3⟩
        by_cases e : (i : Int) = S.1 (34, r, 0) 2
        · rw [e, b1] at i2
          rw [e, b0] at i3
          exact Or.inr ⟨i2, i3⟩
        · rw [o36 _ e] at i2 i3
          exact Or.inl ⟨i, by omega, i2, i3⟩
      · rintro (⟨i, i1, i2, i3⟩ | ⟨i2, i3⟩)
        · exact ⟨i, by omega, by rw [o36 _ (by omega)]; exact i2, by rw [o36 _ (by omega)]; exact i3⟩
        · refine ⟨(S.1 (34, r, 0) 2).toNat, by omega, ?_, ?_⟩
          · rw [show ((S.1 (34, r, 0) 2).toNat : Int) = S.1 (34, r, 0) 2 by omega, b1]; exact i2
          · rw [show ((S.1 (34, r, 0) 2).toNat : Int) = S.1 (34, r, 0) 2 by omega, b0]; exact i3
    rw [key, ← h4 x' hx']
    by_cases hc : c = 0
    · rw [if_pos hc, bitI_orX w63.1 w63.2 g1.1 g1.2 (by omega) (by omega)]
      constructor
      · rintro (q | q)
        · exact Or.inl q
        · exact Or.inr ⟨hc, q.symm⟩
      · rintro (q | q)
        · exact Or.inl q
        · exact Or.inr q.2.symm
    · rw [if_neg hc]
      exact ⟨Or.inl, fun q => q.elim id (fun q => absurd q.1 hc)⟩
  · rcases h5 with ⟨q1, q2⟩ | ⟨q1, q2⟩
    · rw [q1] at b1
      exact b1.trans q2
    · rw [o36 0 (by omega)]; exact q2
/-- rules that are not there yet are empty -/
def NewOk (S : XS) : Prop := ∀ r : Int, S.1 (4, 0, 0) 2 ≤ r → r < 10 → S.1 (34, r, 0) 2 = 0 ∧ S.1 (34, r, 0) 3 = 0 ∧ S.1 (34, r, 0) 4 = 511 ∧ S.1 (34, r, 0) 5 = 0
/-- the state after addRule -/
def sAddR (S : XS) (h a b c u v : Int) : XS := putI (sCond (sHead S (S.1 (4, 0, 0) 2) h a b) (S.1 (4, 0, 0) 2) c u v 0) (4, 0, 0) 2 (S.1 (4, 0, 0) 2 + 1)
theorem sHead_34 (S : XS) (r h a b : Int) : (sHead S r h a b).1 (34, r, 0) 2 = S.1 (34, r, 0) 2 ∧ (sHead S r h a b).1 (34, r, 0) 3 = S.1 (34, r, 0) 3 ∧ (sHead S r h a b).1 (34, r, 0) 4 = zAnd (S.1 (34, r, 0) 4) (zXor (zOr (zShl 7 (3 * (2 - a))) (zShl 7 (3 * (2 - b)))) (-1)) ∧ (sHead S r h a b).1 (34, r, 0) 5 = S.1 (34, r, 0) 5 := by
  refine ⟨?_, ?_, ?_, ?_⟩ <;> simp [sHead, sBecome, putI, xUpd, fDig]
theorem sHead_37 (S : XS) (r h a b : Int) : (sHead S r h a b).1 (37, r, 0) 0 = h ∧ (sHead S r h a b).1 (37, r, 0) 2 = 3 * (2 - a) ∧ (sHead S r h a b).1 (37, r, 0) 3 = 3 * (2 - b) := by
  refine ⟨?_, ?_, ?_⟩ <;> simp [sHead, sBecome, putI, xUpd, fDig]
theorem sHead_o (S : XS) (r h a b : Int) {l : XL} (h1 : l ≠ (34, r, 0)) (h2 : l ≠ (37, r, 0)) : (sHead S r h a b).1 l = S.1 l := by simp [sHead, sBecome, putI, h1, h2]
theorem wi_addR {S : XS} (hw : WI S) (hn : NewOk S) (hs : S.1 (4, 0, 0) 2 < 10) {h a b c u v : Int} (g1 : 0 ≤ h ∧ h ≤ 5) (g2 : 0 ≤ a ∧ a ≤ 2) (g3 : 0 ≤ b ∧ b ≤ 2) (g4 : 0 ≤ c ∧ c ≤ 5) (g5 : 0 ≤ u ∧ u ≤ 2) (g6 : 0 ≤ v ∧ v ≤ 2) : WI (sAddR S h a b c u v) := by
  have h4 := wf4_2 hw
  obtain ⟨e2, -⟩ := hn _ (Int.le_refl _) hs
  have w1 := wi_head S hw _ h4.1 hs h a b g1 g2 g3
  have w2 := wi_cond _ w1 _ h4.1 hs (by rw [(sHead_34 _ _ _ _ _).1, e2]; decide) c u v g4 g5 g6 0 (Or.inl rfl)
  exact wp4_2 w2 ⟨by omega, by omega⟩
theorem CB.addR {S : XS} (hb : CB S) (hn : NewOk S) (hs : S.1 (4, 0, 0) 2 < 10) {h a b c u v : Int} (g1 : 0 ≤ h ∧ h ≤ 5) (g2 : 0 ≤ a ∧ a ≤ 2) (g3 : 0 ≤ b ∧ b ≤ 2) (g4 : 0 ≤ c ∧ c ≤ 5) (g5 : 0 ≤ u ∧ u ≤ 2) (g6 : 0 ≤ v ∧ v ≤ 2) : CB (sAddR S h a b c u v) := by
  have h4 := wf4_2 hb.1
  obtain ⟨e2, e3, e4, e5⟩ := hn _ (Int.le_refl _) hs
  have w := wi_addR hb.1 hn hs g1 g2 g3 g4 g5 g6
  obtain ⟨q2, q3, q4, q5⟩ := sHead_34 S (S.1 (4, 0, 0) 2) h a b
  obtain ⟨p0, p2, p3⟩ := sHead_37 S (S.1 (4, 0, 0) 2) h a b
  have o : ∀ l : XL, l.1 ≠ 4 → l ≠ (34, S.1 (4, 0, 0) 2, 0) → l ≠ (36, S.1 (4, 0, 0) 2, 0) → l ≠ (37, S.1 (4, 0, 0) 2, 0) → (sAddR S h a b c u v).1 l = S.1 l := fun l a1 a2 a3 a4 => by
    show (if l = (4, 0, 0) then _ else _) = _
    rw [if_neg (fun z => a1 (by rw [z])), sCond_o _ _ _ _ _ _ a2 (by rw [q2, e2]; exact a3), sHead_o _ _ _ _ _ a2 a4]
  have o4 : (sAddR S h a b c u v).1 (4, 0, 0) 2 = S.1 (4, 0, 0) 2 + 1 := by simp [sAddR, putI, xUpd]
  have oc : ∀ l : XL, l.1 ≠ 4 → (sAddR S h a b c u v).1 l = (sCond (sHead S (S.1 (4, 0, 0) 2) h a b) (S.1 (4, 0, 0) 2) c u v 0).1 l := fun l a1 => by
    show (if l = (4, 0, 0) then _ else _) = _
    rw [if_neg (fun z => a1 (by rw [z]))]
  refine hb.rul w (fun j hj => ?_) (fun k x y a1 a2 a3 a4 => o _ a1 (nK a2 _ _ _ _) (nK a3 _ _ _ _) (nK a4 _ _ _ _)) (fun k x y => ?_) (by rw [o4]; omega) (fun r r0 r1 z => ?_) (fun j hj _ => ⟨fun k _ => ?_, fun i => ?_, ?_⟩)
  · rw [o4] at hj
    by_cases e : (j : Int) = S.1 (4, 0, 0) 2
    · have k := rule_next (S := sHead S (S.1 (4, 0, 0) 2) h a b) (r := S.1 (4, 0, 0) 2) (x := c) (y := u) (z := v) (c := 0) (by rw [q3, e3]; decide) (by rw [q2, e2]; decide) g4 g5 g6 (by rw [q4, e4]; exact id_next (by right; right; right; right; right; right; right; rfl) g2 g3) (by unfold ShOk; rw [p2, p3]; omega) (fun i hi => by rw [q2, e2] at hi; omega) (fun x' hx' => by rw [q2, q3, e2, e3]; exact ⟨fun z => absurd z (bitI_0 x' (by omega)), fun ⟨i, z, _⟩ => by omega⟩) (Or.inl ⟨by rw [q2, e2], rfl⟩)
      rw [e]
      have e34 := oc (34, S.1 (4, 0, 0) 2, 0) (show (34 : Nat) ≠ 4 by decide)
      have e37 := oc (37, S.1 (4, 0, 0) 2, 0) (show (37 : Nat) ≠ 4 by decide)
      have e36 : ∀ i : Int, _ := fun i => oc (36, S.1 (4, 0, 0) 2, i) (show (36 : Nat) ≠ 4 by decide)
      unfold RuleOk StrOk ShOk at k ⊢
      simp only [e34, e37, e36]
      exact k
    · obtain ⟨k1, k2⟩ := hb.2.1 j (by omega)
      have e34 := o (34, j, 0) (show (34 : Nat) ≠ 4 by decide) (nX e _) (nK (by decide) _ _ _ _) (nK (by decide) _ _ _ _)
      have e37 := o (37, j, 0) (show (37 : Nat) ≠ 4 by decide) (nK (by decide) _ _ _ _) (nK (by decide) _ _ _ _) (nX e _)
      have e36 : ∀ i : Int, _ := fun i => o (36, j, i) (show (36 : Nat) ≠ 4 by decide) (nK (by decide) _ _ _ _) (n36 (fun q => e q.1)) (nK (by decide) _ _ _ _)
      unfold RuleOk StrOk ShOk at *
      simp only [e34, e37, e36]
      exact ⟨k1, k2⟩
  · show (sCond _ _ _ _ _ _).2.1 _ = _
    rw [sCond_j]
    rfl
  · by_cases e : r = S.1 (4, 0, 0) 2
    · omega
    · rw [o (34, r, 0) (show (34 : Nat) ≠ 4 by decide) (nX e _) (nK (by decide) _ _ _ _) (nK (by decide) _ _ _ _)]; exact z
  · rw [o (34, j, 0) (show (34 : Nat) ≠ 4 by decide) (nX (by omega) _) (nK (by decide) _ _ _ _) (nK (by decide) _ _ _ _)]
  · rw [o (36, j, i) (show (36 : Nat) ≠ 4 by decide) (nK (by decide) _ _ _ _) (n36 (fun q => by omega)) (nK (by decide) _ _ _ _)]
  · rw [o (37, j, 0) (show (37 : Nat) ≠ 4 by decide) (nK (by decide) _ _ _ _) (nK (by decide) _ _ _ _) (nX (by omega) _)]
theorem CB.addC {S : XS} (hb : CB S) {r : Int} (r0 : 0 ≤ r) (r1 : r < S.1 (4, 0, 0) 2) (hn : S.1 (34, r, 0) 5 = 0) (hs : S.1 (34, r, 0) 2 < 3) {x y z c : Int} (g1 : 0 ≤ x ∧ x ≤ 5) (g2 : 0 ≤ y ∧ y ≤ 2) (g3 : 0 ≤ z ∧ z ≤ 2) (g4 : c = 0 ∨ c = 1) : CB (sCond S r x y z c) := by
  have h4 := wf4_2 hb.1
  have w := wi_cond S hb.1 r r0 (by omega) hs x y z g1 g2 g3 c g4
  have h2 := wf34_2 hb.1 r0 (show r < 10 by omega)
  have h3 := wf34_3 hb.1 r0 (show r < 10 by omega)
  have o : ∀ l : XL, l ≠ (34, r, 0) → l ≠ (36, r, S.1 (34, r, 0) 2) → (sCond S r x y z c).1 l = S.1 l := fun l a b => sCond_o S r x y z c a b
  refine hb.rul w (fun j hj => ?_) (fun k x' y' a1 a2 a3 a4 => o _ (nK a2 _ _ _ _) (nK a3 _ _ _ _)) (fun k x' y' => by rw [sCond_j]) (by rw [o _ (nK (by decide) _ _ _ _) (nK (by decide) _ _ _ _)]; exact Int.le_refl _) (fun r' a0 a1 q => ?_) (fun j hj q => ⟨fun k _ => ?_, fun i => ?_, ?_⟩)
  · rw [o _ (nK (by decide) _ _ _ _) (nK (by decide) _ _ _ _)] at hj
    by_cases e : (j : Int) = r
    · obtain ⟨⟨k1, k2, k3⟩, k4, k5, k6⟩ := hb.2.1 j hj
      rw [e] at k1 k2 k3 k4 k5 k6 ⊢
      exact rule_next h3 h2.1 g1 g2 g3 k1 k2 k3 k4 (Or.inr ⟨k5, k6⟩)
    · obtain ⟨k1, k2⟩ := hb.2.1 j hj
      have e34 := o (34, j, 0) (nX e _) (nK (by decide) _ _ _ _)
      have e37 := o (37, j, 0) (nK (by decide) _ _ _ _) (nK (by decide) _ _ _ _)
      have e36 : ∀ i : Int, _ := fun i => o (36, j, i) (nK (by decide) _ _ _ _) (n36 (fun q => e q.1))
      unfold RuleOk StrOk ShOk at *
      simp only [e34, e37, e36]
      exact ⟨k1, k2⟩
  · by_cases e : r' = r
    · subst e; rw [(sCond_34 S r' x y z c).2.2.2]; exact q
    · rw [o (34, r', 0) (nX e _) (nK (by decide) _ _ _ _)]; exact q
  · rw [o (34, j, 0) (nX (fun e => by rw [e, hn] at q; cases q) _) (nK (by decide) _ _ _ _)]
  · rw [o (36, j, i) (nK (by decide) _ _ _ _) (n36 (fun e => by rw [e.1, hn] at q; cases q))]
  · rw [o (37, j, 0) (nK (by decide) _ _ _ _) (nK (by decide) _ _ _ _)]
theorem addR_4 (S : XS) (h a b c u v : Int) : (sCond (sHead S (S.1 (4, 0, 0) 2) h a b) (S.1 (4, 0, 0) 2) c u v 0).1 (4, 0, 0) 2 = S.1 (4, 0, 0) 2 := by rw [sCond_o _ _ _ _ _ _ (nK (by decide) _ _ _ _) (nK (by decide) _ _ _ _), sHead_o _ _ _ _ _ (nK (by decide) _ _ _ _) (nK (by decide) _ _ _ _)]
set_option maxHeartbeats 4000000 in
set_option maxRecDepth 100000 in
theorem c_addRule (S : XS) (hb : CB S) (h a b c u v : Int) (zh : zR h) (za : zR a) (zb : zR b) (zc : zR c) (zu : zR u) (zv : zR v) (hNew : NewOk S) : X mX8_addRule 0 (xEnt mX8_addRule [xR (0, 0, 0), xI h, xI a, xI b, xI c, xI u, xI v]) [] (hp S) 3 18 (pOr (((0 ≤ h ∧ h < 6) ∧ (0 ≤ a ∧ a < 3) ∧ (0 ≤ b ∧ b < 3)) ∧ (0 ≤ c ∧ c < 6) ∧ (0 ≤ u ∧ u < 3) ∧ (0 ≤ v ∧ v < 3)) (pOr (S.1 (4, 0, 0) 2 < 10) (pN (sAddR S h a b c u v) (some (xI (S.1 (4, 0, 0) 2)))) (pX S "java/lang/IllegalStateException")) (pX S "java/lang/IllegalArgumentException")) := by
  have hw := hb.1
  have hn6 := wf0_6 hw
  have hn7 := wf0_7 hw
  have hn4 := wf4_2 hw
  have zh2 := zh
  unfold zR at zh2
  have za2 := za
  unfold zR at za2
  have zb2 := zb
  unfold zR at zb2
  have zc2 := zc
  unfold zR at zc2
  have zu2 := zu
  unfold zR at zu2
  have zv2 := zv
  unfold zR at zv2
  show X mX8_addRule 0 [xR (0, 0, 0), xI h, xI a, xI b, xI c, xI u, xI v, none] [] (hp S) 3 18 _
  refine x_iload_n dX8_addRule_0 rfl ?_
  refine x_iload_n dX8_addRule_1 rfl ?_
  refine x_iload_n dX8_addRule_2 rfl ?_
  refine x_callS_tv (a := 1) (b := 6) (as := [xI h, xI a, xI b]) (rest := []) ok_X8_checkPattern dX8_addRule_3 wd644 wd645 (c_checkPattern S hb.1 h a b (by first | exact hz _ _ | exact hw.1 _ _ | exact zR_of _ | exact bI_z _ | assumption | exact ⟨by omega, by omega⟩) (by first | exact hz _ _ | exact hw.1 _ _ | exact zR_of _ | exact bI_z _ | assumption | exact ⟨by omega, by omega⟩) (by first | exact hz _ _ | exact hw.1 _ _ | exact zR_of _ | exact bI_z _ | assumption | exact ⟨by omega, by omega⟩)) rfl (Nat.le_of_ble_eq_true rfl) (Nat.le_of_ble_eq_true rfl) (by decide) (by omega) (by omega) (fun t3 => ?_) (fun t3 => ?_)
  · refine x_iload dX8_addRule_6 rfl ?_
    refine x_iload dX8_addRule_8 rfl ?_
    refine x_iload dX8_addRule_10 rfl ?_
    refine x_callS_tv (a := 1) (b := 6) (as := [xI c, xI u, xI v]) (rest := []) ok_X8_checkPattern dX8_addRule_12 wd644 wd645 (c_checkPattern S hb.1 c u v (by first | exact hz _ _ | exact hw.1 _ _ | exact zR_of _ | exact bI_z _ | assumption | exact ⟨by omega, by omega⟩) (by first | exact hz _ _ | exact hw.1 _ _ | exact zR_of _ | exact bI_z _ | assumption | exact ⟨by omega, by omega⟩) (by first | exact hz _ _ | exact hw.1 _ _ | exact zR_of _ | exact bI_z _ | assumption | exact ⟨by omega, by omega⟩)) rfl (Nat.le_of_ble_eq_true rfl) (Nat.le_of_ble_eq_true rfl) (by decide) (by omega) (by omega) (fun t12 => ?_) (fun t12 => ?_)
    · refine x_aload_n dX8_addRule_15 rfl ?_
      refine x_get (v := xR (4, 0, 0)) dX8_addRule_16 fl_RX8_28 (hp0 S) rfl ?_
      refine x_get (v := xI (S.1 (4, 0, 0) 2)) dX8_addRule_19 fl_RX8_102 (hp4 S) rfl ?_
      have f19_1 := wf4_2 hb.1 (S := S)
      refine x_bipush (v := 10) dX8_addRule_22 (by decide) ?_
      refine x_icmp_lt (tgt := 37) dX8_addRule_24 (by decide) (by first | exact hz _ _ | exact hw.1 _ _ | exact zR_of _ | exact bI_z _ | assumption | exact ⟨by omega, by omega⟩) ⟨by decide, by decide⟩ (fun c24 => ?_) (fun c24 => ?_)
      · refine x_aload_n dX8_addRule_37 rfl ?_
        refine x_get (v := xR (4, 0, 0)) dX8_addRule_38 fl_RX8_28 (hp0 S) rfl ?_
        refine x_get (v := xR (32, 0, 0)) dX8_addRule_41 fl_RX8_108 (hp4 S) rfl ?_
        refine x_aload_n dX8_addRule_44 rfl ?_
        refine x_get (v := xR (4, 0, 0)) dX8_addRule_45 fl_RX8_28 (hp0 S) rfl ?_
        refine x_get (v := xI (S.1 (4, 0, 0) 2)) dX8_addRule_48 fl_RX8_102 (hp4 S) rfl ?_
        have f48_2 := wf4_2 hb.1 (S := S)
        refine x_alda (l2 := (34, S.1 (4, 0, 0) 2, 0)) dX8_addRule_51 (hp32 S) (show (32 : Nat) ≠ 99 by decide) (by decide) (by decide) (by omega) (by omega) (by decide) rfl ?_
        refine x_astore (L' := [xR (0, 0, 0), xI h, xI a, xI b, xI c, xI u, xI v, xR (34, S.1 (4, 0, 0) 2, 0)]) dX8_addRule_52 (by decide) rfl ?_
        refine x_aload dX8_addRule_54 rfl ?_
        refine x_iload_n dX8_addRule_56 rfl ?_
        refine x_iload_n dX8_addRule_57 rfl ?_
        refine x_iload_n dX8_addRule_58 rfl ?_
        refine x_callV_v (a := 0) (b := 0) (as := [xI h, xI a, xI b]) (rest := []) ok_X4_setHead dX8_addRule_59 wd649 ⟨wd650, wd651⟩ (hp34 S (by omega) (by omega)) rfl rfl (c_setHead S hb.1 (S.1 (4, 0, 0) 2) (by omega) (by omega) h a b (by omega) (by omega) (by omega)) rfl (Nat.le_of_ble_eq_true rfl) (Nat.le_of_ble_eq_true rfl) (by decide) (by omega) (by omega) ?_
        refine x_aload dX8_addRule_62 rfl ?_
        refine x_iload dX8_addRule_64 rfl ?_
        refine x_iload dX8_addRule_66 rfl ?_
        refine x_iload dX8_addRule_68 rfl ?_
        refine x_iconst dX8_addRule_70 ?_
        refine x_callV_v (a := 0) (b := 0) (as := [xI c, xI u, xI v, xI 0]) (rest := []) ok_X4_append dX8_addRule_71 wd664 ⟨wd665, wd666⟩ (hp34 (sHead S (S.1 (4, 0, 0) 2) h a b) (by omega) (by omega)) rfl rfl (c_appendC (sHead S (S.1 (4, 0, 0) 2) h a b) (wi_head S hb.1 (S.1 (4, 0, 0) 2) (by omega) (by omega) h a b (by omega) (by omega) (by omega)) (S.1 (4, 0, 0) 2) (by omega) (by omega) (by rw [(sHead_34 S (S.1 (4, 0, 0) 2) h a b).1, (hNew _ (Int.le_refl _) (by omega)).1]; decide) c u v (by omega) (by omega) (by omega) 0 (by first | exact Or.inl rfl | assumption)) rfl (Nat.le_of_ble_eq_true rfl) (Nat.le_of_ble_eq_true rfl) (by decide) (by omega) (by omega) ?_
        refine x_aload_n dX8_addRule_74 rfl ?_
        refine x_get (v := xR (4, 0, 0)) dX8_addRule_75 fl_RX8_28 (hp0 (sCond (sHead S (S.1 (4, 0, 0) 2) h a b) (S.1 (4, 0, 0) 2) c u v 0)) rfl ?_
        refine x_dup dX8_addRule_78 rfl ?_
        refine x_get (v := xI ((sCond (sHead S (S.1 (4, 0, 0) 2) h a b) (S.1 (4, 0, 0) 2) c u v 0).1 (4, 0, 0) 2)) dX8_addRule_79 fl_RX8_102 (hp4 (sCond (sHead S (S.1 (4, 0, 0) 2) h a b) (S.1 (4, 0, 0) 2) c u v 0)) rfl ?_
        have f79_3 := wf4_2 (wi_cond (sHead S (S.1 (4, 0, 0) 2) h a b) (wi_head S hb.1 (S.1 (4, 0, 0) 2) (by omega) (by omega) h a b (by omega) (by omega) (by omega)) (S.1 (4, 0, 0) 2) (by omega) (by omega) (by rw [(sHead_34 S (S.1 (4, 0, 0) 2) h a b).1, (hNew _ (Int.le_refl _) (by omega)).1]; decide) c u v (by omega) (by omega) (by omega) 0 (by first | exact Or.inl rfl | assumption)) (S := sCond (sHead S (S.1 (4, 0, 0) 2) h a b) (S.1 (4, 0, 0) 2) c u v 0)
        refine x_top (show (sCond (sHead S (S.1 (4, 0, 0) 2) h a b) (S.1 (4, 0, 0) 2) c u v 0).1 (4, 0, 0) 2 = S.1 (4, 0, 0) 2 from addR_4 S h a b c u v) ?_
        refine x_iconst dX8_addRule_82 ?_
        refine x_iadd dX8_addRule_83 ?_
        refine x_put dX8_addRule_84 fl_RX8_102 (fun r hr => by cases hr; rfl) (hp4 (sCond (sHead S (S.1 (4, 0, 0) 2) h a b) (S.1 (4, 0, 0) 2) c u v 0)) xfit_i (Nat.le_of_ble_eq_true rfl) rfl ?_
        refine x_heq (pu4_2 (sCond (sHead S (S.1 (4, 0, 0) 2) h a b) (S.1 (4, 0, 0) 2) c u v 0) ((S.1 (4, 0, 0) 2) + 1)) ?_
        have hw84_4 : WI (putI (sCond (sHead S (S.1 (4, 0, 0) 2) h a b) (S.1 (4, 0, 0) 2) c u v 0) (4, 0, 0) 2 ((S.1 (4, 0, 0) 2) + 1)) := wp4_2 (wi_cond (sHead S (S.1 (4, 0, 0) 2) h a b) (wi_head S hb.1 (S.1 (4, 0, 0) 2) (by omega) (by omega) h a b (by omega) (by omega) (by omega)) (S.1 (4, 0, 0) 2) (by omega) (by omega) (by rw [(sHead_34 S (S.1 (4, 0, 0) 2) h a b).1, (hNew _ (Int.le_refl _) (by omega)).1]; decide) c u v (by omega) (by omega) (by omega) 0 (by first | exact Or.inl rfl | assumption)) (by omega)
        refine x_heq (show hp (sAddR S h a b c u v) = hp (putI (sCond (sHead S (S.1 (4, 0, 0) 2) h a b) (S.1 (4, 0, 0) 2) c u v 0) (4, 0, 0) 2 ((S.1 (4, 0, 0) 2) + 1)) from rfl) ?_
        refine x_aload_n dX8_addRule_87 rfl ?_
        refine x_get (v := xR (4, 0, 0)) dX8_addRule_88 fl_RX8_28 (hp0 (sAddR S h a b c u v)) rfl ?_
        refine x_get (v := xI ((sAddR S h a b c u v).1 (4, 0, 0) 2)) dX8_addRule_91 fl_RX8_102 (hp4 (sAddR S h a b c u v)) rfl ?_
        refine x_top (show (sAddR S h a b c u v).1 (4, 0, 0) 2 = S.1 (4, 0, 0) 2 + 1 from by simp [sAddR, putI, xUpd]) ?_
        refine x_iconst dX8_addRule_94 ?_
        refine x_isub dX8_addRule_95 ?_
        exact x_iret dX8_addRule_96 rfl (Or.inl ⟨by omega, Or.inl ⟨by omega, by rw [show S.1 (4, 0, 0) 2 + 1 - 1 = S.1 (4, 0, 0) 2 by omega], _, rfl, QEq.rf _, hb.addR hNew (by omega) (by omega) (by omega) (by omega) (by omega) (by omega) (by omega)⟩⟩)
      · exact x_throw (thr_RX8_103_105_107) rfl dX8_addRule_27 dX8_addRule_30 (Or.inl ⟨dX8_addRule_31, dX8_addRule_33, dX8_addRule_36⟩) (by decide) (Nat.le_of_ble_eq_true rfl) (by omega) (by omega) (by first | exact Or.inr ⟨by omega, pXi (QEq.rf S) hb⟩ | exact Or.inl ⟨by omega, Or.inr ⟨by omega, pXi (QEq.rf S) hb⟩⟩ | exact Or.inl ⟨by omega, Or.inl ⟨by omega, Or.inr ⟨by first | omega | assumption | exact fun z => z hRv, pXi (QEq.rf S) hb⟩⟩⟩ | exact Or.inl ⟨by omega, Or.inl ⟨by omega, Or.inl ⟨by first | omega | assumption, Or.inr ⟨by omega, pXi (QEq.rf S) hb⟩⟩⟩⟩)
    · exact XX.out rfl (by first | exact Or.inr ⟨by omega, pXi (QEq.rf S) hb⟩ | exact Or.inl ⟨by omega, Or.inr ⟨by omega, pXi (QEq.rf S) hb⟩⟩ | exact Or.inl ⟨by omega, Or.inl ⟨by omega, Or.inr ⟨by first | omega | assumption | exact fun z => z hRv, pXi (QEq.rf S) hb⟩⟩⟩ | exact Or.inl ⟨by omega, Or.inl ⟨by omega, Or.inl ⟨by first | omega | assumption, Or.inr ⟨by omega, pXi (QEq.rf S) hb⟩⟩⟩⟩)
  · exact XX.out rfl (by first | exact Or.inr ⟨by omega, pXi (QEq.rf S) hb⟩ | exact Or.inl ⟨by omega, Or.inr ⟨by omega, pXi (QEq.rf S) hb⟩⟩ | exact Or.inl ⟨by omega, Or.inl ⟨by omega, Or.inr ⟨by first | omega | assumption | exact fun z => z hRv, pXi (QEq.rf S) hb⟩⟩⟩ | exact Or.inl ⟨by omega, Or.inl ⟨by omega, Or.inl ⟨by first | omega | assumption, Or.inr ⟨by omega, pXi (QEq.rf S) hb⟩⟩⟩⟩)
set_option maxHeartbeats 4000000 in
set_option maxRecDepth 100000 in
theorem c_addCondition (S : XS) (hb : CB S) (r c u v z : Int) (zr : zR r) (zc : zR c) (zu : zR u) (zv : zR v) (hz1 : z = 0 ∨ z = 1) : X mX8_addCondition 0 (xEnt mX8_addCondition [xR (0, 0, 0), xI r, xI c, xI u, xI v, xI z]) [] (hp S) 3 18 (pOr (0 ≤ r ∧ r < S.1 (4, 0, 0) 2) (pOr ((0 ≤ c ∧ c < 6) ∧ (0 ≤ u ∧ u < 3) ∧ (0 ≤ v ∧ v < 3)) (pOr (S.1 (34, r, 0) 5 = 0 ∧ S.1 (34, r, 0) 2 < 3) (pN (sCond S r c u v z) (some (xI (S.1 (34, r, 0) 2 + 1)))) (pX S "java/lang/IllegalStateException")) (pX S "java/lang/IllegalArgumentException")) (pX S "java/lang/IndexOutOfBoundsException")) := by
  have hw := hb.1
  have hn6 := wf0_6 hw
  have hn7 := wf0_7 hw
  have hn4 := wf4_2 hw
  have zr2 := zr
  unfold zR at zr2
  have zc2 := zc
  unfold zR at zc2
  have zu2 := zu
  unfold zR at zu2
  have zv2 := zv
  unfold zR at zv2
  show X mX8_addCondition 0 [xR (0, 0, 0), xI r, xI c, xI u, xI v, xI z, none] [] (hp S) 3 18 _
  refine x_aload_n dX8_addCondition_0 rfl ?_
  refine x_iload_n dX8_addCondition_1 rfl ?_
  refine x_callV_t (a := 1) (b := 6) (as := [xI r]) (rest := []) ok_X8_ruleAt dX8_addCondition_2 wd675 ⟨wd677, wd9⟩ (hp0 S) rfl rfl (c_ruleAt S hb.1 r (by first | exact hz _ _ | exact hw.1 _ _ | exact zR_of _ | exact bI_z _ | assumption | exact ⟨by omega, by omega⟩)) rfl (Nat.le_of_ble_eq_true rfl) (Nat.le_of_ble_eq_true rfl) (by decide) (by omega) (by omega) (fun t2 => ?_) (fun t2 => ?_)
  · refine x_astore (L' := [xR (0, 0, 0), xI r, xI c, xI u, xI v, xI z, xR (34, r, 0)]) dX8_addCondition_5 (by decide) rfl ?_
    refine x_iload_n dX8_addCondition_7 rfl ?_
    refine x_iload_n dX8_addCondition_8 rfl ?_
    refine x_iload dX8_addCondition_9 rfl ?_
    refine x_callS_tv (a := 1) (b := 6) (as := [xI c, xI u, xI v]) (rest := []) ok_X8_checkPattern dX8_addCondition_11 wd644 wd645 (c_checkPattern S hb.1 c u v (by first | exact hz _ _ | exact hw.1 _ _ | exact zR_of _ | exact bI_z _ | assumption | exact ⟨by omega, by omega⟩) (by first | exact hz _ _ | exact hw.1 _ _ | exact zR_of _ | exact bI_z _ | assumption | exact ⟨by omega, by omega⟩) (by first | exact hz _ _ | exact hw.1 _ _ | exact zR_of _ | exact bI_z _ | assumption | exact ⟨by omega, by omega⟩)) rfl (Nat.le_of_ble_eq_true rfl) (Nat.le_of_ble_eq_true rfl) (by decide) (by omega) (by omega) (fun t11 => ?_) (fun t11 => ?_)
    · refine x_aload dX8_addCondition_14 rfl ?_
      refine x_get (v := xI (S.1 (34, r, 0) 5)) dX8_addCondition_16 fl_RX8_124 (hp34 S (by omega) (by omega)) rfl ?_
      have f16_1 := wf34_5 hb.1 (S := S) (b := r) (by omega) (by omega)
      refine x_if_ne (tgt := 31) dX8_addCondition_19 (by decide) (by first | exact hz _ _ | exact hw.1 _ _ | exact zR_of _ | exact bI_z _ | assumption | exact ⟨by omega, by omega⟩) (fun c19 => ?_) (fun c19 => ?_)
      · exact x_throw (thr_RX8_103_129_107) rfl dX8_addCondition_31 dX8_addCondition_34 (Or.inl ⟨dX8_addCondition_35, dX8_addCondition_37, dX8_addCondition_40⟩) (by decide) (Nat.le_of_ble_eq_true rfl) (by omega) (by omega) (by first | exact Or.inr ⟨by omega, pXi (QEq.rf S) hb⟩ | exact Or.inl ⟨by omega, Or.inr ⟨by omega, pXi (QEq.rf S) hb⟩⟩ | exact Or.inl ⟨by omega, Or.inl ⟨by omega, Or.inr ⟨by first | omega | assumption | exact fun z => z hRv, pXi (QEq.rf S) hb⟩⟩⟩ | exact Or.inl ⟨by omega, Or.inl ⟨by omega, Or.inl ⟨by first | omega | assumption, Or.inr ⟨by omega, pXi (QEq.rf S) hb⟩⟩⟩⟩)
      · refine x_aload dX8_addCondition_22 rfl ?_
        refine x_get (v := xI (S.1 (34, r, 0) 2)) dX8_addCondition_24 fl_RX8_128 (hp34 S (by omega) (by omega)) rfl ?_
        have f24_2 := wf34_2 hb.1 (S := S) (b := r) (by omega) (by omega)
        refine x_iconst dX8_addCondition_27 ?_
        refine x_icmp_lt (tgt := 41) dX8_addCondition_28 (by decide) (by first | exact hz _ _ | exact hw.1 _ _ | exact zR_of _ | exact bI_z _ | assumption | exact ⟨by omega, by omega⟩) ⟨by decide, by decide⟩ (fun c28 => ?_) (fun c28 => ?_)
        · refine x_aload dX8_addCondition_41 rfl ?_
          refine x_iload_n dX8_addCondition_43 rfl ?_
          refine x_iload_n dX8_addCondition_44 rfl ?_
          refine x_iload dX8_addCondition_45 rfl ?_
          refine x_iload dX8_addCondition_47 rfl ?_
          refine x_callV_v (a := 0) (b := 0) (as := [xI c, xI u, xI v, xI z]) (rest := []) ok_X4_append dX8_addCondition_49 wd664 ⟨wd665, wd666⟩ (hp34 S (by omega) (by omega)) rfl rfl (c_appendC S hb.1 r (by omega) (by omega) (by omega) c u v (by omega) (by omega) (by omega) z (by first | exact Or.inl rfl | assumption)) rfl (Nat.le_of_ble_eq_true rfl) (Nat.le_of_ble_eq_true rfl) (by decide) (by omega) (by omega) ?_
          refine x_aload dX8_addCondition_52 rfl ?_
          refine x_get (v := xI ((sCond S r c u v z).1 (34, r, 0) 2)) dX8_addCondition_54 fl_RX8_128 (hp34 (sCond S r c u v z) (by omega) (by omega)) rfl ?_
          have f54_3 := wf34_2 (wi_cond S hb.1 r (by omega) (by omega) (by omega) c u v (by omega) (by omega) (by omega) z (by first | exact Or.inl rfl | assumption)) (S := sCond S r c u v z) (b := r) (by omega) (by omega)
          refine x_top (show (sCond S r c u v z).1 (34, r, 0) 2 = S.1 (34, r, 0) 2 + 1 from (sCond_34 S r c u v z).1) ?_
          exact x_iret dX8_addCondition_57 rfl (Or.inl ⟨by omega, Or.inl ⟨by omega, Or.inl ⟨by omega, rfl, _, rfl, QEq.rf _, hb.addC (by omega) (by omega) (by omega) (by omega) (by omega) (by omega) (by omega) hz1⟩⟩⟩)
        · exact x_throw (thr_RX8_103_129_107) rfl dX8_addCondition_31 dX8_addCondition_34 (Or.inl ⟨dX8_addCondition_35, dX8_addCondition_37, dX8_addCondition_40⟩) (by decide) (Nat.le_of_ble_eq_true rfl) (by omega) (by omega) (by first | exact Or.inr ⟨by omega, pXi (QEq.rf S) hb⟩ | exact Or.inl ⟨by omega, Or.inr ⟨by omega, pXi (QEq.rf S) hb⟩⟩ | exact Or.inl ⟨by omega, Or.inl ⟨by omega, Or.inr ⟨by first | omega | assumption | exact fun z => z hRv, pXi (QEq.rf S) hb⟩⟩⟩ | exact Or.inl ⟨by omega, Or.inl ⟨by omega, Or.inl ⟨by first | omega | assumption, Or.inr ⟨by omega, pXi (QEq.rf S) hb⟩⟩⟩⟩)
    · exact XX.out rfl (by first | exact Or.inr ⟨by omega, pXi (QEq.rf S) hb⟩ | exact Or.inl ⟨by omega, Or.inr ⟨by omega, pXi (QEq.rf S) hb⟩⟩ | exact Or.inl ⟨by omega, Or.inl ⟨by omega, Or.inr ⟨by first | omega | assumption | exact fun z => z hRv, pXi (QEq.rf S) hb⟩⟩⟩ | exact Or.inl ⟨by omega, Or.inl ⟨by omega, Or.inl ⟨by first | omega | assumption, Or.inr ⟨by omega, pXi (QEq.rf S) hb⟩⟩⟩⟩)
  · exact XX.out rfl (by first | exact Or.inr ⟨by omega, pXi (QEq.rf S) hb⟩ | exact Or.inl ⟨by omega, Or.inr ⟨by omega, pXi (QEq.rf S) hb⟩⟩ | exact Or.inl ⟨by omega, Or.inl ⟨by omega, Or.inr ⟨by first | omega | assumption | exact fun z => z hRv, pXi (QEq.rf S) hb⟩⟩⟩ | exact Or.inl ⟨by omega, Or.inl ⟨by omega, Or.inl ⟨by first | omega | assumption, Or.inr ⟨by omega, pXi (QEq.rf S) hb⟩⟩⟩⟩)
