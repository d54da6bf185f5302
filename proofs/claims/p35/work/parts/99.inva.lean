/-! what holds of the class between calls -/
/-- how many of the first n tellings are forgotten -/
def fgc (f : XL → Int → Int) (b : Int) : Nat → Int
  | 0 => 0
  | n + 1 => fgc f b n + (if f (13, b, n) 6 = 0 then 0 else 1)
theorem fgc_in (f : XL → Int → Int) (b : Int) (n : Nat) : 0 ≤ fgc f b n ∧ fgc f b n ≤ n := by
  induction n with
  | zero => exact ⟨Int.le_refl _, Int.le_refl _⟩
  | succ n ih =>
    simp only [fgc]
    split <;> omega
theorem fgc_congr {f f' : XL → Int → Int} {b : Int} (n : Nat) (h : ∀ k : Nat, k < n → f (13, b, k) 6 = f' (13, b, k) 6) : fgc f b n = fgc f' b n := by
  induction n with
  | zero => rfl
  | succ n ih => simp only [fgc]; rw [ih (fun k hk => h k (by omega)), h n (by omega)]
def szf (S : XS) (b : Int) : Int := S.1 (9, b, 0) 3 + fgc S.1 b (S.1 (9, b, 0) 3).toNat
/-- a branch's tellings, seals and origin -/
def BrI (S : XS) (b : Int) : Prop := (∀ k : Int, 0 ≤ k → k < S.1 (9, b, 0) 3 → S.1 (13, b, k) 5 = fDigest S (13, b, k) ∧ (S.1 (13, b, k) 0 = 0 → S.1 (13, b, k) 3 ≤ S.1 (13, b, k) 4)) ∧ (∀ j : Nat, (j : Int) ≤ S.1 (9, b, 0) 3 → S.1 (11, b, 0) j = dueN S.1 b j) ∧ (0 < b → b < S.1 (0, 0, 0) 6 → S.1 (9, b, 0) 4 < b ∧ S.1 (9, b, 0) 5 ≤ S.1 (9, S.1 (9, b, 0) 4, 0) 3 ∧ S.1 (9, b, 0) 6 ≤ S.1 (9, b, 0) 3) ∧ (S.1 (0, 0, 0) 6 ≤ b → S.1 (9, b, 0) 3 = 0)
/-- a listener that has heard all -/
def LsI (S : XS) (l : Int) : Prop := LC S l ∧ S.1 (14, l, 0) 2 < S.1 (0, 0, 0) 6 ∧ S.2.1 (14, l, 0) 6 = lv S (S.1 (14, l, 0) 2) l ∧ S.1 (14, l, 0) 8 ≤ szf S (S.1 (14, l, 0) 2)
/-- a listener that may have to hear -/
def LsW (S : XS) (l : Int) : Prop := LC S l ∧ S.1 (14, l, 0) 2 < S.1 (0, 0, 0) 6 ∧ ((S.2.1 (14, l, 0) 6 = lv S (S.1 (14, l, 0) 2) l ∧ S.1 (14, l, 0) 8 ≤ szf S (S.1 (14, l, 0) 2)) ∨ S.1 (14, l, 0) 8 + 1 ≤ szf S (S.1 (14, l, 0) 2))
theorem LsI.w {S : XS} {l : Int} (h : LsI S l) : LsW S l := ⟨h.1, h.2.1, Or.inl h.2.2⟩
/-- all of it -/
def JInv (S : XS) : Prop := NewOk S ∧ (∀ b : Int, 0 ≤ b → b < 4 → BrI S b) ∧ (∀ l : Int, 0 ≤ l → l < S.1 (0, 0, 0) 7 → LsI S l) ∧ ∀ l : Int, 0 ≤ l → l < 5 → S.1 (0, 0, 0) 7 ≤ l → S.1 (14, l, 0) 7 = 0 ∧ S.1 (14, l, 0) 8 = 0 ∧ S.1 (14, l, 0) 9 = 0
theorem due_below {f f' : XL → Int → Int} {b : Int} (n : Nat) (h : ∀ k : Nat, k < n → f (13, b, k) 5 = f' (13, b, k) 5) : dueN f b n = dueN f' b n := by
  induction n with
  | zero => rfl
  | succ n ih => simp only [dueN]; rw [ih (fun k hk => h k (by omega)), h n (by omega)]
theorem fDig_congr {S T : XS} {l m : XL} (h : ∀ j : Int, 0 ≤ j → j ≤ 4 → T.1 m j = S.1 l j) : fDigest T m = fDigest S l := by
  unfold fDigest
  rw [h 0 (by decide) (by decide), h 1 (by decide) (by decide), h 2 (by decide) (by decide), h 3 (by decide) (by decide), h 4 (by decide) (by decide)]
/-- branches that are alike -/
theorem BrI.to {S T : XS} {b : Int} (h : BrI S b) (e3 : T.1 (9, b, 0) = S.1 (9, b, 0)) (e11 : T.1 (11, b, 0) = S.1 (11, b, 0)) (e13 : ∀ k : Int, 0 ≤ k → k < S.1 (9, b, 0) 3 → ∀ j : Int, j ≤ 5 → T.1 (13, b, k) j = S.1 (13, b, k) j) (e6 : T.1 (0, 0, 0) 6 = S.1 (0, 0, 0) 6) (eo : 0 < b → b < S.1 (0, 0, 0) 6 → S.1 (9, S.1 (9, b, 0) 4, 0) 3 ≤ T.1 (9, S.1 (9, b, 0) 4, 0) 3) : BrI T b := by
  obtain ⟨h1, h2, h3, h4⟩ := h
  refine ⟨fun k k0 k1 => ?_, fun j hj => ?_, fun b0 b1 => ?_, fun z => ?_⟩
  · rw [e3] at k1
    obtain ⟨a1, a2⟩ := h1 k k0 k1
    have e := e13 k k0 k1
    rw [e 5 (by decide), e 0 (by decide), e 3 (by decide), e 4 (by decide), fDig_congr (S := S) (T := T) (l := (13, b, k)) (m := (13, b, k)) (fun j j0 j1 => e j (by omega))]
    exact ⟨a1, a2⟩
  · rw [e3] at hj
    rw [e11, h2 j hj]
    exact due_below j (fun k hk => (e13 k (by omega) (by omega) 5 (by decide)).symm)
  · rw [e6] at b1
    rw [e3]
    have := h3 b0 b1
    have := eo b0 b1
    exact ⟨by omega, by omega, by omega⟩
  · rw [e6] at z
    rw [e3]
    exact h4 z
theorem szf_congr {S T : XS} {b : Int} (e3 : T.1 (9, b, 0) 3 = S.1 (9, b, 0) 3) (e13 : ∀ k : Int, 0 ≤ k → k < S.1 (9, b, 0) 3 → T.1 (13, b, k) 6 = S.1 (13, b, k) 6) : szf T b = szf S b := by
  unfold szf
  rw [e3, fgc_congr _ (fun k hk => e13 k (by omega) (by omega))]
/-- listeners that are alike -/
theorem LsI.to {S T : XS} {l : Int} (h : LsI S l) (c1 : T.1 (14, l, 0) = S.1 (14, l, 0)) (c2 : T.2.1 (14, l, 0) = S.2.1 (14, l, 0)) (c3 : T.2.1 (30, l, 0) = S.2.1 (30, l, 0)) (c4 : T.2.1 (31, l, 0) = S.2.1 (31, l, 0)) (e6 : S.1 (0, 0, 0) 6 ≤ T.1 (0, 0, 0) 6) (ev : lv T (S.1 (14, l, 0) 2) l = lv S (S.1 (14, l, 0) 2) l) (es : szf T (S.1 (14, l, 0) 2) = szf S (S.1 (14, l, 0) 2)) : LsI T l := by
  obtain ⟨h1, h2, h3, h4⟩ := h
  refine ⟨(h1.congr c1 c3 c4).1, ?_, ?_, ?_⟩
  · rw [c1]; omega
  · rw [c1, c2, ev]; exact h3
  · rw [c1, es]; exact h4
theorem LsW.to {S T : XS} {l : Int} (h : LsW S l) (c1 : T.1 (14, l, 0) = S.1 (14, l, 0)) (c2 : T.2.1 (14, l, 0) = S.2.1 (14, l, 0)) (c3 : T.2.1 (30, l, 0) = S.2.1 (30, l, 0)) (c4 : T.2.1 (31, l, 0) = S.2.1 (31, l, 0)) (e6 : S.1 (0, 0, 0) 6 ≤ T.1 (0, 0, 0) 6) (ev : lv T (S.1 (14, l, 0) 2) l = lv S (S.1 (14, l, 0) 2) l) (es : szf T (S.1 (14, l, 0) 2) = szf S (S.1 (14, l, 0) 2)) : LsW T l := by
  obtain ⟨h1, h2, h3⟩ := h
  refine ⟨(h1.congr c1 c3 c4).1, ?_, ?_⟩
  · rw [c1]; omega
  · rw [c1, c2, ev, es]; exact h3
/-- something was told or forgotten -/
theorem LsW.up {S T : XS} {l : Int} (h : LsW S l) (c1 : T.1 (14, l, 0) = S.1 (14, l, 0)) (c3 : T.2.1 (30, l, 0) = S.2.1 (30, l, 0)) (c4 : T.2.1 (31, l, 0) = S.2.1 (31, l, 0)) (e6 : S.1 (0, 0, 0) 6 ≤ T.1 (0, 0, 0) 6) (es : szf S (S.1 (14, l, 0) 2) + 1 ≤ szf T (S.1 (14, l, 0) 2)) : LsW T l := by
  obtain ⟨h1, h2, h3⟩ := h
  refine ⟨(h1.congr c1 c3 c4).1, ?_, Or.inr ?_⟩
  · rw [c1]; omega
  · rw [c1]; rcases h3 with h3 | h3 <;> omega
theorem szf_le {S : XS} (hw : WI S) {b : Int} (b0 : 0 ≤ b) (b1 : b < 4) : szf S b ≤ 120 := by
  have h := wf9_3 hw b0 b1
  have k := fgc_in S.1 b (S.1 (9, b, 0) 3).toNat
  unfold szf
  omega
/-- so there is a place for the hour that is heard -/
theorem LsW.end {S : XS} (hw : WI S) {l : Int} (l0 : 0 ≤ l) (l1 : l < 5) (h : LsW S l) (hne : lv S (S.1 (14, l, 0) 2) l ≠ S.2.1 (14, l, 0) 6) : S.1 (14, l, 0) 8 < 120 := by
  have h2 := wf14_2 hw l0 l1
  obtain ⟨h1, -, h3⟩ := h
  have := szf_le hw (b := S.1 (14, l, 0) 2) (by omega) (by omega)
  rcases h3 with ⟨h3, -⟩ | h3
  · exact absurd h3.symm hne
  · omega
theorem end_of {S : XS} (hw : WI S) {b : Int} (h : ∀ l : Int, 0 ≤ l → l < S.1 (0, 0, 0) 7 → S.1 (14, l, 0) 2 = b → LsW S l) : EndOk S b := by
  intro l l0 l1 hb hne
  have h7 := wf0_7 hw
  exact (h l l0 l1 hb).end hw l0 (by omega) (by rw [hb]; exact hne)
theorem szf_L {S T : XS} (h : LEq S T) (b : Int) : szf T b = szf S b := szf_congr (by rw [h.i (k := 9) (by decide)]) (fun k _ _ => by rw [h.i (k := 13) (by decide)])
/-- one listener hears -/
theorem LsW.hear {S : XS} {l : Int} (h : LsW S l) (h8 : lv S (S.1 (14, l, 0) 2) l ≠ S.2.1 (14, l, 0) 6 → S.1 (14, l, 0) 8 < 120) : LsI (sHrV S l (lv S (S.1 (14, l, 0) 2) l)) l := by
  obtain ⟨h1, h2, h3⟩ := h
  have hL := LEq.hrV S l (lv S (S.1 (14, l, 0) 2) l)
  have hlc := (h1.hear h8).1
  by_cases y : lv S (S.1 (14, l, 0) 2) l = S.2.1 (14, l, 0) 6
  · obtain ⟨a1, a2, a3, -⟩ := hrV_at0 S l y
    have ev : lv (sHrV S l (lv S (S.1 (14, l, 0) 2) l)) (S.1 (14, l, 0) 2) l = lv S (S.1 (14, l, 0) 2) l := lv_L hL (by rw [a1]) (by rw [a1]) a2
    refine ⟨hlc, ?_, ?_, ?_⟩
    · rw [a1]; exact h2
    · rw [a3, a1, ev, y]
    · rw [szf_L hL, a1]
      rcases h3 with h3 | h3
      · exact h3.2
      · omega
  · have q8 := h8 y
    obtain ⟨a2, a3, a4, a7, a8, a9, b5, b6, -⟩ := hrV_at S l y q8
    have ev : lv (sHrV S l (lv S (S.1 (14, l, 0) 2) l)) (S.1 (14, l, 0) 2) l = lv S (S.1 (14, l, 0) 2) l := lv_L hL a4 a3 b5
    refine ⟨hlc, ?_, ?_, ?_⟩
    · rw [a2, hL.i (k := 0) (by decide)]; exact h2
    · rw [b6, a2, ev]
    · rw [szf_L hL, a2, a8]
      rcases h3 with h3 | h3
      · exact absurd h3.1.symm y
      · omega
/-- a branch's listeners hear -/
theorem inf_ls {S : XS} {b : Int} (h8 : EndOk S b) (n : Nat) (hn : (n : Int) ≤ S.1 (0, 0, 0) 7) (h : ∀ l : Int, 0 ≤ l → l < S.1 (0, 0, 0) 7 → if S.1 (14, l, 0) 2 = b then LsW S l else LsI S l) : ∀ l : Int, 0 ≤ l → l < S.1 (0, 0, 0) 7 → if S.1 (14, l, 0) 2 = b ∧ (n : Int) ≤ l then LsW (sInf S b n) l else LsI (sInf S b n) l := by
  induction n with
  | zero =>
    intro l l0 l1
    have := h l l0 l1
    by_cases y : S.1 (14, l, 0) 2 = b
    · rw [if_pos y] at this; rw [if_pos ⟨y, l0⟩]; exact this
    · rw [if_neg y] at this; rw [if_neg (fun z => y z.1)]; exact this
  | succ n ih =>
    intro l l0 l1
    have ih := ih (by omega)
    have hL := sInf_L S b n
    by_cases y : S.1 (14, n, 0) 2 = b
    · rw [sInf_t y]
      obtain ⟨d1, d2, d3, d4⟩ := sInf_o S b n (n : Int) (Int.le_refl _)
      have ev : lv (sInf S b n) b n = lv S b n := lv_L hL (by rw [d1]) (by rw [d1]) (by rw [d2])
      have hL2 := LEq.hrV (sInf S b n) n (lv S b n)
      by_cases e : l = n
      · subst e
        rw [if_neg (by omega)]
        have k := ih n l0 l1
        rw [if_pos ⟨y, Int.le_refl _⟩] at k
        have k2 := k.hear (by rw [d1, d2, y, ev]; exact h8 n l0 l1 y)
        rw [d1, y, ev] at k2
        exact k2
      · obtain ⟨a1, a2, a3, a4⟩ := hrV_o (sInf S b n) n (lv S b n) (l' := l) e
        have k := ih l l0 l1
        have ev2 : ∀ b' : Int, lv (sHrV (sInf S b n) n (lv S b n)) b' l = lv (sInf S b n) b' l := fun b' => lv_L hL2 (by rw [a1]) (by rw [a1]) (by rw [a2])
        have e0 : (sInf S b n).1 (0, 0, 0) 6 ≤ (sHrV (sInf S b n) n (lv S b n)).1 (0, 0, 0) 6 := by rw [hL2.i (k := 0) (by decide)]; exact Int.le_refl _
        by_cases z : S.1 (14, l, 0) 2 = b ∧ ((n + 1 : Nat) : Int) ≤ l
        · rw [if_pos z]
          rw [if_pos ⟨z.1, by omega⟩] at k
          exact k.to a1 a2 a3 a4 e0 (ev2 _) (szf_L hL2 _)
        · rw [if_neg z]
          rw [if_neg (fun z2 => z ⟨z2.1, by omega⟩)] at k
          exact k.to a1 a2 a3 a4 e0 (ev2 _) (szf_L hL2 _)
    · rw [sInf_f y]
      have k := ih l l0 l1
      by_cases z : S.1 (14, l, 0) 2 = b ∧ ((n + 1 : Nat) : Int) ≤ l
      · rw [if_pos z]
        rw [if_pos ⟨z.1, by omega⟩] at k
        exact k
      · rw [if_neg z]
        by_cases z2 : S.1 (14, l, 0) 2 = b ∧ (n : Int) ≤ l
        · have : l = n := by
            by_cases z3 : ((n + 1 : Nat) : Int) ≤ l
            · exact absurd ⟨z2.1, z3⟩ z
            · omega
          rw [this] at z2
          exact absurd z2.1 y
        · rw [if_neg z2] at k
          exact k
/-- the class before its listeners hear -/
def JW (S : XS) (b : Int) : Prop := NewOk S ∧ (∀ b : Int, 0 ≤ b → b < 4 → BrI S b) ∧ (∀ l : Int, 0 ≤ l → l < S.1 (0, 0, 0) 7 → if S.1 (14, l, 0) 2 = b then LsW S l else LsI S l) ∧ ∀ l : Int, 0 ≤ l → l < 5 → S.1 (0, 0, 0) 7 ≤ l → S.1 (14, l, 0) 7 = 0 ∧ S.1 (14, l, 0) 8 = 0 ∧ S.1 (14, l, 0) 9 = 0
theorem JInv.w {S : XS} (h : JInv S) (b : Int) : JW S b := ⟨h.1, h.2.1, fun l l0 l1 => by split; exact (h.2.2.1 l l0 l1).w; exact h.2.2.1 l l0 l1, h.2.2.2⟩
theorem JW.end {S : XS} (hw : WI S) {b : Int} (h : JW S b) : EndOk S b := end_of hw (fun l l0 l1 hb => by have := h.2.2.1 l l0 l1; rw [if_pos hb] at this; exact this)
theorem BrI.L {S T : XS} (h : LEq S T) {b : Int} (k : BrI S b) : BrI T b := k.to (h.i (by decide) b 0) (h.i (by decide) b 0) (fun q _ _ j _ => by rw [h.i (k := 13) (by decide)]) (by rw [h.i (k := 0) (by decide)]) (fun _ _ => by rw [h.i (k := 9) (by decide)]; exact Int.le_refl _)
theorem JW.inf {S : XS} (hw : WI S) {b : Int} (h : JW S b) (n : Nat) (hn : S.1 (0, 0, 0) 7 = n) : JInv (sInf S b n) := by
  have hL := sInf_L S b n
  have e0 : ∀ j : Int, (sInf S b n).1 (0, 0, 0) j = S.1 (0, 0, 0) j := fun j => by rw [hL.i (k := 0) (by decide)]
  refine ⟨fun r r0 r1 => ?_, fun b' b0 b1 => (h.2.1 b' b0 b1).L hL, fun l l0 l1 => ?_, fun l l0 l1 l2 => ?_⟩
  · rw [hL.i (k := 4) (by decide)] at r0
    rw [hL.i (k := 34) (by decide)]
    exact h.1 r r0 r1
  · rw [e0] at l1
    have k := inf_ls (h.end hw) n (by omega) h.2.2.1 l l0 l1
    rw [if_neg (fun z => by have := z.2; omega)] at k
    exact k
  · rw [e0] at l2
    obtain ⟨d1, -⟩ := sInf_o S b n l (by omega)
    rw [d1]
    exact h.2.2.2 l l0 l1 l2

