/-! the reference: layers -/
def cval (f : XL → Int → Int) (g : Int → Int) (r c : Int) : Int := if f (36, r, c) 1 = 0 then g (f (36, r, c) 0) else g (f (36, r, c) 0) + 1
theorem leastG_le (f : XL → Int → Int) (g : Int → Int) (r : Int) (n : Nat) (G : Int) : leastG f g r n ≤ G ↔ 0 ≤ G ∧ ∀ c : Nat, c < n → cval f g r c ≤ G := by
  induction n with
  | zero => exact ⟨fun z => ⟨z, fun c hc => by omega⟩, fun z => z.1⟩
  | succ n ih =>
    have e : leastG f g r (n + 1) = if leastG f g r n < cval f g r n then cval f g r n else leastG f g r n := rfl
    rw [e]
    constructor
    · intro z
      have z2 : leastG f g r n ≤ G := by
        by_cases q : leastG f g r n < cval f g r n
        · rw [if_pos q] at z; omega
        · rw [if_neg q] at z; exact z
      have z3 : cval f g r n ≤ G := by
        by_cases q : leastG f g r n < cval f g r n
        · rw [if_pos q] at z; exact z
        · rw [if_neg q] at z; omega
      obtain ⟨a, b⟩ := ih.mp z2
      refine ⟨a, fun c hc => ?_⟩
      rcases Nat.lt_or_eq_of_le (show c ≤ n by omega) with h | h
      · exact b c h
      · rw [h]; exact z3
    · rintro ⟨a, b⟩
      have z2 := ih.mpr ⟨a, fun c hc => b c (by omega)⟩
      have z3 := b n (by omega)
      split <;> omega
theorem cval_mono {f : XL → Int → Int} {g g' : Int → Int} {r c : Int} (h : g (f (36, r, c) 0) ≤ g' (f (36, r, c) 0)) : cval f g r c ≤ cval f g' r c := by unfold cval; split <;> omega
/-- the layers so far, when the rules below r are done in a pass -/
def RI (C : XS) (on : Int) (g : Int → Int) (ch s : Int) (r : Nat) : Prop := (∀ x : Int, 0 ≤ x → x ≤ 5 → 0 ≤ g x ∧ g x ≤ 6) ∧ Below C.1 on g ∧ (ch = 0 ∨ ch = 1) ∧ s + ch ≤ gsum g ∧ (ch = 0 → ∀ j : Nat, j < r → bitI on j → leastG C.1 g j (C.1 (34, j, 0) 2).toNat ≤ g (C.1 (37, j, 0) 0))
/-- and of the rule r the conditions below c -/
def LI (C : XS) (on : Int) (g : Int → Int) (ch s : Int) (r : Nat) (c : Nat) : Prop := (∀ x : Int, 0 ≤ x → x ≤ 5 → 0 ≤ g x ∧ (x ≠ C.1 (37, r, 0) 0 → g x ≤ 6)) ∧ g (C.1 (37, r, 0) 0) ≤ 6 + c ∧ Below C.1 on g ∧ (ch = 0 ∨ ch = 1) ∧ s + ch ≤ gsum g ∧ (ch = 0 → (∀ j : Nat, j < r → bitI on j → leastG C.1 g j (C.1 (34, j, 0) 2).toNat ≤ g (C.1 (37, j, 0) 0)) ∧ ∀ c' : Nat, c' < c → cval C.1 g r c' ≤ g (C.1 (37, r, 0) 0))
theorem RI.start {C : XS} (hC : WI C) {on : Int} {g : Int → Int} {ch s : Int} {r : Nat} (hr : (r : Int) < C.1 (4, 0, 0) 2) (h : RI C on g ch s r) : LI C on g ch s r 0 := by
  have c4 := wf4_2 hC
  have a := wf37_0 hC (b := (r : Int)) (by omega) (by omega)
  obtain ⟨h1, h2, h3, h4, h5⟩ := h
  exact ⟨fun x x0 x1 => ⟨(h1 x x0 x1).1, fun _ => (h1 x x0 x1).2⟩, by have := (h1 _ a.1 a.2).2; omega, h2, h3, h4, fun z => ⟨h5 z, fun c' hc => by omega⟩⟩
theorem LI.up {C : XS} (hC : WI C) {on : Int} {g : Int → Int} {ch s : Int} {r c : Nat} (hr : (r : Int) < C.1 (4, 0, 0) 2) (ho : bitI on r) (hc : (c : Int) < C.1 (34, r, 0) 2) (h : LI C on g ch s r c) (hv : g (C.1 (37, r, 0) 0) < cval C.1 g r c) : LI C on (xUpd g (C.1 (37, r, 0) 0) (cval C.1 g r c)) 1 s r (c + 1) := by
  have c4 := wf4_2 hC
  have a := wf37_0 hC (b := (r : Int)) (by omega) (by omega)
  have b := dl_rel hC hr hc
  obtain ⟨h1, h2, h3, h4, h5, h6⟩ := h
  have hb : cval C.1 g r c ≤ 6 + ((c + 1 : Nat) : Int) ∧ 0 ≤ cval C.1 g r c := by
    have q := h1 _ b.1 b.2
    by_cases e : C.1 (36, r, c) 0 = C.1 (37, r, 0) 0
    · unfold cval; rw [e] at q ⊢; split <;> omega
    · have q2 := q.2 e
      unfold cval; split <;> omega
  refine ⟨fun x x0 x1 => ?_, ?_, fun g' g0 hl x x0 x1 => ?_, Or.inr rfl, ?_, fun z => by omega⟩
  · simp only [xUpd]
    split
    · exact ⟨hb.2, fun z => absurd (by assumption) z⟩
    · exact h1 x x0 x1
  · simp only [xUpd, if_true]; exact hb.1
  · simp only [xUpd]
    split
    · rename_i e
      have k := hl r hr ho
      have k2 := ((leastG_le _ _ _ _ _).mp k).2 c (by have := wf34_2 hC (b := (r : Int)) (by omega) (by omega); omega)
      rw [e]
      exact Int.le_trans (cval_mono (h3 g' g0 hl _ b.1 b.2)) k2
    · exact h3 g' g0 hl x x0 x1
  · have := gsum_up a.1 a.2 hv
    omega
theorem LI.ok {C : XS} {on : Int} {g : Int → Int} {ch s : Int} {r c : Nat} (h : LI C on g ch s r c) (hv : cval C.1 g r c ≤ g (C.1 (37, r, 0) 0)) : LI C on g ch s r (c + 1) := by
  obtain ⟨h1, h2, h3, h4, h5, h6⟩ := h
  refine ⟨h1, by omega, h3, h4, h5, fun z => ⟨(h6 z).1, fun c' hc => ?_⟩⟩
  rcases Nat.lt_or_eq_of_le (show c' ≤ c by omega) with q | q
  · exact (h6 z).2 c' q
  · rw [q]; exact hv
theorem LI.out {C : XS} {on : Int} {g : Int → Int} {ch s : Int} {r c : Nat} (hC : WI C) (hr : (r : Int) < C.1 (4, 0, 0) 2) (h : LI C on g ch s r c) (h6 : g (C.1 (37, r, 0) 0) ≤ 6) (hc : bitI on r → (C.1 (34, r, 0) 2).toNat ≤ c) : RI C on g ch s (r + 1) := by
  have c4 := wf4_2 hC
  have a := wf37_0 hC (b := (r : Int)) (by omega) (by omega)
  obtain ⟨h1, h2, h3, h4, h5, h7⟩ := h
  refine ⟨fun x x0 x1 => ⟨(h1 x x0 x1).1, ?_⟩, h3, h4, h5, fun z j hj ho => ?_⟩
  · by_cases e : x = C.1 (37, r, 0) 0
    · rw [e]; exact h6
    · exact (h1 x x0 x1).2 e
  · rcases Nat.lt_or_eq_of_le (show j ≤ r by omega) with q | q
    · exact (h7 z).1 j q ho
    · subst q
      exact (leastG_le _ _ _ _ _).mpr ⟨(h1 _ a.1 a.2).1, fun c' hc' => (h7 z).2 c' (Nat.lt_of_lt_of_le hc' (hc ho))⟩
/-- a missing number is passed over by none -/
theorem gap_lay {C : XS} (hC : WI C) {on : Int} {g : Int → Int} (h : Lay C.1 on g) (hn : ∀ x : Int, 0 ≤ x → x ≤ 5 → 0 ≤ g x) {m : Int} (m0 : 0 ≤ m) (hm : ∀ x : Int, 0 ≤ x → x ≤ 5 → g x ≠ m) : Lay C.1 on (fun x => if m < g x then g x - 1 else g x) := by
  intro j hj ho
  have c4 := wf4_2 hC
  have a := wf37_0 hC (b := (j : Int)) (by omega) (by omega)
  have s := wf34_2 hC (b := (j : Int)) (by omega) (by omega)
  obtain ⟨k1, k2⟩ := (leastG_le _ _ _ _ _).mp (h j hj ho)
  refine (leastG_le _ _ _ _ _).mpr ⟨?_, fun c hc => ?_⟩
  · dsimp only; split <;> omega
  · have b := dl_rel hC hj (i := c) (by omega)
    have q := k2 c hc
    have n1 := hm _ a.1 a.2
    have n2 := hm _ b.1 b.2
    unfold cval at q ⊢
    dsimp only
    split
    · rename_i e; rw [if_pos e] at q; (repeat' split) <;> omega
    · rename_i e; rw [if_neg e] at q; (repeat' split) <;> omega
theorem pick6 (a b c d e f : Int) : ∃ m : Int, 0 ≤ m ∧ m ≤ 6 ∧ a ≠ m ∧ b ≠ m ∧ c ≠ m ∧ d ≠ m ∧ e ≠ m ∧ f ≠ m := by
  apply Classical.byContradiction
  intro h
  have k : ∀ m : Int, 0 ≤ m → m ≤ 6 → a = m ∨ b = m ∨ c = m ∨ d = m ∨ e = m ∨ f = m := fun m m0 m6 => by
    apply Classical.byContradiction
    intro z
    exact h ⟨m, m0, m6, fun y => z (Or.inl y), fun y => z (Or.inr (Or.inl y)), fun y => z (Or.inr (Or.inr (Or.inl y))), fun y => z (Or.inr (Or.inr (Or.inr (Or.inl y)))), fun y => z (Or.inr (Or.inr (Or.inr (Or.inr (Or.inl y))))), fun y => z (Or.inr (Or.inr (Or.inr (Or.inr (Or.inr y)))))⟩
  have k0 := k 0 (by omega) (by omega)
  have k1 := k 1 (by omega) (by omega)
  have k2 := k 2 (by omega) (by omega)
  have k3 := k 3 (by omega) (by omega)
  have k4 := k 4 (by omega) (by omega)
  have k5 := k 5 (by omega) (by omega)
  have k6 := k 6 (by omega) (by omega)
  clear k h
  rcases k0 with rfl | rfl | rfl | rfl | rfl | rfl <;> rcases k1 with h1 | h1 | h1 | h1 | h1 | h1 <;> first | (exfalso; clear k2 k3 k4 k5 k6; omega) | (subst h1; rcases k2 with h2 | h2 | h2 | h2 | h2 | h2 <;> first | (exfalso; clear k3 k4 k5 k6; omega) | (subst h2; rcases k3 with h3 | h3 | h3 | h3 | h3 | h3 <;> first | (exfalso; clear k4 k5 k6; omega) | (subst h3; rcases k4 with h4 | h4 | h4 | h4 | h4 | h4 <;> first | (exfalso; clear k5 k6; omega) | (subst h4; omega))))
theorem RI.done {C : XS} (hC : WI C) {on : Int} {g : Int → Int} {s : Int} {r : Nat} (h : RI C on g 0 s r) (hr : C.1 (4, 0, 0) 2 ≤ r) : LyG C.1 on g := by
  obtain ⟨h1, h2, h3, h4, h5⟩ := h
  have hl : Lay C.1 on g := fun j hj ho => h5 rfl j (by omega) ho
  obtain ⟨m, m0, m6, e0, e1, e2, e3, e4, e5⟩ := pick6 (g 0) (g 1) (g 2) (g 3) (g 4) (g 5)
  have hm : ∀ x : Int, 0 ≤ x → x ≤ 5 → g x ≠ m := fun x x0 x1 => by
    have : x = 0 ∨ x = 1 ∨ x = 2 ∨ x = 3 ∨ x = 4 ∨ x = 5 := by omega
    rcases this with rfl | rfl | rfl | rfl | rfl | rfl <;> assumption
  have k := h2 _ (fun x x0 x1 => by have := (h1 x x0 x1).1; split <;> omega) (gap_lay hC hl (fun x x0 x1 => (h1 x x0 x1).1) m0 hm)
  refine ⟨fun x x0 x1 => ⟨(h1 x x0 x1).1, ?_⟩, hl, h2⟩
  have k1 := k x x0 x1
  have k2 := hm x x0 x1
  have k3 := (h1 x x0 x1).2
  split at k1 <;> omega
theorem RI.no {C : XS} {on : Int} {g : Int → Int} {x : Int} (hb : Below C.1 on g) (x0 : 0 ≤ x) (x1 : x ≤ 5) (h : 6 < g x) : ∀ g', GOk g' → ¬ Lay C.1 on g' := fun g' hg hl => by
  have a := hb g' (fun x x0 x1 => (hg x x0 x1).1) hl x x0 x1
  have b := (hg x x0 x1).2
  omega
theorem xUpd_self (g : Int → Int) (i : Int) : xUpd g i (g i) = g := by
  funext j
  simp only [xUpd]
  split
  · rename_i h; rw [h]
  · rfl
theorem zOr01 {c : Int} (h : c = 0 ∨ c = 1) : zOr c 1 = 1 ∧ zOr c 0 = c := by rcases h with rfl | rfl <;> decide
def pML (C S : XS) (on : Int) : XO → XH → Prop := fun o h' => ∃ T, h' = hp T ∧ Ex1 (72, 0, 0) S T ∧ WI T ∧ ((o = .inl (some (xI 1)) ∧ LyG C.1 on (T.1 (72, 0, 0))) ∨ (o = .inl (some (xI 0)) ∧ ∀ g', GOk g' → ¬ Lay C.1 on g'))
theorem putI_row (S : XS) (l : XL) (k v : Int) : (putI S l k v).1 l = xUpd (S.1 l) k v := by simp [putI]
theorem LI.bd {C : XS} (hC : WI C) {on : Int} {g : Int → Int} {ch s : Int} {r c : Nat} (hr : (r : Int) < C.1 (4, 0, 0) 2) (hc : (c : Int) < C.1 (34, r, 0) 2) (h : LI C on g ch s r c) : 0 ≤ cval C.1 g r c ∧ cval C.1 g r c ≤ 9 ∧ 0 ≤ g (C.1 (37, r, 0) 0) ∧ g (C.1 (37, r, 0) 0) ≤ 9 := by
  have c4 := wf4_2 hC
  have a := wf37_0 hC (b := (r : Int)) (by omega) (by omega)
  have s3 := wf34_2 hC (b := (r : Int)) (by omega) (by omega)
  have b := dl_rel hC hr hc
  have q := h.1 _ b.1 b.2
  have q0 := (h.1 _ a.1 a.2).1
  have q1 := h.2.1
  by_cases e : C.1 (36, r, c) 0 = C.1 (37, r, 0) 0
  · unfold cval; rw [e]; split <;> omega
  · have q2 := q.2 e
    unfold cval; split <;> omega
set_option maxHeartbeats 4000000 in
set_option maxRecDepth 100000 in
theorem l_layersC (C S : XS) (hC : WI C) (hw : WI S) (hn : MRn C S) (hr : MRr C S) (on : Int) (hO : OnRow S on) (s : Int) (r : Nat) (hr1 : (r : Int) < C.1 (4, 0, 0) 2) (KKr : ∀ (T : XS) (ch : Int), Ex1 (72, 0, 0) S T → WI T → RI C on (T.1 (72, 0, 0)) ch s (r + 1) → X mX9_layers 31 [xR (50, 0, 0), xI ch, xI ((r : Int) + 1), none, none] [] (hp T) 0 0 (pML C S on)) : ∀ (nn : Nat) (T : XS) (ch : Int) (c : Nat), 4 - (c : Int) < (nn : Int) → ((c : Int) ≤ C.1 (34, r, 0) 2) → (c ≤ 3) → (Ex1 (72, 0, 0) S T) → (WI T) → (ch = 0 ∨ ch = 1) → (LI C on (T.1 (72, 0, 0)) ch s r c) → X mX9_layers 41 [xR (50, 0, 0), xI ch, xI (r : Int), xI (c : Int), none] [] (hp T) 0 0 (pML C S on) := by
  intro nn
  induction nn with
  | zero => intro T ch c hm hc hc3 eT wT hch hL; exfalso; omega
  | succ nn ih =>
    intro T ch c hm hc hc3 eT wT hch hL
    have c4 := wf4_2 hC
    have o50 := eT.1 (50, 0, 0) (nK (by decide) _ _ _ _)
    have o62 := eT.1 (62, 0, 0) (nK (by decide) _ _ _ _)
    have o63 := eT.1 (63, 0, 0) (nK (by decide) _ _ _ _)
    have o64 := eT.1 (64, 0, 0) (nK (by decide) _ _ _ _)
    have o65 := eT.1 (65, 0, 0) (nK (by decide) _ _ _ _)
    have o71 := eT.1 (71, 0, 0) (nK (by decide) _ _ _ _)
    have hz := wT.1
    have hn2 := hn
    obtain ⟨-, n12, -, -⟩ := hn2
    rw [← o50] at n12
    have s34x := wf34_2 hC (b := (r : Int)) (by omega) (by omega)
    obtain ⟨q1, -, -, q4, -, q6, -⟩ := hr r (by omega) (by omega)
    rw [← o62] at q1
    rw [← o64] at q4
    have s34 := wf34_2 hC (b := (r : Int)) (by omega) (by omega)
    have h37 := wf37_0 hC (b := (r : Int)) (by omega) (by omega)
    have on1 := hO r (by omega)
    rw [← o71] at on1
    refine x_iload_n dX9_layers_41 rfl ?_
    refine x_aload_n dX9_layers_42 rfl ?_
    refine x_get (v := xR (64, 0, 0)) dX9_layers_43 fl_RX9_55 (hp50 T) rfl ?_
    refine x_iload_n dX9_layers_46 rfl ?_
    refine x_aldi (f := T.1 (64, 0, 0)) dX9_layers_47 (hp64 T) (show (64 : Nat) ≠ 99 by decide) (by omega) (by omega) (by decide) ?_
    have f47_1 := wfa64 wT (S := T) (r : Int)
    refine x_icmp_ge (tgt := 162) dX9_layers_48 (by decide) (by first | exact hz _ _ | exact hw.1 _ _ | exact zR_of _ | exact bI_z _ | assumption | exact ⟨by omega, by omega⟩) (by first | exact hz _ _ | exact hw.1 _ _ | exact zR_of _ | exact bI_z _ | assumption | exact ⟨by omega, by omega⟩) (fun c48 => ?_) (fun c48 => ?_)
    · refine x_aload_n dX9_layers_162 rfl ?_
      refine x_get (v := xR (72, 0, 0)) dX9_layers_163 fl_RX9_84 (hp50 T) rfl ?_
      refine x_aload_n dX9_layers_166 rfl ?_
      refine x_get (v := xR (62, 0, 0)) dX9_layers_167 fl_RX9_49 (hp50 T) rfl ?_
      refine x_iconst dX9_layers_170 ?_
      refine x_iload_n dX9_layers_171 rfl ?_
      refine x_imul dX9_layers_172 ?_
      refine x_aldi (f := T.1 (62, 0, 0)) dX9_layers_173 (hp62 T) (show (62 : Nat) ≠ 99 by decide) (by omega) (by omega) (by decide) ?_
      have f173_2 := wfa62 wT (S := T) (3 * (r : Int))
      refine x_aldi (f := T.1 (72, 0, 0)) dX9_layers_174 (hp72 T) (show (72 : Nat) ≠ 99 by decide) (by omega) (by omega) (by decide) ?_
      have f174_3 := wfa72 wT (S := T) (T.1 (62, 0, 0) (3 * (r : Int)))
      refine x_top (show T.1 (72, 0, 0) (T.1 (62, 0, 0) (3 * (r : Int))) = T.1 (72, 0, 0) (C.1 (37, (r : Int), 0) 0) from by rw [q1]) ?_
      refine x_bipush (v := 6) dX9_layers_175 (by decide) ?_
      refine x_icmp_le (tgt := 182) dX9_layers_177 (by decide) (by first | exact hz _ _ | exact hw.1 _ _ | exact zR_of _ | exact bI_z _ | assumption | exact ⟨by omega, by omega⟩) ⟨by decide, by decide⟩ (fun c177 => ?_) (fun c177 => ?_)
      · refine x_iinc (L' := [xR (50, 0, 0), xI ch, xI ((r : Int) + 1), xI (c : Int), none]) dX9_layers_182 rfl rfl ?_
        refine x_goto (tgt := 31) dX9_layers_185 (by decide) ?_
        refine X.loc (L' := [xR (50, 0, 0), xI ch, xI ((r : Int) + 1), none, none]) ⟨rfl, ⟨rfl, ⟨rfl, trivial⟩⟩⟩ ?_
        exact KKr T ch eT wT (hL.out hC hr1 (by omega) (fun ho => by first | omega | (rw [bI_t ho] at on1; omega)))
      · refine x_iconst dX9_layers_180 ?_
        exact x_zret dX9_layers_181 rfl (Or.inl rfl) ⟨T, rfl, eT, wT, Or.inr ⟨rfl, RI.no hL.2.2.1 h37.1 h37.2 (by omega)⟩⟩
    · refine x_aload_n dX9_layers_51 rfl ?_
      refine x_get (v := xR (71, 0, 0)) dX9_layers_52 fl_RX9_81 (hp50 T) rfl ?_
      refine x_iload_n dX9_layers_55 rfl ?_
      refine x_aldz (f := T.1 (71, 0, 0)) dX9_layers_56 (hp71 T) (show (71 : Nat) ≠ 99 by decide) (by omega) (by omega) (by decide) ?_
      have f56_4 := wfa71 wT (S := T) (r : Int)
      refine x_if_eq (tgt := 162) dX9_layers_57 (by decide) (by first | exact hz _ _ | exact hw.1 _ _ | exact zR_of _ | exact bI_z _ | assumption | exact ⟨by omega, by omega⟩) (fun c57 => ?_) (fun c57 => ?_)
      · refine x_aload_n dX9_layers_162 rfl ?_
        refine x_get (v := xR (72, 0, 0)) dX9_layers_163 fl_RX9_84 (hp50 T) rfl ?_
        refine x_aload_n dX9_layers_166 rfl ?_
        refine x_get (v := xR (62, 0, 0)) dX9_layers_167 fl_RX9_49 (hp50 T) rfl ?_
        refine x_iconst dX9_layers_170 ?_
        refine x_iload_n dX9_layers_171 rfl ?_
        refine x_imul dX9_layers_172 ?_
        refine x_aldi (f := T.1 (62, 0, 0)) dX9_layers_173 (hp62 T) (show (62 : Nat) ≠ 99 by decide) (by omega) (by omega) (by decide) ?_
        have f173_5 := wfa62 wT (S := T) (3 * (r : Int))
        refine x_aldi (f := T.1 (72, 0, 0)) dX9_layers_174 (hp72 T) (show (72 : Nat) ≠ 99 by decide) (by omega) (by omega) (by decide) ?_
        have f174_6 := wfa72 wT (S := T) (T.1 (62, 0, 0) (3 * (r : Int)))
        refine x_top (show T.1 (72, 0, 0) (T.1 (62, 0, 0) (3 * (r : Int))) = T.1 (72, 0, 0) (C.1 (37, (r : Int), 0) 0) from by rw [q1]) ?_
        refine x_bipush (v := 6) dX9_layers_175 (by decide) ?_
        refine x_icmp_le (tgt := 182) dX9_layers_177 (by decide) (by first | exact hz _ _ | exact hw.1 _ _ | exact zR_of _ | exact bI_z _ | assumption | exact ⟨by omega, by omega⟩) ⟨by decide, by decide⟩ (fun c177 => ?_) (fun c177 => ?_)
        · refine x_iinc (L' := [xR (50, 0, 0), xI ch, xI ((r : Int) + 1), xI (c : Int), none]) dX9_layers_182 rfl rfl ?_
          refine x_goto (tgt := 31) dX9_layers_185 (by decide) ?_
          refine X.loc (L' := [xR (50, 0, 0), xI ch, xI ((r : Int) + 1), none, none]) ⟨rfl, ⟨rfl, ⟨rfl, trivial⟩⟩⟩ ?_
          exact KKr T ch eT wT (hL.out hC hr1 (by omega) (fun ho => by first | omega | (rw [bI_t ho] at on1; omega)))
        · refine x_iconst dX9_layers_180 ?_
          exact x_zret dX9_layers_181 rfl (Or.inl rfl) ⟨T, rfl, eT, wT, Or.inr ⟨rfl, RI.no hL.2.2.1 h37.1 h37.2 (by omega)⟩⟩
      · have hon : bitI on r := by apply Classical.byContradiction; intro z; rw [bI_f z] at on1; omega
        obtain ⟨u1, -, -, u4⟩ := q6 (c : Int) (by omega) (by omega)
        rw [← o63] at u1
        rw [← o65] at u4
        have cb := hL.bd hC hr1 (by omega)
        refine x_aload_n dX9_layers_60 rfl ?_
        refine x_get (v := xR (72, 0, 0)) dX9_layers_61 fl_RX9_84 (hp50 T) rfl ?_
        refine x_aload_n dX9_layers_64 rfl ?_
        refine x_get (v := xR (63, 0, 0)) dX9_layers_65 fl_RX9_52 (hp50 T) rfl ?_
        refine x_bipush (v := 9) dX9_layers_68 (by decide) ?_
        refine x_iload_n dX9_layers_70 rfl ?_
        refine x_imul dX9_layers_71 ?_
        refine x_iconst dX9_layers_72 ?_
        refine x_iload_n dX9_layers_73 rfl ?_
        refine x_imul dX9_layers_74 ?_
        refine x_iadd dX9_layers_75 ?_
        refine x_aldi (f := T.1 (63, 0, 0)) dX9_layers_76 (hp63 T) (show (63 : Nat) ≠ 99 by decide) (by omega) (by omega) (by decide) ?_
        have f76_7 := wfa63 wT (S := T) ((9 * (r : Int)) + (3 * (c : Int)))
        refine x_aldi (f := T.1 (72, 0, 0)) dX9_layers_77 (hp72 T) (show (72 : Nat) ≠ 99 by decide) (by omega) (by omega) (by decide) ?_
        have f77_8 := wfa72 wT (S := T) (T.1 (63, 0, 0) ((9 * (r : Int)) + (3 * (c : Int))))
        refine x_aload_n dX9_layers_78 rfl ?_
        refine x_get (v := xR (65, 0, 0)) dX9_layers_79 fl_RX9_58 (hp50 T) rfl ?_
        refine x_iconst dX9_layers_82 ?_
        refine x_iload_n dX9_layers_83 rfl ?_
        refine x_imul dX9_layers_84 ?_
        refine x_iload_n dX9_layers_85 rfl ?_
        refine x_iadd dX9_layers_86 ?_
        refine x_aldz (f := T.1 (65, 0, 0)) dX9_layers_87 (hp65 T) (show (65 : Nat) ≠ 99 by decide) (by omega) (by omega) (by decide) ?_
        have f87_9 := wfa65 wT (S := T) ((3 * (r : Int)) + (c : Int))
        refine x_if_eq (tgt := 95) dX9_layers_88 (by decide) (by first | exact hz _ _ | exact hw.1 _ _ | exact zR_of _ | exact bI_z _ | assumption | exact ⟨by omega, by omega⟩) (fun c88 => ?_) (fun c88 => ?_)
        · refine x_iconst dX9_layers_95 ?_
          refine x_iadd dX9_layers_96 ?_
          refine x_top (show (T.1 (72, 0, 0) (T.1 (63, 0, 0) ((9 * (r : Int)) + (3 * (c : Int))))) + 0 = cval C.1 (T.1 (72, 0, 0)) (r : Int) (c : Int) from by unfold cval; rw [u1]; first | (rw [if_pos (by omega)]; omega) | rw [if_neg (by omega)]) ?_
          refine x_istore (L' := [xR (50, 0, 0), xI ch, xI (r : Int), xI (c : Int), xI (cval C.1 (T.1 (72, 0, 0)) (r : Int) (c : Int))]) dX9_layers_97 (by decide) rfl ?_
          refine x_iload_n dX9_layers_99 rfl ?_
          refine x_aload_n dX9_layers_100 rfl ?_
          refine x_get (v := xR (72, 0, 0)) dX9_layers_101 fl_RX9_84 (hp50 T) rfl ?_
          refine x_aload_n dX9_layers_104 rfl ?_
          refine x_get (v := xR (62, 0, 0)) dX9_layers_105 fl_RX9_49 (hp50 T) rfl ?_
          refine x_iconst dX9_layers_108 ?_
          refine x_iload_n dX9_layers_109 rfl ?_
          refine x_imul dX9_layers_110 ?_
          refine x_aldi (f := T.1 (62, 0, 0)) dX9_layers_111 (hp62 T) (show (62 : Nat) ≠ 99 by decide) (by omega) (by omega) (by decide) ?_
          have f111_10 := wfa62 wT (S := T) (3 * (r : Int))
          refine x_aldi (f := T.1 (72, 0, 0)) dX9_layers_112 (hp72 T) (show (72 : Nat) ≠ 99 by decide) (by omega) (by omega) (by decide) ?_
          have f112_11 := wfa72 wT (S := T) (T.1 (62, 0, 0) (3 * (r : Int)))
          refine x_top (show T.1 (72, 0, 0) (T.1 (62, 0, 0) (3 * (r : Int))) = T.1 (72, 0, 0) (C.1 (37, (r : Int), 0) 0) from by rw [q1]) ?_
          refine x_iload dX9_layers_113 rfl ?_
          refine x_icmp_ge (tgt := 122) dX9_layers_115 (by decide) (by first | exact hz _ _ | exact hw.1 _ _ | exact zR_of _ | exact bI_z _ | assumption | exact ⟨by omega, by omega⟩) (by first | exact hz _ _ | exact hw.1 _ _ | exact zR_of _ | exact bI_z _ | assumption | exact ⟨by omega, by omega⟩) (fun c115 => ?_) (fun c115 => ?_)
          · refine x_iconst dX9_layers_122 ?_
            refine x_ior dX9_layers_123 ?_
            refine x_istore_n (L' := [xR (50, 0, 0), xI (zOr ch 0), xI (r : Int), xI (c : Int), xI (cval C.1 (T.1 (72, 0, 0)) (r : Int) (c : Int))]) dX9_layers_124 (by decide) rfl ?_
            refine x_aload_n dX9_layers_125 rfl ?_
            refine x_get (v := xR (72, 0, 0)) dX9_layers_126 fl_RX9_84 (hp50 T) rfl ?_
            refine x_aload_n dX9_layers_129 rfl ?_
            refine x_get (v := xR (62, 0, 0)) dX9_layers_130 fl_RX9_49 (hp50 T) rfl ?_
            refine x_iconst dX9_layers_133 ?_
            refine x_iload_n dX9_layers_134 rfl ?_
            refine x_imul dX9_layers_135 ?_
            refine x_aldi (f := T.1 (62, 0, 0)) dX9_layers_136 (hp62 T) (show (62 : Nat) ≠ 99 by decide) (by omega) (by omega) (by decide) ?_
            have f136_12 := wfa62 wT (S := T) (3 * (r : Int))
            refine x_top (show T.1 (62, 0, 0) (3 * (r : Int)) = (C.1 (37, (r : Int), 0) 0) from q1) ?_
            refine x_aload_n dX9_layers_137 rfl ?_
            refine x_get (v := xR (72, 0, 0)) dX9_layers_138 fl_RX9_84 (hp50 T) rfl ?_
            refine x_aload_n dX9_layers_141 rfl ?_
            refine x_get (v := xR (62, 0, 0)) dX9_layers_142 fl_RX9_49 (hp50 T) rfl ?_
            refine x_iconst dX9_layers_145 ?_
            refine x_iload_n dX9_layers_146 rfl ?_
            refine x_imul dX9_layers_147 ?_
            refine x_aldi (f := T.1 (62, 0, 0)) dX9_layers_148 (hp62 T) (show (62 : Nat) ≠ 99 by decide) (by omega) (by omega) (by decide) ?_
            have f148_13 := wfa62 wT (S := T) (3 * (r : Int))
            refine x_aldi (f := T.1 (72, 0, 0)) dX9_layers_149 (hp72 T) (show (72 : Nat) ≠ 99 by decide) (by omega) (by omega) (by decide) ?_
            have f149_14 := wfa72 wT (S := T) (T.1 (62, 0, 0) (3 * (r : Int)))
            refine x_top (show T.1 (72, 0, 0) (T.1 (62, 0, 0) (3 * (r : Int))) = T.1 (72, 0, 0) (C.1 (37, (r : Int), 0) 0) from by rw [q1]) ?_
            refine x_iload dX9_layers_150 rfl ?_
            refine x_mmax dX9_layers_152 wd1257 ⟨wd453, wd70, wd454⟩ (by decide) (Nat.le_of_ble_eq_true rfl) (by first | exact hz _ _ | exact hw.1 _ _ | exact zR_of _ | exact bI_z _ | assumption | exact ⟨by omega, by omega⟩) (by first | exact hz _ _ | exact hw.1 _ _ | exact zR_of _ | exact bI_z _ | assumption | exact ⟨by omega, by omega⟩) ?_
            refine x_asti dX9_layers_155 (hp72 T) (show (72 : Nat) ≠ 99 by decide) (by omega) (by omega) (by decide) ?_
            refine x_heq (pa72 T (C.1 (37, (r : Int), 0) 0) (if (T.1 (72, 0, 0) (C.1 (37, (r : Int), 0) 0)) < (cval C.1 (T.1 (72, 0, 0)) (r : Int) (c : Int)) then (cval C.1 (T.1 (72, 0, 0)) (r : Int) (c : Int)) else (T.1 (72, 0, 0) (C.1 (37, (r : Int), 0) 0)))) ?_
            have hw155_15 : WI (putI T (72, 0, 0) (C.1 (37, (r : Int), 0) 0) (if (T.1 (72, 0, 0) (C.1 (37, (r : Int), 0) 0)) < (cval C.1 (T.1 (72, 0, 0)) (r : Int) (c : Int)) then (cval C.1 (T.1 (72, 0, 0)) (r : Int) (c : Int)) else (T.1 (72, 0, 0) (C.1 (37, (r : Int), 0) 0)))) := wpa72 wT (by split <;> omega)
            refine x_iinc (L' := [xR (50, 0, 0), xI (zOr ch 0), xI (r : Int), xI ((c : Int) + 1), xI (cval C.1 (T.1 (72, 0, 0)) (r : Int) (c : Int))]) dX9_layers_156 rfl rfl ?_
            refine x_goto (tgt := 41) dX9_layers_159 (by decide) ?_
            refine X.loc (L' := [xR (50, 0, 0), xI (zOr ch 0), xI (r : Int), xI ((c : Int) + 1), none]) ⟨rfl, ⟨rfl, ⟨rfl, ⟨rfl, trivial⟩⟩⟩⟩ ?_
            rw [(zOr01 hch).2]
            exact ih (putI T (72, 0, 0) (C.1 (37, (r : Int), 0) 0) (if (T.1 (72, 0, 0) (C.1 (37, (r : Int), 0) 0)) < (cval C.1 (T.1 (72, 0, 0)) (r : Int) (c : Int)) then (cval C.1 (T.1 (72, 0, 0)) (r : Int) (c : Int)) else (T.1 (72, 0, 0) (C.1 (37, (r : Int), 0) 0)))) ch (c + 1) (by omega) (by omega) (by omega) (eT.put _ _) (by assumption) hch (by rw [putI_row, if_neg (by omega), xUpd_self]; exact hL.ok (by omega))
          · refine x_iconst dX9_layers_118 ?_
            refine x_goto (tgt := 123) dX9_layers_119 (by decide) ?_
            refine x_ior dX9_layers_123 ?_
            refine x_istore_n (L' := [xR (50, 0, 0), xI (zOr ch 1), xI (r : Int), xI (c : Int), xI (cval C.1 (T.1 (72, 0, 0)) (r : Int) (c : Int))]) dX9_layers_124 (by decide) rfl ?_
            refine x_aload_n dX9_layers_125 rfl ?_
            refine x_get (v := xR (72, 0, 0)) dX9_layers_126 fl_RX9_84 (hp50 T) rfl ?_
            refine x_aload_n dX9_layers_129 rfl ?_
            refine x_get (v := xR (62, 0, 0)) dX9_layers_130 fl_RX9_49 (hp50 T) rfl ?_
            refine x_iconst dX9_layers_133 ?_
            refine x_iload_n dX9_layers_134 rfl ?_
            refine x_imul dX9_layers_135 ?_
            refine x_aldi (f := T.1 (62, 0, 0)) dX9_layers_136 (hp62 T) (show (62 : Nat) ≠ 99 by decide) (by omega) (by omega) (by decide) ?_
            have f136_16 := wfa62 wT (S := T) (3 * (r : Int))
            refine x_top (show T.1 (62, 0, 0) (3 * (r : Int)) = (C.1 (37, (r : Int), 0) 0) from q1) ?_
            refine x_aload_n dX9_layers_137 rfl ?_
            refine x_get (v := xR (72, 0, 0)) dX9_layers_138 fl_RX9_84 (hp50 T) rfl ?_
            refine x_aload_n dX9_layers_141 rfl ?_
            refine x_get (v := xR (62, 0, 0)) dX9_layers_142 fl_RX9_49 (hp50 T) rfl ?_
            refine x_iconst dX9_layers_145 ?_
            refine x_iload_n dX9_layers_146 rfl ?_
            refine x_imul dX9_layers_147 ?_
            refine x_aldi (f := T.1 (62, 0, 0)) dX9_layers_148 (hp62 T) (show (62 : Nat) ≠ 99 by decide) (by omega) (by omega) (by decide) ?_
            have f148_17 := wfa62 wT (S := T) (3 * (r : Int))
            refine x_aldi (f := T.1 (72, 0, 0)) dX9_layers_149 (hp72 T) (show (72 : Nat) ≠ 99 by decide) (by omega) (by omega) (by decide) ?_
            have f149_18 := wfa72 wT (S := T) (T.1 (62, 0, 0) (3 * (r : Int)))
            refine x_top (show T.1 (72, 0, 0) (T.1 (62, 0, 0) (3 * (r : Int))) = T.1 (72, 0, 0) (C.1 (37, (r : Int), 0) 0) from by rw [q1]) ?_
            refine x_iload dX9_layers_150 rfl ?_
            refine x_mmax dX9_layers_152 wd1257 ⟨wd453, wd70, wd454⟩ (by decide) (Nat.le_of_ble_eq_true rfl) (by first | exact hz _ _ | exact hw.1 _ _ | exact zR_of _ | exact bI_z _ | assumption | exact ⟨by omega, by omega⟩) (by first | exact hz _ _ | exact hw.1 _ _ | exact zR_of _ | exact bI_z _ | assumption | exact ⟨by omega, by omega⟩) ?_
            refine x_asti dX9_layers_155 (hp72 T) (show (72 : Nat) ≠ 99 by decide) (by omega) (by omega) (by decide) ?_
            refine x_heq (pa72 T (C.1 (37, (r : Int), 0) 0) (if (T.1 (72, 0, 0) (C.1 (37, (r : Int), 0) 0)) < (cval C.1 (T.1 (72, 0, 0)) (r : Int) (c : Int)) then (cval C.1 (T.1 (72, 0, 0)) (r : Int) (c : Int)) else (T.1 (72, 0, 0) (C.1 (37, (r : Int), 0) 0)))) ?_
            have hw155_19 : WI (putI T (72, 0, 0) (C.1 (37, (r : Int), 0) 0) (if (T.1 (72, 0, 0) (C.1 (37, (r : Int), 0) 0)) < (cval C.1 (T.1 (72, 0, 0)) (r : Int) (c : Int)) then (cval C.1 (T.1 (72, 0, 0)) (r : Int) (c : Int)) else (T.1 (72, 0, 0) (C.1 (37, (r : Int), 0) 0)))) := wpa72 wT (by split <;> omega)
            refine x_iinc (L' := [xR (50, 0, 0), xI (zOr ch 1), xI (r : Int), xI ((c : Int) + 1), xI (cval C.1 (T.1 (72, 0, 0)) (r : Int) (c : Int))]) dX9_layers_156 rfl rfl ?_
            refine x_goto (tgt := 41) dX9_layers_159 (by decide) ?_
            refine X.loc (L' := [xR (50, 0, 0), xI (zOr ch 1), xI (r : Int), xI ((c : Int) + 1), none]) ⟨rfl, ⟨rfl, ⟨rfl, ⟨rfl, trivial⟩⟩⟩⟩ ?_
            rw [(zOr01 hch).1]
            exact ih (putI T (72, 0, 0) (C.1 (37, (r : Int), 0) 0) (if (T.1 (72, 0, 0) (C.1 (37, (r : Int), 0) 0)) < (cval C.1 (T.1 (72, 0, 0)) (r : Int) (c : Int)) then (cval C.1 (T.1 (72, 0, 0)) (r : Int) (c : Int)) else (T.1 (72, 0, 0) (C.1 (37, (r : Int), 0) 0)))) 1 (c + 1) (by omega) (by omega) (by omega) (eT.put _ _) (by assumption) (Or.inr rfl) (by rw [putI_row, if_pos (by omega)]; exact hL.up hC hr1 hon (by omega) (by omega))
        · refine x_iconst dX9_layers_91 ?_
          refine x_goto (tgt := 96) dX9_layers_92 (by decide) ?_
          refine x_iadd dX9_layers_96 ?_
          refine x_top (show (T.1 (72, 0, 0) (T.1 (63, 0, 0) ((9 * (r : Int)) + (3 * (c : Int))))) + 1 = cval C.1 (T.1 (72, 0, 0)) (r : Int) (c : Int) from by unfold cval; rw [u1]; first | (rw [if_pos (by omega)]; omega) | rw [if_neg (by omega)]) ?_
          refine x_istore (L' := [xR (50, 0, 0), xI ch, xI (r : Int), xI (c : Int), xI (cval C.1 (T.1 (72, 0, 0)) (r : Int) (c : Int))]) dX9_layers_97 (by decide) rfl ?_
          refine x_iload_n dX9_layers_99 rfl ?_
          refine x_aload_n dX9_layers_100 rfl ?_
          refine x_get (v := xR (72, 0, 0)) dX9_layers_101 fl_RX9_84 (hp50 T) rfl ?_
          refine x_aload_n dX9_layers_104 rfl ?_
          refine x_get (v := xR (62, 0, 0)) dX9_layers_105 fl_RX9_49 (hp50 T) rfl ?_
          refine x_iconst dX9_layers_108 ?_
          refine x_iload_n dX9_layers_109 rfl ?_
          refine x_imul dX9_layers_110 ?_
          refine x_aldi (f := T.1 (62, 0, 0)) dX9_layers_111 (hp62 T) (show (62 : Nat) ≠ 99 by decide) (by omega) (by omega) (by decide) ?_
          have f111_20 := wfa62 wT (S := T) (3 * (r : Int))
          refine x_aldi (f := T.1 (72, 0, 0)) dX9_layers_112 (hp72 T) (show (72 : Nat) ≠ 99 by decide) (by omega) (by omega) (by decide) ?_
          have f112_21 := wfa72 wT (S := T) (T.1 (62, 0, 0) (3 * (r : Int)))
          refine x_top (show T.1 (72, 0, 0) (T.1 (62, 0, 0) (3 * (r : Int))) = T.1 (72, 0, 0) (C.1 (37, (r : Int), 0) 0) from by rw [q1]) ?_
          refine x_iload dX9_layers_113 rfl ?_
          refine x_icmp_ge (tgt := 122) dX9_layers_115 (by decide) (by first | exact hz _ _ | exact hw.1 _ _ | exact zR_of _ | exact bI_z _ | assumption | exact ⟨by omega, by omega⟩) (by first | exact hz _ _ | exact hw.1 _ _ | exact zR_of _ | exact bI_z _ | assumption | exact ⟨by omega, by omega⟩) (fun c115 => ?_) (fun c115 => ?_)
          · refine x_iconst dX9_layers_122 ?_
            refine x_ior dX9_layers_123 ?_
            refine x_istore_n (L' := [xR (50, 0, 0), xI (zOr ch 0), xI (r : Int), xI (c : Int), xI (cval C.1 (T.1 (72, 0, 0)) (r : Int) (c : Int))]) dX9_layers_124 (by decide) rfl ?_
            refine x_aload_n dX9_layers_125 rfl ?_
            refine x_get (v := xR (72, 0, 0)) dX9_layers_126 fl_RX9_84 (hp50 T) rfl ?_
            refine x_aload_n dX9_layers_129 rfl ?_
            refine x_get (v := xR (62, 0, 0)) dX9_layers_130 fl_RX9_49 (hp50 T) rfl ?_
            refine x_iconst dX9_layers_133 ?_
            refine x_iload_n dX9_layers_134 rfl ?_
            refine x_imul dX9_layers_135 ?_
            refine x_aldi (f := T.1 (62, 0, 0)) dX9_layers_136 (hp62 T) (show (62 : Nat) ≠ 99 by decide) (by omega) (by omega) (by decide) ?_
            have f136_22 := wfa62 wT (S := T) (3 * (r : Int))
            refine x_top (show T.1 (62, 0, 0) (3 * (r : Int)) = (C.1 (37, (r : Int), 0) 0) from q1) ?_
            refine x_aload_n dX9_layers_137 rfl ?_
            refine x_get (v := xR (72, 0, 0)) dX9_layers_138 fl_RX9_84 (hp50 T) rfl ?_
            refine x_aload_n dX9_layers_141 rfl ?_
            refine x_get (v := xR (62, 0, 0)) dX9_layers_142 fl_RX9_49 (hp50 T) rfl ?_
            refine x_iconst dX9_layers_145 ?_
            refine x_iload_n dX9_layers_146 rfl ?_
            refine x_imul dX9_layers_147 ?_
            refine x_aldi (f := T.1 (62, 0, 0)) dX9_layers_148 (hp62 T) (show (62 : Nat) ≠ 99 by decide) (by omega) (by omega) (by decide) ?_
            have f148_23 := wfa62 wT (S := T) (3 * (r : Int))
            refine x_aldi (f := T.1 (72, 0, 0)) dX9_layers_149 (hp72 T) (show (72 : Nat) ≠ 99 by decide) (by omega) (by omega) (by decide) ?_
            have f149_24 := wfa72 wT (S := T) (T.1 (62, 0, 0) (3 * (r : Int)))
            refine x_top (show T.1 (72, 0, 0) (T.1 (62, 0, 0) (3 * (r : Int))) = T.1 (72, 0, 0) (C.1 (37, (r : Int), 0) 0) from by rw [q1]) ?_
            refine x_iload dX9_layers_150 rfl ?_
            refine x_mmax dX9_layers_152 wd1257 ⟨wd453, wd70, wd454⟩ (by decide) (Nat.le_of_ble_eq_true rfl) (by first | exact hz _ _ | exact hw.1 _ _ | exact zR_of _ | exact bI_z _ | assumption | exact ⟨by omega, by omega⟩) (by first | exact hz _ _ | exact hw.1 _ _ | exact zR_of _ | exact bI_z _ | assumption | exact ⟨by omega, by omega⟩) ?_
            refine x_asti dX9_layers_155 (hp72 T) (show (72 : Nat) ≠ 99 by decide) (by omega) (by omega) (by decide) ?_
            refine x_heq (pa72 T (C.1 (37, (r : Int), 0) 0) (if (T.1 (72, 0, 0) (C.1 (37, (r : Int), 0) 0)) < (cval C.1 (T.1 (72, 0, 0)) (r : Int) (c : Int)) then (cval C.1 (T.1 (72, 0, 0)) (r : Int) (c : Int)) else (T.1 (72, 0, 0) (C.1 (37, (r : Int), 0) 0)))) ?_
            have hw155_25 : WI (putI T (72, 0, 0) (C.1 (37, (r : Int), 0) 0) (if (T.1 (72, 0, 0) (C.1 (37, (r : Int), 0) 0)) < (cval C.1 (T.1 (72, 0, 0)) (r : Int) (c : Int)) then (cval C.1 (T.1 (72, 0, 0)) (r : Int) (c : Int)) else (T.1 (72, 0, 0) (C.1 (37, (r : Int), 0) 0)))) := wpa72 wT (by split <;> omega)
            refine x_iinc (L' := [xR (50, 0, 0), xI (zOr ch 0), xI (r : Int), xI ((c : Int) + 1), xI (cval C.1 (T.1 (72, 0, 0)) (r : Int) (c : Int))]) dX9_layers_156 rfl rfl ?_
            refine x_goto (tgt := 41) dX9_layers_159 (by decide) ?_
            refine X.loc (L' := [xR (50, 0, 0), xI (zOr ch 0), xI (r : Int), xI ((c : Int) + 1), none]) ⟨rfl, ⟨rfl, ⟨rfl, ⟨rfl, trivial⟩⟩⟩⟩ ?_
            rw [(zOr01 hch).2]
            exact ih (putI T (72, 0, 0) (C.1 (37, (r : Int), 0) 0) (if (T.1 (72, 0, 0) (C.1 (37, (r : Int), 0) 0)) < (cval C.1 (T.1 (72, 0, 0)) (r : Int) (c : Int)) then (cval C.1 (T.1 (72, 0, 0)) (r : Int) (c : Int)) else (T.1 (72, 0, 0) (C.1 (37, (r : Int), 0) 0)))) ch (c + 1) (by omega) (by omega) (by omega) (eT.put _ _) (by assumption) hch (by rw [putI_row, if_neg (by omega), xUpd_self]; exact hL.ok (by omega))
          · refine x_iconst dX9_layers_118 ?_
            refine x_goto (tgt := 123) dX9_layers_119 (by decide) ?_
            refine x_ior dX9_layers_123 ?_
            refine x_istore_n (L' := [xR (50, 0, 0), xI (zOr ch 1), xI (r : Int), xI (c : Int), xI (cval C.1 (T.1 (72, 0, 0)) (r : Int) (c : Int))]) dX9_layers_124 (by decide) rfl ?_
            refine x_aload_n dX9_layers_125 rfl ?_
            refine x_get (v := xR (72, 0, 0)) dX9_layers_126 fl_RX9_84 (hp50 T) rfl ?_
            refine x_aload_n dX9_layers_129 rfl ?_
            refine x_get (v := xR (62, 0, 0)) dX9_layers_130 fl_RX9_49 (hp50 T) rfl ?_
            refine x_iconst dX9_layers_133 ?_
            refine x_iload_n dX9_layers_134 rfl ?_
            refine x_imul dX9_layers_135 ?_
            refine x_aldi (f := T.1 (62, 0, 0)) dX9_layers_136 (hp62 T) (show (62 : Nat) ≠ 99 by decide) (by omega) (by omega) (by decide) ?_
            have f136_26 := wfa62 wT (S := T) (3 * (r : Int))
            refine x_top (show T.1 (62, 0, 0) (3 * (r : Int)) = (C.1 (37, (r : Int), 0) 0) from q1) ?_
            refine x_aload_n dX9_layers_137 rfl ?_
            refine x_get (v := xR (72, 0, 0)) dX9_layers_138 fl_RX9_84 (hp50 T) rfl ?_
            refine x_aload_n dX9_layers_141 rfl ?_
            refine x_get (v := xR (62, 0, 0)) dX9_layers_142 fl_RX9_49 (hp50 T) rfl ?_
            refine x_iconst dX9_layers_145 ?_
            refine x_iload_n dX9_layers_146 rfl ?_
            refine x_imul dX9_layers_147 ?_
            refine x_aldi (f := T.1 (62, 0, 0)) dX9_layers_148 (hp62 T) (show (62 : Nat) ≠ 99 by decide) (by omega) (by omega) (by decide) ?_
            have f148_27 := wfa62 wT (S := T) (3 * (r : Int))
            refine x_aldi (f := T.1 (72, 0, 0)) dX9_layers_149 (hp72 T) (show (72 : Nat) ≠ 99 by decide) (by omega) (by omega) (by decide) ?_
            have f149_28 := wfa72 wT (S := T) (T.1 (62, 0, 0) (3 * (r : Int)))
            refine x_top (show T.1 (72, 0, 0) (T.1 (62, 0, 0) (3 * (r : Int))) = T.1 (72, 0, 0) (C.1 (37, (r : Int), 0) 0) from by rw [q1]) ?_
            refine x_iload dX9_layers_150 rfl ?_
            refine x_mmax dX9_layers_152 wd1257 ⟨wd453, wd70, wd454⟩ (by decide) (Nat.le_of_ble_eq_true rfl) (by first | exact hz _ _ | exact hw.1 _ _ | exact zR_of _ | exact bI_z _ | assumption | exact ⟨by omega, by omega⟩) (by first | exact hz _ _ | exact hw.1 _ _ | exact zR_of _ | exact bI_z _ | assumption | exact ⟨by omega, by omega⟩) ?_
            refine x_asti dX9_layers_155 (hp72 T) (show (72 : Nat) ≠ 99 by decide) (by omega) (by omega) (by decide) ?_
            refine x_heq (pa72 T (C.1 (37, (r : Int), 0) 0) (if (T.1 (72, 0, 0) (C.1 (37, (r : Int), 0) 0)) < (cval C.1 (T.1 (72, 0, 0)) (r : Int) (c : Int)) then (cval C.1 (T.1 (72, 0, 0)) (r : Int) (c : Int)) else (T.1 (72, 0, 0) (C.1 (37, (r : Int), 0) 0)))) ?_
            have hw155_29 : WI (putI T (72, 0, 0) (C.1 (37, (r : Int), 0) 0) (if (T.1 (72, 0, 0) (C.1 (37, (r : Int), 0) 0)) < (cval C.1 (T.1 (72, 0, 0)) (r : Int) (c : Int)) then (cval C.1 (T.1 (72, 0, 0)) (r : Int) (c : Int)) else (T.1 (72, 0, 0) (C.1 (37, (r : Int), 0) 0)))) := wpa72 wT (by split <;> omega)
            refine x_iinc (L' := [xR (50, 0, 0), xI (zOr ch 1), xI (r : Int), xI ((c : Int) + 1), xI (cval C.1 (T.1 (72, 0, 0)) (r : Int) (c : Int))]) dX9_layers_156 rfl rfl ?_
            refine x_goto (tgt := 41) dX9_layers_159 (by decide) ?_
            refine X.loc (L' := [xR (50, 0, 0), xI (zOr ch 1), xI (r : Int), xI ((c : Int) + 1), none]) ⟨rfl, ⟨rfl, ⟨rfl, ⟨rfl, trivial⟩⟩⟩⟩ ?_
            rw [(zOr01 hch).1]
            exact ih (putI T (72, 0, 0) (C.1 (37, (r : Int), 0) 0) (if (T.1 (72, 0, 0) (C.1 (37, (r : Int), 0) 0)) < (cval C.1 (T.1 (72, 0, 0)) (r : Int) (c : Int)) then (cval C.1 (T.1 (72, 0, 0)) (r : Int) (c : Int)) else (T.1 (72, 0, 0) (C.1 (37, (r : Int), 0) 0)))) 1 (c + 1) (by omega) (by omega) (by omega) (eT.put _ _) (by assumption) (Or.inr rfl) (by rw [putI_row, if_pos (by omega)]; exact hL.up hC hr1 hon (by omega) (by omega))
set_option maxHeartbeats 4000000 in
set_option maxRecDepth 100000 in
theorem l_layersR (C S : XS) (hC : WI C) (hw : WI S) (hn : MRn C S) (hr : MRr C S) (on : Int) (hO : OnRow S on) (nr : Nat) (hnr : C.1 (4, 0, 0) 2 = nr) (s : Int) (KKw : ∀ (T : XS) (ch : Int), Ex1 (72, 0, 0) S T → WI T → RI C on (T.1 (72, 0, 0)) ch s nr → X mX9_layers 23 [xR (50, 0, 0), xI ch, none, none, none] [] (hp T) 0 0 (pML C S on)) : ∀ (nn : Nat) (T : XS) (ch : Int) (r : Nat), (nr : Int) - r < (nn : Int) → (Ex1 (72, 0, 0) S T) → (WI T) → (RI C on (T.1 (72, 0, 0)) ch s r) → (r ≤ nr) → X mX9_layers 31 [xR (50, 0, 0), xI ch, xI (r : Int), none, none] [] (hp T) 0 0 (pML C S on) := by
  intro nn
  induction nn with
  | zero => intro T ch r hm eT wT hR hrn; exfalso; omega
  | succ nn ih =>
    intro T ch r hm eT wT hR hrn
    have c4 := wf4_2 hC
    have o50 := eT.1 (50, 0, 0) (nK (by decide) _ _ _ _)
    have o62 := eT.1 (62, 0, 0) (nK (by decide) _ _ _ _)
    have o63 := eT.1 (63, 0, 0) (nK (by decide) _ _ _ _)
    have o64 := eT.1 (64, 0, 0) (nK (by decide) _ _ _ _)
    have o65 := eT.1 (65, 0, 0) (nK (by decide) _ _ _ _)
    have o71 := eT.1 (71, 0, 0) (nK (by decide) _ _ _ _)
    have hz := wT.1
    have hn2 := hn
    obtain ⟨-, n12, -, -⟩ := hn2
    rw [← o50] at n12
    refine x_iload_n dX9_layers_31 rfl ?_
    refine x_aload_n dX9_layers_32 rfl ?_
    refine x_get (v := xI (T.1 (50, 0, 0) 12)) dX9_layers_33 fl_RX9_111 (hp50 T) rfl ?_
    have f33_1 := wf50_12 wT (S := T)
    refine x_icmp_ge (tgt := 188) dX9_layers_36 (by decide) (by first | exact hz _ _ | exact hw.1 _ _ | exact zR_of _ | exact bI_z _ | assumption | exact ⟨by omega, by omega⟩) (by first | exact hz _ _ | exact hw.1 _ _ | exact zR_of _ | exact bI_z _ | assumption | exact ⟨by omega, by omega⟩) (fun c36 => ?_) (fun c36 => ?_)
    · refine x_goto (tgt := 23) dX9_layers_188 (by decide) ?_
      refine X.loc (L' := [xR (50, 0, 0), xI ch, none, none, none]) ⟨rfl, ⟨rfl, trivial⟩⟩ ?_
      exact KKw T ch eT wT (by obtain rfl : r = nr := (by omega); exact hR)
    · refine x_iconst dX9_layers_39 ?_
      refine x_istore_n (L' := [xR (50, 0, 0), xI ch, xI (r : Int), xI 0, none]) dX9_layers_40 (by decide) rfl ?_
      have hr1 : (r : Int) < C.1 (4, 0, 0) 2 := by omega
      exact l_layersC C S hC hw hn hr on hO s r hr1 (fun T ch e1 e2 e3 => ih T ch (r + 1) (by omega) e1 e2 e3 (by omega)) 5 T ch 0 (by omega) (by have := wf34_2 hC (b := (r : Int)) (by omega) (by omega); omega) (by omega) eT wT hR.2.2.1 (hR.start hC hr1)
theorem RI.lt {C : XS} {on : Int} {g : Int → Int} {ch s : Int} {r : Nat} (h : RI C on g ch s r) : s + ch ≤ 36 := by
  obtain ⟨h1, -, -, h4, -⟩ := h
  have a := h1 0 (by omega) (by omega)
  have b := h1 1 (by omega) (by omega)
  have c := h1 2 (by omega) (by omega)
  have d := h1 3 (by omega) (by omega)
  have e := h1 4 (by omega) (by omega)
  have f := h1 5 (by omega) (by omega)
  unfold gsum at h4
  omega
theorem RI.pass {C : XS} {on : Int} {g : Int → Int} {s : Int} {r : Nat} (h : RI C on g 1 s r) : RI C on g 0 (s + 1) 0 := by
  obtain ⟨h1, h2, h3, h4, h5⟩ := h
  exact ⟨h1, h2, Or.inl rfl, by omega, fun _ j hj => by omega⟩
set_option maxHeartbeats 4000000 in
set_option maxRecDepth 100000 in
theorem l_layersW (C S : XS) (hC : WI C) (hw : WI S) (hn : MRn C S) (hr : MRr C S) (on : Int) (hO : OnRow S on) (nr : Nat) (hnr : C.1 (4, 0, 0) 2 = nr) : ∀ (nn : Nat) (T : XS) (ch s : Int), 38 - s < (nn : Int) → (Ex1 (72, 0, 0) S T) → (WI T) → (RI C on (T.1 (72, 0, 0)) ch s nr) → (s ≤ 36) → X mX9_layers 23 [xR (50, 0, 0), xI ch, none, none, none] [] (hp T) 0 0 (pML C S on) := by
  intro nn
  induction nn with
  | zero => intro T ch s hm eT wT hR hs; exfalso; omega
  | succ nn ih =>
    intro T ch s hm eT wT hR hs
    have hch := hR.2.2.1
    refine x_iload_n dX9_layers_23 rfl ?_
    refine x_if_eq (tgt := 191) dX9_layers_24 (by decide) (by first | exact hz _ _ | exact hw.1 _ _ | exact zR_of _ | exact bI_z _ | assumption | exact ⟨by omega, by omega⟩) (fun c24 => ?_) (fun c24 => ?_)
    · refine x_iconst dX9_layers_191 ?_
      exact x_zret dX9_layers_192 rfl (Or.inr rfl) ⟨T, rfl, eT, wT, Or.inl ⟨rfl, by obtain rfl : ch = 0 := (by omega); exact hR.done hC (by omega)⟩⟩
    · refine x_iconst dX9_layers_27 ?_
      refine x_istore_n (L' := [xR (50, 0, 0), xI 0, none, none, none]) dX9_layers_28 (by decide) rfl ?_
      refine x_iconst dX9_layers_29 ?_
      refine x_istore_n (L' := [xR (50, 0, 0), xI 0, xI 0, none, none]) dX9_layers_30 (by decide) rfl ?_
      obtain rfl : ch = 1 := (by have := hR.2.2.1; omega)
      exact l_layersR C S hC hw hn hr on hO nr hnr (s + 1) (fun T ch e1 e2 e3 => ih T ch (s + 1) (by omega) e1 e2 e3 (by have := e3.lt; have := e3.2.2.1; omega)) (nr + 1) T 0 0 (by omega) eT wT hR.pass (by omega)
set_option maxHeartbeats 4000000 in
set_option maxRecDepth 100000 in
theorem l_layersA (C S : XS) (hC : WI C) (hw : WI S) (hn : MRn C S) (hr : MRr C S) (on : Int) (hO : OnRow S on) : ∀ (nn : Nat) (T : XS) (i : Nat), 7 - (i : Int) < (nn : Int) → (i ≤ 6) → (Ex1 (72, 0, 0) S T) → (WI T) → (∀ j : Int, 0 ≤ j → j < i → T.1 (72, 0, 0) j = 0) → X mX9_layers 2 [xR (50, 0, 0), xI (i : Int), none, none, none] [] (hp T) 0 0 (pML C S on) := by
  intro nn
  induction nn with
  | zero => intro T i hm hi eT wT h0; exfalso; omega
  | succ nn ih =>
    intro T i hm hi eT wT h0
    refine x_iload_n dX9_layers_2 rfl ?_
    refine x_bipush (v := 6) dX9_layers_3 (by decide) ?_
    refine x_icmp_ge (tgt := 21) dX9_layers_5 (by decide) (by first | exact hz _ _ | exact hw.1 _ _ | exact zR_of _ | exact bI_z _ | assumption | exact ⟨by omega, by omega⟩) ⟨by decide, by decide⟩ (fun c5 => ?_) (fun c5 => ?_)
    · refine x_iconst dX9_layers_21 ?_
      refine x_istore_n (L' := [xR (50, 0, 0), xI 1, none, none, none]) dX9_layers_22 (by decide) rfl ?_
      exact l_layersW C S hC hw hn hr on hO (C.1 (4, 0, 0) 2).toNat (by have := wf4_2 hC; omega) 40 T 1 (-1) (by omega) eT wT ⟨fun x x0 x1 => by rw [h0 x x0 (by omega)]; omega, fun g' g0 _ x x0 x1 => by rw [h0 x x0 (by omega)]; exact g0 x x0 x1, Or.inr rfl, by unfold gsum; rw [h0 0 (by omega) (by omega), h0 1 (by omega) (by omega), h0 2 (by omega) (by omega), h0 3 (by omega) (by omega), h0 4 (by omega) (by omega), h0 5 (by omega) (by omega)]; omega, fun z => by omega⟩ (by omega)
    · refine x_aload_n dX9_layers_8 rfl ?_
      refine x_get (v := xR (72, 0, 0)) dX9_layers_9 fl_RX9_84 (hp50 T) rfl ?_
      refine x_iload_n dX9_layers_12 rfl ?_
      refine x_iconst dX9_layers_13 ?_
      refine x_asti dX9_layers_14 (hp72 T) (show (72 : Nat) ≠ 99 by decide) (by omega) (by omega) (by decide) ?_
      refine x_heq (pa72 T (i : Int) 0) ?_
      have hw14_1 : WI (putI T (72, 0, 0) (i : Int) 0) := wpa72 wT (by omega)
      refine x_iinc (L' := [xR (50, 0, 0), xI ((i : Int) + 1), none, none, none]) dX9_layers_15 rfl rfl ?_
      refine x_goto (tgt := 2) dX9_layers_18 (by decide) ?_
      exact ih (putI T (72, 0, 0) (i : Int) 0) (i + 1) (by omega) (by omega) (eT.put _ _) (by assumption) (fun j j0 j1 => by rw [putI_at]; split; rfl; exact h0 j j0 (by omega))
set_option maxHeartbeats 4000000 in
set_option maxRecDepth 100000 in
theorem m_layers (C S : XS) (hC : WI C) (hw : WI S) (hn : MRn C S) (hr : MRr C S) (on : Int) (hO : OnRow S on) : X mX9_layers 0 (xEnt mX9_layers [xR (50, 0, 0)]) [] (hp S) 0 0 (pML C S on) := by
  show X mX9_layers 0 [xR (50, 0, 0), none, none, none, none] [] (hp S) 0 0 _
  refine x_iconst dX9_layers_0 ?_
  refine x_istore_n (L' := [xR (50, 0, 0), xI 0, none, none, none]) dX9_layers_1 (by decide) rfl ?_
  exact l_layersA C S hC hw hn hr on hO 8 S 0 (by omega) (by omega) (Ex1.rf _ _) hw (fun j j0 j1 => by omega)
