/-! what holds, as a function; what a call may leave otherwise -/
noncomputable def hldF (f : XL → Int → Int) (on : Int) (T : Int → Int64) : Int → Int64 := fun x => @dite Int64 (∃ C, Stab f on T C) (Classical.propDecidable _) (fun h => Classical.choose h x) (fun _ => 0)
theorem hldF_of {f : XL → Int → Int} {on : Int} {T C : Int → Int64} (h : Stab f on T C) : Stab f on T (hldF f on T) := by
  have e : hldF f on T = Classical.choose ⟨C, h⟩ := by
    funext x
    exact dif_pos ⟨C, h⟩
  rw [e]
  exact Classical.choose_spec (⟨C, h⟩ : ∃ C, Stab f on T C)
theorem hldF_eq {S : XS} (hw : WI S) (HR : RulesOk S) {on : Int} {T C : Int → Int64} (hg : ∃ g, GOk g ∧ Lay S.1 on g) (h : Stab S.1 on T C) (x : Int) (x0 : 0 ≤ x) (x1 : x ≤ 5) : C x = hldF S.1 on T x := by
  obtain ⟨g, g1, g2⟩ := hg
  exact Stab_unique hw HR g1 g2 h (hldF_of h) x x0 x1
theorem hldF_rule {f f' : XL → Int → Int} (h : RuleEq f f') (on : Int) (T : Int → Int64) : hldF f on T = hldF f' on T := by
  have e : Stab f on T = Stab f' on T := funext fun C => propext ⟨Stab_eq h, Stab_eq h.symm⟩
  unfold hldF
  rw [e]
theorem onN_congr {f f' : XL → Int → Int} {b : Int} (h : ∀ k : Int, f (13, b, k) = f' (13, b, k)) (n : Nat) : onN f b n = onN f' b n := by
  induction n with
  | zero => rfl
  | succ n ih => simp only [onN, h, ih]
theorem toldN_congr {f f' : XL → Int → Int} {b : Int} (h : ∀ k : Int, f (13, b, k) = f' (13, b, k)) (t : Int) (n : Nat) : toldN f b t n = toldN f' b t n := by
  induction n with
  | zero => rfl
  | succ n ih => simp only [toldN, h, ih]
/-- what holds in a branch by a knowing in an hour -/
noncomputable def hl (f : XL → Int → Int) (b : Int) (n : Nat) (t : Int) : Int → Int64 := hldF f (onN f b n) (toldN f b t n)
theorem hl_congr {f f' : XL → Int → Int} (hr : RuleEq f f') {b : Int} (h : ∀ k : Int, f (13, b, k) = f' (13, b, k)) (n : Nat) (t : Int) : hl f b n t = hl f' b n t := by
  unfold hl
  rw [onN_congr h, toldN_congr h, hldF_rule hr]
def kI (k : Nat) : Bool := [6, 7, 8, 33, 40, 41, 42, 46].contains k
def kJ (k : Nat) : Bool := [16, 17, 18, 26, 27, 28, 43, 44, 45].contains k
/-- alike but for what is kept and worked on -/
def QEq (S S' : XS) : Prop := (∀ l : XL, kI l.1 = false → S'.1 l = S.1 l) ∧ (∀ l : XL, kJ l.1 = false → S'.2.1 l = S.2.1 l) ∧ S'.2.2 = S.2.2
theorem QEq.rf (S : XS) : QEq S S := ⟨fun _ _ => rfl, fun _ _ => rfl, rfl⟩
theorem QEq.tr {S S' S2 : XS} (h : QEq S S') (k : QEq S' S2) : QEq S S2 := ⟨fun l a => (k.1 l a).trans (h.1 l a), fun l a => (k.2.1 l a).trans (h.2.1 l a), k.2.2.trans h.2.2⟩
theorem QEq.rule {S S' : XS} (h : QEq S S') : RuleEq S.1 S'.1 := ⟨fun r => (h.1 (34, r, 0) rfl).symm, fun r i => (h.1 (36, r, i) rfl).symm, fun r => (h.1 (37, r, 0) rfl).symm, (h.1 (4, 0, 0) rfl).symm⟩
theorem QEq.tel {S S' : XS} (h : QEq S S') (b k : Int) : S'.1 (13, b, k) = S.1 (13, b, k) := h.1 (13, b, k) rfl
theorem QEq.hl {S S' : XS} (h : QEq S S') (b : Int) (n : Nat) (t : Int) : hl S'.1 b n t = hl S.1 b n t := (hl_congr h.rule (fun k => (h.tel b k).symm) n t).symm
theorem QEq.onN {S S' : XS} (h : QEq S S') (b : Int) (n : Nat) : onN S'.1 b n = onN S.1 b n := onN_congr (fun k => h.tel b k) n
theorem QEq.toldN {S S' : XS} (h : QEq S S') (b t : Int) (n : Nat) : toldN S'.1 b t n = toldN S.1 b t n := toldN_congr (fun k => h.tel b k) t n
theorem ki_ne {l : XL} (h : kI l.1 = false) {k : Nat} (hk : kI k = true) : l.1 ≠ k := fun z => by rw [z, hk] at h; cases h
theorem kj_ne {l : XL} (h : kJ l.1 = false) {k : Nat} (hk : kJ k = true) : l.1 ≠ k := fun z => by rw [z, hk] at h; cases h
theorem StEq.q {S S' : XS} (h : StEq S S') : QEq S S' := ⟨fun l a => h.1 l (ki_ne a rfl) (ki_ne a rfl) (ki_ne a rfl), fun l a => h.2.1 l (kj_ne a rfl) (kj_ne a rfl) (kj_ne a rfl) (kj_ne a rfl), h.2.2⟩
theorem REq.q {S S' : XS} (h : REq S S') : QEq S S' := ⟨fun l a => h.1 l (ki_ne a rfl) (ki_ne a rfl) (ki_ne a rfl) (ki_ne a rfl) (ki_ne a rfl), fun l a => h.2.1 l (kj_ne a rfl) (kj_ne a rfl) (kj_ne a rfl) (kj_ne a rfl) (kj_ne a rfl), h.2.2⟩
/-- the rules that are on by any knowing have layers -/
def LyO (S : XS) : Prop := ∀ b : Int, 0 ≤ b → b < S.1 (0, 0, 0) 6 → ∀ n : Nat, (n : Int) ≤ S.1 (9, b, 0) 3 → ∃ g, GOk g ∧ Lay S.1 (onN S.1 b n) g
theorem LyO.q {S S' : XS} (h : LyO S) (q : QEq S S') : LyO S' := by
  intro b b0 b1 n hn
  rw [q.1 (0, 0, 0) rfl] at b1
  rw [q.1 (9, b, 0) rfl] at hn
  obtain ⟨g, g1, g2⟩ := h b b0 b1 n hn
  rw [q.onN]
  exact ⟨g, g1, Lay_eq q.rule g2⟩
/-- rules of a set that were on some time -/
def OnL (S : XS) (on : Int) : Prop := ∀ r : Nat, r < 31 → bitI on r → (r : Int) < S.1 (4, 0, 0) 2 ∧ S.1 (34, r, 0) 5 = 1
def OnK (S : XS) : Prop := (∀ b t : Int, 0 ≤ b → b < 4 → 0 ≤ t → t < 24 → OnL S (S.1 (8, b, t) 2)) ∧ OnL S (S.1 (7, 0, 0) 2)
/-- tellings of rules are of rules that are there, and were on -/
def TelOk (S : XS) : Prop := ∀ b : Int, 0 ≤ b → b < 4 → ∀ k : Nat, (k : Int) < S.1 (9, b, 0) 3 → S.1 (13, b, k) 0 ≠ 0 → S.1 (13, b, k) 2 < S.1 (4, 0, 0) 2 ∧ (S.1 (13, b, k) 1 ≠ 0 → S.1 (34, S.1 (13, b, k) 2, 0) 5 = 1)
theorem OnL.q {S S' : XS} {on : Int} (h : OnL S on) (q : QEq S S') : OnL S' on := by
  intro r hr hb
  rw [q.1 (4, 0, 0) rfl, q.1 (34, r, 0) rfl]
  exact h r hr hb
theorem TelOk.q {S S' : XS} (h : TelOk S) (q : QEq S S') : TelOk S' := by
  intro b b0 b1 k hk
  rw [q.1 (9, b, 0) rfl] at hk
  rw [q.1 (13, b, k) rfl, q.1 (4, 0, 0) rfl, q.1 (34, _, 0) rfl]
  exact h b b0 b1 k hk
theorem onN_nat {S : XS} (hw : WI S) (ht : TelOk S) (b : Int) (b0 : 0 ≤ b) (b1 : b < 4) (n : Nat) (hn : (n : Int) ≤ S.1 (9, b, 0) 3) : ∃ c : Nat, onN S.1 b n = (c : Int) ∧ c < 1024 ∧ ∀ r : Nat, r < 31 → bitI c r → (r : Int) < S.1 (4, 0, 0) 2 ∧ S.1 (34, r, 0) 5 = 1 := by
  induction n with
  | zero => exact ⟨0, rfl, by decide, fun r hr z => absurd z (bitI_0 r hr)⟩
  | succ n ih =>
    have s9 := wf9_3 hw b0 b1
    have s4 := wf4_2 hw
    obtain ⟨c, e, hc, h⟩ := ih (by omega)
    simp only [onN]
    rw [e]
    split
    · exact ⟨c, rfl, hc, h⟩
    · rename_i hr0
      obtain ⟨a1, a2⟩ := ht b b0 b1 n (by omega) hr0
      have a0 := wf13_2 hw b0 b1 (show (0 : Int) ≤ (n : Int) by omega) (show (n : Int) < 60 by omega)
      obtain ⟨m, hm⟩ := Int.eq_ofNat_of_zero_le a0.1
      rw [hm] at a1 a2 ⊢
      split
      · obtain ⟨d, d1, d2, d3⟩ := bitI_andNot c m (by omega) (by omega)
        exact ⟨d, d1, by omega, fun r hr z => h r hr ((d3 r hr).mp z).1⟩
      · rename_i hso
        have q1 := zOr_in 10 (by omega) c (zShl 1 (m : Nat)) (by omega) (by omega) (by rw [zShl1_nat m (by omega)]; exact Int.natCast_nonneg _) (by
          rw [zShl1_nat m (by omega)]
          have : (2 : Nat) ^ m ≤ 2 ^ 9 := Nat.pow_le_pow_right (by decide) (by omega)
          omega)
        obtain ⟨d, hd⟩ := Int.eq_ofNat_of_zero_le (show 0 ≤ zOr (c : Int) (zShl 1 (m : Nat)) by omega)
        refine ⟨d, hd, by omega, fun r hr z => ?_⟩
        rw [← hd] at z
        rcases (bitI_or c m r (by omega) (by omega) hr).mp z with z | z
        · exact h r hr z
        · subst z
          exact ⟨a1, a2 hso⟩
theorem TelOk.on {S : XS} (hw : WI S) (ht : TelOk S) (b : Int) (b0 : 0 ≤ b) (b1 : b < 4) (n : Nat) (hn : (n : Int) ≤ S.1 (9, b, 0) 3) : OnL S (onN S.1 b n) := by
  obtain ⟨c, e, -, h⟩ := onN_nat hw ht b b0 b1 n hn
  rw [e]
  exact h
/-- the class's state between two calls, as far as questions need it -/
def CB (S : XS) : Prop := WI S ∧ RulesOk S ∧ KOk S ∧ LyO S ∧ RGood S ∧ OnK S ∧ TelOk S
theorem CB.of {S S' : XS} (h : CB S) (q : QEq S S') (w : WI S') (k : KOk S') (r : RGood S') (o : OnK S') : CB S' := ⟨w, RulesOk_eq q.rule h.2.1, k, h.2.2.2.1.q q, r, o, h.2.2.2.2.2.2.q q⟩
theorem StEq.good {S S' : XS} (h : StEq S S') (r : RGood S) : RGood S' := by
  have e7 := h.1 (7, 0, 0) (show (7 : Nat) ≠ 33 by decide) (show (7 : Nat) ≠ 6 by decide) (show (7 : Nat) ≠ 8 by decide)
  have e40 := h.1 (40, 0, 0) (show (40 : Nat) ≠ 33 by decide) (show (40 : Nat) ≠ 6 by decide) (show (40 : Nat) ≠ 8 by decide)
  have e41 := h.1 (41, 0, 0) (show (41 : Nat) ≠ 33 by decide) (show (41 : Nat) ≠ 6 by decide) (show (41 : Nat) ≠ 8 by decide)
  have e42 := h.1 (42, 0, 0) (show (42 : Nat) ≠ 33 by decide) (show (42 : Nat) ≠ 6 by decide) (show (42 : Nat) ≠ 8 by decide)
  have e17 := h.2.1 (17, 0, 0) (show (17 : Nat) ≠ 16 by decide) (show (17 : Nat) ≠ 26 by decide) (show (17 : Nat) ≠ 18 by decide) (show (17 : Nat) ≠ 28 by decide)
  have e27 := h.2.1 (27, 0, 0) (show (27 : Nat) ≠ 16 by decide) (show (27 : Nat) ≠ 26 by decide) (show (27 : Nat) ≠ 18 by decide) (show (27 : Nat) ≠ 28 by decide)
  unfold RGood
  rw [e7, e40, e41, e42, e17, e27]
  exact ⟨Stab_eq h.rule r.1, RFin_eq h.rule r.2⟩
theorem REq.kept {S S' : XS} (h : REq S S') (r : KOk S) : KOk S' := by
  intro b t b0 b1 t0 t1
  rw [h.1 (8, b, t) (show (8 : Nat) ≠ 7 by decide) (show (8 : Nat) ≠ 40 by decide) (show (8 : Nat) ≠ 41 by decide) (show (8 : Nat) ≠ 42 by decide) (show (8 : Nat) ≠ 46 by decide), h.2.1 (18, b, t) (show (18 : Nat) ≠ 17 by decide) (show (18 : Nat) ≠ 27 by decide) (show (18 : Nat) ≠ 43 by decide) (show (18 : Nat) ≠ 44 by decide) (show (18 : Nat) ≠ 45 by decide), h.2.1 (28, b, t) (show (28 : Nat) ≠ 17 by decide) (show (28 : Nat) ≠ 27 by decide) (show (28 : Nat) ≠ 43 by decide) (show (28 : Nat) ≠ 44 by decide) (show (28 : Nat) ≠ 45 by decide)]
  exact Stab_eq h.rule (r b t b0 b1 t0 t1)
/-- what a question leaves: an outcome, and a state that is alike -/
def pQ (S : XS) (v : Option XV) : XO → XH → Prop := fun o h' => o = .inl v ∧ ∃ S', h' = hp S' ∧ QEq S S' ∧ CB S'
def pX (S : XS) (E : String) : XO → XH → Prop := fun o h' => o = .inr E ∧ ∃ S', h' = hp S' ∧ QEq S S' ∧ CB S'
theorem pQi {S0 S : XS} {v : Option XV} (q : QEq S0 S) (h : CB S) : pQ S0 v (.inl v) (hp S) := ⟨rfl, S, rfl, q, h⟩
theorem pXi {S0 S : XS} {E : String} (q : QEq S0 S) (h : CB S) : pX S0 E (.inr E) (hp S) := ⟨rfl, S, rfl, q, h⟩
/-- stateOf anew: what else is kept stays -/
def pStK (S : XS) (b : Int) (n : Nat) (t : Int) (S' : XS) : Prop := StEq S S' ∧ WI S' ∧ KOk S' ∧ S'.1 (8, b, t) 2 = onN S.1 b n ∧ (∀ x : Int, 0 ≤ x → x ≤ 5 → S'.2.1 (18, b, t) x = toldN S.1 b t n x) ∧ (∀ b' t' : Int, ¬ (b' = b ∧ t' = t) → S'.1 (8, b', t') 2 = S.1 (8, b', t') 2) ∧ S'.1 (7, 0, 0) = S.1 (7, 0, 0)
theorem st_likeK {S : XS} (hw : WI S) (HK : KOk S) {b t : Int} {n : Nat} (h1 : 0 ≤ b) (h2 : b < 4) (h3 : 0 ≤ t) (h4 : t < 24) (hl : fLike ((sRead S b n t).2.1 (18, b, t)) ((sRead S b n t).2.1 (16, 0, 0)) ((sRead S b n t).1 (8, b, t) 2) ((sRead S b n t).1 (6, 0, 0) 2)) : pStK S b n t (sRead S b n t) := by
  refine ⟨⟨fun l _ a _ => ?_, fun l a _ _ _ => ?_, rfl⟩, wi_read S hw b n t, fun b' t' a1 a2 a3 a4 => ?_, ?_, fun x x0 x1 => ?_, fun _ _ _ => rfl, rfl⟩
  · show (if l = _ then _ else _) = _
    rw [if_neg (fun z => a (by rw [z]))]
    rfl
  · show (if l = _ then _ else _) = _
    rw [if_neg (fun z => a (by rw [z]))]
  · have q := Stab_eq (sRead_eq S b n t) (HK b' t' a1 a2 a3 a4)
    exact q
  · rw [hl.2, sRead_on]
  · rw [hl.1 x x0 (by omega), sRead_told S b n t x0 x1]
theorem st_newK {S : XS} (hw : WI S) (HR : RulesOk S) (HK : KOk S) {b t : Int} {n : Nat} (h1 : 0 ≤ b) (h2 : b < 4) (h3 : 0 ≤ t) (h4 : t < 24) {g : Int → Int} {C : Int → Int64} (hg : GOk g) (hC : Stab (sRead S b n t).1 ((sRead S b n t).1 (6, 0, 0) 2) ((sRead S b n t).2.1 (16, 0, 0)) C) : pStK S b n t (sCopy (rowJ (rowI (sRead S b n t) (33, 0, 0) g 6) (26, 0, 0) C 6) 8 6 b t 0 0) := by
  have hw2 : WI (rowJ (rowI (sRead S b n t) (33, 0, 0) g 6) (26, 0, 0) C 6) := WI.row (WI.row33 (wi_read S hw b n t) hg)
  have hS := der_told hw HR hC
  have e1 : ∀ l : XL, l.1 ≠ 33 → l.1 ≠ 6 → l ≠ (8, b, t) → (sCopy (rowJ (rowI (sRead S b n t) (33, 0, 0) g 6) (26, 0, 0) C 6) 8 6 b t 0 0).1 l = S.1 l := fun l a1 a2 a3 => by
    show (if l = (8, b, t) then _ else if l = (33, 0, 0) then _ else if l = (6, 0, 0) then _ else S.1 l) = S.1 l
    rw [if_neg a3, if_neg (fun z => a1 (by rw [z])), if_neg (fun z => a2 (by rw [z]))]
  have e2 : ∀ l : XL, l.1 ≠ 16 → l.1 ≠ 26 → l ≠ (18, b, t) → l ≠ (28, b, t) → (sCopy (rowJ (rowI (sRead S b n t) (33, 0, 0) g 6) (26, 0, 0) C 6) 8 6 b t 0 0).2.1 l = S.2.1 l := fun l a1 a2 a3 a4 => by
    show (if l = (28, b, t) then _ else if l = (18, b, t) then _ else if l = (26, 0, 0) then _ else if l = (16, 0, 0) then _ else S.2.1 l) = S.2.1 l
    rw [if_neg a4, if_neg a3, if_neg (fun z => a2 (by rw [z])), if_neg (fun z => a1 (by rw [z]))]
  have o2 : (sCopy (rowJ (rowI (sRead S b n t) (33, 0, 0) g 6) (26, 0, 0) C 6) 8 6 b t 0 0).1 (8, b, t) 2 = onN S.1 b n := by
    rw [← sRead_on S b n t]
    simp [sCopy, putI, xUpd, rowI, rowJ]
  have t2 : ∀ x : Int, 0 ≤ x → x ≤ 5 → (sCopy (rowJ (rowI (sRead S b n t) (33, 0, 0) g 6) (26, 0, 0) C 6) 8 6 b t 0 0).2.1 (18, b, t) x = toldN S.1 b t n x := fun x x0 x1 => by
    rw [← sRead_told S b n t x0 x1]
    have x2 : x < 6 := by omega
    simp [sCopy, putI, rowI, rowJ, x0, x2]
  have c2 : ∀ x : Int, 0 ≤ x → x ≤ 5 → (sCopy (rowJ (rowI (sRead S b n t) (33, 0, 0) g 6) (26, 0, 0) C 6) 8 6 b t 0 0).2.1 (28, b, t) x = C x := fun x x0 x1 => by
    have x2 : x < 6 := by omega
    simp [sCopy, putI, rowI, rowJ, x0, x2]
  have hse : StEq S (sCopy (rowJ (rowI (sRead S b n t) (33, 0, 0) g 6) (26, 0, 0) C 6) 8 6 b t 0 0) := ⟨fun l a1 a2 a3 => e1 l a1 a2 (fun z => a3 (by rw [z])), fun l a1 a2 a3 a4 => e2 l a1 a2 (fun z => a3 (by rw [z])) (fun z => a4 (by rw [z])), rfl⟩
  refine ⟨hse, wi_copy8 _ hw2 b t h1 h2 h3 h4, fun b' t' a1 a2 a3 a4 => ?_, o2, t2, fun b' t' e => by rw [e1 (8, b', t') (show (8 : Nat) ≠ 33 by decide) (show (8 : Nat) ≠ 6 by decide) (fun z => e (by injection z with _ z; injection z with z1 z2; exact ⟨z1, z2⟩))], e1 (7, 0, 0) (show (7 : Nat) ≠ 33 by decide) (show (7 : Nat) ≠ 6 by decide) (fun z => by injection z with z _; exact absurd z (by decide))⟩
  refine Stab_eq hse.rule ?_
  by_cases e : b' = b ∧ t' = t
  · obtain ⟨rfl, rfl⟩ := e
    rw [o2]
    exact hS.congr hw HR (fun x x0 x1 => (t2 x x0 x1).symm) (fun x x0 x1 => (c2 x x0 x1).symm)
  · have n8 : ((8, b', t') : XL) ≠ (8, b, t) := fun z => e (by injection z with _ z; injection z with z1 z2; exact ⟨z1, z2⟩)
    have n18 : ((18, b', t') : XL) ≠ (18, b, t) := fun z => e (by injection z with _ z; injection z with z1 z2; exact ⟨z1, z2⟩)
    have n28 : ((28, b', t') : XL) ≠ (28, b, t) := fun z => e (by injection z with _ z; injection z with z1 z2; exact ⟨z1, z2⟩)
    rw [e1 _ (show (8 : Nat) ≠ 33 by decide) (show (8 : Nat) ≠ 6 by decide) n8, e2 _ (show (18 : Nat) ≠ 16 by decide) (show (18 : Nat) ≠ 26 by decide) n18 (fun z => by injection z with z _; exact absurd z (by decide)), e2 _ (show (28 : Nat) ≠ 16 by decide) (show (28 : Nat) ≠ 26 by decide) (fun z => by injection z with z _; exact absurd z (by decide)) n28]
    exact HK b' t' a1 a2 a3 a4
set_option maxHeartbeats 4000000 in
set_option maxRecDepth 100000 in
theorem c_stateOfK (S : XS) (hw : WI S) (HR : RulesOk S) (b : Int) (h1 : 0 ≤ b) (h2 : b < 4) (n : Nat) (gn : n ≤ 60) (HT : ∃ g, GOk g ∧ Lay S.1 (onN S.1 b n) g) (t : Int) (h3 : 0 ≤ t) (h4 : t < 24) (HK : KOk S) : X mX8_stateOf 0 (xEnt mX8_stateOf [xR (0, 0, 0), xR (9, b, 0), xI (n : Int), xI t]) [] (hp S) 0 0 (fun o h' => o = .inl (some (xR (8, b, t))) ∧ ∃ S', h' = hp S' ∧ pStK S b n t S') := by
  have HT2 : ∃ g, GOk g ∧ Lay (sRead S b n t).1 ((sRead S b n t).1 (6, 0, 0) 2) g := by obtain ⟨g, z1, z2⟩ := HT; exact ⟨g, z1, by rw [sRead_on]; exact Lay_eq (sRead_eq S b n t) z2⟩
  show X mX8_stateOf 0 [xR (0, 0, 0), xR (9, b, 0), xI (n : Int), xI t, none] [] (hp S) 0 0 _
  refine x_aload_n dX8_stateOf_0 rfl ?_
  refine x_get (v := xR (12, b, 0)) dX8_stateOf_1 fl_RX8_363 (hp9 S (by omega) (by omega)) rfl ?_
  refine x_iload_n dX8_stateOf_4 rfl ?_
  refine x_alda (l2 := (8, b, t)) dX8_stateOf_5 (hp12 S (by omega) (by omega)) (show (12 : Nat) ≠ 99 by decide) (by decide) (by decide) (by omega) (by omega) (by decide) rfl ?_
  refine x_astore (L' := [xR (0, 0, 0), xR (9, b, 0), xI (n : Int), xI t, xR (8, b, t)]) dX8_stateOf_6 (by decide) rfl ?_
  refine x_aload_n dX8_stateOf_8 rfl ?_
  refine x_iload_n dX8_stateOf_9 rfl ?_
  refine x_iload_n dX8_stateOf_10 rfl ?_
  refine x_aload_n dX8_stateOf_11 rfl ?_
  refine x_get (v := xR (6, 0, 0)) dX8_stateOf_12 fl_RX8_42 (hp0 S) rfl ?_
  refine x_callV_v (a := 0) (b := 0) (as := [xI (n : Int), xI t, xR (6, 0, 0)]) (rest := []) ok_X0_read dX8_stateOf_15 wd354 ⟨wd355, wd356⟩ (hp9 S (by omega) (by omega)) rfl rfl (c_read S hw b (by omega) (by omega) n (by omega) t (by omega) (by omega)) rfl (Nat.le_of_ble_eq_true rfl) (Nat.le_of_ble_eq_true rfl) (by decide) (by omega) (by omega) ?_
  refine x_aload dX8_stateOf_18 rfl ?_
  refine x_aload_n dX8_stateOf_20 rfl ?_
  refine x_get (v := xR (6, 0, 0)) dX8_stateOf_21 fl_RX8_42 (hp0 (sRead S b n t)) rfl ?_
  refine x_callV_r (a := 0) (b := 0) (as := [xR (6, 0, 0)]) (rest := []) ok_X6_isLike dX8_stateOf_24 wd366 ⟨wd367, wd368⟩ (hp8 (sRead S b n t) (by omega) (by omega) (by omega) (by omega)) rfl rfl (c_isLike8 (sRead S b n t) (wi_read S hw b n t) b t (by omega) (by omega) (by omega) (by omega)) rfl (Nat.le_of_ble_eq_true rfl) (Nat.le_of_ble_eq_true rfl) (by decide) (by omega) (by omega) ?_
  by_cases b24 : fLike ((sRead S b n t).2.1 (18, b, t)) ((sRead S b n t).2.1 (16, 0, 0)) ((sRead S b n t).1 (8, b, t) 2) ((sRead S b n t).1 (6, 0, 0) 2)
  · refine x_top (bI_t b24) ?_
    refine x_if_ne (tgt := 50) dX8_stateOf_27 (by decide) ⟨by decide, by decide⟩ (fun _ => ?_) (fun z => absurd z (by decide))
    refine x_aload dX8_stateOf_50 rfl ?_
    exact x_aret dX8_stateOf_52 rfl ⟨rfl, _, rfl, st_likeK hw HK h1 h2 h3 h4 (by assumption)⟩
  · refine x_top (bI_f b24) ?_
    refine x_if_ne (tgt := 50) dX8_stateOf_27 (by decide) ⟨by decide, by decide⟩ (fun z => absurd z (by decide)) (fun _ => ?_)
    refine x_aload_n dX8_stateOf_30 rfl ?_
    refine x_get (v := xR (4, 0, 0)) dX8_stateOf_31 fl_RX8_28 (hp0 (sRead S b n t)) rfl ?_
    refine x_aload_n dX8_stateOf_34 rfl ?_
    refine x_get (v := xR (6, 0, 0)) dX8_stateOf_35 fl_RX8_42 (hp0 (sRead S b n t)) rfl ?_
    refine x_callV (a := 0) (b := 0) (as := [xR (6, 0, 0)]) (rest := []) ok_X5_derive dX8_stateOf_38 wd370 ⟨wd371, wd372⟩ (hp4 (sRead S b n t)) rfl rfl (c_derive (sRead S b n t) (wi_read S hw b n t) (RulesOk_eq (sRead_eq S b n t) HR) HT2) rfl (Nat.le_of_ble_eq_true rfl) (Nat.le_of_ble_eq_true rfl) (by decide) (by omega) (by omega) (fun _ q => ?_) (fun _ _ q => by cases q.1) (fun _ _ q => by cases q.1)
    obtain ⟨-, gd, Cd, dg, rfl, dC⟩ := q
    refine x_aload dX8_stateOf_41 rfl ?_
    refine x_aload_n dX8_stateOf_43 rfl ?_
    refine x_get (v := xR (6, 0, 0)) dX8_stateOf_44 fl_RX8_42 (hp0 (rowJ (rowI (sRead S b n t) (33, 0, 0) gd 6) (26, 0, 0) Cd 6)) rfl ?_
    refine x_callV_v (a := 0) (b := 0) (as := [xR (6, 0, 0)]) (rest := []) ok_X6_copy dX8_stateOf_47 wd412 ⟨wd413, wd414⟩ (hp8 (rowJ (rowI (sRead S b n t) (33, 0, 0) gd 6) (26, 0, 0) Cd 6) (by omega) (by omega) (by omega) (by omega)) rfl rfl (c_copy8 (rowJ (rowI (sRead S b n t) (33, 0, 0) gd 6) (26, 0, 0) Cd 6) (WI.row (WI.row33 (wi_read S hw b n t) dg)) b t (by omega) (by omega) (by omega) (by omega)) rfl (Nat.le_of_ble_eq_true rfl) (Nat.le_of_ble_eq_true rfl) (by decide) (by omega) (by omega) ?_
    refine x_aload dX8_stateOf_50 rfl ?_
    exact x_aret dX8_stateOf_52 rfl ⟨rfl, _, rfl, st_newK hw HR HK h1 h2 h3 h4 dg dC⟩
/-- stateOf, with what holds as a function -/
def pSt (S : XS) (b : Int) (n : Nat) (t : Int) : XO → XH → Prop := fun o h' => o = .inl (some (xR (8, b, t))) ∧ ∃ S', h' = hp S' ∧ QEq S S' ∧ CB S' ∧ S'.1 (8, b, t) 2 = onN S.1 b n ∧ (∀ x : Int, 0 ≤ x → x ≤ 5 → S'.2.1 (18, b, t) x = toldN S.1 b t n x) ∧ ∀ x : Int, 0 ≤ x → x ≤ 5 → S'.2.1 (28, b, t) x = hl S.1 b n t x
theorem st_held {S S' : XS} (hb : CB S) {b : Int} {n : Nat} {t : Int} (h1 : 0 ≤ b) (h2 : b < 4) (HT : ∃ g, GOk g ∧ Lay S.1 (onN S.1 b n) g) (h3 : 0 ≤ t) (h4 : t < 24) (q : RuleEq S.1 S'.1) (k : KOk S') (e1 : S'.1 (8, b, t) 2 = onN S.1 b n) (e2 : ∀ x : Int, 0 ≤ x → x ≤ 5 → S'.2.1 (18, b, t) x = toldN S.1 b t n x) (x : Int) (x0 : 0 ≤ x) (x1 : x ≤ 5) : S'.2.1 (28, b, t) x = hl S.1 b n t x := by
  have a := Stab_eq q.symm (k b t h1 h2 h3 h4)
  rw [e1] at a
  exact hldF_eq hb.1 hb.2.1 HT (a.congr hb.1 hb.2.1 e2 (fun _ _ _ => rfl)) x x0 x1
theorem c_stateQ (S : XS) (hb : CB S) (b : Int) (h1 : 0 ≤ b) (h2 : b < S.1 (0, 0, 0) 6) (n : Nat) (gn : (n : Int) ≤ S.1 (9, b, 0) 3) (t : Int) (h3 : 0 ≤ t) (h4 : t < 24) : X mX8_stateOf 0 (xEnt mX8_stateOf [xR (0, 0, 0), xR (9, b, 0), xI (n : Int), xI t]) [] (hp S) 0 0 (pSt S b n t) := by
  obtain ⟨hw, HR, HK, HL, HG, HO, HT9⟩ := id hb
  have f6 := wf0_6 hw
  have f3 := wf9_3 hw h1 (show b < 4 by omega)
  have HT := HL b h1 h2 n gn
  refine X.weak (c_stateOfK S hw HR b h1 (by omega) n (by omega) HT t h3 h4 HK) (Nat.le_refl _) (Nat.le_refl _) fun o h' q => ?_
  obtain ⟨rfl, S', rfl, e, w, k, o1, t1, o2, o3⟩ := q
  have ho : OnK S' := by
    refine ⟨fun b' t' b0 b1 t0 t1 => ?_, ?_⟩
    · by_cases z : b' = b ∧ t' = t
      · rw [z.1, z.2, o1]
        exact (HT9.on hw b h1 (by omega) n gn).q e.q
      · rw [o2 b' t' z]
        exact (HO.1 b' t' b0 b1 t0 t1).q e.q
    · rw [o3]
      exact HO.2.q e.q
  exact ⟨rfl, S', rfl, e.q, hb.of e.q w k (e.good HG) ho, o1, t1, st_held hb h1 (by omega) HT h3 h4 e.rule k o1 t1⟩
