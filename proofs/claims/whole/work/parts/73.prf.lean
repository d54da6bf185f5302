/-! the reference's proofs: sets closed under premises, counted by ranks -/
def Pm (C : XS) (b : Int) (n : Nat) (t : Int) (rk : Int → Int) (a y : Int) : Prop := ∃ r w, 0 ≤ r ∧ BeV C b n t rk a r w ∧ ∃ c : Nat, (c : Int) < C.1 (34, r, 0) 2 ∧ C.1 (36, r, c) 1 = 0 ∧ y = cfact C.1 r w c
def PrB (C : XS) (b : Int) (n : Nat) (t : Int) (rk : Int → Int) (q x : Int) : Prop := ∀ P : Int → Prop, P q → (∀ a y, P a → Pm C b n t rk a y → P y) → P x
theorem BeV.uniq {C : XS} {b : Int} {n : Nat} {t : Int} {rk : Int → Int} {q r w r' w' : Int} (h1 : BeV C b n t rk q r w) (h2 : BeV C b n t rk q r' w') (r0 : 0 ≤ r) (r1 : 0 ≤ r') : r = r' ∧ w = w' := by
  rcases h1 with ⟨-, a⟩ | ⟨-, -, a, a2⟩
  · omega
  · rcases h2 with ⟨-, c⟩ | ⟨-, -, c, c2⟩
    · omega
    · have x : ¬ (r' < r ∨ (r' = r ∧ w' < w)) := fun z => a2 r' w' z c
      have y : ¬ (r < r' ∨ (r = r' ∧ w < w')) := fun z => c2 r w z a
      omega
theorem Pm.lt {C : XS} (hC : CB C) {b : Int} (b0 : 0 ≤ b) (b1 : b < C.1 (0, 0, 0) 6) {n : Nat} (hn : (n : Int) ≤ C.1 (9, b, 0) 3) {t : Int} {rk : Int → Int} (h : FinR C b n t rk) (hrk : ∀ k, 0 ≤ rk k ∧ rk k ≤ 9999) {a y : Int} (hp : Pm C b n t rk a y) : 0 ≤ y ∧ y < 384 ∧ rk y < rk a := by
  obtain ⟨r, w, r0, v, c, c1, c2, rfl⟩ := hp
  rcases v with ⟨-, v⟩ | ⟨v0, -, v, -⟩
  · omega
  · obtain ⟨-, v2, v3, v4, v5, v6, v7, v8⟩ := v
    obtain ⟨r', rfl⟩ := Int.eq_ofNat_of_zero_le r0
    have rel := dl_rel hC.1 v2 c1
    obtain ⟨p, p1, p2, p3⟩ := fact_at ((hC.2.1 r' v2).1.2.2 c c1) v5 (show w ≤ 511 by omega) rel.1 rel.2
    have ec : cfact C.1 r' w c = 64 * C.1 (36, r', c) 0 + p := by unfold cfact; rw [p2]
    have e := h.ok hC b0 b1 hn rel.1 rel.2 p1
    have cw := v7.2 c c1
    unfold condOk at cw
    rw [p2, if_pos c2] at cw
    have a9 := (hrk a).2
    have k := (e.1 ((rk a).toNat - 1) (by omega)).mpr (cw.mpr c2)
    rw [ec]
    omega
/-- a fact is dealt with: its rank is above hi, or it is hi and the fact is below f -/
def Dn (rk : Int → Int) (hi f x : Int) : Prop := hi < rk x ∨ (rk x = hi ∧ x < f)
def PI (C : XS) (b : Int) (n : Nat) (t : Int) (rk : Int → Int) (q : Int) (I : Int → Prop) (hi f z : Int) : Prop := (∀ x, 0 ≤ x → x < 384 → I x → PrB C b n t rk q x) ∧ I q ∧ (∀ x y, 0 ≤ x → x < 384 → I x → Dn rk hi f x → Pm C b n t rk x y → I y) ∧ z = (cntN (fun x : Nat => I x ∧ Dn rk hi f x) 384 : Nat)
theorem PI.skip {C : XS} {b : Int} {n : Nat} {t : Int} {rk : Int → Int} {q : Int} {I : Int → Prop} {hi f z : Int} (h : PI C b n t rk q I hi f z) (hs : ¬ (I f ∧ rk f = hi)) : PI C b n t rk q I hi (f + 1) z := by
  obtain ⟨h1, h2, h3, h4⟩ := h
  have key : ∀ x, I x ∧ Dn rk hi (f + 1) x ↔ I x ∧ Dn rk hi f x := fun x => by
    unfold Dn
    constructor
    · rintro ⟨a, c | ⟨c, d⟩⟩
      · exact ⟨a, Or.inl c⟩
      · rcases Int.lt_or_eq_of_le (show x ≤ f by omega) with e | e
        · exact ⟨a, Or.inr ⟨c, e⟩⟩
        · subst e; exact absurd ⟨a, c⟩ hs
    · rintro ⟨a, c | ⟨c, d⟩⟩
      · exact ⟨a, Or.inl c⟩
      · exact ⟨a, Or.inr ⟨c, by omega⟩⟩
  refine ⟨h1, h2, fun x y x0 x1 hx hd hp => h3 x y x0 x1 hx ((key x).mp ⟨hx, hd⟩).2 hp, ?_⟩
  rw [h4]
  congr 2
  funext x
  exact propext (key x).symm
theorem PI.step {C : XS} (hC : CB C) {b : Int} (b0 : 0 ≤ b) (b1 : b < C.1 (0, 0, 0) 6) {n : Nat} (hn : (n : Int) ≤ C.1 (9, b, 0) 3) {t : Int} {rk : Int → Int} (hF : FinR C b n t rk) (hrk : ∀ k, 0 ≤ rk k ∧ rk k ≤ 9999) {q : Int} {I I' : Int → Prop} {hi z : Int} {f : Nat} (f1 : f < 384) (h : PI C b n t rk q I hi f z) (hf : I f) (hr : rk f = hi) {r w : Int} (hv : BeV C b n t rk f r w) (hI : ∀ x, I' x ↔ I x ∨ (0 ≤ r ∧ ∃ c : Nat, (c : Int) < C.1 (34, r, 0) 2 ∧ C.1 (36, r, c) 1 = 0 ∧ x = cfact C.1 r w c)) : PI C b n t rk q I' hi (f + 1) (z + 1) := by
  obtain ⟨h1, h2, h3, h4⟩ := h
  have pm : ∀ x, (0 ≤ r ∧ ∃ c : Nat, (c : Int) < C.1 (34, r, 0) 2 ∧ C.1 (36, r, c) 1 = 0 ∧ x = cfact C.1 r w c) ↔ Pm C b n t rk f x := fun x => by
    constructor
    · rintro ⟨r0, c, c1, c2, c3⟩
      exact ⟨r, w, r0, hv, c, c1, c2, c3⟩
    · rintro ⟨r', w', r0, v, c, c1, c2, c3⟩
      have rr : 0 ≤ r := by
        rcases hv with ⟨a, -⟩ | ⟨-, a, -⟩
        · rcases v with ⟨-, v⟩ | ⟨v, -⟩ <;> omega
        · exact a
      obtain ⟨rfl, rfl⟩ := hv.uniq v rr r0
      exact ⟨rr, c, c1, c2, c3⟩
  have nw : ∀ x, Pm C b n t rk f x → rk x < hi := fun x p => by have := (p.lt hC b0 b1 hn hF hrk).2.2; omega
  refine ⟨fun x x0 x1 hx => ?_, (hI q).mpr (Or.inl h2), fun x y x0 x1 hx hd hp => ?_, ?_⟩
  · rcases (hI x).mp hx with a | a
    · exact h1 x x0 x1 a
    · exact fun P p s => s f x (h1 f (by omega) (by omega) hf P p s) ((pm x).mp a)
  · rcases (hI x).mp hx with a | a
    · by_cases e : x = f
      · subst e
        exact (hI y).mpr (Or.inr ((pm y).mpr hp))
      · exact (hI y).mpr (Or.inl (h3 x y x0 x1 a (by unfold Dn at hd ⊢; omega) hp))
    · have := nw x ((pm x).mp a)
      unfold Dn at hd
      omega
  · rw [h4, cnt_one (P := fun x : Nat => I x ∧ Dn rk hi f x) (P' := fun x : Nat => I' x ∧ Dn rk hi (f + 1) x) (m := f) (fun z => by have := z.2; unfold Dn at this; omega) 384 (fun k hk => ?_), if_pos f1]
    · rfl
    · constructor
      · rintro ⟨a, d⟩
        by_cases e : k = f
        · exact Or.inr e
        · left
          rcases (hI k).mp a with a | a
          · exact ⟨a, by unfold Dn at d ⊢; omega⟩
          · have := nw k ((pm k).mp a)
            unfold Dn at d
            omega
      · rintro (⟨a, d⟩ | e)
        · exact ⟨(hI k).mpr (Or.inl a), by unfold Dn at d ⊢; omega⟩
        · subst e
          exact ⟨(hI k).mpr (Or.inl hf), by unfold Dn; omega⟩
theorem PI.down {C : XS} {b : Int} {n : Nat} {t : Int} {rk : Int → Int} {q : Int} {I : Int → Prop} {hi z : Int} (h : PI C b n t rk q I hi 384 z) : PI C b n t rk q I (hi - 1) 0 z := by
  obtain ⟨h1, h2, h3, h4⟩ := h
  refine ⟨h1, h2, fun x y x0 x1 hx hd hp => h3 x y x0 x1 hx (by unfold Dn at hd ⊢; omega) hp, ?_⟩
  rw [h4]
  have a := cntN_mono (P := fun x : Nat => I x ∧ Dn rk hi 384 x) (Q := fun x : Nat => I x ∧ Dn rk (hi - 1) 0 x) 384 (fun k hk z => ⟨z.1, by have := z.2; unfold Dn at this ⊢; omega⟩)
  have c := cntN_mono (P := fun x : Nat => I x ∧ Dn rk (hi - 1) 0 x) (Q := fun x : Nat => I x ∧ Dn rk hi 384 x) 384 (fun k hk z => ⟨z.1, by have := z.2; unfold Dn at this ⊢; omega⟩)
  omega
theorem PI.first {C : XS} {b : Int} {n : Nat} {t : Int} {rk : Int → Int} {q : Int} {I : Int → Prop} (hI : ∀ x, I x ↔ x = q) : PI C b n t rk q I (rk q) 0 0 := by
  refine ⟨fun x _ _ hx => by rw [(hI x).mp hx]; exact fun P p _ => p, (hI q).mpr rfl, fun x y x0 x1 hx hd _ => by rw [(hI x).mp hx] at hd x0; unfold Dn at hd; omega, ?_⟩
  rw [cntN_none 384 (fun k _ z => by
    have e := (hI k).mp z.1
    have d := z.2
    rw [e] at d
    unfold Dn at d
    omega)]
  rfl
theorem PI.last {C : XS} (hC : CB C) {b : Int} (b0 : 0 ≤ b) (b1 : b < C.1 (0, 0, 0) 6) {n : Nat} (hn : (n : Int) ≤ C.1 (9, b, 0) 3) {t : Int} {rk : Int → Int} (hF : FinR C b n t rk) (hrk : ∀ k, 0 ≤ rk k ∧ rk k ≤ 9999) {q : Int} (q0 : 0 ≤ q) (q1 : q < 384) {I : Int → Prop} {z hi : Int} (hh : hi < 0) (h : PI C b n t rk q I hi 0 z) : z = (cntN (fun x : Nat => PrB C b n t rk q x) 384 : Nat) := by
  obtain ⟨h1, h2, h3, h4⟩ := h
  have dn : ∀ x, Dn rk hi 0 x := fun x => Or.inl (by have := (hrk x).1; omega)
  rw [h4]
  have a := cntN_mono (P := fun x : Nat => I x ∧ Dn rk hi 0 x) (Q := fun x : Nat => PrB C b n t rk q x) 384 (fun k hk z => h1 k (by omega) (by omega) z.1)
  have c := cntN_mono (P := fun x : Nat => PrB C b n t rk q x) (Q := fun x : Nat => I x ∧ Dn rk hi 0 x) 384 (fun k hk z => ⟨(z (fun x => 0 ≤ x ∧ x < 384 ∧ I x) ⟨q0, q1, h2⟩ (fun a y ha hp => by
    have l := hp.lt hC b0 b1 hn hF hrk
    exact ⟨l.1, l.2.1, h3 a y ha.1 ha.2.1 ha.2.2 (dn a) hp⟩)).2.2, dn k⟩)
  omega
/-- the next scratch row is made -/
def sScr (S : XS) : XS := (fun l => if l = (82, S.2.2.2.2.1, 0) then (fun _ => 0) else S.1 l, S.2.1, S.2.2.1, S.2.2.2.1, S.2.2.2.2.1 + 1, S.2.2.2.2.2)
theorem xsh_scr (f : Int → Int) (s s' : Int) (z : Nat) (g : Int → Int) (d : UInt64) (l : XL) (j : Int → Int64) : xsh (g, s, z) d l f j = xsh (g, s', z) d l f j := by
  unfold xsh
  split <;> rfl
theorem hp_scr {S : XS} (h0 : 0 ≤ S.2.2.2.2.1) : hp (sScr S) = xUp (hp S) (82, S.2.2.2.2.1, 0) (.inr (2, 384, .inl (fun _ => 0))) := by
  funext l
  by_cases e : l = (82, S.2.2.2.2.1, 0)
  · subst e
    rw [hp_of (by show 0 ≤ S.2.2.2.2.1 ∧ S.2.2.2.2.1 < S.2.2.2.2.1 + 1 ∧ (0 : Int) = 0; omega)]
    simp [xUp, sScr, xsh]
  · show _ = if l = _ then _ else _
    rw [if_neg e]
    have hd : xdm (sScr S).2.2.2 l ↔ xdm S.2.2.2 l := by
      obtain ⟨k, b, t⟩ := l
      by_cases k82 : k = 82
      · subst k82
        show (0 ≤ b ∧ b < S.2.2.2.2.1 + 1 ∧ t = 0) ↔ (0 ≤ b ∧ b < S.2.2.2.2.1 ∧ t = 0)
        constructor
        · rintro ⟨a, c, d⟩
          refine ⟨a, ?_, d⟩
          rcases Int.lt_or_eq_of_le (show b ≤ S.2.2.2.2.1 by omega) with y | y
          · exact y
          · subst y; subst d; exact absurd rfl e
        · rintro ⟨a, c, d⟩; exact ⟨a, by omega, d⟩
      · unfold xdm sScr
        split <;> first | rfl | (rename_i h; exact absurd (congrArg (fun x : XL => x.1) h) k82)
    have he : (sScr S).1 l = S.1 l := by show (if l = _ then _ else _) = _; rw [if_neg e]
    by_cases x : xdm S.2.2.2 l
    · rw [hp_of x, hp_of (hd.mpr x), he]
      exact xsh_scr _ _ _ _ _ _ _ _
    · rw [hp_no x, hp_no (fun z => x (hd.mp z))]
