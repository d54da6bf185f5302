/-! the state of an hour, as a knowing knows it -/
/-- all that is kept is just what is reached -/
def KOk (S : XS) : Prop := ∀ b t : Int, 0 ≤ b → b < 4 → 0 ≤ t → t < 24 → Stab S.1 (S.1 (8, b, t) 2) (S.2.1 (18, b, t)) (S.2.1 (28, b, t))
/-- the second is the first but for what is kept and worked on -/
def StEq (S S' : XS) : Prop := (∀ l : XL, l.1 ≠ 33 → l.1 ≠ 6 → l.1 ≠ 8 → S'.1 l = S.1 l) ∧ (∀ l : XL, l.1 ≠ 16 → l.1 ≠ 26 → l.1 ≠ 18 → l.1 ≠ 28 → S'.2.1 l = S.2.1 l) ∧ S'.2.2 = S.2.2
theorem StEq.rf (S : XS) : StEq S S := ⟨fun _ _ _ _ => rfl, fun _ _ _ _ _ => rfl, rfl⟩
theorem StEq.tr {S S' S2 : XS} (h : StEq S S') (k : StEq S' S2) : StEq S S2 := ⟨fun l a b c => (k.1 l a b c).trans (h.1 l a b c), fun l a b c d => (k.2.1 l a b c d).trans (h.2.1 l a b c d), k.2.2.trans h.2.2⟩
theorem StEq.rule {S S' : XS} (h : StEq S S') : RuleEq S.1 S'.1 := ⟨fun r => (h.1 (34, r, 0) (show (34 : Nat) ≠ 33 by decide) (show (34 : Nat) ≠ 6 by decide) (show (34 : Nat) ≠ 8 by decide)).symm, fun r i => (h.1 (36, r, i) (show (36 : Nat) ≠ 33 by decide) (show (36 : Nat) ≠ 6 by decide) (show (36 : Nat) ≠ 8 by decide)).symm, fun r => (h.1 (37, r, 0) (show (37 : Nat) ≠ 33 by decide) (show (37 : Nat) ≠ 6 by decide) (show (37 : Nat) ≠ 8 by decide)).symm, (h.1 (4, 0, 0) (show (4 : Nat) ≠ 33 by decide) (show (4 : Nat) ≠ 6 by decide) (show (4 : Nat) ≠ 8 by decide)).symm⟩
theorem levF_T {S : XS} (hw : WI S) (HR : RulesOk S) {on : Int} {C C' T T' : Int → Int64} (hT : ∀ x : Int, 0 ≤ x → x ≤ 5 → T x = T' x) (hC : ∀ x : Int, 0 ≤ x → x ≤ 5 → C x = C' x) (n : Nat) : ∀ x : Int, 0 ≤ x → x ≤ 5 → ∀ p : Nat, p < 64 → bitJ (levF S.1 on C T n x) p → bitJ (levF S.1 on C' T' n x) p := by
  induction n with
  | zero => intro x x0 x1 p hp q; rw [levF] at q ⊢; rw [← hT x x0 x1]; exact q
  | succ n ih =>
    intro x x0 x1 p hp q
    rw [levF, stepF_bit _ _ _ _ _ _ hp] at q ⊢
    rcases q with q | ⟨j, hj, ho, e, q⟩
    · exact Or.inl (ih x x0 x1 p hp q)
    · refine Or.inr ⟨j, hj, ho, e, heads_mono (HR j hj).1 (fun i hi _ p hp z => ?_) (fun i hi _ p hp z => ?_) hp q⟩
      · have r := dl_rel hw hj hi
        exact ih _ r.1 r.2 p hp z
      · have r := dl_rel hw hj hi
        rw [hC _ r.1 r.2]; exact z
theorem Stab.congr {S : XS} (hw : WI S) (HR : RulesOk S) {on : Int} {C C' T T' : Int → Int64} (hT : ∀ x : Int, 0 ≤ x → x ≤ 5 → T x = T' x) (hC : ∀ x : Int, 0 ≤ x → x ≤ 5 → C x = C' x) (h : Stab S.1 on T C) : Stab S.1 on T' C' := by
  intro x x0 x1 p hp
  rw [← hC x x0 x1, h x x0 x1 p hp]
  constructor
  · rintro ⟨n, hn⟩; exact ⟨n, levF_T hw HR hT hC n x x0 x1 p hp hn⟩
  · rintro ⟨n, hn⟩; exact ⟨n, levF_T hw HR (fun x x0 x1 => (hT x x0 x1).symm) (fun x x0 x1 => (hC x x0 x1).symm) n x x0 x1 p hp hn⟩
/-- what stateOf leaves -/
def pState (S : XS) (b : Int) (n : Nat) (t : Int) : XO → XH → Prop := fun o h' => o = .inl (some (xR (8, b, t))) ∧ ∃ S', h' = hp S' ∧ StEq S S' ∧ WI S' ∧ KOk S' ∧ S'.1 (8, b, t) 2 = onN S.1 b n ∧ ∀ x : Int, 0 ≤ x → x ≤ 5 → S'.2.1 (18, b, t) x = toldN S.1 b t n x
/-- what stateAnew leaves -/
def pAnew (S : XS) (b : Int) (n : Nat) (t : Int) : XO → XH → Prop := fun o h' => o = .inl (some (xR (6, 0, 0))) ∧ ∃ g C, GOk g ∧ h' = hp (rowJ (rowI (sRead S b n t) (33, 0, 0) g 6) (26, 0, 0) C 6) ∧ Stab S.1 (onN S.1 b n) (toldN S.1 b t n) C
theorem sRead_eq (S : XS) (b : Int) (n : Nat) (t : Int) : RuleEq S.1 (sRead S b n t).1 := ⟨fun _ => rfl, fun _ _ => rfl, fun _ => rfl, rfl⟩
theorem sRead_on (S : XS) (b : Int) (n : Nat) (t : Int) : (sRead S b n t).1 (6, 0, 0) 2 = onN S.1 b n := by simp [sRead, putI, xUpd]
theorem sRead_told (S : XS) (b : Int) (n : Nat) (t : Int) {x : Int} (x0 : 0 ≤ x) (x1 : x ≤ 5) : (sRead S b n t).2.1 (16, 0, 0) x = toldN S.1 b t n x := rowJ_at S (16, 0, 0) _ (n := 6) x0 (by omega)
theorem der_told {S : XS} (hw : WI S) (HR : RulesOk S) {b t : Int} {n : Nat} {C : Int → Int64} (h : Stab (sRead S b n t).1 ((sRead S b n t).1 (6, 0, 0) 2) ((sRead S b n t).2.1 (16, 0, 0)) C) : Stab S.1 (onN S.1 b n) (toldN S.1 b t n) C := by
  rw [sRead_on] at h
  exact (Stab_eq (sRead_eq S b n t).symm h).congr hw HR (fun x x0 x1 => sRead_told S b n t x0 x1) (fun _ _ _ => rfl)
theorem st_like {S : XS} (hw : WI S) (HK : KOk S) {b t : Int} {n : Nat} (h1 : 0 ≤ b) (h2 : b < 4) (h3 : 0 ≤ t) (h4 : t < 24) (hl : fLike ((sRead S b n t).2.1 (18, b, t)) ((sRead S b n t).2.1 (16, 0, 0)) ((sRead S b n t).1 (8, b, t) 2) ((sRead S b n t).1 (6, 0, 0) 2)) : pState S b n t (.inl (some (xR (8, b, t)))) (hp (sRead S b n t)) := by
  refine ⟨rfl, sRead S b n t, rfl, ⟨fun l _ a _ => ?_, fun l a _ _ _ => ?_, rfl⟩, wi_read S hw b n t, fun b' t' a1 a2 a3 a4 => ?_, ?_, fun x x0 x1 => ?_⟩
  · show (if l = _ then _ else _) = _
    rw [if_neg (fun z => a (by rw [z]))]
    rfl
  · show (if l = _ then _ else _) = _
    rw [if_neg (fun z => a (by rw [z]))]
  · have q := Stab_eq (sRead_eq S b n t) (HK b' t' a1 a2 a3 a4)
    exact q
  · rw [hl.2, sRead_on]
  · rw [hl.1 x x0 (by omega), sRead_told S b n t x0 x1]
theorem st_new {S : XS} (hw : WI S) (HR : RulesOk S) (HK : KOk S) {b t : Int} {n : Nat} (h1 : 0 ≤ b) (h2 : b < 4) (h3 : 0 ≤ t) (h4 : t < 24) {g : Int → Int} {C : Int → Int64} (hg : GOk g) (hC : Stab (sRead S b n t).1 ((sRead S b n t).1 (6, 0, 0) 2) ((sRead S b n t).2.1 (16, 0, 0)) C) : pState S b n t (.inl (some (xR (8, b, t)))) (hp (sCopy (rowJ (rowI (sRead S b n t) (33, 0, 0) g 6) (26, 0, 0) C 6) 8 6 b t 0 0)) := by
  have hw2 : WI (rowJ (rowI (sRead S b n t) (33, 0, 0) g 6) (26, 0, 0) C 6) := WI.row (WI.row33 (wi_read S hw b n t) hg)
  have hS := der_told hw HR hC
  have e1 : ∀ l : XL, l.1 ≠ 33 → l.1 ≠ 6 → l ≠ (8, b, t) → (sCopy (rowJ (rowI (sRead S b n t) (33, 0, 0) g 6) (26, 0, 0) C 6) 8 6 b t 0 0).1 l = S.1 l := fun l a1 a2 a3 => by
    show (if l = (8, b, t) then _ else if l = (33, 0, 0) then _ else if l = (6, 0, 0) then _ else S.1 l) = S.1 l
    rw [if_neg a3, if_neg (fun z => a1 (by rw [z])), if_neg (fun z => a2 (by rw [z]))]
  have e2 : ∀ l : XL, l.1 ≠ 16 → l.1 ≠ 26 → l ≠ (18, b, t) → l ≠ (28, b, t) → (sCopy (rowJ (rowI (sRead S b n t) (33, 0, 0) g 6) (26, 0, 0) C 6) 8 6 b t 0 0).2.1 l = S.2.1 l := fun l a1 a2 a3 a4 => by
    show (if l = (28, b, t) then _ else if l = (18, b, t) then _ else if l = (26, 0, 0) then _ else if l = (16, 0, 0) then _ else S.2.1 l) = S.2.1 l
    rw [if_neg a4, if_neg a3, if_neg (fun z => a2 (by rw [z])), if_neg (fun z => a1 (by rw [z]))]
  have o2 : (sCopy (rowJ (rowI (sRead S b n t) (33, 0, 0) g 6) (26, 0, 0) C 6) 8 6 b t 0 0).1 (8, b, t) 2 = onN S.1 b n := by
    rw [← sRead_on S b n t]
    simp [sCopy, putI, xUpd, rowI, rowJ]
  have t2 : ∀ x : Int, 0 ≤ x → x ≤ 5 → (sCopy (rowJ (rowI (sRead S b n t) (33, 0, 0) g 6) (26, 0, 0) C 6) 8 6 b t 0 0).2.1 (18, b, t) x = toldN S.1 b t n x := fun x x0 x1 => by
    rw [← sRead_told S b n t x0 x1]
    have x2 : x < 6 := by omega
    simp [sCopy, putI, rowI, rowJ, x0, x2]
  have c2 : ∀ x : Int, 0 ≤ x → x ≤ 5 → (sCopy (rowJ (rowI (sRead S b n t) (33, 0, 0) g 6) (26, 0, 0) C 6) 8 6 b t 0 0).2.1 (28, b, t) x = C x := fun x x0 x1 => by
    have x2 : x < 6 := by omega
    simp [sCopy, putI, rowI, rowJ, x0, x2]
  have hse : StEq S (sCopy (rowJ (rowI (sRead S b n t) (33, 0, 0) g 6) (26, 0, 0) C 6) 8 6 b t 0 0) := ⟨fun l a1 a2 a3 => e1 l a1 a2 (fun z => a3 (by rw [z])), fun l a1 a2 a3 a4 => e2 l a1 a2 (fun z => a3 (by rw [z])) (fun z => a4 (by rw [z])), rfl⟩
  refine ⟨rfl, _, rfl, hse, wi_copy8 _ hw2 b t h1 h2 h3 h4, fun b' t' a1 a2 a3 a4 => ?_, o2, t2⟩
  refine Stab_eq hse.rule ?_
  by_cases e : b' = b ∧ t' = t
  · obtain ⟨rfl, rfl⟩ := e
    rw [o2]
    exact hS.congr hw HR (fun x x0 x1 => (t2 x x0 x1).symm) (fun x x0 x1 => (c2 x x0 x1).symm)
  · have n8 : ((8, b', t') : XL) ≠ (8, b, t) := fun z => e (by injection z with _ z; injection z with z1 z2; exact ⟨z1, z2⟩)
    have n18 : ((18, b', t') : XL) ≠ (18, b, t) := fun z => e (by injection z with _ z; injection z with z1 z2; exact ⟨z1, z2⟩)
    have n28 : ((28, b', t') : XL) ≠ (28, b, t) := fun z => e (by injection z with _ z; injection z with z1 z2; exact ⟨z1, z2⟩)
    rw [e1 _ (show (8 : Nat) ≠ 33 by decide) (show (8 : Nat) ≠ 6 by decide) n8, e2 _ (show (18 : Nat) ≠ 16 by decide) (show (18 : Nat) ≠ 26 by decide) n18 (fun z => by injection z with z _; exact absurd z (by decide)), e2 _ (show (28 : Nat) ≠ 16 by decide) (show (28 : Nat) ≠ 26 by decide) (fun z => by injection z with z _; exact absurd z (by decide)) n28]
    exact HK b' t' a1 a2 a3 a4
set_option maxHeartbeats 4000000 in
set_option maxRecDepth 100000 in
theorem c_stateAnew (S : XS) (hw : WI S) (HR : RulesOk S) (b : Int) (h1 : 0 ≤ b) (h2 : b < 4) (n : Nat) (gn : n ≤ 60) (HT : ∃ g, GOk g ∧ Lay S.1 (onN S.1 b n) g) (t : Int) (h3 : 0 ≤ t) (h4 : t < 24) : X mX8_stateAnew 0 (xEnt mX8_stateAnew [xR (0, 0, 0), xR (9, b, 0), xI (n : Int), xI t]) [] (hp S) 0 0 (pAnew S b n t) := by
  have HT2 : ∃ g, GOk g ∧ Lay (sRead S b n t).1 ((sRead S b n t).1 (6, 0, 0) 2) g := by obtain ⟨g, z1, z2⟩ := HT; exact ⟨g, z1, by rw [sRead_on]; exact Lay_eq (sRead_eq S b n t) z2⟩
  show X mX8_stateAnew 0 [xR (0, 0, 0), xR (9, b, 0), xI (n : Int), xI t] [] (hp S) 0 0 _
  refine x_aload_n dX8_stateAnew_0 rfl ?_
  refine x_iload_n dX8_stateAnew_1 rfl ?_
  refine x_iload_n dX8_stateAnew_2 rfl ?_
  refine x_aload_n dX8_stateAnew_3 rfl ?_
  refine x_get (v := xR (6, 0, 0)) dX8_stateAnew_4 fl_RX8_42 (hp0 S) rfl ?_
  refine x_callV_v (a := 0) (b := 0) (as := [xI (n : Int), xI t, xR (6, 0, 0)]) (rest := []) ok_X0_read dX8_stateAnew_7 wd354 ⟨wd355, wd356⟩ (hp9 S (by omega) (by omega)) rfl rfl (c_read S hw b (by omega) (by omega) n (by omega) t (by omega) (by omega)) rfl (Nat.le_of_ble_eq_true rfl) (Nat.le_of_ble_eq_true rfl) (by decide) (by omega) (by omega) ?_
  refine x_aload_n dX8_stateAnew_10 rfl ?_
  refine x_get (v := xR (4, 0, 0)) dX8_stateAnew_11 fl_RX8_28 (hp0 (sRead S b n t)) rfl ?_
  refine x_aload_n dX8_stateAnew_14 rfl ?_
  refine x_get (v := xR (6, 0, 0)) dX8_stateAnew_15 fl_RX8_42 (hp0 (sRead S b n t)) rfl ?_
  refine x_callV (a := 0) (b := 0) (as := [xR (6, 0, 0)]) (rest := []) ok_X5_derive dX8_stateAnew_18 wd370 ⟨wd371, wd372⟩ (hp4 (sRead S b n t)) rfl rfl (c_derive (sRead S b n t) (wi_read S hw b n t) (RulesOk_eq (sRead_eq S b n t) HR) HT2) rfl (Nat.le_of_ble_eq_true rfl) (Nat.le_of_ble_eq_true rfl) (by decide) (by omega) (by omega) (fun _ q => ?_) (fun _ _ q => by cases q.1) (fun _ _ q => by cases q.1)
  obtain ⟨-, gd, Cd, dg, rfl, dC⟩ := q
  refine x_aload_n dX8_stateAnew_21 rfl ?_
  refine x_get (v := xR (6, 0, 0)) dX8_stateAnew_22 fl_RX8_42 (hp0 (rowJ (rowI (sRead S b n t) (33, 0, 0) gd 6) (26, 0, 0) Cd 6)) rfl ?_
  exact x_aret dX8_stateAnew_25 rfl ⟨rfl, gd, Cd, dg, rfl, der_told hw HR dC⟩
set_option maxHeartbeats 4000000 in
set_option maxRecDepth 100000 in
theorem c_stateOf (S : XS) (hw : WI S) (HR : RulesOk S) (b : Int) (h1 : 0 ≤ b) (h2 : b < 4) (n : Nat) (gn : n ≤ 60) (HT : ∃ g, GOk g ∧ Lay S.1 (onN S.1 b n) g) (t : Int) (h3 : 0 ≤ t) (h4 : t < 24) (HK : KOk S) : X mX8_stateOf 0 (xEnt mX8_stateOf [xR (0, 0, 0), xR (9, b, 0), xI (n : Int), xI t]) [] (hp S) 0 0 (pState S b n t) := by
  have HT2 : ∃ g, GOk g ∧ Lay (sRead S b n t).1 ((sRead S b n t).1 (6, 0, 0) 2) g := by obtain ⟨g, z1, z2⟩ := HT; exact ⟨g, z1, by rw [sRead_on]; exact Lay_eq (sRead_eq S b n t) z2⟩
  show X mX8_stateOf 0 [xR (0, 0, 0), xR (9, b, 0), xI (n : Int), xI t, none] [] (hp S) 0 0 _
  refine x_aload_n dX8_stateOf_0 rfl ?_
  refine x_get (v := xR (12, b, 0)) dX8_stateOf_1 fl_RX8_363 (hp9 S (by omega) (by omega)) rfl ?_
  refine x_iload_n dX8_stateOf_4 rfl ?_
  refine x_alda (l2 := (8, b, t)) dX8_stateOf_5 (hp12 S (by omega) (by omega)) (show (12 : Nat) ≠ 99 by decide) (by decide) (by decide) (by omega) (by omega) (by decide) rfl ?_
  refine x_astore (L' := [xR (0, 0, 0), xR (9, b, 0), xI (n : Int), xI t, xR (8, b, t)]) dX8_stateOf_6 (by decide) rfl ?_
  refine x_aload_n dX8_stateOf_8 rfl ?_
  refine x_iload_n dX8_stateOf_9 rfl ?_
  refine x_iload_n dX8_stateOf_10 rfl ?_
  refine x_aload_n dX8_stateOf_11 rfl ?_
  refine x_get (v := xR (6, 0, 0)) dX8_stateOf_12 fl_RX8_42 (hp0 S) rfl ?_
  refine x_callV_v (a := 0) (b := 0) (as := [xI (n : Int), xI t, xR (6, 0, 0)]) (rest := []) ok_X0_read dX8_stateOf_15 wd354 ⟨wd355, wd356⟩ (hp9 S (by omega) (by omega)) rfl rfl (c_read S hw b (by omega) (by omega) n (by omega) t (by omega) (by omega)) rfl (Nat.le_of_ble_eq_true rfl) (Nat.le_of_ble_eq_true rfl) (by decide) (by omega) (by omega) ?_
  refine x_aload dX8_stateOf_18 rfl ?_
  refine x_aload_n dX8_stateOf_20 rfl ?_
  refine x_get (v := xR (6, 0, 0)) dX8_stateOf_21 fl_RX8_42 (hp0 (sRead S b n t)) rfl ?_
  refine x_callV_r (a := 0) (b := 0) (as := [xR (6, 0, 0)]) (rest := []) ok_X6_isLike dX8_stateOf_24 wd366 ⟨wd367, wd368⟩ (hp8 (sRead S b n t) (by omega) (by omega) (by omega) (by omega)) rfl rfl (c_isLike8 (sRead S b n t) (wi_read S hw b n t) b t (by omega) (by omega) (by omega) (by omega)) rfl (Nat.le_of_ble_eq_true rfl) (Nat.le_of_ble_eq_true rfl) (by decide) (by omega) (by omega) ?_
  by_cases b24 : fLike ((sRead S b n t).2.1 (18, b, t)) ((sRead S b n t).2.1 (16, 0, 0)) ((sRead S b n t).1 (8, b, t) 2) ((sRead S b n t).1 (6, 0, 0) 2)
  · refine x_top (bI_t b24) ?_
    refine x_if_ne (tgt := 50) dX8_stateOf_27 (by decide) ⟨by decide, by decide⟩ (fun _ => ?_) (fun z => absurd z (by decide))
    refine x_aload dX8_stateOf_50 rfl ?_
    exact x_aret dX8_stateOf_52 rfl (st_like hw HK h1 h2 h3 h4 (by assumption))
  · refine x_top (bI_f b24) ?_
    refine x_if_ne (tgt := 50) dX8_stateOf_27 (by decide) ⟨by decide, by decide⟩ (fun z => absurd z (by decide)) (fun _ => ?_)
    refine x_aload_n dX8_stateOf_30 rfl ?_
    refine x_get (v := xR (4, 0, 0)) dX8_stateOf_31 fl_RX8_28 (hp0 (sRead S b n t)) rfl ?_
    refine x_aload_n dX8_stateOf_34 rfl ?_
    refine x_get (v := xR (6, 0, 0)) dX8_stateOf_35 fl_RX8_42 (hp0 (sRead S b n t)) rfl ?_
    refine x_callV (a := 0) (b := 0) (as := [xR (6, 0, 0)]) (rest := []) ok_X5_derive dX8_stateOf_38 wd370 ⟨wd371, wd372⟩ (hp4 (sRead S b n t)) rfl rfl (c_derive (sRead S b n t) (wi_read S hw b n t) (RulesOk_eq (sRead_eq S b n t) HR) HT2) rfl (Nat.le_of_ble_eq_true rfl) (Nat.le_of_ble_eq_true rfl) (by decide) (by omega) (by omega) (fun _ q => ?_) (fun _ _ q => by cases q.1) (fun _ _ q => by cases q.1)
    obtain ⟨-, gd, Cd, dg, rfl, dC⟩ := q
    refine x_aload dX8_stateOf_41 rfl ?_
    refine x_aload_n dX8_stateOf_43 rfl ?_
    refine x_get (v := xR (6, 0, 0)) dX8_stateOf_44 fl_RX8_42 (hp0 (rowJ (rowI (sRead S b n t) (33, 0, 0) gd 6) (26, 0, 0) Cd 6)) rfl ?_
    refine x_callV_v (a := 0) (b := 0) (as := [xR (6, 0, 0)]) (rest := []) ok_X6_copy dX8_stateOf_47 wd412 ⟨wd413, wd414⟩ (hp8 (rowJ (rowI (sRead S b n t) (33, 0, 0) gd 6) (26, 0, 0) Cd 6) (by omega) (by omega) (by omega) (by omega)) rfl rfl (c_copy8 (rowJ (rowI (sRead S b n t) (33, 0, 0) gd 6) (26, 0, 0) Cd 6) (WI.row (WI.row33 (wi_read S hw b n t) dg)) b t (by omega) (by omega) (by omega) (by omega)) rfl (Nat.le_of_ble_eq_true rfl) (Nat.le_of_ble_eq_true rfl) (by decide) (by omega) (by omega) ?_
    refine x_aload dX8_stateOf_50 rfl ?_
    exact x_aret dX8_stateOf_52 rfl (st_new hw HR HK h1 h2 h3 h4 dg dC)
