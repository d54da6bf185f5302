/-! THE CELLS OF THE CLASS AND OF THE REFERENCE: a kind each; what they hold: whole numbers and longs by name and place -/
abbrev XG : Type := (Int → Int) × Int × Nat
abbrev XS : Type := (XL → Int → Int) × (XL → Int → Int64) × UInt64 × XG
abbrev gI (S : XS) (l : XL) (k : Int) : Int := S.1 l k
abbrev gJ (S : XS) (l : XL) (k : Int) : Int64 := S.2.1 l k
def putI (S : XS) (l : XL) (k : Int) (v : Int) : XS := (fun l' => if l' = l then xUpd (S.1 l) k v else S.1 l', S.2)
def putJ (S : XS) (l : XL) (k : Int) (v : Int64) : XS := (S.1, fun l' => if l' = l then xUpd (S.2.1 l) k v else S.2.1 l', S.2.2)
def putD (S : XS) (v : UInt64) : XS := (S.1, S.2.1, v, S.2.2.2)
/-- the first n of a row of longs are set -/
def rowJ (S : XS) (l : XL) (f : Int → Int64) (n : Int) : XS := (S.1, fun l' => if l' = l then (fun j => if 0 ≤ j ∧ j < n then f j else S.2.1 l j) else S.2.1 l', S.2.2)
/-- a row filled -/
def filI (S : XS) (l : XL) (n v : Int) : XS := (fun l' => if l' = l then (fun j => if 0 ≤ j ∧ j < n then v else S.1 l j) else S.1 l', S.2)
/-- where a cell of a kind may lie -/
def xdm (g : XG) (l : XL) : Prop := match l with
  | (8, b, t) => 0 ≤ b ∧ b < 4 ∧ 0 ≤ t ∧ t < 24
  | (18, b, t) => 0 ≤ b ∧ b < 4 ∧ 0 ≤ t ∧ t < 24
  | (28, b, t) => 0 ≤ b ∧ b < 4 ∧ 0 ≤ t ∧ t < 24
  | (9, b, t) => 0 ≤ b ∧ b < 4 ∧ t = 0
  | (10, b, t) => 0 ≤ b ∧ b < 4 ∧ t = 0
  | (11, b, t) => 0 ≤ b ∧ b < 4 ∧ t = 0
  | (12, b, t) => 0 ≤ b ∧ b < 4 ∧ t = 0
  | (13, b, t) => 0 ≤ b ∧ b < 4 ∧ 0 ≤ t ∧ t < 60
  | (14, b, t) => 0 ≤ b ∧ b < 5 ∧ t = 0
  | (30, b, t) => 0 ≤ b ∧ b < 5 ∧ t = 0
  | (31, b, t) => 0 ≤ b ∧ b < 5 ∧ t = 0
  | (34, b, t) => 0 ≤ b ∧ b < 10 ∧ t = 0
  | (35, b, t) => 0 ≤ b ∧ b < 10 ∧ t = 0
  | (37, b, t) => 0 ≤ b ∧ b < 10 ∧ t = 0
  | (36, b, t) => 0 ≤ b ∧ b < 10 ∧ 0 ≤ t ∧ t < 3
  | (51, b, t) => 0 ≤ b ∧ b < g.1 51 ∧ t = 0
  | (52, b, t) => 0 ≤ b ∧ b < g.1 52 ∧ t = 0
  | (53, b, t) => 0 ≤ b ∧ b < g.1 53 ∧ t = 0
  | (54, b, t) => 0 ≤ b ∧ b < g.1 54 ∧ t = 0
  | (55, b, t) => 0 ≤ b ∧ b < g.1 55 ∧ t = 0
  | (_, b, t) => b = 0 ∧ t = 0
theorem xdm_dec (g : XG) (l : XL) : xdm g l ∨ ¬ xdm g l := Classical.em _
def xsh (g : XG) (d : UInt64) (l : XL) (f : Int → Int) (j : Int → Int64) : Option XC := match l with
  | (0, _, _) => some (.inl (8, [xR (1, 0, 0), xR (2, 0, 0), xR (3, 0, 0), xR (4, 0, 0), xR (5, 0, 0), xR (6, 0, 0), xI (f 6), xI (f 7), xI (f 8)]))
  | (1, _, _) => some (.inr (7, 4, .inr (.inr (.inr (fun b => some (9, b, 0))))))
  | (2, _, _) => some (.inr (8, 5, .inr (.inr (.inr (fun b => some (14, b, 0))))))
  | (3, _, _) => some (.inr (2, 6, .inl f))
  | (4, _, _) => some (.inl (5, [xR (32, 0, 0), xR (33, 0, 0), xI (f 2)]))
  | (5, _, _) => some (.inl (3, [xR (7, 0, 0), xR (40, 0, 0), xR (41, 0, 0), xR (42, 0, 0), xR (43, 0, 0), xR (44, 0, 0), xR (45, 0, 0), xR (46, 0, 0)]))
  | (6, b, t) => some (.inl (6, [xR (16, b, t), xR (26, b, t), xI (f 2)]))
  | (7, b, t) => some (.inl (6, [xR (17, b, t), xR (27, b, t), xI (f 2)]))
  | (8, b, t) => some (.inl (6, [xR (18, b, t), xR (28, b, t), xI (f 2)]))
  | (16, _, _) => some (.inr (1, 6, .inr (.inl j)))
  | (17, _, _) => some (.inr (1, 6, .inr (.inl j)))
  | (18, _, _) => some (.inr (1, 6, .inr (.inl j)))
  | (26, _, _) => some (.inr (1, 6, .inr (.inl j)))
  | (27, _, _) => some (.inr (1, 6, .inr (.inl j)))
  | (28, _, _) => some (.inr (1, 6, .inr (.inl j)))
  | (9, b, _) => some (.inl (0, [xR (10, b, 0), xR (11, b, 0), xR (12, b, 0), xI (f 3), xI (f 4), xI (f 5), xI (f 6)]))
  | (10, b, _) => some (.inr (5, 60, .inr (.inr (.inr (fun k => some (13, b, k))))))
  | (11, _, _) => some (.inr (0, 61, .inl f))
  | (12, b, _) => some (.inr (6, 24, .inr (.inr (.inr (fun k => some (8, b, k))))))
  | (13, _, _) => some (.inl (7, [xI (f 0), xI (f 1), xI (f 2), xI (f 3), xI (f 4), xI (f 5), xI (f 6), xI (f 7)]))
  | (14, b, _) => some (.inl (1, [xR (30, b, 0), xR (31, b, 0), xI (f 2), xI (f 3), xI (f 4), xJ (j 5), xJ (j 6), xI (f 7), xI (f 8), xI (f 9)]))
  | (30, _, _) => some (.inr (1, 120, .inr (.inl j)))
  | (31, _, _) => some (.inr (1, 120, .inr (.inl j)))
  | (32, _, _) => some (.inr (10, 10, .inr (.inr (.inr (fun b => some (34, b, 0))))))
  | (33, _, _) => some (.inr (0, 6, .inl f))
  | (34, b, _) => some (.inl (4, [xR (37, b, 0), xR (35, b, 0), xI (f 2), xI (f 3), xI (f 4), xI (f 5)]))
  | (35, b, _) => some (.inr (9, 3, .inr (.inr (.inr (fun k => some (36, b, k))))))
  | (36, _, _) => some (.inl (2, [xI (f 0), xI (f 1), xI (f 2), xI (f 3)]))
  | (37, _, _) => some (.inl (2, [xI (f 0), xI (f 1), xI (f 2), xI (f 3)]))
  | (40, _, _) => some (.inr (0, 384, .inl f))
  | (41, _, _) => some (.inr (0, 384, .inl f))
  | (42, _, _) => some (.inr (0, 384, .inl f))
  | (43, _, _) => some (.inr (1, 6, .inr (.inl j)))
  | (44, _, _) => some (.inr (1, 6, .inr (.inl j)))
  | (45, _, _) => some (.inr (1, 6, .inr (.inl j)))
  | (46, _, _) => some (.inr (0, 384, .inl f))
  | (50, _, _) => some (.inr (0, 1800, .inl f))
  | (51, _, _) => some (.inr (2, 10, .inl f))
  | (52, _, _) => some (.inr (0, 7, .inl f))
  | (53, _, _) => some (.inr (0, 384, .inl f))
  | (54, _, _) => some (.inr (0, 3, .inl f))
  | (55, _, _) => some (.inr (0, 6, .inl f))
  | (99, _, _) => some (.inr (0, g.2.2, .inl f))
  | _ => none
noncomputable def hp (S : XS) : XH := fun l => @ite _ (xdm S.2.2.2 l) (Classical.propDecidable _) (xsh S.2.2.2 S.2.2.1 l (S.1 l) (S.2.1 l)) none
theorem hp_of {S : XS} {l : XL} (h : xdm S.2.2.2 l) : hp S l = xsh S.2.2.2 S.2.2.1 l (S.1 l) (S.2.1 l) := if_pos h
theorem hp_no {S : XS} {l : XL} (h : ¬ xdm S.2.2.2 l) : hp S l = none := if_neg h
theorem hp_up {S S' : XS} {l : XL} {c : XC} (hg : S'.2.2 = S.2.2) (hd : xdm S.2.2.2 l) (hc : xsh S.2.2.2 S.2.2.1 l (S'.1 l) (S'.2.1 l) = some c) (ho : ∀ l', l' ≠ l → S'.1 l' = S.1 l' ∧ S'.2.1 l' = S.2.1 l') : hp S' = xUp (hp S) l c := by
  funext l'
  by_cases e : l' = l
  · subst e
    rw [hp_of (by rw [hg]; exact hd), hg]
    simp only [xUp, if_true]
    exact hc
  · obtain ⟨e1, e2⟩ := ho l' e
    show hp S' l' = (if l' = l then some c else hp S l')
    rw [if_neg e]
    unfold hp
    rw [hg, e1, e2]
theorem hp_putI {S : XS} {l : XL} {k v : Int} {c : XC} (hd : xdm S.2.2.2 l) (hc : xsh S.2.2.2 S.2.2.1 l (xUpd (S.1 l) k v) (S.2.1 l) = some c) : hp (putI S l k v) = xUp (hp S) l c :=
  hp_up rfl hd (by simp only [putI, if_true]; exact hc) (fun l' e => ⟨by simp only [putI, if_neg e], rfl⟩)
theorem hp_putJ {S : XS} {l : XL} {k : Int} {v : Int64} {c : XC} (hd : xdm S.2.2.2 l) (hc : xsh S.2.2.2 S.2.2.1 l (S.1 l) (xUpd (S.2.1 l) k v) = some c) : hp (putJ S l k v) = xUp (hp S) l c :=
  hp_up rfl hd (by simp only [putJ, if_true]; exact hc) (fun l' e => ⟨rfl, by simp only [putJ, if_neg e]⟩)
theorem hp_rowJ {S : XS} {l : XL} {f : Int → Int64} {n : Int} {c : XC} (hd : xdm S.2.2.2 l) (hc : xsh S.2.2.2 S.2.2.1 l (S.1 l) (fun j => if 0 ≤ j ∧ j < n then f j else S.2.1 l j) = some c) : hp (rowJ S l f n) = xUp (hp S) l c :=
  hp_up rfl hd (by simp only [rowJ, if_true]; exact hc) (fun l' e => ⟨rfl, by simp only [rowJ, if_neg e]⟩)
theorem rowJ_0 (S : XS) (l : XL) (f : Int → Int64) : rowJ S l f 0 = S := by
  have e : (fun l' => if l' = l then (fun j => if 0 ≤ j ∧ j < 0 then f j else S.2.1 l j) else S.2.1 l') = S.2.1 := by
    funext l' j
    by_cases q : l' = l
    · subst q
      rw [if_pos rfl, if_neg (by omega)]
    · rw [if_neg q]
  unfold rowJ
  rw [e]
/-- the next of a row -/
theorem rowJ_s (S : XS) (l : XL) (f : Int → Int64) (i : Int) (h : 0 ≤ i) : putJ (rowJ S l f i) l i (f i) = rowJ S l f (i + 1) := by
  have e : (fun l' => if l' = l then xUpd ((rowJ S l f i).2.1 l) i (f i) else (rowJ S l f i).2.1 l') = (rowJ S l f (i + 1)).2.1 := by
    funext l' j
    by_cases q : l' = l
    · subst q
      simp only [rowJ, if_true, xUpd]
      by_cases e1 : j = i
      · subst e1
        rw [if_pos rfl, if_pos (by omega)]
      · rw [if_neg e1]
        by_cases e2 : 0 ≤ j ∧ j < i
        · rw [if_pos e2, if_pos (by omega)]
        · rw [if_neg e2, if_neg (by omega)]
    · simp only [rowJ, if_neg q]
  unfold putJ
  rw [e]
  rfl
/-- one of a row -/
theorem rowJ_put (S : XS) (l : XL) (f : Int → Int64) (n i : Int) (v : Int64) (h1 : 0 ≤ i) (h2 : i < n) : putJ (rowJ S l f n) l i v = rowJ S l (xUpd f i v) n := by
  have e : (fun l' => if l' = l then xUpd ((rowJ S l f n).2.1 l) i v else (rowJ S l f n).2.1 l') = (rowJ S l (xUpd f i v) n).2.1 := by
    funext l' j
    by_cases q : l' = l
    · subst q
      simp only [rowJ, if_true, xUpd]
      by_cases e1 : j = i
      · subst e1
        rw [if_pos rfl, if_pos ⟨h1, h2⟩, if_pos rfl]
      · rw [if_neg e1]
        by_cases e2 : 0 ≤ j ∧ j < n
        · rw [if_pos e2, if_pos e2, if_neg e1]
        · rw [if_neg e2, if_neg e2]
    · simp only [rowJ, if_neg q]
  unfold putJ
  rw [e]
  rfl
theorem rowJ_at (S : XS) (l : XL) (f : Int → Int64) {n i : Int} (h1 : 0 ≤ i) (h2 : i < n) : (rowJ S l f n).2.1 l i = f i := by
  simp only [rowJ, if_true, if_pos (show 0 ≤ i ∧ i < n from ⟨h1, h2⟩)]
theorem filI_0 (S : XS) (l : XL) (v : Int) : filI S l 0 v = S := by
  have e : (fun l' => if l' = l then (fun j => if 0 ≤ j ∧ j < 0 then v else S.1 l j) else S.1 l') = S.1 := by
    funext l' j
    by_cases q : l' = l
    · subst q
      rw [if_pos rfl, if_neg (by omega)]
    · rw [if_neg q]
  unfold filI
  rw [e]
theorem filI_s (S : XS) (l : XL) (i v : Int) (h : 0 ≤ i) : putI (filI S l i v) l i v = filI S l (i + 1) v := by
  have e : (fun l' => if l' = l then xUpd ((filI S l i v).1 l) i v else (filI S l i v).1 l') = (filI S l (i + 1) v).1 := by
    funext l' j
    by_cases q : l' = l
    · subst q
      simp only [filI, if_true, xUpd]
      by_cases e1 : j = i
      · subst e1
        rw [if_pos rfl, if_pos (by omega)]
      · rw [if_neg e1]
        by_cases e2 : 0 ≤ j ∧ j < i
        · rw [if_pos e2, if_pos (by omega)]
        · rw [if_neg e2, if_neg (by omega)]
    · simp only [filI, if_neg q]
  unfold putI
  rw [e]
  rfl
noncomputable def bI (P : Prop) : Int := @ite Int P (Classical.propDecidable P) 1 0
theorem bI_t {P : Prop} (h : P) : bI P = 1 := if_pos h
theorem bI_f {P : Prop} (h : ¬ P) : bI P = 0 := if_neg h
theorem bI_01 (P : Prop) : bI P = 0 ∨ bI P = 1 := by
  by_cases h : P
  · exact Or.inr (bI_t h)
  · exact Or.inl (bI_f h)
theorem bI_1 {P : Prop} : bI P = 1 ↔ P := ⟨fun h => Classical.byContradiction fun q => (by rw [bI_f q] at h; cases h), bI_t⟩
theorem bI_0 {P : Prop} : bI P = 0 ↔ ¬ P := ⟨fun h q => (by rw [bI_t q] at h; cases h), bI_f⟩
theorem bI_z (P : Prop) : zR (bI P) := by
  rcases bI_01 P with h | h <;> rw [h] <;> exact ⟨by decide, by decide⟩
theorem bI_c {P P' : Prop} (h : P ↔ P') : bI P = bI P' := by rw [propext h]
theorem x_heq {M : XM} {pc : Nat} {L st : List XV} {h h' : XH} {kc ks : Nat} {Q : XO → XH → Prop} (e : h' = h) (k : X M pc L st h' kc ks Q) : X M pc L st h kc ks Q := e ▸ k
theorem x_top {M : XM} {pc : Nat} {L st : List XV} {h : XH} {kc ks : Nat} {Q : XO → XH → Prop} {e e' : Int} (q : e = e') (k : X M pc L (xI e' :: st) h kc ks Q) : X M pc L (xI e :: st) h kc ks Q := q ▸ k
theorem x_topJ {M : XM} {pc : Nat} {L st : List XV} {h : XH} {kc ks : Nat} {Q : XO → XH → Prop} {e e' : Int64} (q : e = e') (k : X M pc L (xJ e' :: st) h kc ks Q) : X M pc L (xJ e :: st) h kc ks Q := q ▸ k
/-- what a method may owe at its end -/
def pRet (v : XV) (h1 : XH) : XO → XH → Prop := fun o h => o = .inl (some v) ∧ h = h1
def pVoid (h1 : XH) : XO → XH → Prop := fun o h => o = .inl none ∧ h = h1
def pThr (E : String) (h1 : XH) : XO → XH → Prop := fun o h => o = .inr E ∧ h = h1
def pOr (C : Prop) (P1 P2 : XO → XH → Prop) : XO → XH → Prop := fun o h => (C ∧ P1 o h) ∨ (¬ C ∧ P2 o h)
theorem pRI {v v' : Int} {h1 : XH} (e : v = v') : pRet (xI v') h1 (.inl (some (xI v))) h1 := ⟨by rw [e], rfl⟩
theorem pRJ {v v' : Int64} {h1 : XH} (e : v = v') : pRet (xJ v') h1 (.inl (some (xJ v))) h1 := ⟨by rw [e], rfl⟩
theorem pRR {v : XL} {h1 : XH} : pRet (xR v) h1 (.inl (some (xR v))) h1 := ⟨rfl, rfl⟩
theorem pV {h1 : XH} : pVoid h1 (.inl none) h1 := ⟨rfl, rfl⟩
theorem pT {E : String} {h1 : XH} : pThr E h1 (.inr E) h1 := ⟨rfl, rfl⟩
theorem pOl {C : Prop} {P1 P2 : XO → XH → Prop} {o : XO} {h : XH} (c : C) (p : P1 o h) : pOr C P1 P2 o h := Or.inl ⟨c, p⟩
theorem pOr2 {C : Prop} {P1 P2 : XO → XH → Prop} {o : XO} {h : XH} (c : ¬ C) (p : P2 o h) : pOr C P1 P2 o h := Or.inr ⟨c, p⟩
