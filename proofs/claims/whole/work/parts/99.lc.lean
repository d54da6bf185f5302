/-! the law's calls: what class and reference answer -/
/-- how a call of the class ends: R says with which exception's number (0: none), which answer, and what state -/
def CO (S : XS) (Es : List String) (R : Nat → Int → XS → Prop) : XO → XH → Prop := fun o h' => ∃ S1 D, h' = hp S1 ∧ QEq D S1 ∧ CB S1 ∧ MdE S D ∧ JInv D ∧ ((∃ v, o = .inl (some (xI v)) ∧ R 0 v D) ∨ ∃ E k, o = .inr E ∧ Es[k]? = some E ∧ R (k + 1) 0 D)
theorem CO.wq {S : XS} {b : Bool} {Es : List String} {R : Nat → Int → XS → Prop} (h : b = true → ∀ v D, R 0 v D → v = 0 ∨ v = 1) : pWq b Es (CO S Es R) := by
  rintro o h' ⟨S1, D, rfl, q, cb, -, -, H⟩
  rcases H with ⟨v, rfl, hv⟩ | ⟨E, k, rfl, hk, -⟩
  · exact Or.inl ⟨v, S1.2.1 (90, 0, 0), rfl, hp90 S1, fun z => h z v D hv⟩
  · exact Or.inr ⟨E, k, rfl, hk⟩
/-- how the law's wrapper of it ends -/
def WO (S : XS) (R : Nat → Int → XS → Prop) : XO → XH → Prop := fun o h' => ∃ S1 S2 D k v, h' = hp S2 ∧ o = .inl (some (xI ((k : Nat) : Int))) ∧ QEq D S1 ∧ CB S1 ∧ OutE S1 S2 ∧ MdE S D ∧ JInv D ∧ R k v D ∧ (k = 0 → S2.2.1 (90, 0, 0) 0 = jI v)
theorem pW.wo {S : XS} {Es : List String} {R : Nat → Int → XS → Prop} (hd : Es.Nodup) {o : XO} {h' : XH} (h : pW Es (CO S Es R) o h') : WO S R o h' := by
  rcases h with ⟨x, f, h1, ⟨S1, D, rfl, q, cb, em, ji, H⟩, hf, rfl, rfl⟩ | ⟨E, k, ⟨S1, D, rfl, q, cb, em, ji, H⟩, hk, rfl⟩
  · rcases H with ⟨v, e, hv⟩ | ⟨E, k, e, -⟩
    · cases e
      refine ⟨S1, putJ S1 (90, 0, 0) 0 (jI x), D, 0, x, ?_, rfl, q, cb, OutE.out S1 _, em, ji, hv, fun _ => ?_⟩
      · rw [hp90] at hf
        cases hf
        exact (pa90 S1 0 (jI x)).symm
      · show (putJ S1 (90, 0, 0) 0 (jI x)).2.1 (90, 0, 0) 0 = jI x
        simp [putJ, xUpd]
    · cases e
  · rcases H with ⟨v, e, -⟩ | ⟨E2, k2, e, hk2, hr⟩
    · cases e
    · cases e
      have hl : k2 < Es.length := (List.getElem?_eq_some_iff.mp hk2).1
      have ek : k2 = k := (List.getElem?_inj hl hd).mp (hk2.trans hk.symm)
      subst ek
      exact ⟨S1, S1, D, k2 + 1, 0, rfl, rfl, q, cb, OutE.rf S1, em, ji, hr, fun z => absurd z (by omega)⟩
/-- how a call of the reference ends behind it -/
def MO (S2 : XS) (k : Nat) (v : Int) (c : Nat) : XO → XH → Prop := fun o h' => ∃ T z, h' = hp T ∧ o = .inl (some (xI z)) ∧ LwI T ∧ T.2.2.2.2.2 = S2.2.2.2.2.2 ∧ T.2.1 = S2.2.1 ∧ T.2.2.1 = S2.2.2.1 ∧ T.1 (99, 0, 0) = S2.1 (99, 0, 0) ∧ T.1 (50, 0, 0) 25 = (k : Int) ∧ (k = 0 → z = v) ∧ usum T 5 = usum S2 5 + c
/-- a call of the reference answers as the class did -/
def MOk (S : XS) (M : XM) (as : List XV) (R : Nat → Int → XS → Prop) : Prop := ∀ S1 S2 D k v, QEq D S1 → CB S1 → OutE S1 S2 → MdE S D → JInv D → R k v D → ∃ c : Nat, c + usum S2 5 ≤ 81920 ∧ X M 0 (xEnt M (xR (50, 0, 0) :: as)) [] (hp S2) 20 (c + 384) (MO S2 k v c)
def LL (i : Int) (n : Nat) : List XV := [xR (99, 0, 0), xR (0, 0, 0), xR (50, 0, 0), xR (90, 0, 0), xR (91, 0, 0), xI i, none, none, none]
/-- the law goes on behind a call -/
def KL (n : Nat) (i : Int) (kc0 kp0 : Nat) (Q : XO → XH → Prop) : Prop := ∀ (T : XS) (kc ks : Nat), LwI T → T.2.2.2.2.2 = n → kc0 ≤ kc → kp0 ≤ ks + usum T 5 → X mL_law 2700 [xR (99, 0, 0), xR (0, 0, 0), xR (50, 0, 0), xR (90, 0, 0), xR (91, 0, 0), xI i, none, none, none] [] (hp T) kc ks Q
theorem CO.x {S : XS} {Es : List String} {R : Nat → Int → XS → Prop} (hI : LwI S) {E : String} {o : XO} {h' : XH} (h : pX S E o h') (k : Nat) (hk : Es[k]? = some E) (r : R (k + 1) 0 S) : CO S Es R o h' := by
  obtain ⟨rfl, S1, rfl, q, cb⟩ := h
  exact ⟨S1, S, rfl, q, cb, MdE.rf S, hI.2.2.2.1, Or.inr ⟨E, k, rfl, hk, r⟩⟩
theorem CO.n {S D : XS} {Es : List String} {R : Nat → Int → XS → Prop} {v : Int} {o : XO} {h' : XH} (h : pN D (some (xI v)) o h') (em : MdE S D) (ji : JInv D) (r : R 0 v D) : CO S Es R o h' := by
  obtain ⟨rfl, S1, rfl, q, cb⟩ := h
  exact ⟨S1, D, rfl, q, cb, em, ji, Or.inl ⟨v, rfl, r⟩⟩
theorem CO.q {S : XS} {Es : List String} {R : Nat → Int → XS → Prop} (hI : LwI S) {v : Int} {o : XO} {h' : XH} (h : pQ S (some (xI v)) o h') (r : R 0 v S) : CO S Es R o h' := CO.n h (MdE.rf S) hI.2.2.2.1 r
theorem pX.of {S : XS} {E : String} {o : XO} {h' : XH} (hI : LwI S) (h : pThr E (hp S) o h') : pX S E o h' := by
  obtain ⟨rfl, rfl⟩ := h
  exact ⟨rfl, S, rfl, QEq.rf S, hI.1⟩
theorem pQ.of {S : XS} {v : XV} {o : XO} {h' : XH} (hI : LwI S) (h : pRet v (hp S) o h') : pQ S (some v) o h' := by
  obtain ⟨rfl, rfl⟩ := h
  exact ⟨rfl, S, rfl, QEq.rf S, hI.1⟩
/-- nothing has changed: the reference fails as the class did, or answers as it did -/
theorem MO.m {S S1 S2 : XS} (hI : LwI S) (cb : CB S1) (q : QEq S S1) (ho : OutE S1 S2) {P : Int → Int → XS → Prop} {k : Nat} {v : Int} {o : XO} {h' : XH} (h : pM S2 P o h') (hk : ∀ kk z T, MdQ S2 T → P kk z T → kk = (k : Int) ∧ (k = 0 → z = v)) : MO S2 k v 0 o h' := by
  obtain ⟨T, z, rfl, rfl, hT, wT, hP⟩ := h
  obtain ⟨h1, h2⟩ := hk _ _ _ hT hP
  exact ⟨T, z, rfl, rfl, LwI.same hI cb q ho hT wT, by rw [hT.2.2.2.2.2.1], hT.2.2.1, hT.2.2.2.1, hT.1 (99, 0, 0) rfl (by decide), h1, h2, usum_q hT 5⟩
/-- something was told -/
theorem MO.tl {S S1 S2 C' : XS} {b : Int} {n : Nat} (hI : LwI S) (cb : CB S1) (q : QEq (sInf C' b n) S1) (ho : OutE S1 S2) (em : MdE S (sInf C' b n)) (ji : JInv (sInf C' b n)) (e4 : C'.1 (4, 0, 0) 2 = S.1 (4, 0, 0) 2) {v : Int} {o : XO} {h' : XH} (h : pTl S2 C' b n v o h') : MO S2 0 v (ndS C' S2 b n) o h' := by
  obtain ⟨rfl, T, rfl, hT, wT, t25, hM, hL, hu⟩ := h
  have e2 : MdE S S2 := (em.tr (MdE.q q)).tr ho.md
  have l := sInf_L C' b n
  have e42 : (sInf C' b n).1 (4, 0, 0) 2 = S.1 (4, 0, 0) 2 := by rw [l.i (k := 4) (by decide), e4]
  refine ⟨T, v, rfl, rfl, LwI.fin cb q ho hT wT (hM.cls (fun k x y hk => l.i (by omega) x y)) hL ji ?_ ?_, hT.2.2.2.1 ▸ rfl, hT.2.1, hT.2.2.1, hT.1 (99, 0, 0) (Or.inr (Or.inl (by decide))), t25, fun _ => rfl, hu⟩
  · exact ((hI.2.2.2.2.1.e e2).cl (hI.2.1.e e2).2.1 hT).to e42
  · rw [e2.2]; exact hI.2.2.2.2.2
theorem MO.tz {S S1 S2 C' : XS} (hI : LwI S) (cb : CB S1) (q : QEq C' S1) (ho : OutE S1 S2) (em : MdE S C') (ji : JInv C') (e4 : C'.1 (4, 0, 0) 2 = S.1 (4, 0, 0) 2) {v : Int} {c : Nat} {o : XO} {h' : XH} (h : pTz S2 C' v c o h') : MO S2 0 v c o h' := by
  obtain ⟨rfl, T, rfl, hT, wT, t25, hM, hL, hu⟩ := h
  have e2 : MdE S S2 := (em.tr (MdE.q q)).tr ho.md
  refine ⟨T, v, rfl, rfl, LwI.fin cb q ho hT wT hM hL ji ?_ ?_, hT.2.2.2.1 ▸ rfl, hT.2.1, hT.2.2.1, hT.1 (99, 0, 0) (Or.inr (Or.inl (by decide))), t25, fun _ => rfl, hu⟩
  · exact ((hI.2.2.2.2.1.e e2).cl (hI.2.1.e e2).2.1 hT).to e4
  · rw [e2.2]; exact hI.2.2.2.2.2
/-- a change by hand: the reference's new state is F of the old one -/
theorem MO.f {S S1 S2 D U V : XS} (cb : CB S1) (q : QEq D S1) (ho : OutE S1 S2) (em : MdE S D) (ji : JInv D) (hI : LwI S) (hU : MdQ S2 U) (hV : ClE U V ∨ (∀ l : XL, (l.1 < 50 ∨ 90 ≤ l.1) → V.1 l = U.1 l) ∧ V.2 = U.2) (wV : WI V) (hM : MR D V) (hL : MRl D V) (hN : MN D V) (h25 : V.1 (50, 0, 0) 25 = 0) (hu : usum V 5 = usum U 5) {v : Int} {o : XO} {h' : XH} (e1 : o = .inl (some (xI v))) (e2 : h' = hp V) : MO S2 0 v 0 o h' := by
  subst e1
  subst e2
  have em2 : MdE S S2 := (em.tr (MdE.q q)).tr ho.md
  have hT : (∀ l : XL, (l.1 < 50 ∨ 90 ≤ l.1) → V.1 l = S2.1 l) ∧ V.2.1 = S2.2.1 ∧ V.2.2.1 = S2.2.2.1 ∧ V.2.2.2.2.2 = S2.2.2.2.2.2 ∧ S2.2.2.2.2.1 ≤ V.2.2.2.2.1 := by
    have c := hU.cl
    rcases hV with hV | ⟨v1, v2⟩
    · have d := c.tr hV
      exact ⟨fun l a => d.1 l (by omega), d.2.1, d.2.2.1, d.2.2.2.1, d.2.2.2.2.1⟩
    · exact ⟨fun l a => (v1 l a).trans (c.1 l (by omega)), by rw [v2]; exact c.2.1, by rw [v2]; exact c.2.2.1, by rw [v2]; exact c.2.2.2.1, by rw [v2]; exact c.2.2.2.2.1⟩
  have e1 : ∀ {k : Nat}, k < 50 → ∀ x y : Int, V.1 (k, x, y) = S1.1 (k, x, y) := fun hk x y => (hT.1 _ (Or.inl hk)).trans (ho.1 _)
  have j1 : ∀ {k : Nat}, k < 50 → ∀ x y : Int, V.2.1 (k, x, y) = S1.2.1 (k, x, y) := fun hk x y => by rw [hT.2.1]; exact ho.2.1 _ x y (by omega)
  have e : ∀ {k : Nat}, k < 50 → kI k = false → ∀ x y : Int, V.1 (k, x, y) = D.1 (k, x, y) := fun hk hk2 x y => (e1 hk x y).trans (q.1 (_, x, y) hk2)
  have j : ∀ {k : Nat}, k < 50 → kJ k = false → ∀ x y : Int, V.2.1 (k, x, y) = D.2.1 (k, x, y) := fun hk hk2 x y => (j1 hk x y).trans (q.2.1 (_, x, y) hk2)
  refine ⟨V, v, rfl, rfl, ⟨cb.cl wV e1 j1, hM.cls (fun k x y hk => ?_), ?_, ji.to (fun k x y hk => ?_) (fun k x y hk => ?_), hN.to (by rw [e (k := 4) (by decide) rfl]), Int.le_trans (by rw [em2.2]; exact hI.2.2.2.2.2) hT.2.2.2.2⟩, hT.2.2.2.1, hT.2.1, hT.2.2.1, hT.1 (99, 0, 0) (Or.inr (by decide)), h25, fun _ => rfl, by rw [hu, usum_q hU, Nat.add_zero]⟩
  · rcases hk with rfl | rfl | rfl | rfl | rfl | rfl | rfl | rfl <;> exact e (by decide) rfl x y
  · exact hL.to (fun l => ⟨e (k := 14) (by decide) rfl l 0, j (k := 14) (by decide) rfl l 0, j (k := 30) (by decide) rfl l 0, j (k := 31) (by decide) rfl l 0⟩) (by rw [e (k := 0) (by decide) rfl]) (fun _ _ _ => rfl) rfl (fun _ _ => rfl)
  · rcases hk with rfl | rfl | rfl | rfl | rfl | rfl | rfl | rfl | rfl <;> exact e (by decide) rfl x y
  · rcases hk with rfl | rfl | rfl <;> exact j (by decide) rfl x y
