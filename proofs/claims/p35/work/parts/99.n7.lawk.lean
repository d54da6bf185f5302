/-! p35: the law's body -/
/-- the law answers 1 -/
def pE : XO → XH → Prop := fun o _ => o = .inl (some (xI 1))
theorem pE.of {o : XO} {h' h1 : XH} {v : Int} (e : v = 1) (h : pRet (xI v) h1 o h') : pE o h' := by
  obtain ⟨rfl, -⟩ := h
  rw [e]
  rfl
/-- another fact of the relation and the first thing is told -/
def Ag (C : XS) (n : Nat) (t f o : Int) : Prop := ∃ x : Int, f + 1 ≤ x ∧ x < o ∧ sB (toldN C.1 0 t n) x
theorem Ag.s {C : XS} {n : Nat} {t f o : Int} (h : f + 1 ≤ o) : Ag C n t f (o + 1) ↔ Ag C n t f o ∨ sB (toldN C.1 0 t n) o := by
  constructor
  · rintro ⟨x, a, b, c⟩
    rcases Int.lt_or_eq_of_le (show x ≤ o by omega) with q | q
    · exact Or.inl ⟨x, a, q, c⟩
    · subst q; exact Or.inr c
  · rintro (⟨x, a, b, c⟩ | q)
    · exact ⟨x, a, by omega, c⟩
    · exact ⟨o, h, by omega, q⟩
theorem Ag.riv {C S : XS} {n : Nat} (q : ∀ k : Int, S.1 (13, 0, k) = C.1 (13, 0, k)) (e9 : (S.1 (9, 0, 0) 3).toNat = n) {t f : Int} (f0 : 0 ≤ f) (f8 : f % 8 = 0) (f1 : f < 384) (hu : S.1 (3, 0, 0) (f / 64) ≠ 0) : Riv S.1 0 f t t ↔ Ag C n t f (f + 8) := by
  have et : toldN S.1 0 t n = toldN C.1 0 t n := toldN_congr q t n
  constructor
  · rintro ⟨-, h, a, b, p, p1, p2, p3, p4⟩
    obtain rfl : h = t := by omega
    rw [e9, et] at p4
    refine ⟨64 * (f / 64) + p, by omega, by omega, ?_⟩
    unfold sB
    rw [show (64 * (f / 64) + (p : Int)) / 64 = f / 64 by omega, show (64 * (f / 64) + (p : Int)) % 64 = p by omega]
    exact p4
  · rintro ⟨x, a, b, c⟩
    refine ⟨hu, t, Int.le_refl _, Int.le_refl _, (x % 64).toNat, by omega, by omega, by omega, ?_⟩
    rw [e9, et]
    unfold sB at c
    rw [show ((x % 64).toNat : Int) = x % 64 by omega, show f / 64 = x / 64 by omega]
    exact c
/-- behind setUnique -/
def UQ (C S : XS) (x : Int) : Prop := CB S ∧ JInv S ∧ S.1 (50, 0, 0) = C.1 (50, 0, 0) ∧ (∀ k : Int, S.1 (13, 0, k) = C.1 (13, 0, k)) ∧ S.1 (9, 0, 0) = C.1 (9, 0, 0) ∧ S.1 (0, 0, 0) 6 = 1 ∧ S.1 (0, 0, 0) 7 = 0 ∧ S.1 (3, 0, 0) x = 1
theorem UQ.i {C S : XS} {x : Int} (h : UQ C S x) : LwI S := ⟨h.1, trivial, trivial, h.2.1, trivial, trivial⟩
theorem UQ.q {C S T : XS} {x : Int} (h : UQ C S x) (q : QEq S T) (cb : CB T) : UQ C T x := ⟨cb, h.2.1.q q, (q.1 _ rfl).trans h.2.2.1, fun k => (q.1 (13, 0, k) rfl).trans (h.2.2.2.1 k), (q.1 _ rfl).trans h.2.2.2.2.1, by rw [q.1 (0, 0, 0) rfl]; exact h.2.2.2.2.2.1, by rw [q.1 (0, 0, 0) rfl]; exact h.2.2.2.2.2.2.1, by rw [q.1 (3, 0, 0) rfl]; exact h.2.2.2.2.2.2.2⟩
theorem UQ.first {C S S1 : XS} (h : PH C S) {x : Int} (q : QEq (putI S (3, 0, 0) x 1) S1) (cb : CB S1) (ji : JInv (putI S (3, 0, 0) x 1)) : UQ C S1 x := by
  have o : ∀ (k : Nat) (a b : Int), k ≠ 3 → kI k = false → S1.1 (k, a, b) = S.1 (k, a, b) := fun k a b h3 hk => (q.1 (k, a, b) hk).trans (putI_o (nK h3 _ _ _ _))
  refine ⟨cb, ji.q q, (o 50 0 0 (by decide) rfl).trans (h.2.2.1.k (k := 50) rfl (by decide) 0 0), fun k => (o 13 0 k (by decide) rfl).trans (h.2.2.1.k (k := 13) rfl (by decide) 0 k), (o 9 0 0 (by decide) rfl).trans (h.2.2.1.k (k := 9) rfl (by decide) 0 0), ?_, ?_, ?_⟩
  · rw [o 0 0 0 (by decide) rfl]; exact h.2.1.2.2.2.2.2.1
  · rw [o 0 0 0 (by decide) rfl]; exact h.2.1.2.2.2.2.2.2.1
  · rw [q.1 (3, 0, 0) rfl, putI_at, if_pos rfl]
theorem UQ.again {C S S1 : XS} {x : Int} (h : UQ C S x) (q : QEq (putI S (3, 0, 0) x 1) S1) (cb : CB S1) (ji : JInv (putI S (3, 0, 0) x 1)) : UQ C S1 x := by
  have o : ∀ (k : Nat) (a b : Int), k ≠ 3 → kI k = false → S1.1 (k, a, b) = S.1 (k, a, b) := fun k a b h3 hk => (q.1 (k, a, b) hk).trans (putI_o (nK h3 _ _ _ _))
  obtain ⟨h1, h2, h3, h4, h5, h6, h7, h8⟩ := h
  refine ⟨cb, ji.q q, (o 50 0 0 (by decide) rfl).trans h3, fun k => (o 13 0 k (by decide) rfl).trans (h4 k), (o 9 0 0 (by decide) rfl).trans h5, ?_, ?_, ?_⟩
  · rw [o 0 0 0 (by decide) rfl]; exact h6
  · rw [o 0 0 0 (by decide) rfl]; exact h7
  · rw [q.1 (3, 0, 0) rfl, putI_at, if_pos rfl]
theorem UQ.nt {C S : XS} {x : Int} (hC : NT C C) (h : UQ C S x) : NT C S := by
  unfold NT
  rw [h.2.2.1]
  exact hC
theorem UQ.set6 {C S : XS} {x : Int} (h : UQ C S x) : X mL_setUnique 0 (xEnt mL_setUnique [xR (0, 0, 0), xI 6, xI 1]) [] (hp S) 6 36 (pK S (-900001)) := by
  refine X.weak (wo_setUnique S h.i 6 1 ⟨by omega, by omega⟩ (Or.inr rfl)) (Nat.le_refl _) (Nat.le_refl _) (fun _ _ z => WO.k (fun k v D hR => ?_) z)
  rcases hR with ⟨rfl, g1, rfl, hD⟩ | ⟨rfl, g1, hD⟩
  · exfalso; omega
  · exact ⟨hD, by rw [if_neg (by decide)]; decide⟩
set_option maxHeartbeats 4000000 in
set_option maxRecDepth 100000 in
theorem l_lawO (C : XS) (hC : LW C) (h22 : C.1 (9, 0, 0) 3 ≤ 22) (S : XS) (f t : Int) (f0 : 0 ≤ f) (f8 : f % 8 = 0) (f1 : f < 376) (t0 : 0 ≤ t) (t1 : t < 24) (hS : UQ C S (f / 64)) : ∀ (nn : Nat) (o : Int), f + 9 - o < (nn : Int) → (f + 1 ≤ o) → (o ≤ f + 8) → X mL_law 658 [xR (99, 0, 0), xR (0, 0, 0), xR (50, 0, 0), none, xI 1, xI f, xI t, xI (bI (Ag C (C.1 (9, 0, 0) 3).toNat t f o)), xI o] [] (hp S) 6 36 (pE) := by
  intro nn
  induction nn with
  | zero => intro o hm o0 o1; exfalso; omega
  | succ nn ih =>
    intro o hm o0 o1
    have nC0 : C.1 (50, 0, 0) 0 = C.1 (9, 0, 0) 3 := hC.2.2.1.1
    have nC5 : C.1 (50, 0, 0) 5 = C.1 (4, 0, 0) 2 := hC.2.2.2.1.1
    have c9 := wf9_3 hC.1.1 (b := 0) (by decide) (by decide)
    have c4 := wf4_2 hC.1.1
    have hw := hS.1.1
    have hz := hw.1
    have s6 := hS.2.2.2.2.2.1
    have s9 : S.1 (9, 0, 0) 3 = C.1 (9, 0, 0) 3 := congrFun hS.2.2.2.2.1 3
    have b01 := bI_01 (Ag C (C.1 (9, 0, 0) 3).toNat t f o)
    refine x_iload dL_law_658 rfl ?_
    refine x_iload dL_law_660 rfl ?_
    refine x_bipush (v := 8) dL_law_662 (by decide) ?_
    refine x_iadd dL_law_664 ?_
    refine x_icmp_ge (tgt := 691) dL_law_665 (by decide) (by first | exact hz _ _ | exact hw.1 _ _ | exact zR_of _ | exact bI_z _ | assumption | exact ⟨by omega, by omega⟩) (by first | exact hz _ _ | exact hw.1 _ _ | exact zR_of _ | exact bI_z _ | assumption | exact ⟨by omega, by omega⟩) (fun c665 => ?_) (fun c665 => ?_)
    · obtain rfl : o = f + 8 := by omega
      have rv : bI (Riv S.1 0 f t t) = bI (Ag C (C.1 (9, 0, 0) 3).toNat t f (f + 8)) := bI_c (Ag.riv hS.2.2.2.1 (by omega) f0 f8 (by omega) (by rw [hS.2.2.2.2.2.2.2]; decide))
      refine x_iload dL_law_691 rfl ?_
      refine x_if_eq (tgt := 729) dL_law_693 (by decide) ⟨by decide, by decide⟩ (fun z => absurd z (by decide)) (fun _ => ?_)
      refine x_aload_n dL_law_696 rfl ?_
      refine x_iconst dL_law_697 ?_
      refine x_iload dL_law_698 rfl ?_
      refine x_iload dL_law_700 rfl ?_
      refine x_iload dL_law_702 rfl ?_
      refine x_callSH (a := 6) (b := 36) (as := [xR (0, 0, 0), xI 0, xI f, xI t, xI t]) (rest := []) ok_L_tell dL_law_704 wd421 wd422 (wo_tell S hS.i 0 f t t ⟨by omega, by omega⟩ ⟨by omega, by omega⟩ ⟨by omega, by omega⟩ ⟨by omega, by omega⟩) rfl (Nat.le_of_ble_eq_true rfl) (Nat.le_of_ble_eq_true rfl) (by decide) (by omega) (by omega) (fun _ q => by obtain ⟨_, _, _, _, _, q, _⟩ := q; cases q) (fun _ _ q => ?_) (fun _ _ q => by obtain ⟨_, _, _, _, _, q, _⟩ := q; cases q)
      obtain ⟨S1, D, kk, vv, rfl, yy, qq, cb, em, ji, hR⟩ := q
      cases yy
      obtain ⟨v9, hv9, hvv⟩ : ∃ v9 : Int, (if kk = 0 then vv else -900000 - ((kk : Nat) : Int)) = v9 ∧ ((bI (Ag C (C.1 (9, 0, 0) 3).toNat t f (f + 8)) = 1 ∧ v9 = -900003) ∨ (bI (Ag C (C.1 (9, 0, 0) 3).toNat t f (f + 8)) = 0 ∧ v9 = C.1 (9, 0, 0) 3 + 1)) := by
        rcases hR with ⟨rfl, g1, g2, g3, g4, rfl, -⟩ | ⟨rfl, g1, -⟩ | ⟨rfl, g1, g2, -⟩ | ⟨rfl, g1, g2, g3, -⟩ | ⟨rfl, g1, g2, g3, g4, -⟩
        · rw [rv] at g3; exact ⟨_, if_pos rfl, Or.inr ⟨g3, by omega⟩⟩
        · exfalso; omega
        · exfalso; omega
        · rw [rv] at g3; exact ⟨_, if_neg (by decide), Or.inl ⟨by omega, by decide⟩⟩
        · exfalso; omega
      have zv9 : zR v9 := ⟨by omega, by omega⟩
      refine x_top hv9 ?_
      refine x_iload dL_law_707 rfl ?_
      refine x_if_eq (tgt := 717) dL_law_709 (by decide) (by first | exact hz _ _ | exact hw.1 _ _ | exact zR_of _ | exact bI_z _ | assumption | exact ⟨by omega, by omega⟩) (fun c709 => ?_) (fun c709 => ?_)
      · refine x_aload_n dL_law_717 rfl ?_
        refine x_iconst dL_law_718 ?_
        refine x_aldi (f := S1.1 (50, 0, 0)) dL_law_719 (hp50 S1) (show (50 : Nat) ≠ 99 by decide) (by omega) (by omega) (by decide) ?_
        have e50 : S1.1 (50, 0, 0) = C.1 (50, 0, 0) := ((qq.1 _ rfl).trans (em.1 50 0 0 (by decide))).trans hS.2.2.1
        refine x_top (show S1.1 (50, 0, 0) 0 = C.1 (9, 0, 0) 3 from by rw [e50]; exact nC0) ?_
        refine x_iconst dL_law_720 ?_
        refine x_iadd dL_law_721 ?_
        refine x_icmp_ne (tgt := 729) dL_law_722 (by decide) (by first | exact hz _ _ | exact hw.1 _ _ | exact zR_of _ | exact bI_z _ | assumption | exact ⟨by omega, by omega⟩) (by first | exact hz _ _ | exact hw.1 _ _ | exact zR_of _ | exact bI_z _ | assumption | exact ⟨by omega, by omega⟩) (fun c722 => by exfalso; omega) (fun c722 => ?_)
        refine x_iconst dL_law_725 ?_
        refine x_goto (tgt := 730) dL_law_726 (by decide) ?_
        exact x_zret dL_law_730 rfl (Or.inr rfl) rfl
      · refine x_ldc (v := (-900003)) dL_law_712 wd628 ?_
        refine x_goto (tgt := 722) dL_law_714 (by decide) ?_
        refine x_icmp_ne (tgt := 729) dL_law_722 (by decide) (by first | exact hz _ _ | exact hw.1 _ _ | exact zR_of _ | exact bI_z _ | assumption | exact ⟨by omega, by omega⟩) ⟨by decide, by decide⟩ (fun c722 => by exfalso; omega) (fun c722 => ?_)
        refine x_iconst dL_law_725 ?_
        refine x_goto (tgt := 730) dL_law_726 (by decide) ?_
        exact x_zret dL_law_730 rfl (Or.inr rfl) rfl
    · refine x_iload dL_law_668 rfl ?_
      refine x_aload_n dL_law_670 rfl ?_
      refine x_iconst dL_law_671 ?_
      refine x_aload_n dL_law_672 rfl ?_
      refine x_iconst dL_law_673 ?_
      refine x_aldi (f := S.1 (50, 0, 0)) dL_law_674 (hp50 S) (show (50 : Nat) ≠ 99 by decide) (by omega) (by omega) (by decide) ?_
      refine x_top (show S.1 (50, 0, 0) 0 = (((C.1 (9, 0, 0) 3).toNat : Nat) : Int) from by have := nC0; rw [hS.2.2.1]; omega) ?_
      refine x_iload dL_law_675 rfl ?_
      refine x_iload dL_law_677 rfl ?_
      refine x_callS_r (a := 0) (b := 0) (as := [xR (50, 0, 0), xI 0, xI (((C.1 (9, 0, 0) 3).toNat : Nat) : Int), xI t, xI o]) (rest := [xI (bI (Ag C (C.1 (9, 0, 0) 3).toNat t f o))]) ok_L_isTold dL_law_679 wd833 wd834 (c_isToldN C S hC.1.1 hw (hS.nt hC.2.2.1) (C.1 (9, 0, 0) 3).toNat (by omega) t o ⟨by omega, by omega⟩ (by omega) (by omega)) rfl (Nat.le_of_ble_eq_true rfl) (Nat.le_of_ble_eq_true rfl) (by decide) (by omega) (by omega) ?_
      refine x_ior dL_law_682 ?_
      refine x_istore (L' := [xR (99, 0, 0), xR (0, 0, 0), xR (50, 0, 0), none, xI 1, xI f, xI t, xI (zOr (bI (Ag C (C.1 (9, 0, 0) 3).toNat t f o)) (bI (sB (toldN C.1 0 t (C.1 (9, 0, 0) 3).toNat) o))), xI o]) dL_law_683 (by decide) rfl ?_
      refine x_iinc (L' := [xR (99, 0, 0), xR (0, 0, 0), xR (50, 0, 0), none, xI 1, xI f, xI t, xI (zOr (bI (Ag C (C.1 (9, 0, 0) 3).toNat t f o)) (bI (sB (toldN C.1 0 t (C.1 (9, 0, 0) 3).toNat) o))), xI (o + 1)]) dL_law_685 rfl rfl ?_
      refine x_goto (tgt := 658) dL_law_688 (by decide) ?_
      have kk := ih (o + 1) (by omega) (by omega) (by omega)
      rw [show bI (Ag C (C.1 (9, 0, 0) 3).toNat t f (o + 1)) = zOr (bI (Ag C (C.1 (9, 0, 0) 3).toNat t f o)) (bI (sB (toldN C.1 0 t (C.1 (9, 0, 0) 3).toNat) o)) from by rw [zOr_bI]; exact bI_c (Ag.s (by omega))] at kk
      exact kk
set_option maxHeartbeats 4000000 in
set_option maxRecDepth 100000 in
theorem l_lawS (C : XS) (hC : LW C) (hC4 : C.1 (4, 0, 0) 2 ≤ 4) (h4 : 1 ≤ C.1 (4, 0, 0) 2) (hCn : C.2.2.2.2.2 < 1000000) (h22 : C.1 (9, 0, 0) 3 ≤ 22) (S : XS) (hS : PH C S) : X mL_law 567 [xR (99, 0, 0), xR (0, 0, 0), xR (50, 0, 0), none, xI 1, none, none, none, none] [] (hp S) 24 144 (pE) := by
  have nC0 : C.1 (50, 0, 0) 0 = C.1 (9, 0, 0) 3 := hC.2.2.1.1
  have nC5 : C.1 (50, 0, 0) 5 = C.1 (4, 0, 0) 2 := hC.2.2.2.1.1
  have c9 := wf9_3 hC.1.1 (b := 0) (by decide) (by decide)
  have c4 := wf4_2 hC.1.1
  have hw := hS.2.1.1.1
  have hz := hw.1
  have hn := hS.hn
  refine x_bipush (v := 64) dL_law_567 (by decide) ?_
  refine x_aload_n dL_law_569 rfl ?_
  refine x_bipush (v := 6) dL_law_570 (by decide) ?_
  refine x_iconst dL_law_572 ?_
  refine x_callS (a := 0) (b := 0) (as := [xR (99, 0, 0), xI 6, xI 4]) (rest := [xI 64]) ok_L_in dL_law_573 wd824 wd825 (c_in S hw hS.hn 6 4 (by omega) (by omega) (by omega) (by omega)) rfl (Nat.le_of_ble_eq_true rfl) (Nat.le_of_ble_eq_true rfl) (by decide) (by omega) (by omega) (fun _ q => by obtain ⟨_, _, q, _⟩ := q; cases q) (fun _ _ q => ?_) (fun _ _ q => by obtain ⟨_, _, q, _⟩ := q; cases q)
  obtain ⟨v573, hv573, y, rfl⟩ := q
  cases y
  refine x_imul dL_law_576 ?_
  refine x_bipush (v := 8) dL_law_577 (by decide) ?_
  refine x_aload_n dL_law_579 rfl ?_
  refine x_bipush (v := 7) dL_law_580 (by decide) ?_
  refine x_iconst dL_law_582 ?_
  refine x_callS (a := 0) (b := 0) (as := [xR (99, 0, 0), xI 7, xI 4]) (rest := [xI 8, xI (64 * v573)]) ok_L_in dL_law_583 wd824 wd825 (c_in S hw hS.hn 7 4 (by omega) (by omega) (by omega) (by omega)) rfl (Nat.le_of_ble_eq_true rfl) (Nat.le_of_ble_eq_true rfl) (by decide) (by omega) (by omega) (fun _ q => by obtain ⟨_, _, q, _⟩ := q; cases q) (fun _ _ q => ?_) (fun _ _ q => by obtain ⟨_, _, q, _⟩ := q; cases q)
  obtain ⟨v583, hv583, y, rfl⟩ := q
  cases y
  refine x_imul dL_law_586 ?_
  refine x_iadd dL_law_587 ?_
  refine x_istore (L' := [xR (99, 0, 0), xR (0, 0, 0), xR (50, 0, 0), none, xI 1, xI ((64 * v573) + (8 * v583)), none, none, none]) dL_law_588 (by decide) rfl ?_
  refine x_aload_n dL_law_590 rfl ?_
  refine x_bipush (v := 8) dL_law_591 (by decide) ?_
  refine x_bipush (v := 24) dL_law_593 (by decide) ?_
  refine x_callS (a := 0) (b := 0) (as := [xR (99, 0, 0), xI 8, xI 24]) (rest := []) ok_L_in dL_law_595 wd824 wd825 (c_in S hw hS.hn 8 24 (by omega) (by omega) (by omega) (by omega)) rfl (Nat.le_of_ble_eq_true rfl) (Nat.le_of_ble_eq_true rfl) (by decide) (by omega) (by omega) (fun _ q => by obtain ⟨_, _, q, _⟩ := q; cases q) (fun _ _ q => ?_) (fun _ _ q => by obtain ⟨_, _, q, _⟩ := q; cases q)
  obtain ⟨v595, hv595, y, rfl⟩ := q
  cases y
  refine x_istore (L' := [xR (99, 0, 0), xR (0, 0, 0), xR (50, 0, 0), none, xI 1, xI ((64 * v573) + (8 * v583)), xI v595, none, none]) dL_law_598 (by decide) rfl ?_
  refine x_iload dL_law_600 rfl ?_
  refine x_aload_n dL_law_602 rfl ?_
  refine x_iload dL_law_603 rfl ?_
  refine x_bipush (v := 64) dL_law_605 (by decide) ?_
  refine x_idiv dL_law_607 (by omega) (by omega) (by omega) (by omega) ?_
  refine x_iconst dL_law_608 ?_
  refine x_callSH (a := 6) (b := 36) (as := [xR (0, 0, 0), xI (((64 * v573) + (8 * v583)) / 64), xI 1]) (rest := [xI 1]) ok_L_setUnique dL_law_609 wd817 wd818 (wo_setUnique S hS.2.1.i (((64 * v573) + (8 * v583)) / 64) 1 ⟨by omega, by omega⟩ (Or.inr rfl)) rfl (Nat.le_of_ble_eq_true rfl) (Nat.le_of_ble_eq_true rfl) (by decide) (by omega) (by omega) (fun _ q => by obtain ⟨_, _, _, _, _, q, _⟩ := q; cases q) (fun _ _ q => ?_) (fun _ _ q => by obtain ⟨_, _, _, _, _, q, _⟩ := q; cases q)
  obtain ⟨U1, D1, kk, vv, rfl, yy, qq, cb, em, ji, hR⟩ := q
  cases yy
  rcases hR with ⟨rfl, g1, rfl, rfl⟩ | ⟨rfl, g1, -⟩
  rotate_left
  · exfalso; omega
  refine x_top (show _ = 0 from by rw [if_pos rfl]; exact hS.2.1.2.2.2.2.2.2.2 _) ?_
  have hU1 : UQ C U1 _ := UQ.first hS qq cb ji
  refine x_if_ne (tgt := 645) dL_law_612 (by decide) ⟨by decide, by decide⟩ (fun z => absurd z (by decide)) (fun _ => ?_)
  refine x_aload_n dL_law_615 rfl ?_
  refine x_iload dL_law_616 rfl ?_
  refine x_bipush (v := 64) dL_law_618 (by decide) ?_
  refine x_idiv dL_law_620 (by omega) (by omega) (by omega) (by omega) ?_
  refine x_iconst dL_law_621 ?_
  refine x_callSH (a := 6) (b := 36) (as := [xR (0, 0, 0), xI (((64 * v573) + (8 * v583)) / 64), xI 1]) (rest := [xI 1]) ok_L_setUnique dL_law_622 wd817 wd818 (wo_setUnique U1 hU1.i (((64 * v573) + (8 * v583)) / 64) 1 ⟨by omega, by omega⟩ (Or.inr rfl)) rfl (Nat.le_of_ble_eq_true rfl) (Nat.le_of_ble_eq_true rfl) (by decide) (by omega) (by omega) (fun _ q => by obtain ⟨_, _, _, _, _, q, _⟩ := q; cases q) (fun _ _ q => ?_) (fun _ _ q => by obtain ⟨_, _, _, _, _, q, _⟩ := q; cases q)
  obtain ⟨U2, D2, kk, vv, rfl, yy, qq, cb, em, ji, hR⟩ := q
  cases yy
  rcases hR with ⟨rfl, g1, rfl, rfl⟩ | ⟨rfl, g1, -⟩
  rotate_left
  · exfalso; omega
  refine x_top (show _ = 1 from by rw [if_pos rfl]; exact hU1.2.2.2.2.2.2.2) ?_
  have hU2 : UQ C U2 _ := UQ.again hU1 qq cb ji
  refine x_iconst dL_law_625 ?_
  refine x_icmp_ne (tgt := 645) dL_law_626 (by decide) ⟨by decide, by decide⟩ ⟨by decide, by decide⟩ (fun z => absurd z (by decide)) (fun _ => ?_)
  refine x_aload_n dL_law_629 rfl ?_
  refine x_bipush (v := 6) dL_law_630 (by decide) ?_
  refine x_iconst dL_law_632 ?_
  refine x_callSH (a := 6) (b := 36) (as := [xR (0, 0, 0), xI 6, xI 1]) (rest := [xI 1]) ok_L_setUnique dL_law_633 wd817 wd818 (hU2.set6) rfl (Nat.le_of_ble_eq_true rfl) (Nat.le_of_ble_eq_true rfl) (by decide) (by omega) (by omega) (fun _ q => by cases q.1) (fun _ _ q => ?_) (fun _ _ q => by cases q.1)
  obtain ⟨yy, U3, rfl, z3, zb3, -⟩ := q
  cases yy
  have hU3 : UQ C U3 _ := hU2.q z3 zb3
  refine x_ldc (v := (-900001)) dL_law_636 wd626 ?_
  refine x_icmp_ne (tgt := 645) dL_law_638 (by decide) ⟨by decide, by decide⟩ ⟨by decide, by decide⟩ (fun z => absurd z (by decide)) (fun _ => ?_)
  refine x_iconst dL_law_641 ?_
  refine x_goto (tgt := 646) dL_law_642 (by decide) ?_
  refine x_iand dL_law_646 ?_
  refine x_top (show zAnd 1 1 = 1 from by decide) ?_
  refine x_istore (L' := [xR (99, 0, 0), xR (0, 0, 0), xR (50, 0, 0), none, xI 1, xI ((64 * v573) + (8 * v583)), xI v595, none, none]) dL_law_647 (by decide) rfl ?_
  refine x_iconst dL_law_649 ?_
  refine x_istore (L' := [xR (99, 0, 0), xR (0, 0, 0), xR (50, 0, 0), none, xI 1, xI ((64 * v573) + (8 * v583)), xI v595, xI 0, none]) dL_law_650 (by decide) rfl ?_
  refine x_iload dL_law_652 rfl ?_
  refine x_iconst dL_law_654 ?_
  refine x_iadd dL_law_655 ?_
  refine x_istore (L' := [xR (99, 0, 0), xR (0, 0, 0), xR (50, 0, 0), none, xI 1, xI ((64 * v573) + (8 * v583)), xI v595, xI 0, xI (((64 * v573) + (8 * v583)) + 1)]) dL_law_656 (by decide) rfl ?_
  have kk := l_lawO C hC h22 U3 ((64 * v573) + (8 * v583)) v595 (by omega) (by omega) (by omega) (by omega) (by omega) hU3 10 (((64 * v573) + (8 * v583)) + 1) (by omega) (by omega) (by omega)
  rw [show bI (Ag C (C.1 (9, 0, 0) 3).toNat v595 ((64 * v573) + (8 * v583)) (((64 * v573) + (8 * v583)) + 1)) = 0 from bI_f (fun ⟨x, a, b, _⟩ => by omega)] at kk
  exact X.weak kk (by omega) (by omega) (fun _ _ q => q)
set_option maxHeartbeats 4000000 in
set_option maxRecDepth 100000 in
theorem l_lawQ (C : XS) (hC : LW C) (hC4 : C.1 (4, 0, 0) 2 ≤ 4) (h4 : 1 ≤ C.1 (4, 0, 0) 2) (hCn : C.2.2.2.2.2 < 1000000) (h22 : C.1 (9, 0, 0) 3 ≤ 22) (S : XS) (hS : PH C S) : X mL_law 261 [xR (99, 0, 0), xR (0, 0, 0), xR (50, 0, 0), none, none, none, none, none, none] [] (hp S) 10983 33773 (pE) := by
  have nC0 : C.1 (50, 0, 0) 0 = C.1 (9, 0, 0) 3 := hC.2.2.1.1
  have nC5 : C.1 (50, 0, 0) 5 = C.1 (4, 0, 0) 2 := hC.2.2.2.1.1
  have c9 := wf9_3 hC.1.1 (b := 0) (by decide) (by decide)
  have c4 := wf4_2 hC.1.1
  have hw := hS.2.1.1.1
  have hz := hw.1
  have hn := hS.hn
  refine x_aload_n dL_law_261 rfl ?_
  refine x_aload_n dL_law_262 rfl ?_
  refine x_aload_n dL_law_263 rfl ?_
  refine x_iconst dL_law_264 ?_
  refine x_bipush (v := 24) dL_law_265 (by decide) ?_
  refine x_callS (a := 0) (b := 0) (as := [xR (99, 0, 0), xI 5, xI 24]) (rest := [xR (50, 0, 0), xR (0, 0, 0)]) ok_L_in dL_law_267 wd824 wd825 (c_in S hw hS.hn 5 24 (by omega) (by omega) (by omega) (by omega)) rfl (Nat.le_of_ble_eq_true rfl) (Nat.le_of_ble_eq_true rfl) (by decide) (by omega) (by omega) (fun _ q => by obtain ⟨_, _, q, _⟩ := q; cases q) (fun _ _ q => ?_) (fun _ _ q => by obtain ⟨_, _, q, _⟩ := q; cases q)
  obtain ⟨v267, hv267, y, rfl⟩ := q
  cases y
  refine x_callS (a := 10845) (b := 32945) (as := [xR (0, 0, 0), xR (50, 0, 0), xI v267]) (rest := []) ok_L_areFigures dL_law_270 wd889 wd890 (c_areFigures C S hS v267 (by omega) (by omega)) rfl (Nat.le_of_ble_eq_true rfl) (Nat.le_of_ble_eq_true rfl) (by decide) (by omega) (by omega) (fun _ q => by cases q.1) (fun _ _ q => ?_) (fun _ _ q => by cases q.1)
  obtain ⟨yy, Q270, rfl, hQ270⟩ := q
  cases yy
  refine x_if_eq (tgt := 386) dL_law_273 (by decide) ⟨by decide, by decide⟩ (fun z => absurd z (by decide)) (fun _ => ?_)
  refine x_aload_n dL_law_276 rfl ?_
  refine x_callV (a := 0) (b := 0) (as := []) (rest := []) ok_X8_isSound dL_law_277 wd334 ⟨wd335, wd336⟩ (hp0 Q270) rfl rfl (c_isSound Q270 hQ270.2.1.1 (hQ270.2.1.2.1.seal (by rw [hQ270.2.1.2.2.2.2.2.1]; decide))) rfl (Nat.le_of_ble_eq_true rfl) (Nat.le_of_ble_eq_true rfl) (by decide) (by omega) (by omega) (fun _ q => by cases q.1) (fun _ _ q => ?_) (fun _ _ q => by cases q.1)
  obtain ⟨yy, Q277, rfl, z277, zb277⟩ := q
  cases yy
  have hQ277 := hQ270.q z277 zb277
  refine x_if_eq (tgt := 386) dL_law_280 (by decide) ⟨by decide, by decide⟩ (fun z => absurd z (by decide)) (fun _ => ?_)
  refine x_aload_n dL_law_283 rfl ?_
  refine x_iconst dL_law_284 ?_
  refine x_aload_n dL_law_285 rfl ?_
  refine x_iconst dL_law_286 ?_
  refine x_aldi (f := Q277.1 (50, 0, 0)) dL_law_287 (hp50 Q277) (show (50 : Nat) ≠ 99 by decide) (by omega) (by omega) (by decide) ?_
  refine x_top (show Q277.1 (50, 0, 0) 0 = C.1 (9, 0, 0) 3 from by rw [hQ277.2.2.1.k (k := 50) rfl (by decide)]; exact nC0) ?_
  refine x_iconst dL_law_288 ?_
  refine x_iadd dL_law_289 ?_
  refine x_iconst dL_law_290 ?_
  refine x_iconst dL_law_291 ?_
  refine x_callSH (a := 6) (b := 36) (as := [xR (0, 0, 0), xI 0, xI ((C.1 (9, 0, 0) 3) + 1), xI 0, xI 0]) (rest := []) ok_L_holds dL_law_292 wd802 wd803 (e_holds1 C Q277 hQ277.2.1 hQ277.2.2.1) rfl (Nat.le_of_ble_eq_true rfl) (Nat.le_of_ble_eq_true rfl) (by decide) (by omega) (by omega) (fun _ q => by cases q.1) (fun _ _ q => ?_) (fun _ _ q => by cases q.1)
  obtain ⟨yy, Q292, rfl, z292, zb292, -⟩ := q
  cases yy
  have hQ292 := hQ277.q z292 zb292
  refine x_ldc (v := (-900001)) dL_law_295 wd626 ?_
  refine x_icmp_ne (tgt := 386) dL_law_297 (by decide) ⟨by decide, by decide⟩ ⟨by decide, by decide⟩ (fun z => absurd z (by decide)) (fun _ => ?_)
  refine x_aload_n dL_law_300 rfl ?_
  refine x_iconst dL_law_301 ?_
  refine x_iconst dL_law_302 ?_
  refine x_iconst dL_law_303 ?_
  refine x_iconst dL_law_304 ?_
  refine x_callSH (a := 6) (b := 36) (as := [xR (0, 0, 0), xI 1, xI 0, xI 0, xI 0]) (rest := []) ok_L_holds dL_law_305 wd802 wd803 (e_holds2 C Q292 hQ292.2.1 hQ292.2.2.1) rfl (Nat.le_of_ble_eq_true rfl) (Nat.le_of_ble_eq_true rfl) (by decide) (by omega) (by omega) (fun _ q => by cases q.1) (fun _ _ q => ?_) (fun _ _ q => by cases q.1)
  obtain ⟨yy, Q305, rfl, z305, zb305, -⟩ := q
  cases yy
  have hQ305 := hQ292.q z305 zb305
  refine x_ldc (v := (-900001)) dL_law_308 wd626 ?_
  refine x_icmp_ne (tgt := 386) dL_law_310 (by decide) ⟨by decide, by decide⟩ ⟨by decide, by decide⟩ (fun z => absurd z (by decide)) (fun _ => ?_)
  refine x_aload_n dL_law_313 rfl ?_
  refine x_iconst dL_law_314 ?_
  refine x_iconst dL_law_315 ?_
  refine x_bipush (v := 24) dL_law_316 (by decide) ?_
  refine x_iconst dL_law_318 ?_
  refine x_callSH (a := 6) (b := 36) (as := [xR (0, 0, 0), xI 0, xI 0, xI 24, xI 0]) (rest := []) ok_L_holds dL_law_319 wd802 wd803 (e_holds3 C Q305 hQ305.2.1 hQ305.2.2.1) rfl (Nat.le_of_ble_eq_true rfl) (Nat.le_of_ble_eq_true rfl) (by decide) (by omega) (by omega) (fun _ q => by cases q.1) (fun _ _ q => ?_) (fun _ _ q => by cases q.1)
  obtain ⟨yy, Q319, rfl, z319, zb319, -⟩ := q
  cases yy
  have hQ319 := hQ305.q z319 zb319
  refine x_ldc (v := (-900002)) dL_law_322 wd627 ?_
  refine x_icmp_ne (tgt := 386) dL_law_324 (by decide) ⟨by decide, by decide⟩ ⟨by decide, by decide⟩ (fun z => absurd z (by decide)) (fun _ => ?_)
  refine x_aload_n dL_law_327 rfl ?_
  refine x_iconst dL_law_328 ?_
  refine x_iconst dL_law_329 ?_
  refine x_iconst dL_law_330 ?_
  refine x_sipush (v := 384) dL_law_331 (by decide) ?_
  refine x_callSH (a := 6) (b := 36) (as := [xR (0, 0, 0), xI 0, xI 0, xI 0, xI 384]) (rest := []) ok_L_holds dL_law_334 wd802 wd803 (e_holds4 C Q319 hQ319.2.1 hQ319.2.2.1) rfl (Nat.le_of_ble_eq_true rfl) (Nat.le_of_ble_eq_true rfl) (by decide) (by omega) (by omega) (fun _ q => by cases q.1) (fun _ _ q => ?_) (fun _ _ q => by cases q.1)
  obtain ⟨yy, Q334, rfl, z334, zb334, -⟩ := q
  cases yy
  have hQ334 := hQ319.q z334 zb334
  refine x_ldc (v := (-900002)) dL_law_337 wd627 ?_
  refine x_icmp_ne (tgt := 386) dL_law_339 (by decide) ⟨by decide, by decide⟩ ⟨by decide, by decide⟩ (fun z => absurd z (by decide)) (fun _ => ?_)
  refine x_aload_n dL_law_342 rfl ?_
  refine x_iconst dL_law_343 ?_
  refine x_iconst dL_law_344 ?_
  refine x_iconst dL_law_345 ?_
  refine x_iconst dL_law_346 ?_
  refine x_callSH (a := 6) (b := 36) (as := [xR (0, 0, 0), xI 0, xI (-1), xI 0, xI 0]) (rest := []) ok_L_count dL_law_347 wd717 wd718 (e_count1 C Q334 hQ334.2.1 hQ334.2.2.1) rfl (Nat.le_of_ble_eq_true rfl) (Nat.le_of_ble_eq_true rfl) (by decide) (by omega) (by omega) (fun _ q => by cases q.1) (fun _ _ q => ?_) (fun _ _ q => by cases q.1)
  obtain ⟨yy, Q347, rfl, z347, zb347, -⟩ := q
  cases yy
  have hQ347 := hQ334.q z347 zb347
  refine x_ldc (v := (-900001)) dL_law_350 wd626 ?_
  refine x_icmp_ne (tgt := 386) dL_law_352 (by decide) ⟨by decide, by decide⟩ ⟨by decide, by decide⟩ (fun z => absurd z (by decide)) (fun _ => ?_)
  refine x_aload_n dL_law_355 rfl ?_
  refine x_iconst dL_law_356 ?_
  refine x_iconst dL_law_357 ?_
  refine x_iconst dL_law_358 ?_
  refine x_bipush (v := 6) dL_law_359 (by decide) ?_
  refine x_callSH (a := 6) (b := 36) (as := [xR (0, 0, 0), xI 0, xI 0, xI 0, xI 6]) (rest := []) ok_L_count dL_law_361 wd717 wd718 (e_count2 C Q347 hQ347.2.1 hQ347.2.2.1) rfl (Nat.le_of_ble_eq_true rfl) (Nat.le_of_ble_eq_true rfl) (by decide) (by omega) (by omega) (fun _ q => by cases q.1) (fun _ _ q => ?_) (fun _ _ q => by cases q.1)
  obtain ⟨yy, Q361, rfl, z361, zb361, -⟩ := q
  cases yy
  have hQ361 := hQ347.q z361 zb361
  refine x_ldc (v := (-900002)) dL_law_364 wd627 ?_
  refine x_icmp_ne (tgt := 386) dL_law_366 (by decide) ⟨by decide, by decide⟩ ⟨by decide, by decide⟩ (fun z => absurd z (by decide)) (fun _ => ?_)
  refine x_aload_n dL_law_369 rfl ?_
  refine x_iconst dL_law_370 ?_
  refine x_iconst dL_law_371 ?_
  refine x_iconst dL_law_372 ?_
  refine x_iconst dL_law_373 ?_
  refine x_callSH (a := 6) (b := 36) (as := [xR (0, 0, 0), xI 0, xI 0, xI (-1), xI 0]) (rest := []) ok_L_rank dL_law_374 wd733 wd734 (e_rank C Q361 hQ361.2.1 hQ361.2.2.1) rfl (Nat.le_of_ble_eq_true rfl) (Nat.le_of_ble_eq_true rfl) (by decide) (by omega) (by omega) (fun _ q => by cases q.1) (fun _ _ q => ?_) (fun _ _ q => by cases q.1)
  obtain ⟨yy, Q374, rfl, z374, zb374, -⟩ := q
  cases yy
  have hQ374 := hQ361.q z374 zb374
  refine x_ldc (v := (-900002)) dL_law_377 wd627 ?_
  refine x_icmp_ne (tgt := 386) dL_law_379 (by decide) ⟨by decide, by decide⟩ ⟨by decide, by decide⟩ (fun z => absurd z (by decide)) (fun _ => ?_)
  refine x_iconst dL_law_382 ?_
  refine x_goto (tgt := 387) dL_law_383 (by decide) ?_
  refine x_istore (L' := [xR (99, 0, 0), xR (0, 0, 0), xR (50, 0, 0), none, xI 1, none, none, none, none]) dL_law_387 (by decide) rfl ?_
  refine x_iload dL_law_389 rfl ?_
  refine x_aload_n dL_law_391 rfl ?_
  refine x_iconst dL_law_392 ?_
  refine x_iconst dL_law_393 ?_
  refine x_iconst dL_law_394 ?_
  refine x_iconst dL_law_395 ?_
  refine x_callSH (a := 6) (b := 36) (as := [xR (0, 0, 0), xI 1, xI 0, xI 0, xI 0]) (rest := [xI 1]) ok_L_tell dL_law_396 wd421 wd422 (e_tell1 C Q374 hQ374.2.1 hQ374.2.2.1) rfl (Nat.le_of_ble_eq_true rfl) (Nat.le_of_ble_eq_true rfl) (by decide) (by omega) (by omega) (fun _ q => by cases q.1) (fun _ _ q => ?_) (fun _ _ q => by cases q.1)
  obtain ⟨yy, Q396, rfl, z396, zb396, -⟩ := q
  cases yy
  have hQ396 := hQ374.q z396 zb396
  refine x_ldc (v := (-900001)) dL_law_399 wd626 ?_
  refine x_icmp_ne (tgt := 563) dL_law_401 (by decide) ⟨by decide, by decide⟩ ⟨by decide, by decide⟩ (fun z => absurd z (by decide)) (fun _ => ?_)
  refine x_aload_n dL_law_404 rfl ?_
  refine x_iconst dL_law_405 ?_
  refine x_sipush (v := 384) dL_law_406 (by decide) ?_
  refine x_iconst dL_law_409 ?_
  refine x_iconst dL_law_410 ?_
  refine x_callSH (a := 6) (b := 36) (as := [xR (0, 0, 0), xI 0, xI 384, xI 0, xI 0]) (rest := [xI 1]) ok_L_tell dL_law_411 wd421 wd422 (e_tell2 C Q396 hQ396.2.1 hQ396.2.2.1) rfl (Nat.le_of_ble_eq_true rfl) (Nat.le_of_ble_eq_true rfl) (by decide) (by omega) (by omega) (fun _ q => by cases q.1) (fun _ _ q => ?_) (fun _ _ q => by cases q.1)
  obtain ⟨yy, Q411, rfl, z411, zb411, -⟩ := q
  cases yy
  have hQ411 := hQ396.q z411 zb411
  refine x_ldc (v := (-900002)) dL_law_414 wd627 ?_
  refine x_icmp_ne (tgt := 563) dL_law_416 (by decide) ⟨by decide, by decide⟩ ⟨by decide, by decide⟩ (fun z => absurd z (by decide)) (fun _ => ?_)
  refine x_aload_n dL_law_419 rfl ?_
  refine x_iconst dL_law_420 ?_
  refine x_iconst dL_law_421 ?_
  refine x_iconst dL_law_422 ?_
  refine x_iconst dL_law_423 ?_
  refine x_callSH (a := 6) (b := 36) (as := [xR (0, 0, 0), xI 0, xI 0, xI 5, xI 4]) (rest := [xI 1]) ok_L_tell dL_law_424 wd421 wd422 (e_tell3 C Q411 hQ411.2.1 hQ411.2.2.1) rfl (Nat.le_of_ble_eq_true rfl) (Nat.le_of_ble_eq_true rfl) (by decide) (by omega) (by omega) (fun _ q => by cases q.1) (fun _ _ q => ?_) (fun _ _ q => by cases q.1)
  obtain ⟨yy, Q424, rfl, z424, zb424, -⟩ := q
  cases yy
  have hQ424 := hQ411.q z424 zb424
  refine x_ldc (v := (-900002)) dL_law_427 wd627 ?_
  refine x_icmp_ne (tgt := 563) dL_law_429 (by decide) ⟨by decide, by decide⟩ ⟨by decide, by decide⟩ (fun z => absurd z (by decide)) (fun _ => ?_)
  refine x_aload_n dL_law_432 rfl ?_
  refine x_iconst dL_law_433 ?_
  refine x_iconst dL_law_434 ?_
  refine x_iconst dL_law_435 ?_
  refine x_bipush (v := 24) dL_law_436 (by decide) ?_
  refine x_callSH (a := 6) (b := 36) (as := [xR (0, 0, 0), xI 0, xI 0, xI 0, xI 24]) (rest := [xI 1]) ok_L_untell dL_law_438 wd630 wd631 (e_untell C Q424 hQ424.2.1 hQ424.2.2.1) rfl (Nat.le_of_ble_eq_true rfl) (Nat.le_of_ble_eq_true rfl) (by decide) (by omega) (by omega) (fun _ q => by cases q.1) (fun _ _ q => ?_) (fun _ _ q => by cases q.1)
  obtain ⟨yy, Q438, rfl, z438, zb438, -⟩ := q
  cases yy
  have hQ438 := hQ424.q z438 zb438
  refine x_ldc (v := (-900002)) dL_law_441 wd627 ?_
  refine x_icmp_ne (tgt := 563) dL_law_443 (by decide) ⟨by decide, by decide⟩ ⟨by decide, by decide⟩ (fun z => absurd z (by decide)) (fun _ => ?_)
  refine x_aload_n dL_law_446 rfl ?_
  refine x_iconst dL_law_447 ?_
  refine x_aload_n dL_law_448 rfl ?_
  refine x_iconst dL_law_449 ?_
  refine x_aldi (f := Q438.1 (50, 0, 0)) dL_law_450 (hp50 Q438) (show (50 : Nat) ≠ 99 by decide) (by omega) (by omega) (by decide) ?_
  refine x_top (show Q438.1 (50, 0, 0) 5 = C.1 (4, 0, 0) 2 from by rw [hQ438.2.2.1.k (k := 50) rfl (by decide)]; exact nC5) ?_
  refine x_iconst dL_law_451 ?_
  refine x_callSH (a := 6) (b := 36) (as := [xR (0, 0, 0), xI 0, xI (C.1 (4, 0, 0) 2), xI 1]) (rest := [xI 1]) ok_L_turn dL_law_452 wd681 wd682 (e_turn C Q438 hQ438.2.1 hQ438.2.2.1) rfl (Nat.le_of_ble_eq_true rfl) (Nat.le_of_ble_eq_true rfl) (by decide) (by omega) (by omega) (fun _ q => by cases q.1) (fun _ _ q => ?_) (fun _ _ q => by cases q.1)
  obtain ⟨yy, Q452, rfl, z452, zb452, -⟩ := q
  cases yy
  have hQ452 := hQ438.q z452 zb452
  refine x_ldc (v := (-900001)) dL_law_455 wd626 ?_
  refine x_icmp_ne (tgt := 563) dL_law_457 (by decide) ⟨by decide, by decide⟩ ⟨by decide, by decide⟩ (fun z => absurd z (by decide)) (fun _ => ?_)
  refine x_aload_n dL_law_460 rfl ?_
  refine x_iconst dL_law_461 ?_
  refine x_iconst dL_law_462 ?_
  refine x_aload_n dL_law_463 rfl ?_
  refine x_iconst dL_law_464 ?_
  refine x_aldi (f := Q452.1 (50, 0, 0)) dL_law_465 (hp50 Q452) (show (50 : Nat) ≠ 99 by decide) (by omega) (by omega) (by decide) ?_
  refine x_top (show Q452.1 (50, 0, 0) 0 = C.1 (9, 0, 0) 3 from by rw [hQ452.2.2.1.k (k := 50) rfl (by decide)]; exact nC0) ?_
  refine x_iconst dL_law_466 ?_
  refine x_iadd dL_law_467 ?_
  refine x_callSH (a := 6) (b := 36) (as := [xR (0, 0, 0), xI 0, xI 0, xI ((C.1 (9, 0, 0) 3) + 1)]) (rest := [xI 1]) ok_L_isOn dL_law_468 wd809 wd810 (e_isOn C Q452 hQ452.2.1 hQ452.2.2.1) rfl (Nat.le_of_ble_eq_true rfl) (Nat.le_of_ble_eq_true rfl) (by decide) (by omega) (by omega) (fun _ q => by cases q.1) (fun _ _ q => ?_) (fun _ _ q => by cases q.1)
  obtain ⟨yy, Q468, rfl, z468, zb468, -⟩ := q
  cases yy
  have hQ468 := hQ452.q z468 zb468
  refine x_ldc (v := (-900001)) dL_law_471 wd626 ?_
  refine x_icmp_ne (tgt := 563) dL_law_473 (by decide) ⟨by decide, by decide⟩ ⟨by decide, by decide⟩ (fun z => absurd z (by decide)) (fun _ => ?_)
  refine x_aload_n dL_law_476 rfl ?_
  refine x_iconst dL_law_477 ?_
  refine x_bipush (v := 6) dL_law_478 (by decide) ?_
  refine x_callSH (a := 6) (b := 36) (as := [xR (0, 0, 0), xI 0, xI 6]) (rest := [xI 1]) ok_L_layer dL_law_480 wd698 wd699 (e_layer C Q468 hQ468.2.1 hQ468.2.2.1) rfl (Nat.le_of_ble_eq_true rfl) (Nat.le_of_ble_eq_true rfl) (by decide) (by omega) (by omega) (fun _ q => by cases q.1) (fun _ _ q => ?_) (fun _ _ q => by cases q.1)
  obtain ⟨yy, Q480, rfl, z480, zb480, -⟩ := q
  cases yy
  have hQ480 := hQ468.q z480 zb480
  refine x_ldc (v := (-900002)) dL_law_483 wd627 ?_
  refine x_icmp_ne (tgt := 563) dL_law_485 (by decide) ⟨by decide, by decide⟩ ⟨by decide, by decide⟩ (fun z => absurd z (by decide)) (fun _ => ?_)
  refine x_aload_n dL_law_488 rfl ?_
  refine x_iconst dL_law_489 ?_
  refine x_callSH (a := 6) (b := 36) (as := [xR (0, 0, 0), xI (-1)]) (rest := [xI 1]) ok_L_knowing dL_law_490 wd710 wd711 (e_knowing C Q480 hQ480.2.1 hQ480.2.2.1) rfl (Nat.le_of_ble_eq_true rfl) (Nat.le_of_ble_eq_true rfl) (by decide) (by omega) (by omega) (fun _ q => by cases q.1) (fun _ _ q => ?_) (fun _ _ q => by cases q.1)
  obtain ⟨yy, Q490, rfl, z490, zb490, -⟩ := q
  cases yy
  have hQ490 := hQ480.q z490 zb490
  refine x_ldc (v := (-900001)) dL_law_493 wd626 ?_
  refine x_icmp_ne (tgt := 563) dL_law_495 (by decide) ⟨by decide, by decide⟩ ⟨by decide, by decide⟩ (fun z => absurd z (by decide)) (fun _ => ?_)
  refine x_aload_n dL_law_498 rfl ?_
  refine x_bipush (v := 6) dL_law_499 (by decide) ?_
  refine x_iconst dL_law_501 ?_
  refine x_iconst dL_law_502 ?_
  refine x_iconst dL_law_503 ?_
  refine x_iconst dL_law_504 ?_
  refine x_iconst dL_law_505 ?_
  refine x_callSH (a := 6) (b := 36) (as := [xR (0, 0, 0), xI 6, xI 0, xI 0, xI 0, xI 0, xI 0]) (rest := [xI 1]) ok_L_addRule dL_law_506 wd637 wd638 (e_addRule1 C Q490 hQ490.2.1 hQ490.2.2.1) rfl (Nat.le_of_ble_eq_true rfl) (Nat.le_of_ble_eq_true rfl) (by decide) (by omega) (by omega) (fun _ q => by cases q.1) (fun _ _ q => ?_) (fun _ _ q => by cases q.1)
  obtain ⟨yy, Q506, rfl, z506, zb506, -⟩ := q
  cases yy
  have hQ506 := hQ490.q z506 zb506
  refine x_ldc (v := (-900001)) dL_law_509 wd626 ?_
  refine x_icmp_ne (tgt := 563) dL_law_511 (by decide) ⟨by decide, by decide⟩ ⟨by decide, by decide⟩ (fun z => absurd z (by decide)) (fun _ => ?_)
  refine x_aload_n dL_law_514 rfl ?_
  refine x_iconst dL_law_515 ?_
  refine x_iconst dL_law_516 ?_
  refine x_iconst dL_law_517 ?_
  refine x_iconst dL_law_518 ?_
  refine x_iconst dL_law_519 ?_
  refine x_iconst dL_law_520 ?_
  refine x_callSH (a := 6) (b := 36) (as := [xR (0, 0, 0), xI 0, xI 0, xI 3, xI 0, xI 0, xI 0]) (rest := [xI 1]) ok_L_addRule dL_law_521 wd637 wd638 (e_addRule2 C Q506 hQ506.2.1 hQ506.2.2.1) rfl (Nat.le_of_ble_eq_true rfl) (Nat.le_of_ble_eq_true rfl) (by decide) (by omega) (by omega) (fun _ q => by cases q.1) (fun _ _ q => ?_) (fun _ _ q => by cases q.1)
  obtain ⟨yy, Q521, rfl, z521, zb521, -⟩ := q
  cases yy
  have hQ521 := hQ506.q z521 zb521
  refine x_ldc (v := (-900001)) dL_law_524 wd626 ?_
  refine x_icmp_ne (tgt := 563) dL_law_526 (by decide) ⟨by decide, by decide⟩ ⟨by decide, by decide⟩ (fun z => absurd z (by decide)) (fun _ => ?_)
  refine x_aload_n dL_law_529 rfl ?_
  refine x_aload_n dL_law_530 rfl ?_
  refine x_iconst dL_law_531 ?_
  refine x_aldi (f := Q521.1 (50, 0, 0)) dL_law_532 (hp50 Q521) (show (50 : Nat) ≠ 99 by decide) (by omega) (by omega) (by decide) ?_
  refine x_top (show Q521.1 (50, 0, 0) 5 = C.1 (4, 0, 0) 2 from by rw [hQ521.2.2.1.k (k := 50) rfl (by decide)]; exact nC5) ?_
  refine x_iconst dL_law_533 ?_
  refine x_iconst dL_law_534 ?_
  refine x_iconst dL_law_535 ?_
  refine x_iconst dL_law_536 ?_
  refine x_callSH (a := 6) (b := 36) (as := [xR (0, 0, 0), xI (C.1 (4, 0, 0) 2), xI 0, xI 0, xI 0, xI 0]) (rest := [xI 1]) ok_L_addCondition dL_law_537 wd668 wd669 (e_addCond1 C Q521 hQ521.2.1 hQ521.2.2.1) rfl (Nat.le_of_ble_eq_true rfl) (Nat.le_of_ble_eq_true rfl) (by decide) (by omega) (by omega) (fun _ q => by cases q.1) (fun _ _ q => ?_) (fun _ _ q => by cases q.1)
  obtain ⟨yy, Q537, rfl, z537, zb537, -⟩ := q
  cases yy
  have hQ537 := hQ521.q z537 zb537
  refine x_ldc (v := (-900001)) dL_law_540 wd626 ?_
  refine x_icmp_ne (tgt := 563) dL_law_542 (by decide) ⟨by decide, by decide⟩ ⟨by decide, by decide⟩ (fun z => absurd z (by decide)) (fun _ => ?_)
  refine x_aload_n dL_law_545 rfl ?_
  refine x_iconst dL_law_546 ?_
  refine x_iconst dL_law_547 ?_
  refine x_iconst dL_law_548 ?_
  refine x_iconst dL_law_549 ?_
  refine x_iconst dL_law_550 ?_
  refine x_callSH (a := 6) (b := 36) (as := [xR (0, 0, 0), xI 0, xI 0, xI 0, xI 3, xI 0]) (rest := [xI 1]) ok_L_addCondition dL_law_551 wd668 wd669 (e_addCond2 C Q537 hQ537.2.1 hQ537.2.2.1 h4) rfl (Nat.le_of_ble_eq_true rfl) (Nat.le_of_ble_eq_true rfl) (by decide) (by omega) (by omega) (fun _ q => by cases q.1) (fun _ _ q => ?_) (fun _ _ q => by cases q.1)
  obtain ⟨yy, Q551, rfl, z551, zb551, -⟩ := q
  cases yy
  have hQ551 := hQ537.q z551 zb551
  refine x_ldc (v := (-900002)) dL_law_554 wd627 ?_
  refine x_icmp_ne (tgt := 563) dL_law_556 (by decide) ⟨by decide, by decide⟩ ⟨by decide, by decide⟩ (fun z => absurd z (by decide)) (fun _ => ?_)
  refine x_iconst dL_law_559 ?_
  refine x_goto (tgt := 564) dL_law_560 (by decide) ?_
  refine x_iand dL_law_564 ?_
  refine x_top (show zAnd 1 1 = 1 from by decide) ?_
  refine x_istore (L' := [xR (99, 0, 0), xR (0, 0, 0), xR (50, 0, 0), none, xI 1, none, none, none, none]) dL_law_565 (by decide) rfl ?_
  exact X.weak (l_lawS C hC hC4 h4 hCn h22 Q551 hQ551) (by omega) (by omega) (fun _ _ q => q)
set_option maxHeartbeats 4000000 in
set_option maxRecDepth 100000 in
theorem l_lawR (C : XS) (hC : LW C) (hC4 : C.1 (4, 0, 0) 2 ≤ 4) (h4 : 1 ≤ C.1 (4, 0, 0) 2) (hCn : C.2.2.2.2.2 < 1000000) (h22 : C.1 (9, 0, 0) 3 ≤ 22) : ∀ (nn : Nat) (S : XS) (k : Nat) (kc ks : Nat), 5 - (k : Int) < (nn : Int) → (k ≤ 4) → (10983 + 10984 * (4 - k) ≤ kc ∧ 33773 + 33779 * (4 - k) ≤ ks) → (PH C S) → X mL_law 182 [xR (99, 0, 0), xR (0, 0, 0), xR (50, 0, 0), none, xI (k : Int), none, none, none, none] [] (hp S) kc ks (pE) := by
  intro nn
  induction nn with
  | zero => intro S k kc ks hm hk hkk hS; exfalso; omega
  | succ nn ih =>
    intro S k kc ks hm hk hkk hS
    have nC0 : C.1 (50, 0, 0) 0 = C.1 (9, 0, 0) 3 := hC.2.2.1.1
    have nC5 : C.1 (50, 0, 0) 5 = C.1 (4, 0, 0) 2 := hC.2.2.2.1.1
    have c9 := wf9_3 hC.1.1 (b := 0) (by decide) (by decide)
    have c4 := wf4_2 hC.1.1
    have hw := hS.2.1.1.1
    have hz := hw.1
    have hn := hS.hn
    refine x_iload dL_law_182 rfl ?_
    refine x_iconst dL_law_184 ?_
    refine x_icmp_ge (tgt := 261) dL_law_185 (by decide) (by first | exact hz _ _ | exact hw.1 _ _ | exact zR_of _ | exact bI_z _ | assumption | exact ⟨by omega, by omega⟩) ⟨by decide, by decide⟩ (fun c185 => ?_) (fun c185 => ?_)
    · refine X.loc (L' := [xR (99, 0, 0), xR (0, 0, 0), xR (50, 0, 0), none, none, none, none, none, none]) ⟨rfl, ⟨rfl, ⟨rfl, trivial⟩⟩⟩ ?_
      exact X.weak (l_lawQ C hC hC4 h4 hCn h22 S hS) (by omega) (by omega) (fun _ _ q => q)
    · refine x_aload_n dL_law_188 rfl ?_
      refine x_sipush (v := 240) dL_law_189 (by decide) ?_
      refine x_iload dL_law_192 rfl ?_
      refine x_iadd dL_law_194 ?_
      refine x_bipush (v := 24) dL_law_195 (by decide) ?_
      refine x_callS (a := 0) (b := 0) (as := [xR (99, 0, 0), xI (240 + (k : Int)), xI 24]) (rest := []) ok_L_in dL_law_197 wd824 wd825 (c_in S hw hS.hn (240 + (k : Int)) 24 (by omega) (by omega) (by omega) (by omega)) rfl (Nat.le_of_ble_eq_true rfl) (Nat.le_of_ble_eq_true rfl) (by decide) (by omega) (by omega) (fun _ q => by obtain ⟨_, _, q, _⟩ := q; cases q) (fun _ _ q => ?_) (fun _ _ q => by obtain ⟨_, _, q, _⟩ := q; cases q)
      obtain ⟨v197, hv197, y, rfl⟩ := q
      cases y
      refine x_istore (L' := [xR (99, 0, 0), xR (0, 0, 0), xR (50, 0, 0), none, xI (k : Int), xI v197, none, none, none]) dL_law_200 (by decide) rfl ?_
      refine x_iload dL_law_202 rfl ?_
      refine x_if_ne (tgt := 213) dL_law_204 (by decide) (by first | exact hz _ _ | exact hw.1 _ _ | exact zR_of _ | exact bI_z _ | assumption | exact ⟨by omega, by omega⟩) (fun c204 => ?_) (fun c204 => ?_)
      · refine x_aload_n dL_law_213 rfl ?_
        refine x_sipush (v := 250) dL_law_214 (by decide) ?_
        refine x_iload dL_law_217 rfl ?_
        refine x_iadd dL_law_219 ?_
        refine x_aload_n dL_law_220 rfl ?_
        refine x_iconst dL_law_221 ?_
        refine x_aldi (f := S.1 (50, 0, 0)) dL_law_222 (hp50 S) (show (50 : Nat) ≠ 99 by decide) (by omega) (by omega) (by decide) ?_
        refine x_top (show S.1 (50, 0, 0) 0 = C.1 (9, 0, 0) 3 from by rw [hS.2.2.1.k (k := 50) rfl (by decide)]; exact nC0) ?_
        refine x_iconst dL_law_223 ?_
        refine x_iadd dL_law_224 ?_
        refine x_callS (a := 0) (b := 0) (as := [xR (99, 0, 0), xI (250 + (k : Int)), xI ((C.1 (9, 0, 0) 3) + 1)]) (rest := []) ok_L_in dL_law_225 wd824 wd825 (c_in S hw hS.hn (250 + (k : Int)) ((C.1 (9, 0, 0) 3) + 1) (by omega) (by omega) (by omega) (by omega)) rfl (Nat.le_of_ble_eq_true rfl) (Nat.le_of_ble_eq_true rfl) (by decide) (by omega) (by omega) (fun _ q => by obtain ⟨_, _, q, _⟩ := q; cases q) (fun _ _ q => ?_) (fun _ _ q => by obtain ⟨_, _, q, _⟩ := q; cases q)
        obtain ⟨v225, hv225, y, rfl⟩ := q
        cases y
        refine x_top (show v225 = ((v225.toNat : Nat) : Int) from by omega) ?_
        refine x_istore (L' := [xR (99, 0, 0), xR (0, 0, 0), xR (50, 0, 0), none, xI (k : Int), xI v197, xI ((v225.toNat : Nat) : Int), none, none]) dL_law_228 (by decide) rfl ?_
        refine x_aload_n dL_law_230 rfl ?_
        refine x_aload_n dL_law_231 rfl ?_
        refine x_iconst dL_law_232 ?_
        refine x_iload dL_law_233 rfl ?_
        refine x_iload dL_law_235 rfl ?_
        refine x_aload_n dL_law_237 rfl ?_
        refine x_sipush (v := 260) dL_law_238 (by decide) ?_
        refine x_bipush (v := 12) dL_law_241 (by decide) ?_
        refine x_iload dL_law_243 rfl ?_
        refine x_imul dL_law_245 ?_
        refine x_iadd dL_law_246 ?_
        refine x_callS (a := 10984) (b := 33779) (as := [xR (0, 0, 0), xR (50, 0, 0), xI 0, xI ((v225.toNat : Nat) : Int), xI v197, xR (99, 0, 0), xI (260 + (12 * (k : Int)))]) (rest := []) ok_L_areRanks dL_law_247 wd870 wd871 (c_areRanks C S hS v225.toNat (by omega) v197 (by omega) (by omega) (260 + (12 * (k : Int))) (by omega) (by omega)) rfl (Nat.le_of_ble_eq_true rfl) (Nat.le_of_ble_eq_true rfl) (by decide) (by omega) (by omega) (fun _ q => by cases q.1) (fun _ _ q => ?_) (fun _ _ q => by cases q.1)
        obtain ⟨yy, Q247, rfl, hQ247⟩ := q
        cases yy
        refine x_if_ne (tgt := 255) dL_law_250 (by decide) ⟨by decide, by decide⟩ (fun _ => ?_) (fun z => absurd z (by decide))
        refine x_iinc (L' := [xR (99, 0, 0), xR (0, 0, 0), xR (50, 0, 0), none, xI ((k : Int) + 1), xI v197, xI ((v225.toNat : Nat) : Int), none, none]) dL_law_255 rfl rfl ?_
        refine x_goto (tgt := 182) dL_law_258 (by decide) ?_
        refine X.loc (L' := [xR (99, 0, 0), xR (0, 0, 0), xR (50, 0, 0), none, xI ((k : Int) + 1), none, none, none, none]) ⟨rfl, ⟨rfl, ⟨rfl, ⟨rfl, trivial⟩⟩⟩⟩ ?_
        exact ih Q247 (k + 1) (kc - 10984) (ks - 33779) (by omega) (by omega) (by omega) hQ247
      · refine x_aload_n dL_law_207 rfl ?_
        refine x_iconst dL_law_208 ?_
        refine x_aldi (f := S.1 (50, 0, 0)) dL_law_209 (hp50 S) (show (50 : Nat) ≠ 99 by decide) (by omega) (by omega) (by decide) ?_
        refine x_top (show S.1 (50, 0, 0) 0 = C.1 (9, 0, 0) 3 from by rw [hS.2.2.1.k (k := 50) rfl (by decide)]; exact nC0) ?_
        refine x_goto (tgt := 228) dL_law_210 (by decide) ?_
        refine x_top (show C.1 (9, 0, 0) 3 = (((C.1 (9, 0, 0) 3).toNat : Nat) : Int) from by omega) ?_
        refine x_istore (L' := [xR (99, 0, 0), xR (0, 0, 0), xR (50, 0, 0), none, xI (k : Int), xI v197, xI (((C.1 (9, 0, 0) 3).toNat : Nat) : Int), none, none]) dL_law_228 (by decide) rfl ?_
        refine x_aload_n dL_law_230 rfl ?_
        refine x_aload_n dL_law_231 rfl ?_
        refine x_iconst dL_law_232 ?_
        refine x_iload dL_law_233 rfl ?_
        refine x_iload dL_law_235 rfl ?_
        refine x_aload_n dL_law_237 rfl ?_
        refine x_sipush (v := 260) dL_law_238 (by decide) ?_
        refine x_bipush (v := 12) dL_law_241 (by decide) ?_
        refine x_iload dL_law_243 rfl ?_
        refine x_imul dL_law_245 ?_
        refine x_iadd dL_law_246 ?_
        refine x_callS (a := 10984) (b := 33779) (as := [xR (0, 0, 0), xR (50, 0, 0), xI 0, xI (((C.1 (9, 0, 0) 3).toNat : Nat) : Int), xI v197, xR (99, 0, 0), xI (260 + (12 * (k : Int)))]) (rest := []) ok_L_areRanks dL_law_247 wd870 wd871 (c_areRanks C S hS (C.1 (9, 0, 0) 3).toNat (by omega) v197 (by omega) (by omega) (260 + (12 * (k : Int))) (by omega) (by omega)) rfl (Nat.le_of_ble_eq_true rfl) (Nat.le_of_ble_eq_true rfl) (by decide) (by omega) (by omega) (fun _ q => by cases q.1) (fun _ _ q => ?_) (fun _ _ q => by cases q.1)
        obtain ⟨yy, Q247, rfl, hQ247⟩ := q
        cases yy
        refine x_if_ne (tgt := 255) dL_law_250 (by decide) ⟨by decide, by decide⟩ (fun _ => ?_) (fun z => absurd z (by decide))
        refine x_iinc (L' := [xR (99, 0, 0), xR (0, 0, 0), xR (50, 0, 0), none, xI ((k : Int) + 1), xI v197, xI (((C.1 (9, 0, 0) 3).toNat : Nat) : Int), none, none]) dL_law_255 rfl rfl ?_
        refine x_goto (tgt := 182) dL_law_258 (by decide) ?_
        refine X.loc (L' := [xR (99, 0, 0), xR (0, 0, 0), xR (50, 0, 0), none, xI ((k : Int) + 1), none, none, none, none]) ⟨rfl, ⟨rfl, ⟨rfl, ⟨rfl, trivial⟩⟩⟩⟩ ?_
        exact ih Q247 (k + 1) (kc - 10984) (ks - 33779) (by omega) (by omega) (by omega) hQ247
set_option maxHeartbeats 4000000 in
set_option maxRecDepth 100000 in
theorem l_lawI (C : XS) (hC : LW C) (hC4 : C.1 (4, 0, 0) 2 ≤ 4) (h4 : 1 ≤ C.1 (4, 0, 0) 2) (hCn : C.2.2.2.2.2 < 1000000) (h22 : C.1 (9, 0, 0) 3 ≤ 22) : ∀ (nn : Nat) (S : XS) (r : Nat) (kc ks : Nat), 5 - (r : Int) < (nn : Int) → ((r : Int) ≤ C.1 (4, 0, 0) 2) → (54919 + 6 * (4 - r) ≤ kc ∧ 168889 + 36 * (4 - r) ≤ ks) → (PH C S) → X mL_law 117 [xR (99, 0, 0), xR (0, 0, 0), xR (50, 0, 0), none, xI (r : Int), none, none, none, none] [] (hp S) kc ks (pE) := by
  intro nn
  induction nn with
  | zero => intro S r kc ks hm hr hkk hS; exfalso; omega
  | succ nn ih =>
    intro S r kc ks hm hr hkk hS
    have nC0 : C.1 (50, 0, 0) 0 = C.1 (9, 0, 0) 3 := hC.2.2.1.1
    have nC5 : C.1 (50, 0, 0) 5 = C.1 (4, 0, 0) 2 := hC.2.2.2.1.1
    have c9 := wf9_3 hC.1.1 (b := 0) (by decide) (by decide)
    have c4 := wf4_2 hC.1.1
    have hw := hS.2.1.1.1
    have hz := hw.1
    have hn := hS.hn
    have b9 := fun n : Nat => bI_01 (bitI (onN C.1 0 n) (r : Int))
    refine x_iload dL_law_117 rfl ?_
    refine x_aload_n dL_law_119 rfl ?_
    refine x_iconst dL_law_120 ?_
    refine x_aldi (f := S.1 (50, 0, 0)) dL_law_121 (hp50 S) (show (50 : Nat) ≠ 99 by decide) (by omega) (by omega) (by decide) ?_
    refine x_top (show S.1 (50, 0, 0) 5 = C.1 (4, 0, 0) 2 from by rw [hS.2.2.1.k (k := 50) rfl (by decide)]; exact nC5) ?_
    refine x_icmp_ge (tgt := 179) dL_law_122 (by decide) (by first | exact hz _ _ | exact hw.1 _ _ | exact zR_of _ | exact bI_z _ | assumption | exact ⟨by omega, by omega⟩) (by first | exact hz _ _ | exact hw.1 _ _ | exact zR_of _ | exact bI_z _ | assumption | exact ⟨by omega, by omega⟩) (fun c122 => ?_) (fun c122 => ?_)
    · refine x_iconst dL_law_179 ?_
      refine x_istore (L' := [xR (99, 0, 0), xR (0, 0, 0), xR (50, 0, 0), none, xI 0, none, none, none, none]) dL_law_180 (by decide) rfl ?_
      exact X.weak (l_lawR C hC hC4 h4 hCn h22 6 S 0 54919 168889 (by omega) (by omega) (by omega) hS) (by omega) (by omega) (fun _ _ q => q)
    · refine x_aload_n dL_law_125 rfl ?_
      refine x_sipush (v := 230) dL_law_126 (by decide) ?_
      refine x_iload dL_law_129 rfl ?_
      refine x_iadd dL_law_131 ?_
      refine x_aload_n dL_law_132 rfl ?_
      refine x_iconst dL_law_133 ?_
      refine x_aldi (f := S.1 (50, 0, 0)) dL_law_134 (hp50 S) (show (50 : Nat) ≠ 99 by decide) (by omega) (by omega) (by decide) ?_
      refine x_top (show S.1 (50, 0, 0) 0 = C.1 (9, 0, 0) 3 from by rw [hS.2.2.1.k (k := 50) rfl (by decide)]; exact nC0) ?_
      refine x_iconst dL_law_135 ?_
      refine x_iadd dL_law_136 ?_
      refine x_callS (a := 0) (b := 0) (as := [xR (99, 0, 0), xI (230 + (r : Int)), xI ((C.1 (9, 0, 0) 3) + 1)]) (rest := []) ok_L_in dL_law_137 wd824 wd825 (c_in S hw hS.hn (230 + (r : Int)) ((C.1 (9, 0, 0) 3) + 1) (by omega) (by omega) (by omega) (by omega)) rfl (Nat.le_of_ble_eq_true rfl) (Nat.le_of_ble_eq_true rfl) (by decide) (by omega) (by omega) (fun _ q => by obtain ⟨_, _, q, _⟩ := q; cases q) (fun _ _ q => ?_) (fun _ _ q => by obtain ⟨_, _, q, _⟩ := q; cases q)
      obtain ⟨v137, hv137, y, rfl⟩ := q
      cases y
      refine x_top (show v137 = ((v137.toNat : Nat) : Int) from by omega) ?_
      have b01 := b9 v137.toNat
      refine x_istore (L' := [xR (99, 0, 0), xR (0, 0, 0), xR (50, 0, 0), none, xI (r : Int), xI ((v137.toNat : Nat) : Int), none, none, none]) dL_law_140 (by decide) rfl ?_
      refine x_aload_n dL_law_142 rfl ?_
      refine x_iconst dL_law_143 ?_
      refine x_iload dL_law_144 rfl ?_
      refine x_iload dL_law_146 rfl ?_
      refine x_callSH (a := 6) (b := 36) (as := [xR (0, 0, 0), xI 0, xI (r : Int), xI ((v137.toNat : Nat) : Int)]) (rest := []) ok_L_isOn dL_law_148 wd809 wd810 (k_isOn C S hS.2.1 hS.2.2.1 v137.toNat (by omega) (r : Int) (by omega) (by omega)) rfl (Nat.le_of_ble_eq_true rfl) (Nat.le_of_ble_eq_true rfl) (by decide) (by omega) (by omega) (fun _ q => by cases q.1) (fun _ _ q => ?_) (fun _ _ q => by cases q.1)
      obtain ⟨yy, Q148, rfl, z148, zb148, -⟩ := q
      cases yy
      have hQ148 := hS.q z148 zb148
      refine x_aload_n dL_law_151 rfl ?_
      refine x_iconst dL_law_152 ?_
      refine x_iload dL_law_153 rfl ?_
      refine x_iload dL_law_155 rfl ?_
      refine x_callS_r (a := 0) (b := 0) (as := [xR (50, 0, 0), xI 0, xI ((v137.toNat : Nat) : Int), xI (r : Int)]) (rest := [xI (bI (bitI (onN C.1 0 v137.toNat) (r : Int)))]) ok_L_isRuled dL_law_157 wd839 wd840 (c_isRuledN C Q148 hC.1 hQ148.2.1.1.1 (hC.2.2.1.k hQ148.2.2.1) v137.toNat (by omega) r (by omega)) rfl (Nat.le_of_ble_eq_true rfl) (Nat.le_of_ble_eq_true rfl) (by decide) (by omega) (by omega) ?_
      refine x_if_eq (tgt := 167) dL_law_160 (by decide) (by first | exact hz _ _ | exact hw.1 _ _ | exact zR_of _ | exact bI_z _ | assumption | exact ⟨by omega, by omega⟩) (fun c160 => ?_) (fun c160 => ?_)
      · refine x_iconst dL_law_167 ?_
        refine x_icmp_eq (tgt := 173) dL_law_168 (by decide) (by first | exact hz _ _ | exact hw.1 _ _ | exact zR_of _ | exact bI_z _ | assumption | exact ⟨by omega, by omega⟩) ⟨by decide, by decide⟩ (fun c168 => ?_) (fun c168 => by exfalso; omega)
        refine x_iinc (L' := [xR (99, 0, 0), xR (0, 0, 0), xR (50, 0, 0), none, xI ((r : Int) + 1), xI ((v137.toNat : Nat) : Int), none, none, none]) dL_law_173 rfl rfl ?_
        refine x_goto (tgt := 117) dL_law_176 (by decide) ?_
        refine X.loc (L' := [xR (99, 0, 0), xR (0, 0, 0), xR (50, 0, 0), none, xI ((r : Int) + 1), none, none, none, none]) ⟨rfl, ⟨rfl, ⟨rfl, ⟨rfl, trivial⟩⟩⟩⟩ ?_
        exact ih Q148 (r + 1) (kc - 6) (ks - 36) (by omega) (by omega) (by omega) hQ148
      · refine x_iconst dL_law_163 ?_
        refine x_goto (tgt := 168) dL_law_164 (by decide) ?_
        refine x_icmp_eq (tgt := 173) dL_law_168 (by decide) (by first | exact hz _ _ | exact hw.1 _ _ | exact zR_of _ | exact bI_z _ | assumption | exact ⟨by omega, by omega⟩) ⟨by decide, by decide⟩ (fun c168 => ?_) (fun c168 => by exfalso; omega)
        refine x_iinc (L' := [xR (99, 0, 0), xR (0, 0, 0), xR (50, 0, 0), none, xI ((r : Int) + 1), xI ((v137.toNat : Nat) : Int), none, none, none]) dL_law_173 rfl rfl ?_
        refine x_goto (tgt := 117) dL_law_176 (by decide) ?_
        refine X.loc (L' := [xR (99, 0, 0), xR (0, 0, 0), xR (50, 0, 0), none, xI ((r : Int) + 1), none, none, none, none]) ⟨rfl, ⟨rfl, ⟨rfl, ⟨rfl, trivial⟩⟩⟩⟩ ?_
        exact ih Q148 (r + 1) (kc - 6) (ks - 36) (by omega) (by omega) (by omega) hQ148
set_option maxHeartbeats 4000000 in
set_option maxRecDepth 100000 in
theorem l_lawL (C : XS) (hC : LW C) (hC4 : C.1 (4, 0, 0) 2 ≤ 4) (h4 : 1 ≤ C.1 (4, 0, 0) 2) (hCn : C.2.2.2.2.2 < 1000000) (h22 : C.1 (9, 0, 0) 3 ≤ 22) (W : XS) (d : Int) (d0 : 0 ≤ d) (d1 : d < W.2.2.2.1 52) (hg : LyG C.1 (onN C.1 0 (C.1 (9, 0, 0) 3).toNat) (W.1 (52, d, 0))) : ∀ (nn : Nat) (S : XS) (r : Nat) (kc ks : Nat), 7 - (r : Int) < (nn : Int) → (r ≤ 6) → (54943 + 6 * (6 - r) ≤ kc ∧ 169033 + 36 * (6 - r) ≤ ks) → (PH C S) → (QEq W S) → X mL_law 85 [xR (99, 0, 0), xR (0, 0, 0), xR (50, 0, 0), xR (52, d, 0), xI (r : Int), none, none, none, none] [] (hp S) kc ks (pE) := by
  intro nn
  induction nn with
  | zero => intro S r kc ks hm hr hkk hS eS; exfalso; omega
  | succ nn ih =>
    intro S r kc ks hm hr hkk hS eS
    have nC0 : C.1 (50, 0, 0) 0 = C.1 (9, 0, 0) 3 := hC.2.2.1.1
    have nC5 : C.1 (50, 0, 0) 5 = C.1 (4, 0, 0) 2 := hC.2.2.2.1.1
    have c9 := wf9_3 hC.1.1 (b := 0) (by decide) (by decide)
    have c4 := wf4_2 hC.1.1
    have hw := hS.2.1.1.1
    have hz := hw.1
    have hn := hS.hn
    refine x_iload dL_law_85 rfl ?_
    refine x_bipush (v := 6) dL_law_87 (by decide) ?_
    refine x_icmp_ge (tgt := 114) dL_law_89 (by decide) (by first | exact hz _ _ | exact hw.1 _ _ | exact zR_of _ | exact bI_z _ | assumption | exact ⟨by omega, by omega⟩) ⟨by decide, by decide⟩ (fun c89 => ?_) (fun c89 => ?_)
    · refine x_iconst dL_law_114 ?_
      refine x_istore (L' := [xR (99, 0, 0), xR (0, 0, 0), xR (50, 0, 0), xR (52, d, 0), xI 0, none, none, none, none]) dL_law_115 (by decide) rfl ?_
      refine X.loc (L' := [xR (99, 0, 0), xR (0, 0, 0), xR (50, 0, 0), none, xI 0, none, none, none, none]) ⟨rfl, ⟨rfl, ⟨rfl, ⟨rfl, trivial⟩⟩⟩⟩ ?_
      exact X.weak (l_lawI C hC hC4 h4 hCn h22 6 S 0 54943 169033 (by omega) (by omega) (by omega) hS) (by omega) (by omega) (fun _ _ q => q)
    · have gr := hg.1 (r : Int) (by omega) (by omega)
      refine x_aload_n dL_law_92 rfl ?_
      refine x_iconst dL_law_93 ?_
      refine x_iload dL_law_94 rfl ?_
      refine x_callSH (a := 6) (b := 36) (as := [xR (0, 0, 0), xI 0, xI (r : Int)]) (rest := []) ok_L_layer dL_law_96 wd698 wd699 (k_layer C S hS.2.1 hS.2.2.1 (W.1 (52, d, 0)) hg (r : Int) (by omega) (by omega)) rfl (Nat.le_of_ble_eq_true rfl) (Nat.le_of_ble_eq_true rfl) (by decide) (by omega) (by omega) (fun _ q => by cases q.1) (fun _ _ q => ?_) (fun _ _ q => by cases q.1)
      obtain ⟨yy, Q96, rfl, z96, zb96, -⟩ := q
      cases yy
      have hQ96 := hS.q z96 zb96
      have eQ96 := eS.tr z96
      have x52 : Q96.2.2.2.1 52 = W.2.2.2.1 52 := by rw [eQ96.2.2]
      refine x_aload_n dL_law_99 rfl ?_
      refine x_iload dL_law_100 rfl ?_
      refine x_aldi (f := Q96.1 (52, d, 0)) dL_law_102 (hp52 Q96 (by omega) (by omega)) (show (52 : Nat) ≠ 99 by decide) (by omega) (by omega) (by decide) ?_
      refine x_top (show Q96.1 (52, d, 0) (r : Int) = (W.1 (52, d, 0)) (r : Int) from by rw [eQ96.1 (52, d, 0) rfl]) ?_
      refine x_icmp_eq (tgt := 108) dL_law_103 (by decide) (by first | exact hz _ _ | exact hw.1 _ _ | exact zR_of _ | exact bI_z _ | assumption | exact ⟨by omega, by omega⟩) (by first | exact hz _ _ | exact hw.1 _ _ | exact zR_of _ | exact bI_z _ | assumption | exact ⟨by omega, by omega⟩) (fun c103 => ?_) (fun c103 => by exfalso; omega)
      refine x_iinc (L' := [xR (99, 0, 0), xR (0, 0, 0), xR (50, 0, 0), xR (52, d, 0), xI ((r : Int) + 1), none, none, none, none]) dL_law_108 rfl rfl ?_
      refine x_goto (tgt := 85) dL_law_111 (by decide) ?_
      exact ih Q96 (r + 1) (kc - 6) (ks - 36) (by omega) (by omega) (by omega) hQ96 eQ96
set_option maxHeartbeats 4000000 in
set_option maxRecDepth 100000 in
theorem l_lawM (C : XS) (hC : LW C) (hC4 : C.1 (4, 0, 0) 2 ≤ 4) (h4 : 1 ≤ C.1 (4, 0, 0) 2) (hCn : C.2.2.2.2.2 < 1000000) (h22 : C.1 (9, 0, 0) 3 ≤ 22) : X mL_law 69 [xR (99, 0, 0), xR (0, 0, 0), xR (50, 0, 0), none, none, none, none, none, none] [] (hp C) 54981 169266 (pE) := by
  have nC0 : C.1 (50, 0, 0) 0 = C.1 (9, 0, 0) 3 := hC.2.2.1.1
  have nC5 : C.1 (50, 0, 0) 5 = C.1 (4, 0, 0) 2 := hC.2.2.2.1.1
  have c9 := wf9_3 hC.1.1 (b := 0) (by decide) (by decide)
  have c4 := wf4_2 hC.1.1
  refine x_aload_n dL_law_69 rfl ?_
  refine x_aload_n dL_law_70 rfl ?_
  refine x_iconst dL_law_71 ?_
  refine x_aload_n dL_law_72 rfl ?_
  refine x_iconst dL_law_73 ?_
  refine x_aldi (f := C.1 (50, 0, 0)) dL_law_74 (hp50 C) (show (50 : Nat) ≠ 99 by decide) (by omega) (by omega) (by decide) ?_
  refine x_top (show C.1 (50, 0, 0) 0 = (((C.1 (9, 0, 0) 3).toNat : Nat) : Int) from by have := nC0; omega) ?_
  refine x_callS (a := 1) (b := 10) (as := [xR (50, 0, 0), xI 0, xI (((C.1 (9, 0, 0) 3).toNat : Nat) : Int)]) (rest := [xR (50, 0, 0)]) ok_L_rules dL_law_75 wd846 wd847 (c_rules C C hC.1 hC.1.1 hC.2.2.1 hC.2.2.2.1 hC.2.2.2.2.1 (C.1 (9, 0, 0) 3).toNat (by omega)) rfl (Nat.le_of_ble_eq_true rfl) (Nat.le_of_ble_eq_true rfl) (by decide) (by omega) (by omega) (fun _ q => by cases q.1) (fun _ _ q => ?_) (fun _ _ q => by cases q.1)
  obtain ⟨y, U, rfl, eU, wU, cU, oU⟩ := q
  cases y
  refine x_callS (a := 1) (b := 7) (as := [xR (50, 0, 0), xR (51, C.2.2.2.1 51, 0)]) (rest := []) ok_L_layers dL_law_78 wd842 wd843 (c_layers C U hC.1.1 wU (hC.2.2.2.1.q eU) (hC.2.2.2.2.1.q eU) (C.2.2.2.1 51) hC.2.2.2.2.1.1 (by omega) (onN C.1 0 (C.1 (9, 0, 0) 3).toNat) oU) rfl (Nat.le_of_ble_eq_true rfl) (Nat.le_of_ble_eq_true rfl) (by decide) (by omega) (by omega) (fun _ q => by cases q.1) (fun _ _ q => ?_) (fun _ _ q => by cases q.1)
  obtain ⟨y, V, rfl, ⟨eV, wV, cV⟩, hV⟩ := q
  cases y
  refine x_astore_n (L' := [xR (99, 0, 0), xR (0, 0, 0), xR (50, 0, 0), xR (52, U.2.2.2.1 52, 0), none, none, none, none, none]) dL_law_81 (by decide) rfl ?_
  refine x_iconst dL_law_82 ?_
  refine x_istore (L' := [xR (99, 0, 0), xR (0, 0, 0), xR (50, 0, 0), xR (52, U.2.2.2.1 52, 0), xI 0, none, none, none, none]) dL_law_83 (by decide) rfl ?_
  have ly : LyG C.1 (onN C.1 0 (C.1 (9, 0, 0) 3).toNat) (V.1 (52, U.2.2.2.1 52, 0)) := by
    rcases hV with k | ⟨-, k⟩
    · exact k.2
    · obtain ⟨g, g1, g2⟩ := hC.1.2.2.2.1 0 (by omega) (by have := hC.2.2.2.2.2.1; omega) (C.1 (9, 0, 0) 3).toNat (by omega)
      exact absurd g2 (k g g1)
  have h52 := (hC.2.2.2.2.1.q eU).2.1
  have hP : PH C C := ⟨hC, hC, KQ.rf C, hC4, hCn⟩
  exact X.weak (l_lawL C hC hC4 h4 hCn h22 V (U.2.2.2.1 52) h52 (by omega) ly 8 V 0 54979 169249 (by omega) (by omega) (by omega) (hP.n (eU.tr eV) wV) (QEq.rf V)) (by omega) (by omega) (fun _ _ q => q)
set_option maxHeartbeats 4000000 in
set_option maxRecDepth 100000 in
theorem l_lawT  : ∀ (nn : Nat) (U : XS) (k : Nat) (kc ks : Nat), 23 - (k : Int) < (nn : Int) → (k ≤ 22) → (54981 + 14 * (22 - k) ≤ kc ∧ 169266 + 89 * (22 - k) ≤ ks) → (LW U) → (1 ≤ U.1 (4, 0, 0) 2 ∧ U.1 (4, 0, 0) 2 ≤ 4) → (U.1 (9, 0, 0) 3 ≤ k) → (U.2.2.2.2.2 < 1000000) → X mL_law 27 [xR (99, 0, 0), xR (0, 0, 0), xR (50, 0, 0), xI (k : Int), none, none, none, none, none] [] (hp U) kc ks (pE) := by
  intro nn
  induction nn with
  | zero => intro U k kc ks hm hk hkk hU u4 u9 hn; exfalso; omega
  | succ nn ih =>
    intro U k kc ks hm hk hkk hU u4 u9 hn
    have hw := hU.1.1
    have hz := hw.1
    refine x_iload_n dL_law_27 rfl ?_
    refine x_bipush (v := 22) dL_law_28 (by decide) ?_
    refine x_icmp_ge (tgt := 69) dL_law_30 (by decide) (by first | exact hz _ _ | exact hw.1 _ _ | exact zR_of _ | exact bI_z _ | assumption | exact ⟨by omega, by omega⟩) ⟨by decide, by decide⟩ (fun c30 => ?_) (fun c30 => ?_)
    · refine X.loc (L' := [xR (99, 0, 0), xR (0, 0, 0), xR (50, 0, 0), none, none, none, none, none, none]) ⟨rfl, ⟨rfl, ⟨rfl, trivial⟩⟩⟩ ?_
      exact X.weak (l_lawM U hU u4.2 u4.1 hn (by omega)) (by omega) (by omega) (fun _ _ q => q)
    · refine x_aload_n dL_law_33 rfl ?_
      refine x_aload_n dL_law_34 rfl ?_
      refine x_aload_n dL_law_35 rfl ?_
      refine x_bipush (v := 90) dL_law_36 (by decide) ?_
      refine x_bipush (v := 6) dL_law_38 (by decide) ?_
      refine x_iload_n dL_law_40 rfl ?_
      refine x_imul dL_law_41 ?_
      refine x_iadd dL_law_42 ?_
      refine x_iconst dL_law_43 ?_
      refine x_callS (a := 8) (b := 53) (as := [xR (0, 0, 0), xR (50, 0, 0), xR (99, 0, 0), xI (90 + (6 * (k : Int))), xI 0]) (rest := []) ok_L_isTelling dL_law_44 wd849 wd850 (c_isTelling U hU (by omega) hn (90 + (6 * (k : Int))) (by omega) (by omega)) rfl (Nat.le_of_ble_eq_true rfl) (Nat.le_of_ble_eq_true rfl) (by decide) (by omega) (by omega) (fun _ q => by cases q.1) (fun _ _ q => ?_) (fun _ _ q => by cases q.1)
      obtain ⟨yy, V, rfl, hV, v4, v9, v22⟩ := q
      cases yy
      have nV : V.1 (50, 0, 0) 0 = V.1 (9, 0, 0) 3 := hV.2.2.1.1
      have wV9 := wf9_3 hV.1.1 (b := 0) (by decide) (by decide)
      refine x_if_eq (tgt := 61) dL_law_47 (by decide) ⟨by decide, by decide⟩ (fun z => absurd z (by decide)) (fun _ => ?_)
      refine x_aload_n dL_law_50 rfl ?_
      refine x_iconst dL_law_51 ?_
      refine x_callSH (a := 6) (b := 36) (as := [xR (0, 0, 0), xI 0]) (rest := []) ok_L_knowing dL_law_52 wd710 wd711 (k_knowing V V hV (KQ.rf V)) rfl (Nat.le_of_ble_eq_true rfl) (Nat.le_of_ble_eq_true rfl) (by decide) (by omega) (by omega) (fun _ q => by cases q.1) (fun _ _ q => ?_) (fun _ _ q => by cases q.1)
      obtain ⟨yy, Q, rfl, zq, zb, -⟩ := q
      cases yy
      have hQ := hV.k zq.kq zb
      refine x_aload_n dL_law_55 rfl ?_
      refine x_iconst dL_law_56 ?_
      refine x_aldi (f := Q.1 (50, 0, 0)) dL_law_57 (hp50 Q) (show (50 : Nat) ≠ 99 by decide) (by omega) (by omega) (by decide) ?_
      refine x_top (show Q.1 (50, 0, 0) 0 = V.1 (9, 0, 0) 3 from by rw [zq.1 (50, 0, 0) rfl]; exact nV) ?_
      refine x_icmp_eq (tgt := 63) dL_law_58 (by decide) (by first | exact hz _ _ | exact hw.1 _ _ | exact zR_of _ | exact bI_z _ | assumption | exact ⟨by omega, by omega⟩) (by first | exact hz _ _ | exact hw.1 _ _ | exact zR_of _ | exact bI_z _ | assumption | exact ⟨by omega, by omega⟩) (fun c58 => ?_) (fun c58 => by exfalso; omega)
      refine x_iinc (L' := [xR (99, 0, 0), xR (0, 0, 0), xR (50, 0, 0), xI ((k : Int) + 1), none, none, none, none, none]) dL_law_63 rfl rfl ?_
      refine x_goto (tgt := 27) dL_law_66 (by decide) ?_
      exact ih Q (k + 1) (kc - 8 - 6) (ks - 53 - 36) (by omega) (by omega) (by omega) hQ (by rw [zq.1 (4, 0, 0) rfl, v4]; exact u4) (by rw [zq.1 (9, 0, 0) rfl]; omega) (by rw [zq.2.2, v22]; exact hn)
set_option maxHeartbeats 4000000 in
set_option maxRecDepth 100000 in
theorem l_lawB (S0 : XS) (hn0 : S0.2.2.2.2.2 < 1000000) (h : LW S0) (h4 : S0.1 (4, 0, 0) 2 = 0) (h9 : S0.1 (9, 0, 0) 3 = 0) : X mL_law 14 [xR (99, 0, 0), xR (0, 0, 0), xR (50, 0, 0), none, none, none, none, none, none] [] (hp S0) 55361 171656 (pE) := by
  have hw := h.1.1
  refine x_aload_n dL_law_14 rfl ?_
  refine x_aload_n dL_law_15 rfl ?_
  refine x_aload_n dL_law_16 rfl ?_
  refine x_callS (a := 72) (b := 432) (as := [xR (0, 0, 0), xR (50, 0, 0), xR (99, 0, 0)]) (rest := []) ok_L_isBegun dL_law_17 wd864 wd865 (c_isBegun S0 hn0 h h4) rfl (Nat.le_of_ble_eq_true rfl) (Nat.le_of_ble_eq_true rfl) (by decide) (by omega) (by omega) (fun _ q => by cases q.1) (fun _ _ q => ?_) (fun _ _ q => by cases q.1)
  obtain ⟨yy, V, rfl, hV, f4, fG, f9⟩ := q
  cases yy
  refine x_if_ne (tgt := 25) dL_law_20 (by decide) ⟨by decide, by decide⟩ (fun _ => ?_) (fun z => absurd z (by decide))
  refine x_iconst dL_law_25 ?_
  refine x_istore_n (L' := [xR (99, 0, 0), xR (0, 0, 0), xR (50, 0, 0), xI 0, none, none, none, none, none]) dL_law_26 (by decide) rfl ?_
  exact X.weak (l_lawT 24 V 0 55289 171224 (by omega) (by omega) (by omega) hV f4 (by omega) (by rw [fG]; exact hn0)) (by omega) (by omega) (fun _ _ q => q)
