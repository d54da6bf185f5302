/-! the reference: the listeners of a branch hear -/
theorem LQ.congr {C D S T : XS} {l : Int} (h : LQ C S l) (c1 : D.1 (14, l, 0) = C.1 (14, l, 0)) (c2 : D.2.1 (14, l, 0) = C.2.1 (14, l, 0)) (c3 : D.2.1 (30, l, 0) = C.2.1 (30, l, 0)) (c4 : D.2.1 (31, l, 0) = C.2.1 (31, l, 0)) (t1 : T.1 (67, 0, 0) = S.1 (67, 0, 0)) (t2 : ∀ j : Int, 64 * l ≤ j → j < 64 * l + 64 → T.1 (70, 0, 0) j = S.1 (70, 0, 0) j) (t3 : T.1 (68, 0, 0) l = S.1 (68, 0, 0) l) (t4 : T.1 (69, 0, 0) l = S.1 (69, 0, 0) l) (t5 : T.2.2.2.1 l = S.2.2.2.1 l) (t6 : T.1 (81, l, S.2.2.2.1 l) = S.1 (81, l, S.2.2.2.1 l)) : LQ D T l := by
  obtain ⟨h1, h2, h3, h4, h5⟩ := h
  obtain ⟨k1, k2⟩ := h3.congr c1 c3 c4
  refine ⟨by rw [c1, c2, t1]; exact h1, fun k hk => ?_, k1, ?_, by rw [t3, c1]; exact h5⟩
  · rw [t2 _ (by omega) (by omega), c2]; exact h2 k hk
  · rw [k2]; exact h4.congr t5 t3 t4 t6
theorem HI.n64 {C S : XS} {b l r : Int} {n : Nat} {t : Int} {v o : Int64} {L0 : List Int} {T : XS} (h : HI C S b l r n t v o L0 64 T) (hL : LR S l L0) : 2 * chLen (T.2.2.2.1 l) = 2 * chLen (S.2.2.2.1 l) + hrB S l (chgN r (jCm v o) (jGn v o) 64).length := by
  have e := h.n68 hL.2.2.2.1
  obtain ⟨-, -, -, -, -, h6, h7⟩ := h
  unfold hrB
  by_cases y : (chLen (S.2.2.2.1 l) : Nat) < S.1 (68, 0, 0) l + ((chgN r (jCm v o) (jGn v o) 64).length : Nat)
  · rw [if_pos y, h7 (by omega), chLen_s hL.1]
    omega
  · rw [if_neg y, h6 (by omega)]
    omega
theorem LQ.hear {C C0 S T : XS} {l b r : Int} {n : Nat} {t : Int} {v : Int64} (h : LQ C S l) (hr : r = C.1 (14, l, 0) 3) (hI : HI C0 S b l r n t v (C.2.1 (14, l, 0) 6) (quC C l) 64 T) (h8 : v ≠ C.2.1 (14, l, 0) 6 → C.1 (14, l, 0) 8 < 120) : LQ (sHrV C l v) T l := by
  have e := hI.n68 h.2.2.2.1.2.2.2.1
  obtain ⟨h1, h2, h3, h4, h5⟩ := h
  obtain ⟨k1, k2⟩ := h3.hear h8
  obtain ⟨i1, i2, i3, i4, i5, -, -⟩ := hI
  have e67 : T.1 (67, 0, 0) = S.1 (67, 0, 0) := i1.k rfl (by decide) (by decide) (by decide) (by decide) 0 0
  have m64 : (chgN r (jCm v (C.2.1 (14, l, 0) 6)) (jGn v (C.2.1 (14, l, 0) 6)) 64).length ≤ 64 := by
    rw [chgN_len]; exact cntN_le _ _
  rw [hr] at i5
  have hL : LR T l (quC (sHrV C l v) l) := by rw [k2]; exact i5
  by_cases hv : v = C.2.1 (14, l, 0) 6
  · obtain ⟨a1, a2, a3, a4, a5⟩ := hrV_at0 C l hv
    refine ⟨by rw [a1, a2, e67]; exact h1, fun k hk => ?_, k1, hL, ?_⟩
    · rw [i4 k hk, if_pos hk, a3, ← hv]
    · rw [e, a1, chgN_none 64 (fun p hp y => (cg_iff v _ hp).mp y (by rw [hv]))]
      simpa using h5
  · obtain ⟨a1, a2, a3, a4, a5, a6, a7, a8, a9, a10⟩ := hrV_at C l hv (h8 hv)
    refine ⟨by rw [a1, a2, a3, a7, e67]; exact h1, fun k hk => ?_, k1, hL, ?_⟩
    · rw [i4 k hk, if_pos hk, a8]
    · rw [e, a5]; omega
/-- what rows must grow when the listener i hears of the branch b -/
noncomputable def ndN (C S : XS) (b : Int) (i : Nat) : Nat := if C.1 (14, (i : Int), 0) 2 = b then hrB S i (chgN (C.1 (14, (i : Int), 0) 3) (jCm (lv C b i) (C.2.1 (14, (i : Int), 0) 6)) (jGn (lv C b i) (C.2.1 (14, (i : Int), 0) 6)) 64).length else 0
noncomputable def ndS (C S : XS) (b : Int) : Nat → Nat
  | 0 => 0
  | i + 1 => ndS C S b i + ndN C S b i
/-- the rows of changes, all in all -/
def usum (S : XS) : Nat → Nat
  | 0 => 0
  | i + 1 => usum S i + 2 * chLen (S.2.2.2.1 i)
theorem usum_eq {S T : XS} (n : Nat) (h : ∀ l : Nat, l < n → T.2.2.2.1 l = S.2.2.2.1 l) : usum T n = usum S n := by
  induction n with
  | zero => rfl
  | succ n ih => rw [usum, usum, ih (fun l hl => h l (by omega)), h n (by omega)]
theorem usum_to {S T : XS} {n : Nat} {d : Nat} (h : usum T n = usum S n + d) (m : Nat) (hm : n ≤ m) (e : ∀ l : Nat, n ≤ l → l < m → T.2.2.2.1 l = S.2.2.2.1 l) : usum T m = usum S m + d := by
  induction m with
  | zero => rw [show n = 0 by omega] at h; exact h
  | succ m ih =>
    rcases Nat.lt_or_eq_of_le hm with y | y
    · rw [usum, usum, ih (by omega) (fun l a b => e l a (by omega)), e m (by omega) (by omega)]
      omega
    · rw [← y]; exact h
theorem MRl.hear {C S T : XS} {l b r : Int} {n : Nat} {t : Int} {v : Int64} (h : MRl C S) (l0 : 0 ≤ l) (l1 : l < 5) (lc : l < C.1 (0, 0, 0) 7) (hr : r = C.1 (14, l, 0) 3) {C0 : XS} (hI : HI C0 S b l r n t v (C.2.1 (14, l, 0) 6) (quC C l) 64 T) (h8 : v ≠ C.2.1 (14, l, 0) 6 → C.1 (14, l, 0) 8 < 120) : MRl (sHrV C l v) T := by
  have c7 : (sHrV C l v).1 (0, 0, 0) = C.1 (0, 0, 0) := (LEq.hrV C l v).i (by decide) 0 0
  have e := hI.1
  intro x x0 x1
  rw [c7]
  by_cases y : x = l
  · subst y
    exact ⟨fun _ => ((h x x0 x1).1 lc).hear hr hI h8, fun z => absurd lc (by omega)⟩
  · obtain ⟨q1, q2, q3, q4⟩ := hrV_o C l v y
    have t68 := e.2.1 x y
    have t69 : T.1 (69, 0, 0) = S.1 (69, 0, 0) := e.k rfl (by decide) (by decide) (by decide) (by decide) 0 0
    have tg := e.2.2.2.2.2.1 x y
    refine ⟨fun z => ((h x x0 x1).1 z).congr q1 q2 q3 q4 (e.k rfl (by decide) (by decide) (by decide) (by decide) 0 0) (fun j j0 j1 => e.2.2.1 j (by omega)) t68 (by rw [t69]) tg ?_, fun z => ?_⟩
    · exact e.1 _ rfl (by show (81 : Nat) ≠ 50; decide) (nK (by decide) _ _ _ _) (nK (by decide) _ _ _ _) (fun u w => y (by injection w with _ w; injection w))
    · obtain ⟨f1, f2, f3, f4, f5, f6⟩ := (h x x0 x1).2 z
      exact ⟨by rw [tg]; exact f1, by rw [t68]; exact f2, by rw [t69]; exact f3, by rw [q1]; exact f4, by rw [q1]; exact f5, by rw [q1]; exact f6⟩
def pHs (C S : XS) (b : Int) (n : Nat) : XO → XH → Prop := fun o h' => o = .inl none ∧ ∃ T, h' = hp T ∧ HsE S T ∧ WI T ∧ MRl (sInf C b n) T ∧ usum T 5 = usum S 5 + ndS C S b n ∧ ∀ l : Int, 0 ≤ l → l < n → C.1 (14, l, 0) 2 ≠ b → T.2.2.2.1 l = S.2.2.2.1 l ∧ T.1 (68, 0, 0) l = S.1 (68, 0, 0) l
/-- a listener that would hear something else has room for it -/
def EndOk (C : XS) (b : Int) : Prop := ∀ l : Int, 0 ≤ l → l < C.1 (0, 0, 0) 7 → C.1 (14, l, 0) 2 = b → lv C b l ≠ C.2.1 (14, l, 0) 6 → C.1 (14, l, 0) 8 < 120
theorem ndS_mono (C S : XS) (b : Int) {i n : Nat} (h : i ≤ n) : ndS C S b i ≤ ndS C S b n := by
  induction n with
  | zero => rw [show i = 0 by omega]; exact Nat.le_refl _
  | succ n ih =>
    rcases Nat.lt_or_eq_of_le h with y | y
    · have := ih (by omega)
      rw [ndS]; omega
    · rw [y]; exact Nat.le_refl _
theorem hrB_eq {S T : XS} {l : Int} (h1 : T.2.2.2.1 l = S.2.2.2.1 l) (h2 : T.1 (68, 0, 0) l = S.1 (68, 0, 0) l) (N : Nat) : hrB T l N = hrB S l N := by
  unfold hrB
  rw [h1, h2]
set_option maxHeartbeats 4000000 in
set_option maxRecDepth 100000 in
theorem l_hears_ (C S : XS) (hC : CB C) (hw : WI S) (hM : MR C S) (b : Int) (b0 : 0 ≤ b) (b1 : b < C.1 (0, 0, 0) 6) (n : Nat) (hn : C.1 (0, 0, 0) 7 = n) (hE : EndOk C b) : ∀ (nn : Nat) (T : XS) (i : Nat) (kc ks : Nat), (n : Int) - (i : Int) < (nn : Int) → (i ≤ n) → (HsE S T) → (WI T) → (MRl (sInf C b i) T) → (usum T i = usum S i + ndS C S b i) → (∀ l : Int, (i : Int) ≤ l → T.2.2.2.1 l = S.2.2.2.1 l ∧ T.1 (68, 0, 0) l = S.1 (68, 0, 0) l) → (∀ l : Int, 0 ≤ l → l < i → C.1 (14, l, 0) 2 ≠ b → T.2.2.2.1 l = S.2.2.2.1 l ∧ T.1 (68, 0, 0) l = S.1 (68, 0, 0) l) → (n ≤ kc + i) → (ndS C S b n ≤ ks + ndS C S b i) → X mX9_hears_ 2 [xR (50, 0, 0), xI b, xI (i : Int)] [] (hp T) kc ks (pHs C S b n) := by
  intro nn
  induction nn with
  | zero => intro T i kc ks hm hi hT wT hml hu hg hq hkc hks; exfalso; omega
  | succ nn ih =>
    intro T i kc ks hm hi hT wT hml hu hg hq hkc hks
    have hz := wT.1
    have hz2 := wf0_7 hC.1
    have c6 := wf0_6 hC.1
    have n24 := hM.2.1.2.2.2
    have e24 := congrFun hT.2.2.2.2.2 24
    have c9 := wf9_3 hC.1 b0 (show b < 4 by omega)
    have cs7 : (sInf C b i).1 (0, 0, 0) = C.1 (0, 0, 0) := (sInf_L C b i).i (by decide) 0 0
    refine x_iload_n dX9_hears__2 rfl ?_
    refine x_aload_n dX9_hears__3 rfl ?_
    refine x_get (v := xI (T.1 (50, 0, 0) 24)) dX9_hears__4 fl_RX9_241 (hp50 T) rfl ?_
    have f4_1 := wf50_24 wT (S := T)
    refine x_icmp_ge (tgt := 34) dX9_hears__7 (by decide) (by first | exact hz _ _ | exact hw.1 _ _ | exact zR_of _ | exact bI_z _ | assumption | exact ⟨by omega, by omega⟩) (by first | exact hz _ _ | exact hw.1 _ _ | exact zR_of _ | exact bI_z _ | assumption | exact ⟨by omega, by omega⟩) (fun c7 => ?_) (fun c7 => ?_)
    · exact x_vret dX9_hears__34 rfl ⟨rfl, T, rfl, hT, wT, by rw [show n = i by omega]; exact hml, by rw [show n = i by omega]; exact usum_to hu 5 (by omega) (fun l a c => (hg l (by omega)).1), fun l a c d => hq l a (by omega) d⟩
    · have hin : i < n := by omega
      have lT := (hml (i : Int) (by omega) (by omega)).1 (by rw [cs7]; omega)
      obtain ⟨d1, d2, d3, d4⟩ := sInf_o C b i (i : Int) (Int.le_refl _)
      have lq : LQ C T (i : Int) := lT.congr d1.symm d2.symm d3.symm d4.symm rfl (fun _ _ _ => rfl) rfl rfl rfl rfl
      obtain ⟨q1, q2, q3, q4, q5, q6⟩ := lq.1
      have f2 := wf14_2 hC.1 (b := (i : Int)) (by omega) (by omega)
      have f3 := wf14_3 hC.1 (b := (i : Int)) (by omega) (by omega)
      have f4 := wf14_4 hC.1 (b := (i : Int)) (by omega) (by omega)
      refine x_aload_n dX9_hears__10 rfl ?_
      refine x_get (v := xR (67, 0, 0)) dX9_hears__11 fl_RX9_64 (hp50 T) rfl ?_
      refine x_iconst dX9_hears__14 ?_
      refine x_iload_n dX9_hears__15 rfl ?_
      refine x_imul dX9_hears__16 ?_
      refine x_aldi (f := T.1 (67, 0, 0)) dX9_hears__17 (hp67 T) (show (67 : Nat) ≠ 99 by decide) (by omega) (by omega) (by decide) ?_
      have f17_2 := wfa67 wT (S := T) (5 * (i : Int))
      refine x_iload_n dX9_hears__18 rfl ?_
      refine x_icmp_ne (tgt := 28) dX9_hears__19 (by decide) (by first | exact hz _ _ | exact hw.1 _ _ | exact zR_of _ | exact bI_z _ | assumption | exact ⟨by omega, by omega⟩) (by first | exact hz _ _ | exact hw.1 _ _ | exact zR_of _ | exact bI_z _ | assumption | exact ⟨by omega, by omega⟩) (fun c19 => ?_) (fun c19 => ?_)
      · refine x_iinc (L' := [xR (50, 0, 0), xI b, xI ((i : Int) + 1)]) dX9_hears__28 rfl rfl ?_
        refine x_goto (tgt := 2) dX9_hears__31 (by decide) ?_
        have c17 : ¬ C.1 (14, (i : Int), 0) 2 = b := by omega
        exact ih T (i + 1) _ _ (by omega) (by omega) hT wT (by rw [sInf_f c17]; exact hml) (by rw [usum, usum, ndS, ndN, if_neg c17, hu, (hg (i : Int) (Int.le_refl _)).1]; omega) (fun x hx => hg x (by omega)) (fun x x0 x1 x2 => by by_cases y : x = (i : Int); exact hg x (by omega); exact hq x x0 (by omega) x2) (by omega) (by rw [ndS, ndN, if_neg c17]; omega)
      · have c17 : T.1 (67, 0, 0) (5 * (i : Int)) = b := by omega
        have hv : lv C b (i : Int) = hl C.1 b (C.1 (9, b, 0) 3).toNat (C.1 (14, (i : Int), 0) 4) (C.1 (14, (i : Int), 0) 3) &&& pairsN (T.1 (67, 0, 0) (5 * (i : Int) + 2)) (T.1 (67, 0, 0) (5 * (i : Int) + 3)) 64 := by rw [← q4]; rfl
        have cb : C.1 (14, (i : Int), 0) 2 = b := by omega
        have nd1 : ndN C S b i = hrB T i (chgN (C.1 (14, (i : Int), 0) 3) (jCm (lv C b i) (C.2.1 (14, (i : Int), 0) 6)) (jGn (lv C b i) (C.2.1 (14, (i : Int), 0) 6)) 64).length := by rw [ndN, if_pos cb]; exact (hrB_eq (hg (i : Int) (Int.le_refl _)).1 (hg (i : Int) (Int.le_refl _)).2 _).symm
        have hndi : ndS C S b (i + 1) = ndS C S b i + ndN C S b i := rfl
        have hndm := ndS_mono C S b (show i + 1 ≤ n by omega)
        have m64 : (chgN (C.1 (14, (i : Int), 0) 3) (jCm (lv C b i) (C.2.1 (14, (i : Int), 0) 6)) (jGn (lv C b i) (C.2.1 (14, (i : Int), 0) 6)) 64).length ≤ 64 := by rw [chgN_len]; exact cntN_le _ _
        have h8 : lv C b (i : Int) ≠ C.2.1 (14, (i : Int), 0) 6 → C.1 (14, (i : Int), 0) 8 < 120 := hE (i : Int) (by omega) (by omega) cb
        have h768 : T.1 (68, 0, 0) (i : Int) + ((chgN (C.1 (14, (i : Int), 0) 3) (jCm (lv C b i) (C.2.1 (14, (i : Int), 0) 6)) (jGn (lv C b i) (C.2.1 (14, (i : Int), 0) 6)) 64).length : Nat) ≤ 7680 := by
            have l5 := lq.2.2.2.2
            have e120 := lq.2.2.1.2.2.1
            by_cases y : lv C b (i : Int) = C.2.1 (14, (i : Int), 0) 6
            · rw [chgN_none 64 (fun p hp z => (cg_iff _ _ hp).mp z (by rw [y]))]
              simp only [List.length_nil]
              omega
            · have := h8 y
              omega
        have hMT := hM.hs hT
        have hnx : ∀ U, HI C T b (i : Int) (C.1 (14, (i : Int), 0) 3) (C.1 (9, b, 0) 3).toNat (C.1 (14, (i : Int), 0) 4) (lv C b (i : Int)) (C.2.1 (14, (i : Int), 0) 6) (quC C (i : Int)) 64 U → MRl (sInf C b (i + 1)) U := fun U hI => by
            rw [sInf_t cb]
            have eq : quC (sInf C b i) (i : Int) = quC C (i : Int) := by unfold quC; rw [d1, d3, d4]
            exact hml.hear (by omega) (by omega) (by rw [cs7]; omega) (r := C.1 (14, (i : Int), 0) 3) (by rw [d1]) (C0 := C) (by rw [d2, eq]; exact hI) (by rw [d1, d2]; exact h8)
        have hux : ∀ U, HI C T b (i : Int) (C.1 (14, (i : Int), 0) 3) (C.1 (9, b, 0) 3).toNat (C.1 (14, (i : Int), 0) 4) (lv C b (i : Int)) (C.2.1 (14, (i : Int), 0) 6) (quC C (i : Int)) 64 U → usum U (i + 1) = usum S (i + 1) + ndS C S b (i + 1) := fun U hI => by
            have a := hI.n64 lq.2.2.2.1
            rw [usum, usum, ndS, nd1, a, usum_eq (S := T) (T := U) i (fun l hl => hI.1.2.2.2.2.2.1 l (by omega)), hu, (hg (i : Int) (Int.le_refl _)).1]
            omega
        have hgx : ∀ U, HI C T b (i : Int) (C.1 (14, (i : Int), 0) 3) (C.1 (9, b, 0) 3).toNat (C.1 (14, (i : Int), 0) 4) (lv C b (i : Int)) (C.2.1 (14, (i : Int), 0) 6) (quC C (i : Int)) 64 U → ∀ x : Int, (i : Int) < x → U.2.2.2.1 x = S.2.2.2.1 x ∧ U.1 (68, 0, 0) x = S.1 (68, 0, 0) x := fun U hI x hx => ⟨(hI.1.2.2.2.2.2.1 x (by omega)).trans (hg x (by omega)).1, (hI.1.2.1 x (by omega)).trans (hg x (by omega)).2⟩
        refine x_aload_n dX9_hears__22 rfl ?_
        refine x_iload_n dX9_hears__23 rfl ?_
        refine x_iconst dX9_hears__24 ?_
        refine x_callV (a := 1) (b := (hrB T (i : Int) (chgN (C.1 (14, (i : Int), 0) 3) (jCm (lv C b i) (C.2.1 (14, (i : Int), 0) 6)) (jGn (lv C b i) (C.2.1 (14, (i : Int), 0) 6)) 64).length)) (as := [xI (i : Int), xI 0]) (rest := []) ok_X9_hears dX9_hears__25 wd1241 ⟨wd1243, wd25⟩ (hp50 T) rfl rfl (m_hears0 C T hC wT hMT (i : Int) b (C.1 (14, (i : Int), 0) 3) (T.1 (67, 0, 0) (5 * (i : Int) + 2)) (T.1 (67, 0, 0) (5 * (i : Int) + 3)) (C.1 (14, (i : Int), 0) 4) (by omega) (by omega) b0 b1 (by omega) (by omega) (wfa67 wT _).1 (wfa67 wT _).1 (by omega) (by omega) (C.1 (9, b, 0) 3).toNat (by omega) c17 q2 rfl rfl q3 (lv C b (i : Int)) hv (C.2.1 (14, (i : Int), 0) 6) (quC C (i : Int)) lq.2.2.2.1 lq.2.1 h768) rfl (Nat.le_of_ble_eq_true rfl) (Nat.le_of_ble_eq_true rfl) (by decide) (by omega) (by omega) (fun _ q => ?_) (fun _ _ q => by cases q.1) (fun _ _ q => by cases q.1)
        obtain ⟨-, U, rfl, hI⟩ := q
        refine x_iinc (L' := [xR (50, 0, 0), xI b, xI ((i : Int) + 1)]) dX9_hears__28 rfl rfl ?_
        refine x_goto (tgt := 2) dX9_hears__31 (by decide) ?_
        exact ih U (i + 1) _ _ (by omega) (by omega) (hT.tr hI.1.hs) hI.2.1 (hnx U hI) (hux U hI) (fun x hx => hgx U hI x (by omega)) (fun x x0 x1 x2 => by
              have ne : x ≠ (i : Int) := fun y => x2 (by rw [y]; exact cb)
              exact ⟨(hI.1.2.2.2.2.2.1 x ne).trans (hq x x0 (by omega) x2).1, (hI.1.2.1 x ne).trans (hq x x0 (by omega) x2).2⟩) (by omega) (by omega)
set_option maxHeartbeats 4000000 in
set_option maxRecDepth 100000 in
theorem m_hears_ (C S : XS) (hC : CB C) (hw : WI S) (hM : MR C S) (b : Int) (b0 : 0 ≤ b) (b1 : b < C.1 (0, 0, 0) 6) (n : Nat) (hn : C.1 (0, 0, 0) 7 = n) (hE : EndOk C b) (hml : MRl C S) : X mX9_hears_ 0 (xEnt mX9_hears_ [xR (50, 0, 0), xI b]) [] (hp S) 5 (ndS C S b n) (pHs C S b n) := by
  have hz2 := wf0_7 hC.1
  show X mX9_hears_ 0 [xR (50, 0, 0), xI b, none] [] (hp S) 5 (ndS C S b n) _
  refine x_iconst dX9_hears__0 ?_
  refine x_istore_n (L' := [xR (50, 0, 0), xI b, xI 0]) dX9_hears__1 (by decide) rfl ?_
  exact l_hears_ C S hC hw hM b b0 b1 n hn hE (n + 1) S 0 _ _ (by omega) (by omega) (HsE.rf S) hw hml rfl (fun _ _ => ⟨rfl, rfl⟩) (fun x x0 x1 _ => by omega) (by omega) (by rw [ndS]; omega)
