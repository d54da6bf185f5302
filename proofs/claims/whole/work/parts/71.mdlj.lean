/-! the reference: the first reason -/
theorem FinR.ok {C : XS} (hC : CB C) {b : Int} (b0 : 0 ≤ b) (b1 : b < C.1 (0, 0, 0) 6) {n : Nat} (hn : (n : Int) ≤ C.1 (9, b, 0) 3) {t : Int} {rk : Int → Int} (h : FinR C b n t rk) {x : Int} (x0 : 0 ≤ x) (x1 : x ≤ 5) {p : Nat} (hp : p < 64) : (∀ m : Nat, m < 9999 → (rk (64 * x + p) ≤ m ↔ bitJ (levF C.1 (onN C.1 b n) (hl C.1 b n t) (toldN C.1 b t n) m x) p)) ∧ (rk (64 * x + p) = 9999 ↔ ¬ bitJ (hl C.1 b n t x) p) ∧ 0 ≤ rk (64 * x + p) ∧ rk (64 * x + p) ≤ 9999 := by
  have e := h x.toNat p (by omega) hp
  have s := hl_stab hC b0 b1 n hn t x x0 x1 p hp
  rw [show ((x.toNat : Nat) : Int) = x by omega] at e
  rcases e with ⟨m, m1, m2, m3, m4⟩ | ⟨m1, m2⟩
  · refine ⟨fun k _ => ⟨fun z => levF_le C.1 _ _ _ m k (by omega) x p hp m3, fun z => ?_⟩, ⟨fun z => by omega, fun z => absurd (s.mpr ⟨m, m3⟩) z⟩, by omega, by omega⟩
    apply Classical.byContradiction
    intro y
    exact m4 k (by omega) z
  · exact ⟨fun k hk => ⟨fun z => by omega, fun z => absurd z (m2 k)⟩, ⟨fun _ z => by obtain ⟨k, hk⟩ := s.mp z; exact m2 k hk, fun _ => m1⟩, by omega, by omega⟩
theorem FinR.rng {C : XS} (hC : CB C) {b : Int} (b0 : 0 ≤ b) (b1 : b < C.1 (0, 0, 0) 6) {n : Nat} (hn : (n : Int) ≤ C.1 (9, b, 0) 3) {t : Int} {rk : Int → Int} (h : FinR C b n t rk) (k : Nat) (hk : k < 9999) {r : Nat} (hr : (r : Int) < C.1 (4, 0, 0) 2) {w : Int} (w0 : 0 ≤ w) (w1 : w ≤ 511) (hi : zAnd w (C.1 (34, r, 0) 4) = 0) (hrk : ∀ k, 0 ≤ rk k ∧ rk k ≤ 9999) : gvN C.1 rk r w (C.1 (34, r, 0) 2).toNat ≤ k ↔ Fits C.1 (levF C.1 (onN C.1 b n) (hl C.1 b n t) (toldN C.1 b t n) k) (hl C.1 b n t) r w := by
  have c4 := wf4_2 hC.1
  have s34 := wf34_2 hC.1 (b := (r : Int)) (by omega) (by omega)
  have key : ∀ c : Nat, (c : Int) < C.1 (34, r, 0) 2 → ∃ p : Nat, p < 64 ∧ pairF C.1 (36, r, c) w = p ∧ cfact C.1 r w c = 64 * C.1 (36, r, c) 0 + p ∧ 0 ≤ C.1 (36, r, c) 0 ∧ C.1 (36, r, c) 0 ≤ 5 := fun c hc => by
    have rel := dl_rel hC.1 hr hc
    obtain ⟨p, p1, p2, p3⟩ := fact_at ((hC.2.1 r hr).1.2.2 c hc) w0 w1 rel.1 rel.2
    exact ⟨p, p1, p2, by unfold cfact; rw [p2], rel⟩
  constructor
  · intro g
    have gi := gvN_in (f := C.1) hrk r w (C.1 (34, r, 0) 2).toNat
    have ok := gvN_ok (f := C.1) hrk r w (C.1 (34, r, 0) 2).toNat (by omega)
    refine ⟨hi, fun c hc => ?_⟩
    obtain ⟨p, p1, p2, p3, x0, x1⟩ := key c hc
    obtain ⟨o1, o2⟩ := ok c (by omega)
    have e := h.ok hC b0 b1 hn x0 x1 p1
    rw [p3] at o1 o2
    unfold condOk
    rw [p2]
    by_cases q : C.1 (36, r, c) 1 = 0
    · rw [if_pos q]
      exact ⟨fun _ => q, fun _ => (e.1 k hk).mp (by have := o1 q; omega)⟩
    · rw [if_neg q]
      exact ⟨fun z => absurd z (e.2.1.mp (o2 q)), fun z => absurd z q⟩
  · intro f
    refine gvN_le (by omega) _ fun c hc => ?_
    have hcc : (c : Int) < C.1 (34, r, 0) 2 := by omega
    obtain ⟨p, p1, p2, p3, x0, x1⟩ := key c hcc
    have e := h.ok hC b0 b1 hn x0 x1 p1
    have cw := f.2 c hcc
    unfold condOk at cw
    rw [p2] at cw
    rw [p3]
    constructor
    · intro z
      rw [if_pos z] at cw
      exact (e.1 k hk).mpr (cw.mpr z)
    · intro z zl
      rw [if_neg z] at cw
      have := e.2.1.mpr (fun y => z (cw.mp y))
      omega
/-- a rule gives a fact its rank by a way just where it is a reason -/
theorem bec_iff {C : XS} (hC : CB C) {b : Int} (b0 : 0 ≤ b) (b1 : b < C.1 (0, 0, 0) 6) {n : Nat} (hn : (n : Int) ≤ C.1 (9, b, 0) 3) {t : Int} {rk : Int → Int} (h : FinR C b n t rk) (hrk : ∀ k, 0 ≤ rk k ∧ rk k ≤ 9999) {x p : Nat} (hx : x < 6) (hp : p < 64) {m : Nat} (hm : rk (64 * x + p) = ((m + 1 : Nat) : Int)) (m9 : m + 1 < 9999) {r : Nat} (hr : (r : Int) < C.1 (4, 0, 0) 2) (ho : bitI (onN C.1 b n) r) {w : Int} (w0 : 0 ≤ w) (w1 : w ≤ 511) (hi : zAnd w (C.1 (34, r, 0) 4) = 0) : (hfact C.1 r w = 64 * x + p ∧ gvV C.1 rk r w (C.1 (34, r, 0) 2).toNat = rk (64 * x + p)) ↔ Hit C.1 (onN C.1 b n) (levF C.1 (onN C.1 b n) (hl C.1 b n t) (toldN C.1 b t n) m) (hl C.1 b n t) r w x p := by
  have c4 := wf4_2 hC.1
  have a37 := wf37_0 hC.1 (b := (r : Int)) (by omega) (by omega)
  obtain ⟨p', p1, p2, p3⟩ := fact_at (hC.2.1 r hr).1.2.1 w0 w1 a37.1 a37.2
  have gi := gvN_in (f := C.1) hrk r w (C.1 (34, r, 0) 2).toNat
  have fr := h.rng hC b0 b1 hn m (by omega) hr w0 w1 hi hrk
  have eh : hfact C.1 r w = 64 * C.1 (37, r, 0) 0 + p' := by unfold hfact; rw [p2]
  constructor
  · rintro ⟨q1, q2⟩
    have e1 : C.1 (37, r, 0) 0 = x := by omega
    have e2 : p' = p := by omega
    refine ⟨by omega, hr, ho, e1, w0, by omega, fr.mp ?_, by rw [p2, e2]⟩
    unfold gvV at q2
    split at q2 <;> omega
  · rintro ⟨-, -, -, e1, -, -, q, e2⟩
    have g1 := fr.mpr q
    have e2' : p' = p := by omega
    refine ⟨by rw [eh, e1, e2'], ?_⟩
    have ge : ¬ gvN C.1 rk r w (C.1 (34, r, 0) 2).toNat < m := by
      intro lt
      obtain ⟨k, hk⟩ := Int.eq_ofNat_of_zero_le gi.1
      have f2 := (h.rng hC b0 b1 hn k (by omega) hr w0 w1 hi hrk).mp (by omega)
      have bt : bitJ (levF C.1 (onN C.1 b n) (hl C.1 b n t) (toldN C.1 b t n) (k + 1) x) p := by
        rw [levF, stepF_bit _ _ _ _ _ _ hp]
        exact Or.inr ⟨r, hr, ho, e1, (heads_bit _ _ _ _ _ hp).mpr ⟨w, w0, by omega, f2, e2⟩⟩
      have := ((h.ok hC b0 b1 hn (x := (x : Int)) (by omega) (by omega) hp).1 (k + 1) (by omega)).mpr bt
      omega
    unfold gvV
    rw [if_neg (by omega), hm]
    omega
theorem bec_some {C : XS} (hC : CB C) {b : Int} (b0 : 0 ≤ b) (b1 : b < C.1 (0, 0, 0) 6) {n : Nat} (hn : (n : Int) ≤ C.1 (9, b, 0) 3) {t : Int} {rk : Int → Int} (h : FinR C b n t rk) {x p : Nat} (hx : x < 6) (hp : p < 64) {m : Nat} (hm : rk (64 * x + p) = ((m + 1 : Nat) : Int)) (m9 : m + 1 < 9999) : ∃ (r : Nat) (w : Int), Hit C.1 (onN C.1 b n) (levF C.1 (onN C.1 b n) (hl C.1 b n t) (toldN C.1 b t n) m) (hl C.1 b n t) r w x p := by
  have e := h.ok hC b0 b1 hn (x := (x : Int)) (by omega) (by omega) hp
  have a := (e.1 (m + 1) m9).mp (by omega)
  have z : ¬ bitJ (levF C.1 (onN C.1 b n) (hl C.1 b n t) (toldN C.1 b t n) m x) p := fun y => by have := (e.1 m (by omega)).mpr y; omega
  rw [levF, stepF_bit _ _ _ _ _ _ hp] at a
  rcases a with a | ⟨j, hj, ho, e1, a⟩
  · exact absurd a z
  · obtain ⟨w, w0, w1, w2, w3⟩ := (heads_bit _ _ _ _ _ hp).mp a
    exact ⟨j, w, by omega, hj, ho, e1, w0, by omega, w2, w3⟩
theorem way_mono {a b c : Int} (ha : a = 1 ∨ a = 8) (hb : b = 1 ∨ b = 8) (hc : c = 1 ∨ c = 8) {i j : Int} (i0 : 0 ≤ i) (hj : j < a * b * c) (h : wayI b c i < wayI b c j) : i < j := by
  unfold wayI at h
  rcases ha with rfl | rfl <;> rcases hb with rfl | rfl <;> rcases hc with rfl | rfl <;> omega
/-- what because answers -/
def BeV (C : XS) (b : Int) (n : Nat) (t : Int) (rk : Int → Int) (q z w : Int) : Prop := (rk q = 0 ∧ z = -1) ∨ (0 < rk q ∧ 0 ≤ z ∧ Hit C.1 (onN C.1 b n) (levF C.1 (onN C.1 b n) (hl C.1 b n t) (toldN C.1 b t n) ((rk q).toNat - 1)) (hl C.1 b n t) z w (q / 64).toNat (q % 64).toNat ∧ ∀ r' w', Bef r' w' z w → ¬ Hit C.1 (onN C.1 b n) (levF C.1 (onN C.1 b n) (hl C.1 b n t) (toldN C.1 b t n) ((rk q).toNat - 1)) (hl C.1 b n t) r' w' (q / 64).toNat (q % 64).toNat)
def pBe (C S : XS) (b : Int) (n : Nat) (t q : Int) : XO → XH → Prop := fun o h' => ∃ T z, h' = hp T ∧ o = .inl (some (xI z)) ∧ (-1 ≤ z ∧ z < C.1 (4, 0, 0) 2) ∧ Ex1 (74, 0, 0) S T ∧ WI T ∧ BeV C b n t (S.1 (73, 0, 0)) q z (wG (T.1 (74, 0, 0)))
theorem bev_mk {C : XS} {b : Int} {n : Nat} {t : Int} {rk : Int → Int} {q z w : Int} {x p : Nat} (hx : x < 6) (hp : p < 64) (hq : q = 64 * (x : Int) + p) {m : Nat} (hm : rk q = ((m + 1 : Nat) : Int)) (h : Hit C.1 (onN C.1 b n) (levF C.1 (onN C.1 b n) (hl C.1 b n t) (toldN C.1 b t n) m) (hl C.1 b n t) z w x p) (h2 : ∀ r' w', Bef r' w' z w → ¬ Hit C.1 (onN C.1 b n) (levF C.1 (onN C.1 b n) (hl C.1 b n t) (toldN C.1 b t n) m) (hl C.1 b n t) r' w' x p) : BeV C b n t rk q z w := by
  right
  have e1 : (q / 64).toNat = x := by omega
  have e2 : (q % 64).toNat = p := by omega
  have e3 : (rk q).toNat - 1 = m := by omega
  rw [e1, e2, e3]
  exact ⟨by omega, h.1, h, h2⟩
set_option maxHeartbeats 4000000 in
set_option maxRecDepth 100000 in
theorem l_becauseW (C S : XS) (hC : CB C) (hr : MRr C S) (hn : MRn C S) (b : Int) (b0 : 0 ≤ b) (b1 : b < C.1 (0, 0, 0) 6) (n : Nat) (hn9 : (n : Int) ≤ C.1 (9, b, 0) 3) (t : Int) (hF : FinR C b n t (S.1 (73, 0, 0))) (hO : OnRow S (onN C.1 b n)) (x p : Nat) (hx : x < 6) (hp6 : p < 64) (q : Int) (hq : q = 64 * (x : Int) + p) (m : Nat) (hmq : S.1 (73, 0, 0) q = ((m + 1 : Nat) : Int)) (m9 : m + 1 < 9999) (r : Nat) (r1 : (r : Int) < C.1 (4, 0, 0) 2) (hnr : ∀ (r' : Nat) (w' : Int), (r' : Int) < (r : Int) → ¬ Hit C.1 (onN C.1 b n) (levF C.1 (onN C.1 b n) (hl C.1 b n t) (toldN C.1 b t n) m) (hl C.1 b n t) r' w' x p) (a2 b2 c2 : Int) (ha : TrOk (C.1 (34, r, 0) 4) 6 a2) (hb : TrOk (C.1 (34, r, 0) 4) 3 b2) (hc : TrOk (C.1 (34, r, 0) 4) 0 c2) (KKr : ∀ T : XS, Ex1 (74, 0, 0) S T → WI T → (∀ (r' : Nat) (w' : Int), (r' : Int) < ((r + 1 : Nat) : Int) → ¬ Hit C.1 (onN C.1 b n) (levF C.1 (onN C.1 b n) (hl C.1 b n t) (toldN C.1 b t n) m) (hl C.1 b n t) r' w' x p) → X mX9_because 13 [xR (50, 0, 0), xI q, xI ((r : Int) + 1), none, none, none, none] [] (hp T) 0 0 (pBe C S b n t q)) : ∀ (nn : Nat) (T : XS) (i : Nat), a2 * b2 * c2 - i < (nn : Int) → (Ex1 (74, 0, 0) S T) → (WI T) → (∀ j : Nat, j < i → ¬ Hit C.1 (onN C.1 b n) (levF C.1 (onN C.1 b n) (hl C.1 b n t) (toldN C.1 b t n) m) (hl C.1 b n t) r (wayI b2 c2 j) x p) → ((i : Int) ≤ a2 * b2 * c2) → X mX9_because 47 [xR (50, 0, 0), xI q, xI (r : Int), xI a2, xI b2, xI c2, xI (i : Int)] [] (hp T) 0 0 (pBe C S b n t q) := by
  intro nn
  induction nn with
  | zero => intro T i hm eT wT hno hi; exfalso; omega
  | succ nn ih =>
    intro T i hm eT wT hno hi
    have c4 := wf4_2 hC.1
    have c34 := wf34_2 hC.1 (b := (r : Int)) (by omega) (by omega)
    have hR := (hC.2.1 r r1).1
    have hz := wT.1
    have hrT := hr.q (eT.md rfl)
    obtain ⟨q1, q2, q3, -, -, -, -⟩ := hrT r (by omega) r1
    have e73 := eT.1 (73, 0, 0) (by decide)
    have on1 := hO r (by omega)
    rw [← eT.1 (71, 0, 0) (by decide)] at on1
    have ha1 : a2 = 1 ∨ a2 = 8 := ha.imp (fun z => z.1) (fun z => z.1)
    have hb1 : b2 = 1 ∨ b2 = 8 := hb.imp (fun z => z.1) (fun z => z.1)
    have hc1 : c2 = 1 ∨ c2 = 8 := hc.imp (fun z => z.1) (fun z => z.1)
    have abc := ways_abc ha1 hb1 hc1
    have hmT := hmq
    rw [← e73] at hmT
    refine x_iload dX9_because_47 rfl ?_
    refine x_iload_n dX9_because_49 rfl ?_
    refine x_iload dX9_because_50 rfl ?_
    refine x_imul dX9_because_52 ?_
    refine x_iload dX9_because_53 rfl ?_
    refine x_imul dX9_because_55 ?_
    refine x_icmp_ge (tgt := 174) dX9_because_56 (by decide) (by first | exact hz _ _ | exact hw.1 _ _ | exact zR_of _ | exact bI_z _ | assumption | exact ⟨by omega, by omega⟩) (by first | exact hz _ _ | exact hw.1 _ _ | exact zR_of _ | exact bI_z _ | assumption | exact ⟨by omega, by omega⟩) (fun c56 => ?_) (fun c56 => ?_)
    · refine x_iinc (L' := [xR (50, 0, 0), xI q, xI ((r : Int) + 1), xI a2, xI b2, xI c2, xI (i : Int)]) dX9_because_174 rfl rfl ?_
      refine x_goto (tgt := 13) dX9_because_177 (by decide) ?_
      refine X.loc (L' := [xR (50, 0, 0), xI q, xI ((r : Int) + 1), none, none, none, none]) ⟨rfl, ⟨rfl, ⟨rfl, trivial⟩⟩⟩ ?_
      exact KKr T eT wT (fun r' w' hr2 z => by rcases Nat.lt_or_eq_of_le (show r' ≤ r by omega) with y | y; exact hnr r' w' (by omega) z; subst y; first | (exact absurd z.2.2.1 (fun y => by rw [bI_t y] at on1; omega)) | (obtain ⟨j, j1, j2⟩ := way_all hR.1 ha hb hc z.2.2.2.2.1 (by have := z.2.2.2.2.2.1; omega) z.2.2.2.2.2.2.1.1; exact hno j (by omega) (by rw [j2]; exact z)))
    · refine x_aload_n dX9_because_59 rfl ?_
      refine x_get (v := xR (71, 0, 0)) dX9_because_60 fl_RX9_81 (hp50 T) rfl ?_
      refine x_iload_n dX9_because_63 rfl ?_
      refine x_aldz (f := T.1 (71, 0, 0)) dX9_because_64 (hp71 T) (show (71 : Nat) ≠ 99 by decide) (by omega) (by omega) (by decide) ?_
      have f64_1 := wfa71 wT (S := T) (r : Int)
      refine x_if_eq (tgt := 174) dX9_because_65 (by decide) (by first | exact hz _ _ | exact hw.1 _ _ | exact zR_of _ | exact bI_z _ | assumption | exact ⟨by omega, by omega⟩) (fun c65 => ?_) (fun c65 => ?_)
      · refine x_iinc (L' := [xR (50, 0, 0), xI q, xI ((r : Int) + 1), xI a2, xI b2, xI c2, xI (i : Int)]) dX9_because_174 rfl rfl ?_
        refine x_goto (tgt := 13) dX9_because_177 (by decide) ?_
        refine X.loc (L' := [xR (50, 0, 0), xI q, xI ((r : Int) + 1), none, none, none, none]) ⟨rfl, ⟨rfl, ⟨rfl, trivial⟩⟩⟩ ?_
        exact KKr T eT wT (fun r' w' hr2 z => by rcases Nat.lt_or_eq_of_le (show r' ≤ r by omega) with y | y; exact hnr r' w' (by omega) z; subst y; first | (exact absurd z.2.2.1 (fun y => by rw [bI_t y] at on1; omega)) | (obtain ⟨j, j1, j2⟩ := way_all hR.1 ha hb hc z.2.2.2.2.1 (by have := z.2.2.2.2.2.1; omega) z.2.2.2.2.2.2.1.1; exact hno j (by omega) (by rw [j2]; exact z)))
      · have hon : bitI (onN C.1 b n) r := by apply Classical.byContradiction; intro z; rw [bI_f z] at on1; omega
        have dc := div_c hc1 (j := (i : Int)) (by omega) (by omega)
        obtain ⟨d1, d2, d3, -, -, -⟩ := ways_in ha1 hb1 hc1 (j := (i : Int)) (by omega) (by omega)
        have wk := way_ok hR.1 ha hb hc (j := (i : Int)) (by omega) (by omega)
        have hin := hfact_in hC.1 (r := (r : Int)) (by omega) r1 hR wk.2.1 wk.2.2
        have gin := gvV_in (f := C.1) (rk := T.1 (73, 0, 0)) (fun k => wfa73 wT k) r (wayI b2 c2 (i : Int)) (C.1 (34, r, 0) 2).toNat
        have bi := bec_iff hC b0 b1 hn9 hF (fun k => by rw [← e73]; exact wfa73 wT k) hx hp6 (by rw [← hq]; exact hmq) m9 r1 hon wk.2.1 wk.2.2 wk.1
        rw [← hq, ← e73] at bi
        refine x_aload_n dX9_because_68 rfl ?_
        refine x_get (v := xR (74, 0, 0)) dX9_because_69 fl_RX9_90 (hp50 T) rfl ?_
        refine x_iconst dX9_because_72 ?_
        refine x_iload dX9_because_73 rfl ?_
        refine x_iload dX9_because_75 rfl ?_
        refine x_iload dX9_because_77 rfl ?_
        refine x_imul dX9_because_79 ?_
        refine x_idiv dX9_because_80 (by omega) (by omega) (by omega) (by omega) ?_
        refine x_asti dX9_because_81 (hp74 T) (show (74 : Nat) ≠ 99 by decide) (by omega) (by omega) (by decide) ?_
        refine x_heq (pa74 T 0 ((i : Int) / (b2 * c2))) ?_
        have hw81_2 : WI (putI T (74, 0, 0) 0 ((i : Int) / (b2 * c2))) := wpa74 wT (by omega)
        refine x_aload_n dX9_because_82 rfl ?_
        refine x_get (v := xR (74, 0, 0)) dX9_because_83 fl_RX9_90 (hp50 (putI T (74, 0, 0) 0 ((i : Int) / (b2 * c2)))) rfl ?_
        refine x_iconst dX9_because_86 ?_
        refine x_iload dX9_because_87 rfl ?_
        refine x_iload dX9_because_89 rfl ?_
        refine x_idiv dX9_because_91 (by omega) (by omega) (by omega) (by omega) ?_
        refine x_iload dX9_because_92 rfl ?_
        refine x_irem dX9_because_94 (by omega) (by omega) (by omega) (by omega) ?_
        refine x_asti dX9_because_95 (hp74 (putI T (74, 0, 0) 0 ((i : Int) / (b2 * c2)))) (show (74 : Nat) ≠ 99 by decide) (by omega) (by omega) (by decide) ?_
        refine x_heq (pa74 (putI T (74, 0, 0) 0 ((i : Int) / (b2 * c2))) 1 (((i : Int) / c2) % b2)) ?_
        have hw95_3 : WI (putI (putI T (74, 0, 0) 0 ((i : Int) / (b2 * c2))) (74, 0, 0) 1 (((i : Int) / c2) % b2)) := wpa74 hw81_2 (by omega)
        refine x_aload_n dX9_because_96 rfl ?_
        refine x_get (v := xR (74, 0, 0)) dX9_because_97 fl_RX9_90 (hp50 (putI (putI T (74, 0, 0) 0 ((i : Int) / (b2 * c2))) (74, 0, 0) 1 (((i : Int) / c2) % b2))) rfl ?_
        refine x_iconst dX9_because_100 ?_
        refine x_iload dX9_because_101 rfl ?_
        refine x_iload dX9_because_103 rfl ?_
        refine x_irem dX9_because_105 (by omega) (by omega) (by omega) (by omega) ?_
        refine x_asti dX9_because_106 (hp74 (putI (putI T (74, 0, 0) 0 ((i : Int) / (b2 * c2))) (74, 0, 0) 1 (((i : Int) / c2) % b2))) (show (74 : Nat) ≠ 99 by decide) (by omega) (by omega) (by decide) ?_
        refine x_heq (pa74 (putI (putI T (74, 0, 0) 0 ((i : Int) / (b2 * c2))) (74, 0, 0) 1 (((i : Int) / c2) % b2)) 2 ((i : Int) % c2)) ?_
        have hw106_4 : WI (putI (putI (putI T (74, 0, 0) 0 ((i : Int) / (b2 * c2))) (74, 0, 0) 1 (((i : Int) / c2) % b2)) (74, 0, 0) 2 ((i : Int) % c2)) := wpa74 hw95_3 (by omega)
        refine x_aload_n dX9_because_107 rfl ?_
        refine x_get (v := xR (62, 0, 0)) dX9_because_108 fl_RX9_49 (hp50 (putI (putI (putI T (74, 0, 0) 0 ((i : Int) / (b2 * c2))) (74, 0, 0) 1 (((i : Int) / c2) % b2)) (74, 0, 0) 2 ((i : Int) % c2))) rfl ?_
        refine x_iconst dX9_because_111 ?_
        refine x_iload_n dX9_because_112 rfl ?_
        refine x_imul dX9_because_113 ?_
        refine x_aldi (f := T.1 (62, 0, 0)) dX9_because_114 (hp62 (putI (putI (putI T (74, 0, 0) 0 ((i : Int) / (b2 * c2))) (74, 0, 0) 1 (((i : Int) / c2) % b2)) (74, 0, 0) 2 ((i : Int) % c2))) (show (62 : Nat) ≠ 99 by decide) (by omega) (by omega) (by decide) ?_
        have f114_5 := wfa62 wT (S := T) (3 * (r : Int))
        refine x_aload_n dX9_because_115 rfl ?_
        refine x_get (v := xR (74, 0, 0)) dX9_because_116 fl_RX9_90 (hp50 (putI (putI (putI T (74, 0, 0) 0 ((i : Int) / (b2 * c2))) (74, 0, 0) 1 (((i : Int) / c2) % b2)) (74, 0, 0) 2 ((i : Int) % c2))) rfl ?_
        refine x_aload_n dX9_because_119 rfl ?_
        refine x_get (v := xR (62, 0, 0)) dX9_because_120 fl_RX9_49 (hp50 (putI (putI (putI T (74, 0, 0) 0 ((i : Int) / (b2 * c2))) (74, 0, 0) 1 (((i : Int) / c2) % b2)) (74, 0, 0) 2 ((i : Int) % c2))) rfl ?_
        refine x_iconst dX9_because_123 ?_
        refine x_iload_n dX9_because_124 rfl ?_
        refine x_imul dX9_because_125 ?_
        refine x_iconst dX9_because_126 ?_
        refine x_iadd dX9_because_127 ?_
        refine x_aldi (f := T.1 (62, 0, 0)) dX9_because_128 (hp62 (putI (putI (putI T (74, 0, 0) 0 ((i : Int) / (b2 * c2))) (74, 0, 0) 1 (((i : Int) / c2) % b2)) (74, 0, 0) 2 ((i : Int) % c2))) (show (62 : Nat) ≠ 99 by decide) (by omega) (by omega) (by decide) ?_
        have f128_6 := wfa62 wT (S := T) ((3 * (r : Int)) + 1)
        refine x_aldi (f := (putI (putI (putI T (74, 0, 0) 0 ((i : Int) / (b2 * c2))) (74, 0, 0) 1 (((i : Int) / c2) % b2)) (74, 0, 0) 2 ((i : Int) % c2)).1 (74, 0, 0)) dX9_because_129 (hp74 (putI (putI (putI T (74, 0, 0) 0 ((i : Int) / (b2 * c2))) (74, 0, 0) 1 (((i : Int) / c2) % b2)) (74, 0, 0) 2 ((i : Int) % c2))) (show (74 : Nat) ≠ 99 by decide) (by omega) (by omega) (by decide) ?_
        have f129_7 := wfa74 hw106_4 (S := putI (putI (putI T (74, 0, 0) 0 ((i : Int) / (b2 * c2))) (74, 0, 0) 1 (((i : Int) / c2) % b2)) (74, 0, 0) 2 ((i : Int) % c2)) (T.1 (62, 0, 0) ((3 * (r : Int)) + 1))
        refine x_aload_n dX9_because_130 rfl ?_
        refine x_get (v := xR (74, 0, 0)) dX9_because_131 fl_RX9_90 (hp50 (putI (putI (putI T (74, 0, 0) 0 ((i : Int) / (b2 * c2))) (74, 0, 0) 1 (((i : Int) / c2) % b2)) (74, 0, 0) 2 ((i : Int) % c2))) rfl ?_
        refine x_aload_n dX9_because_134 rfl ?_
        refine x_get (v := xR (62, 0, 0)) dX9_because_135 fl_RX9_49 (hp50 (putI (putI (putI T (74, 0, 0) 0 ((i : Int) / (b2 * c2))) (74, 0, 0) 1 (((i : Int) / c2) % b2)) (74, 0, 0) 2 ((i : Int) % c2))) rfl ?_
        refine x_iconst dX9_because_138 ?_
        refine x_iload_n dX9_because_139 rfl ?_
        refine x_imul dX9_because_140 ?_
        refine x_iconst dX9_because_141 ?_
        refine x_iadd dX9_because_142 ?_
        refine x_aldi (f := T.1 (62, 0, 0)) dX9_because_143 (hp62 (putI (putI (putI T (74, 0, 0) 0 ((i : Int) / (b2 * c2))) (74, 0, 0) 1 (((i : Int) / c2) % b2)) (74, 0, 0) 2 ((i : Int) % c2))) (show (62 : Nat) ≠ 99 by decide) (by omega) (by omega) (by decide) ?_
        have f143_8 := wfa62 wT (S := T) ((3 * (r : Int)) + 2)
        refine x_aldi (f := (putI (putI (putI T (74, 0, 0) 0 ((i : Int) / (b2 * c2))) (74, 0, 0) 1 (((i : Int) / c2) % b2)) (74, 0, 0) 2 ((i : Int) % c2)).1 (74, 0, 0)) dX9_because_144 (hp74 (putI (putI (putI T (74, 0, 0) 0 ((i : Int) / (b2 * c2))) (74, 0, 0) 1 (((i : Int) / c2) % b2)) (74, 0, 0) 2 ((i : Int) % c2))) (show (74 : Nat) ≠ 99 by decide) (by omega) (by omega) (by decide) ?_
        have f144_9 := wfa74 hw106_4 (S := putI (putI (putI T (74, 0, 0) 0 ((i : Int) / (b2 * c2))) (74, 0, 0) 1 (((i : Int) / c2) % b2)) (74, 0, 0) 2 ((i : Int) % c2)) (T.1 (62, 0, 0) ((3 * (r : Int)) + 2))
        refine x_callS_r (a := 0) (b := 0) (as := [xI (T.1 (62, 0, 0) (3 * (r : Int))), xI ((putI (putI (putI T (74, 0, 0) 0 ((i : Int) / (b2 * c2))) (74, 0, 0) 1 (((i : Int) / c2) % b2)) (74, 0, 0) 2 ((i : Int) % c2)).1 (74, 0, 0) (T.1 (62, 0, 0) ((3 * (r : Int)) + 1))), xI ((putI (putI (putI T (74, 0, 0) 0 ((i : Int) / (b2 * c2))) (74, 0, 0) 1 (((i : Int) / c2) % b2)) (74, 0, 0) 2 ((i : Int) % c2)).1 (74, 0, 0) (T.1 (62, 0, 0) ((3 * (r : Int)) + 2)))]) (rest := []) ok_X9_factOf dX9_because_145 wd1270 wd1271 (m_factOf (putI (putI (putI T (74, 0, 0) 0 ((i : Int) / (b2 * c2))) (74, 0, 0) 1 (((i : Int) / c2) % b2)) (74, 0, 0) 2 ((i : Int) % c2)) (T.1 (62, 0, 0) (3 * (r : Int))) ((putI (putI (putI T (74, 0, 0) 0 ((i : Int) / (b2 * c2))) (74, 0, 0) 1 (((i : Int) / c2) % b2)) (74, 0, 0) 2 ((i : Int) % c2)).1 (74, 0, 0) (T.1 (62, 0, 0) ((3 * (r : Int)) + 1))) ((putI (putI (putI T (74, 0, 0) 0 ((i : Int) / (b2 * c2))) (74, 0, 0) 1 (((i : Int) / c2) % b2)) (74, 0, 0) 2 ((i : Int) % c2)).1 (74, 0, 0) (T.1 (62, 0, 0) ((3 * (r : Int)) + 2))) (by omega) (by omega) (by omega)) rfl (Nat.le_of_ble_eq_true rfl) (Nat.le_of_ble_eq_true rfl) (by decide) (by omega) (by omega) ?_
        refine x_top (show 64 * (T.1 (62, 0, 0) (3 * (r : Int))) + 8 * ((putI (putI (putI T (74, 0, 0) 0 ((i : Int) / (b2 * c2))) (74, 0, 0) 1 (((i : Int) / c2) % b2)) (74, 0, 0) 2 ((i : Int) % c2)).1 (74, 0, 0) (T.1 (62, 0, 0) ((3 * (r : Int)) + 1))) + ((putI (putI (putI T (74, 0, 0) 0 ((i : Int) / (b2 * c2))) (74, 0, 0) 1 (((i : Int) / c2) % b2)) (74, 0, 0) 2 ((i : Int) % c2)).1 (74, 0, 0) (T.1 (62, 0, 0) ((3 * (r : Int)) + 2))) = hfact C.1 r (wayI b2 c2 (i : Int)) from by have k := hfact_g C (g := (putI (putI (putI T (74, 0, 0) 0 ((i : Int) / (b2 * c2))) (74, 0, 0) 1 ((i : Int) / c2 % b2)) (74, 0, 0) 2 ((i : Int) % c2)).1 (74, 0, 0)) (r := (r : Int)) (fun k => wfa74 (show WI (putI (putI (putI T (74, 0, 0) 0 ((i : Int) / (b2 * c2))) (74, 0, 0) 1 ((i : Int) / c2 % b2)) (74, 0, 0) 2 ((i : Int) % c2)) by assumption) k) q2 q3; rw [th3_74, wG_3] at k; rw [th3_74, q1]; exact k) ?_
        refine x_iload_n dX9_because_148 rfl ?_
        refine x_icmp_ne (tgt := 168) dX9_because_149 (by decide) (by first | exact hz _ _ | exact hw.1 _ _ | exact zR_of _ | exact bI_z _ | assumption | exact ⟨by omega, by omega⟩) (by first | exact hz _ _ | exact hw.1 _ _ | exact zR_of _ | exact bI_z _ | assumption | exact ⟨by omega, by omega⟩) (fun c149 => ?_) (fun c149 => ?_)
        · refine x_iinc (L' := [xR (50, 0, 0), xI q, xI (r : Int), xI a2, xI b2, xI c2, xI ((i : Int) + 1)]) dX9_because_168 rfl rfl ?_
          refine x_goto (tgt := 47) dX9_because_171 (by decide) ?_
          exact ih (putI (putI (putI T (74, 0, 0) 0 ((i : Int) / (b2 * c2))) (74, 0, 0) 1 (((i : Int) / c2) % b2)) (74, 0, 0) 2 ((i : Int) % c2)) (i + 1) (by omega) (((eT.put _ _).put _ _).put _ _) (by assumption) (fun j hj => by rcases Nat.lt_or_eq_of_le (show j ≤ i by omega) with y | y; exact hno j y; rw [y]; exact fun z => by have := bi.mpr z; omega) (by omega)
        · refine x_aload_n dX9_because_152 rfl ?_
          refine x_iload_n dX9_because_153 rfl ?_
          refine x_callV_r (a := 0) (b := 0) (as := [xI (r : Int)]) (rest := []) ok_X9_given dX9_because_154 wd1273 ⟨wd1275, wd32⟩ (hp50 (putI (putI (putI T (74, 0, 0) 0 ((i : Int) / (b2 * c2))) (74, 0, 0) 1 (((i : Int) / c2) % b2)) (74, 0, 0) 2 ((i : Int) % c2))) rfl rfl (m_given C (putI (putI (putI T (74, 0, 0) 0 ((i : Int) / (b2 * c2))) (74, 0, 0) 1 (((i : Int) / c2) % b2)) (74, 0, 0) 2 ((i : Int) % c2)) hC.1 hw106_4 (hr.q ((((eT.put _ _).put _ _).put _ _).md rfl)) (r : Int) (by omega) (by omega) hR (C.1 (34, r, 0) 2).toNat (by omega)) rfl (Nat.le_of_ble_eq_true rfl) (Nat.le_of_ble_eq_true rfl) (by decide) (by omega) (by omega) ?_
          refine x_top (show gvV C.1 ((putI (putI (putI T (74, 0, 0) 0 ((i : Int) / (b2 * c2))) (74, 0, 0) 1 (((i : Int) / c2) % b2)) (74, 0, 0) 2 ((i : Int) % c2)).1 (73, 0, 0)) (r : Int) (wG ((putI (putI (putI T (74, 0, 0) 0 ((i : Int) / (b2 * c2))) (74, 0, 0) 1 (((i : Int) / c2) % b2)) (74, 0, 0) 2 ((i : Int) % c2)).1 (74, 0, 0))) (C.1 (34, r, 0) 2).toNat = gvV C.1 (T.1 (73, 0, 0)) r (wayI b2 c2 (i : Int)) (C.1 (34, r, 0) 2).toNat from by rw [th3_73, th3_74, wG_3]; rfl) ?_
          refine x_aload_n dX9_because_157 rfl ?_
          refine x_get (v := xR (73, 0, 0)) dX9_because_158 fl_RX9_87 (hp50 (putI (putI (putI T (74, 0, 0) 0 ((i : Int) / (b2 * c2))) (74, 0, 0) 1 (((i : Int) / c2) % b2)) (74, 0, 0) 2 ((i : Int) % c2))) rfl ?_
          refine x_iload_n dX9_because_161 rfl ?_
          refine x_aldi (f := T.1 (73, 0, 0)) dX9_because_162 (hp73 (putI (putI (putI T (74, 0, 0) 0 ((i : Int) / (b2 * c2))) (74, 0, 0) 1 (((i : Int) / c2) % b2)) (74, 0, 0) 2 ((i : Int) % c2))) (show (73 : Nat) ≠ 99 by decide) (by omega) (by omega) (by decide) ?_
          have f162_10 := wfa73 wT (S := T) q
          refine x_icmp_ne (tgt := 168) dX9_because_163 (by decide) (by first | exact hz _ _ | exact hw.1 _ _ | exact zR_of _ | exact bI_z _ | assumption | exact ⟨by omega, by omega⟩) (by first | exact hz _ _ | exact hw.1 _ _ | exact zR_of _ | exact bI_z _ | assumption | exact ⟨by omega, by omega⟩) (fun c163 => ?_) (fun c163 => ?_)
          · refine x_iinc (L' := [xR (50, 0, 0), xI q, xI (r : Int), xI a2, xI b2, xI c2, xI ((i : Int) + 1)]) dX9_because_168 rfl rfl ?_
            refine x_goto (tgt := 47) dX9_because_171 (by decide) ?_
            exact ih (putI (putI (putI T (74, 0, 0) 0 ((i : Int) / (b2 * c2))) (74, 0, 0) 1 (((i : Int) / c2) % b2)) (74, 0, 0) 2 ((i : Int) % c2)) (i + 1) (by omega) (((eT.put _ _).put _ _).put _ _) (by assumption) (fun j hj => by rcases Nat.lt_or_eq_of_le (show j ≤ i by omega) with y | y; exact hno j y; rw [y]; exact fun z => by have := bi.mpr z; omega) (by omega)
          · refine x_iload_n dX9_because_166 rfl ?_
            exact x_iret dX9_because_167 rfl ⟨_, _, rfl, rfl, by omega, (((eT.put _ _).put _ _).put _ _), by assumption, bev_mk hx hp6 hq hmq (by rw [th3_74, wG_3]; exact bi.mp ⟨by omega, by omega⟩) (fun r' w' hb2 z => by rw [th3_74, wG_3] at hb2; rcases hb2 with y | ⟨y, y2⟩; (obtain ⟨k, hk⟩ := Int.eq_ofNat_of_zero_le z.1; subst hk; exact hnr k w' y z); (subst y; obtain ⟨j, j1, j2⟩ := way_all hR.1 ha hb hc z.2.2.2.2.1 (by have := z.2.2.2.2.2.1; omega) z.2.2.2.2.2.2.1.1; exact hno j (by have := way_mono ha1 hb1 hc1 (i := (j : Int)) (j := (i : Int)) (by omega) (by omega) (by rw [j2]; exact y2); omega) (by rw [j2]; exact z)))⟩
set_option maxHeartbeats 4000000 in
set_option maxRecDepth 100000 in
theorem l_becauseR (C S : XS) (hC : CB C) (hr : MRr C S) (hn : MRn C S) (b : Int) (b0 : 0 ≤ b) (b1 : b < C.1 (0, 0, 0) 6) (n : Nat) (hn9 : (n : Int) ≤ C.1 (9, b, 0) 3) (t : Int) (hF : FinR C b n t (S.1 (73, 0, 0))) (hO : OnRow S (onN C.1 b n)) (x p : Nat) (hx : x < 6) (hp6 : p < 64) (q : Int) (hq : q = 64 * (x : Int) + p) (m : Nat) (hmq : S.1 (73, 0, 0) q = ((m + 1 : Nat) : Int)) (m9 : m + 1 < 9999) : ∀ (nn : Nat) (T : XS) (r : Nat), C.1 (4, 0, 0) 2 - r + 1 < (nn : Int) → (Ex1 (74, 0, 0) S T) → (WI T) → (∀ (r' : Nat) (w' : Int), (r' : Int) < (r : Int) → ¬ Hit C.1 (onN C.1 b n) (levF C.1 (onN C.1 b n) (hl C.1 b n t) (toldN C.1 b t n) m) (hl C.1 b n t) r' w' x p) → ((r : Int) ≤ C.1 (4, 0, 0) 2) → X mX9_because 13 [xR (50, 0, 0), xI q, xI (r : Int), none, none, none, none] [] (hp T) 0 0 (pBe C S b n t q) := by
  intro nn
  induction nn with
  | zero => intro T r hm eT wT hnr hrn; exfalso; omega
  | succ nn ih =>
    intro T r hm eT wT hnr hrn
    have c4 := wf4_2 hC.1
    have hz := wT.1
    have hrT := hr.q (eT.md rfl)
    have hn2 := hn.q (eT.md rfl)
    obtain ⟨-, n12, -, -⟩ := hn2
    refine x_iload_n dX9_because_13 rfl ?_
    refine x_aload_n dX9_because_14 rfl ?_
    refine x_get (v := xI (T.1 (50, 0, 0) 12)) dX9_because_15 fl_RX9_111 (hp50 T) rfl ?_
    have f15_1 := wf50_12 wT (S := T)
    refine x_icmp_ge (tgt := 180) dX9_because_18 (by decide) (by first | exact hz _ _ | exact hw.1 _ _ | exact zR_of _ | exact bI_z _ | assumption | exact ⟨by omega, by omega⟩) (by first | exact hz _ _ | exact hw.1 _ _ | exact zR_of _ | exact bI_z _ | assumption | exact ⟨by omega, by omega⟩) (fun c18 => ?_) (fun c18 => ?_)
    · refine x_iconst dX9_because_180 ?_
      exact x_iret dX9_because_181 rfl (by exfalso; obtain ⟨k, w, hk⟩ := bec_some hC b0 b1 hn9 hF hx hp6 (by rw [← hq]; exact hmq) m9; exact hnr k w (by have := hk.2.1; omega) hk)
    · have r1 : (r : Int) < C.1 (4, 0, 0) 2 := by omega
      have c34 := wf34_2 hC.1 (b := (r : Int)) (by omega) (by omega)
      refine x_aload_n dX9_because_21 rfl ?_
      refine x_iload_n dX9_because_22 rfl ?_
      refine x_iconst dX9_because_23 ?_
      refine x_callV_r (a := 0) (b := 0) (as := [xI (r : Int), xI 0]) (rest := []) ok_X9_tried dX9_because_24 wd1262 ⟨wd1264, wd30⟩ (hp50 T) rfl rfl (m_tried C T hC.1 wT hrT (r : Int) 0 (by omega) (by omega) (by omega) (by omega) (C.1 (34, r, 0) 2).toNat (by omega)) rfl (Nat.le_of_ble_eq_true rfl) (Nat.le_of_ble_eq_true rfl) (by decide) (by omega) (by omega) ?_
      refine x_istore_n (L' := [xR (50, 0, 0), xI q, xI (r : Int), xI (tr8 T (r : Int) 0 (C.1 (34, r, 0) 2).toNat), none, none, none]) dX9_because_27 (by decide) rfl ?_
      refine x_aload_n dX9_because_28 rfl ?_
      refine x_iload_n dX9_because_29 rfl ?_
      refine x_iconst dX9_because_30 ?_
      refine x_callV_r (a := 0) (b := 0) (as := [xI (r : Int), xI 1]) (rest := []) ok_X9_tried dX9_because_31 wd1262 ⟨wd1264, wd30⟩ (hp50 T) rfl rfl (m_tried C T hC.1 wT hrT (r : Int) 1 (by omega) (by omega) (by omega) (by omega) (C.1 (34, r, 0) 2).toNat (by omega)) rfl (Nat.le_of_ble_eq_true rfl) (Nat.le_of_ble_eq_true rfl) (by decide) (by omega) (by omega) ?_
      refine x_istore (L' := [xR (50, 0, 0), xI q, xI (r : Int), xI (tr8 T (r : Int) 0 (C.1 (34, r, 0) 2).toNat), xI (tr8 T (r : Int) 1 (C.1 (34, r, 0) 2).toNat), none, none]) dX9_because_34 (by decide) rfl ?_
      refine x_aload_n dX9_because_36 rfl ?_
      refine x_iload_n dX9_because_37 rfl ?_
      refine x_iconst dX9_because_38 ?_
      refine x_callV_r (a := 0) (b := 0) (as := [xI (r : Int), xI 2]) (rest := []) ok_X9_tried dX9_because_39 wd1262 ⟨wd1264, wd30⟩ (hp50 T) rfl rfl (m_tried C T hC.1 wT hrT (r : Int) 2 (by omega) (by omega) (by omega) (by omega) (C.1 (34, r, 0) 2).toNat (by omega)) rfl (Nat.le_of_ble_eq_true rfl) (Nat.le_of_ble_eq_true rfl) (by decide) (by omega) (by omega) ?_
      refine x_istore (L' := [xR (50, 0, 0), xI q, xI (r : Int), xI (tr8 T (r : Int) 0 (C.1 (34, r, 0) 2).toNat), xI (tr8 T (r : Int) 1 (C.1 (34, r, 0) 2).toNat), xI (tr8 T (r : Int) 2 (C.1 (34, r, 0) 2).toNat), none]) dX9_because_42 (by decide) rfl ?_
      refine x_iconst dX9_because_44 ?_
      refine x_istore (L' := [xR (50, 0, 0), xI q, xI (r : Int), xI (tr8 T (r : Int) 0 (C.1 (34, r, 0) 2).toNat), xI (tr8 T (r : Int) 1 (C.1 (34, r, 0) 2).toNat), xI (tr8 T (r : Int) 2 (C.1 (34, r, 0) 2).toNat), xI 0]) dX9_because_45 (by decide) rfl ?_
      have ab := tr_abc hrT r1
      exact l_becauseW C S hC hr hn b b0 b1 n hn9 t hF hO x p hx hp6 q hq m hmq m9 r r1 hnr (tr8 T (r : Int) 0 (C.1 (34, r, 0) 2).toNat) (tr8 T (r : Int) 1 (C.1 (34, r, 0) 2).toNat) (tr8 T (r : Int) 2 (C.1 (34, r, 0) 2).toNat) (tr_ok hrT (by omega) r1 (by decide) (by decide) (by decide)) (tr_ok hrT (by omega) r1 (by decide) (by decide) (by decide)) (tr_ok hrT (by omega) r1 (by decide) (by decide) (by decide)) (fun U e1 e2 e3 => ih U (r + 1) (by omega) e1 e2 e3 (by omega)) 513 T 0 (by omega) eT wT (fun j hj => by omega) (by omega)
set_option maxHeartbeats 4000000 in
set_option maxRecDepth 100000 in
theorem m_because (C S : XS) (hC : CB C) (hw : WI S) (hr : MRr C S) (hn : MRn C S) (b : Int) (b0 : 0 ≤ b) (b1 : b < C.1 (0, 0, 0) 6) (n : Nat) (hn9 : (n : Int) ≤ C.1 (9, b, 0) 3) (t : Int) (hF : FinR C b n t (S.1 (73, 0, 0))) (hO : OnRow S (onN C.1 b n)) (q : Int) (q0 : 0 ≤ q) (q1 : q < 384) (hq9 : S.1 (73, 0, 0) q < 9999) : X mX9_because 0 (xEnt mX9_because [xR (50, 0, 0), xI q]) [] (hp S) 0 0 (pBe C S b n t q) := by
  have c4 := wf4_2 hC.1
  have hz := hw.1
  have rin := wfa73 hw q
  show X mX9_because 0 [xR (50, 0, 0), xI q, none, none, none, none, none] [] (hp S) 0 0 _
  refine x_aload_n dX9_because_0 rfl ?_
  refine x_get (v := xR (73, 0, 0)) dX9_because_1 fl_RX9_87 (hp50 S) rfl ?_
  refine x_iload_n dX9_because_4 rfl ?_
  refine x_aldi (f := S.1 (73, 0, 0)) dX9_because_5 (hp73 S) (show (73 : Nat) ≠ 99 by decide) (by omega) (by omega) (by decide) ?_
  have f5_1 := wfa73 hw (S := S) q
  refine x_if_ne (tgt := 11) dX9_because_6 (by decide) (by first | exact hz _ _ | exact hw.1 _ _ | exact zR_of _ | exact bI_z _ | assumption | exact ⟨by omega, by omega⟩) (fun c6 => ?_) (fun c6 => ?_)
  · refine x_iconst dX9_because_11 ?_
    refine x_istore_n (L' := [xR (50, 0, 0), xI q, xI 0, none, none, none, none]) dX9_because_12 (by decide) rfl ?_
    exact l_becauseR C S hC hr hn b b0 b1 n hn9 t hF hO (q / 64).toNat (q % 64).toNat (by omega) (by omega) q (by omega) (S.1 (73, 0, 0) q - 1).toNat (by omega) (by omega) 13 S 0 (by omega) (Ex1.rf _ _) hw (fun r' w' hr2 z => by have := z.1; omega) (by omega)
  · refine x_iconst dX9_because_9 ?_
    exact x_iret dX9_because_10 rfl ⟨S, -1, rfl, rfl, by omega, Ex1.rf _ _, hw, Or.inl ⟨by omega, rfl⟩⟩
