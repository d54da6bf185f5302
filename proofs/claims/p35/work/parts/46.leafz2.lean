/-! reasons: the size of a proof; the calls that ask for reasons -/
theorem QW.next {S T : XS} {q0 n i : Int} (h : QW S q0 T n i 3) : QW S q0 T n (i + 1) 0 := by
  obtain ⟨h1, h2, h3, h4, h5⟩ := h
  exact ⟨h1, h2, h3, h4, fun i' k a b c d e z => h5 i' k a b c d (by omega) z⟩
theorem QW.le {S T : XS} {q0 n i j : Int} (h : QW S q0 T n i j) : n ≤ 384 := by
  have a := h.2.2.1.2.2
  have b := cntF_le (T.2.1 (45, 0, 0))
  omega
theorem QW.at {S T : XS} {q0 n i j : Int} (h : QW S q0 T n i j) (i0 : 0 ≤ i) (i1 : i < n) : 0 ≤ T.1 (46, 0, 0) i ∧ T.1 (46, 0, 0) i < 384 := ⟨(h.2.2.1.2.1 i i0 i1).1, (h.2.2.1.2.1 i i0 i1).2.1⟩
theorem cntN_none {P : Nat → Prop} (n : Nat) (h : ∀ k, k < n → ¬ P k) : cntN P n = 0 := by
  induction n with
  | zero => rfl
  | succ n ih => rw [cntN_f (h n (by omega)), ih (fun k hk => h k (by omega))]
theorem sB_fill (S : XS) {x : Int} (x0 : 0 ≤ x) (x1 : x < 384) : ¬ sB ((rowJ S (45, 0, 0) (fun _ => 0) 6).2.1 (45, 0, 0)) x := by
  unfold sB
  rw [rowJ_at S (45, 0, 0) (fun _ => 0) (n := 6) (by omega) (by omega)]
  obtain ⟨p, hp⟩ := Int.eq_ofNat_of_zero_le (show 0 ≤ x % 64 by omega)
  rw [hp]
  exact bitJ_0 p (by omega)
theorem enq_first (S : XS) {x : Int} (x0 : 0 ≤ x) (x1 : x < 384) : ¬ enqNo (rowJ S (45, 0, 0) (fun _ => 0) 6) x 0 := by
  rintro (z | z)
  · exact sB_fill S x0 x1 z
  · omega
theorem QW.first {S : XS} (hw : WI S) {x : Int} (x0 : 0 ≤ x) (x1 : x < 384) : QW S x (sEnq (rowJ S (45, 0, 0) (fun _ => 0) 6) x 0) (0 + 1) 0 0 := by
  have a : QI S.1 (S.1 (40, 0, 0)) (S.1 (41, 0, 0)) (S.1 (42, 0, 0)) x ((rowJ S (45, 0, 0) (fun _ => 0) 6).2.1 (45, 0, 0)) ((rowJ S (45, 0, 0) (fun _ => 0) 6).1 (46, 0, 0)) 0 := by
    refine ⟨fun y y0 y1 z => absurd z (sB_fill S y0 y1), fun j a b => by omega, ?_⟩
    rw [cntF_sB, cntN_none 384 (fun k hk => sB_fill S (by omega) (by omega))]
    rfl
  refine ⟨(PEq.fill S _).tr (PEq.enq _ x 0), wi_enq (WI.row hw) x0 x1, ?_, ?_, fun i' k a b c d e z => by omega⟩
  · rw [enq_45, enq_46]
    exact a.add x0 x1 (sB_fill S x0 x1) (PrS.rf _ _ _ _ _)
  · rw [enq_45]
    exact (sB_upd _ x0 x1 x0 x1).mpr (Or.inr rfl)
def pPr (S : XS) (q : Int) : XO → XH → Prop := fun o h' => o = .inl (some (xI ((prC S.1 (S.1 (40, 0, 0)) (S.1 (41, 0, 0)) (S.1 (42, 0, 0)) q : Nat) : Int))) ∧ ∃ S', h' = hp S' ∧ PEq S S' ∧ WI S'
/-- what is asked of the reasons of a fact: an answer out of its rows -/
def pAsk (S : XS) (b : Int) (n : Nat) (t : Int) (A : (Int → Int) → (Int → Int) → (Int → Int) → Int) : XO → XH → Prop := fun o h' => ∃ rk ru wy, Rsn S.1 b n t rk ru wy ∧ pQ S (some (xI (A rk ru wy))) o h'
set_option maxHeartbeats 4000000 in
set_option maxRecDepth 100000 in
theorem c_rank (S : XS) (hb : CB S) (i n t q : Int) (zi : zR i) (zn : zR n) (zt : zR t) (zq : zR q) : X mX8_rank 0 (xEnt mX8_rank [xR (0, 0, 0), xI i, xI n, xI t, xI q]) [] (hp S) 5 30 (pOr ((0 ≤ i ∧ i < S.1 (0, 0, 0) 6) ∧ 0 ≤ n ∧ n < S.1 (9, i, 0) 3 + 1) (pOr ((0 ≤ t ∧ t < 24) ∧ 0 ≤ q ∧ q < 384) (pOr (hB S.1 i n.toNat t q) (pAsk S i n.toNat t (fun rk _ _ => rk q)) (pX S "java/util/NoSuchElementException")) (pX S "java/lang/IllegalArgumentException")) (pX S "java/lang/IndexOutOfBoundsException")) := by
  have hw := hb.1
  have hn6 := wf0_6 hw
  have h93 : 0 ≤ i → i < S.1 (0, 0, 0) 6 → 0 ≤ S.1 (9, i, 0) 3 ∧ S.1 (9, i, 0) 3 ≤ 60 := fun a b => wf9_3 hw a (by omega)
  have zi2 := zi
  unfold zR at zi2
  have zn2 := zn
  unfold zR at zn2
  have zt2 := zt
  unfold zR at zt2
  have zq2 := zq
  unfold zR at zq2
  show X mX8_rank 0 [xR (0, 0, 0), xI i, xI n, xI t, xI q] [] (hp S) 5 30 _
  refine x_aload_n dX8_rank_0 rfl ?_
  refine x_iload_n dX8_rank_1 rfl ?_
  refine x_iload_n dX8_rank_2 rfl ?_
  refine x_iload_n dX8_rank_3 rfl ?_
  refine x_iload dX8_rank_4 rfl ?_
  refine x_callV (a := 5) (b := 30) (as := [xI i, xI n, xI t, xI q]) (rest := []) ok_X8_findReason dX8_rank_6 wd741 ⟨wd743, wd10⟩ (hp0 S) rfl rfl (c_findReason S hb i n t q (by first | exact hz _ _ | exact hw.1 _ _ | exact zR_of _ | exact bI_z _ | assumption | exact ⟨by omega, by omega⟩) (by first | exact hz _ _ | exact hw.1 _ _ | exact zR_of _ | exact bI_z _ | assumption | exact ⟨by omega, by omega⟩) (by first | exact hz _ _ | exact hw.1 _ _ | exact zR_of _ | exact bI_z _ | assumption | exact ⟨by omega, by omega⟩) (by first | exact hz _ _ | exact hw.1 _ _ | exact zR_of _ | exact bI_z _ | assumption | exact ⟨by omega, by omega⟩)) rfl (Nat.le_of_ble_eq_true rfl) (Nat.le_of_ble_eq_true rfl) (by decide) (by omega) (by omega) (fun _ q => ?_) (fun _ _ q => by rcases q with ⟨_, ⟨_, ⟨_, q, _⟩ | ⟨_, q, _⟩⟩ | ⟨_, q, _⟩⟩ | ⟨_, q, _⟩ <;> cases q) (fun _ _ q => ?_)
  · rcases q with ⟨g1, ⟨g2, ⟨g3, y, R1, rfl, qR1, bR1, sR1⟩ | ⟨_, q, _⟩⟩ | ⟨_, q, _⟩⟩ | ⟨_, q, _⟩
    · refine x_aload_n dX8_rank_9 rfl ?_
      refine x_get (v := xR (5, 0, 0)) dX8_rank_10 fl_RX8_35 (hp0 R1) rfl ?_
      refine x_get (v := xR (40, 0, 0)) dX8_rank_13 fl_RX8_191 (hp5 R1) rfl ?_
      refine x_iload dX8_rank_16 rfl ?_
      refine x_aldi (f := R1.1 (40, 0, 0)) dX8_rank_18 (hp40 R1) (show (40 : Nat) ≠ 99 by decide) (by omega) (by omega) (by decide) ?_
      have f18_1 := wfa40 bR1.1 (S := R1) q
      exact x_iret dX8_rank_19 rfl (Or.inl ⟨g1, Or.inl ⟨g2, Or.inl ⟨g3, _, _, _, sR1, pQi qR1 bR1⟩⟩⟩)
    · cases q
    · cases q
    · cases q
  · rcases q with ⟨g1, ⟨g2, ⟨_, q, _⟩ | ⟨g3, q, R1, rfl, qR1, bR1⟩⟩ | ⟨g2, q, R1, rfl, qR1, bR1⟩⟩ | ⟨g1, q, R1, rfl, qR1, bR1⟩ <;> cases q
    · exact XX.out rfl (Or.inl ⟨g1, Or.inl ⟨g2, Or.inr ⟨g3, pXi qR1 bR1⟩⟩⟩)
    · exact XX.out rfl (Or.inl ⟨g1, Or.inr ⟨g2, pXi qR1 bR1⟩⟩)
    · exact XX.out rfl (Or.inr ⟨g1, pXi qR1 bR1⟩)
