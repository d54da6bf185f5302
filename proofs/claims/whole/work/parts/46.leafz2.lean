/-! reasons: the size of a proof; the calls that ask for reasons -/
theorem QW.next {S T : XS} {q0 n i : Int} (h : QW S q0 T n i 3) : QW S q0 T n (i + 1) 0 := by
  obtain ⟨h1, h2, h3, h4, h5⟩ := h
  exact ⟨h1, h2, h3, h4, fun i' k a b c d e z => h5 i' k a b c d (by omega) z⟩
theorem QW.le {S T : XS} {q0 n i j : Int} (h : QW S q0 T n i j) : n ≤ 384 := by
  have a := h.2.2.1.2.2
  have b := cntF_le (T.2.1 (45, 0, 0))
  omega
theorem QW.at {S T : XS} {q0 n i j : Int} (h : QW S q0 T n i j) (i0 : 0 ≤ i) (i1 : i < n) : 0 ≤ T.1 (46, 0, 0) i ∧ T.1 (46, 0, 0) i < 384 := ⟨(h.2.2.1.2.1 i i0 i1).1, (h.2.2.1.2.1 i i0 i1).2.1⟩
theorem cntN_none {P : Nat → Prop} (n : Nat) (h : ∀ k, k < n → ¬ P k) : cntN P n = 0 := by
  induction n with
  | zero => rfl
  | succ n ih => rw [cntN_f (h n (by omega)), ih (fun k hk => h k (by omega))]
theorem sB_fill (S : XS) {x : Int} (x0 : 0 ≤ x) (x1 : x < 384) : ¬ sB ((rowJ S (45, 0, 0) (fun _ => 0) 6).2.1 (45, 0, 0)) x := by
  unfold sB
  rw [rowJ_at S (45, 0, 0) (fun _ => 0) (n := 6) (by omega) (by omega)]
  obtain ⟨p, hp⟩ := Int.eq_ofNat_of_zero_le (show 0 ≤ x % 64 by omega)
  rw [hp]
  exact bitJ_0 p (by omega)
theorem enq_first (S : XS) {x : Int} (x0 : 0 ≤ x) (x1 : x < 384) : ¬ enqNo (rowJ S (45, 0, 0) (fun _ => 0) 6) x 0 := by
  rintro (z | z)
  · exact sB_fill S x0 x1 z
  · omega
theorem QW.first {S : XS} (hw : WI S) {x : Int} (x0 : 0 ≤ x) (x1 : x < 384) : QW S x (sEnq (rowJ S (45, 0, 0) (fun _ => 0) 6) x 0) (0 + 1) 0 0 := by
  have a : QI S.1 (S.1 (40, 0, 0)) (S.1 (41, 0, 0)) (S.1 (42, 0, 0)) x ((rowJ S (45, 0, 0) (fun _ => 0) 6).2.1 (45, 0, 0)) ((rowJ S (45, 0, 0) (fun _ => 0) 6).1 (46, 0, 0)) 0 := by
    refine ⟨fun y y0 y1 z => absurd z (sB_fill S y0 y1), fun j a b => by omega, ?_⟩
    rw [cntF_sB, cntN_none 384 (fun k hk => sB_fill S (by omega) (by omega))]
    rfl
  refine ⟨(PEq.fill S _).tr (PEq.enq _ x 0), wi_enq (WI.row hw) x0 x1, ?_, ?_, fun i' k a b c d e z => by omega⟩
  · rw [enq_45, enq_46]
    exact a.add x0 x1 (sB_fill S x0 x1) (PrS.rf _ _ _ _ _)
  · rw [enq_45]
    exact (sB_upd _ x0 x1 x0 x1).mpr (Or.inr rfl)
def pPr (S : XS) (q : Int) : XO → XH → Prop := fun o h' => o = .inl (some (xI ((prC S.1 (S.1 (40, 0, 0)) (S.1 (41, 0, 0)) (S.1 (42, 0, 0)) q : Nat) : Int))) ∧ ∃ S', h' = hp S' ∧ PEq S S' ∧ WI S'
set_option maxHeartbeats 4000000 in
set_option maxRecDepth 100000 in
theorem l_proofSizeI (S : XS) (hb : CB S) (q : Int) (q0 : 0 ≤ q) (q1 : q < 384) (hin : ∀ q k : Int, 0 ≤ q → q < 384 → premV S.1 (S.1 (40, 0, 0)) (S.1 (41, 0, 0)) (S.1 (42, 0, 0)) q k = -1 ∨ 0 ≤ premV S.1 (S.1 (40, 0, 0)) (S.1 (41, 0, 0)) (S.1 (42, 0, 0)) q k ∧ premV S.1 (S.1 (40, 0, 0)) (S.1 (41, 0, 0)) (S.1 (42, 0, 0)) q k < 384) (i : Int) (i0 : 0 ≤ i) (KK : ∀ (T : XS) (n : Int), QW S q T n (i + 1) 0 → i + 1 ≤ n → X mX3_proofSize 18 [xR (5, 0, 0), xR (4, 0, 0), xI q, xI n, xI (i + 1), none, none] [] (hp T) 0 0 (pPr S q)) : ∀ (nn : Nat) (T : XS) (n j : Int), 4 - j < (nn : Int) → (QW S q T n i j) → (0 ≤ j) → (j ≤ 3) → (i < n) → X mX3_proofSize 27 [xR (5, 0, 0), xR (4, 0, 0), xI q, xI n, xI i, xI j, none] [] (hp T) 0 0 (pPr S q) := by
  intro nn
  induction nn with
  | zero => intro T n j hm hQ hj0 hj3 hn; exfalso; omega
  | succ nn ih =>
    intro T n j hm hQ hj0 hj3 hn
    have hz := hQ.2.1.1
    have hle := hQ.le
    have hat := hQ.at i0 hn
    have hpi := hin (T.1 (46, 0, 0) i) j hat.1 hat.2
    refine x_iload dX3_proofSize_27 rfl ?_
    refine x_iconst dX3_proofSize_29 ?_
    refine x_icmp_ge (tgt := 73) dX3_proofSize_30 (by decide) (by first | exact hz _ _ | exact hw.1 _ _ | exact zR_of _ | exact bI_z _ | assumption | exact ⟨by omega, by omega⟩) ⟨by decide, by decide⟩ (fun c30 => ?_) (fun c30 => ?_)
    · refine x_iinc (L' := [xR (5, 0, 0), xR (4, 0, 0), xI q, xI n, xI (i + 1), xI j, none]) dX3_proofSize_73 rfl rfl ?_
      refine x_goto (tgt := 18) dX3_proofSize_76 (by decide) ?_
      refine X.loc (L' := [xR (5, 0, 0), xR (4, 0, 0), xI q, xI n, xI (i + 1), none, none]) ⟨rfl, ⟨rfl, ⟨rfl, ⟨rfl, ⟨rfl, trivial⟩⟩⟩⟩⟩ ?_
      exact KK T n (by rw [show j = 3 by omega] at hQ; exact hQ.next) (by omega)
    · refine x_aload_n dX3_proofSize_33 rfl ?_
      refine x_aload_n dX3_proofSize_34 rfl ?_
      refine x_aload_n dX3_proofSize_35 rfl ?_
      refine x_get (v := xR (46, 0, 0)) dX3_proofSize_36 fl_RX3_38 (hp5 T) rfl ?_
      refine x_iload dX3_proofSize_39 rfl ?_
      refine x_aldi (f := T.1 (46, 0, 0)) dX3_proofSize_41 (hp46 T) (show (46 : Nat) ≠ 99 by decide) (by omega) (by omega) (by decide) ?_
      have f41_1 := wfa46 hQ.2.1 (S := T) i
      refine x_iload dX3_proofSize_42 rfl ?_
      refine x_callV_r (a := 0) (b := 0) (as := [xR (4, 0, 0), xI (T.1 (46, 0, 0) i), xI j]) (rest := []) ok_X3_premise dX3_proofSize_44 wd949 ⟨wd930, wd931⟩ (hp5 T) rfl rfl (c_premiseZ T hQ.2.1 (T.1 (46, 0, 0) i) (by omega) (by omega) j (by first | exact hz _ _ | exact hw.1 _ _ | exact zR_of _ | exact bI_z _ | assumption | exact ⟨by omega, by omega⟩)) rfl (Nat.le_of_ble_eq_true rfl) (Nat.le_of_ble_eq_true rfl) (by decide) (by omega) (by omega) ?_
      refine x_top (show premV T.1 (T.1 (40, 0, 0)) (T.1 (41, 0, 0)) (T.1 (42, 0, 0)) (T.1 (46, 0, 0) i) j = premV S.1 (S.1 (40, 0, 0)) (S.1 (41, 0, 0)) (S.1 (42, 0, 0)) (T.1 (46, 0, 0) i) j from hQ.1.prem _ _) ?_
      refine x_istore (L' := [xR (5, 0, 0), xR (4, 0, 0), xI q, xI n, xI i, xI j, xI (premV S.1 (S.1 (40, 0, 0)) (S.1 (41, 0, 0)) (S.1 (42, 0, 0)) (T.1 (46, 0, 0) i) j)]) dX3_proofSize_47 (by decide) rfl ?_
      refine x_iload dX3_proofSize_49 rfl ?_
      refine x_iconst dX3_proofSize_51 ?_
      refine x_icmp_ne (tgt := 59) dX3_proofSize_52 (by decide) (by first | exact hz _ _ | exact hw.1 _ _ | exact zR_of _ | exact bI_z _ | assumption | exact ⟨by omega, by omega⟩) ⟨by decide, by decide⟩ (fun c52 => ?_) (fun c52 => ?_)
      · refine x_aload_n dX3_proofSize_59 rfl ?_
        refine x_iload dX3_proofSize_60 rfl ?_
        refine x_iload_n dX3_proofSize_62 rfl ?_
        refine x_callV (a := 0) (b := 0) (as := [xI (premV S.1 (S.1 (40, 0, 0)) (S.1 (41, 0, 0)) (S.1 (42, 0, 0)) (T.1 (46, 0, 0) i) j), xI n]) (rest := []) ok_X3_enqueue dX3_proofSize_63 wd945 ⟨wd947, wd15⟩ (hp5 T) rfl rfl (c_enqueue T hQ.2.1 (premV S.1 (S.1 (40, 0, 0)) (S.1 (41, 0, 0)) (S.1 (42, 0, 0)) (T.1 (46, 0, 0) i) j) (by omega) (by omega) n (by omega) (by omega)) rfl (Nat.le_of_ble_eq_true rfl) (Nat.le_of_ble_eq_true rfl) (by decide) (by omega) (by omega) (fun _ q => by rcases q with ⟨_, q, _⟩ | ⟨_, q, _⟩ <;> cases q) (fun _ _ q => ?_) (fun _ _ q => by rcases q with ⟨_, q, _⟩ | ⟨_, q, _⟩ <;> cases q)
        rcases q with ⟨cE, y, rfl⟩ | ⟨cE, y, rfl⟩ <;> cases y
        · refine x_istore_n (L' := [xR (5, 0, 0), xR (4, 0, 0), xI q, xI n, xI i, xI j, xI (premV S.1 (S.1 (40, 0, 0)) (S.1 (41, 0, 0)) (S.1 (42, 0, 0)) (T.1 (46, 0, 0) i) j)]) dX3_proofSize_66 (by decide) rfl ?_
          refine x_iinc (L' := [xR (5, 0, 0), xR (4, 0, 0), xI q, xI n, xI i, xI (j + 1), xI (premV S.1 (S.1 (40, 0, 0)) (S.1 (41, 0, 0)) (S.1 (42, 0, 0)) (T.1 (46, 0, 0) i) j)]) dX3_proofSize_67 rfl rfl ?_
          refine x_goto (tgt := 27) dX3_proofSize_70 (by decide) ?_
          refine X.loc (L' := [xR (5, 0, 0), xR (4, 0, 0), xI q, xI n, xI i, xI (j + 1), none]) ⟨rfl, ⟨rfl, ⟨rfl, ⟨rfl, ⟨rfl, ⟨rfl, trivial⟩⟩⟩⟩⟩⟩ ?_
          exact ih T n (j + 1) (by omega) (hQ.seen (hQ.2.2.1.no (by omega) (by omega) cE)) (by omega) (by omega) (by omega)
        · refine x_istore_n (L' := [xR (5, 0, 0), xR (4, 0, 0), xI q, xI (n + 1), xI i, xI j, xI (premV S.1 (S.1 (40, 0, 0)) (S.1 (41, 0, 0)) (S.1 (42, 0, 0)) (T.1 (46, 0, 0) i) j)]) dX3_proofSize_66 (by decide) rfl ?_
          refine x_iinc (L' := [xR (5, 0, 0), xR (4, 0, 0), xI q, xI (n + 1), xI i, xI (j + 1), xI (premV S.1 (S.1 (40, 0, 0)) (S.1 (41, 0, 0)) (S.1 (42, 0, 0)) (T.1 (46, 0, 0) i) j)]) dX3_proofSize_67 rfl rfl ?_
          refine x_goto (tgt := 27) dX3_proofSize_70 (by decide) ?_
          refine X.loc (L' := [xR (5, 0, 0), xR (4, 0, 0), xI q, xI (n + 1), xI i, xI (j + 1), none]) ⟨rfl, ⟨rfl, ⟨rfl, ⟨rfl, ⟨rfl, ⟨rfl, trivial⟩⟩⟩⟩⟩⟩ ?_
          exact ih (sEnq T (premV S.1 (S.1 (40, 0, 0)) (S.1 (41, 0, 0)) (S.1 (42, 0, 0)) (T.1 (46, 0, 0) i) j) n) (n + 1) (j + 1) (by omega) (hQ.add hin rfl (by omega) (by omega) (by omega) (by omega) (by omega) (by omega) (fun z => cE (Or.inl z)) (by omega) (by omega)) (by omega) (by omega) (by omega)
      · refine x_iload_n dX3_proofSize_55 rfl ?_
        refine x_goto (tgt := 66) dX3_proofSize_56 (by decide) ?_
        refine x_istore_n (L' := [xR (5, 0, 0), xR (4, 0, 0), xI q, xI n, xI i, xI j, xI (premV S.1 (S.1 (40, 0, 0)) (S.1 (41, 0, 0)) (S.1 (42, 0, 0)) (T.1 (46, 0, 0) i) j)]) dX3_proofSize_66 (by decide) rfl ?_
        refine x_iinc (L' := [xR (5, 0, 0), xR (4, 0, 0), xI q, xI n, xI i, xI (j + 1), xI (premV S.1 (S.1 (40, 0, 0)) (S.1 (41, 0, 0)) (S.1 (42, 0, 0)) (T.1 (46, 0, 0) i) j)]) dX3_proofSize_67 rfl rfl ?_
        refine x_goto (tgt := 27) dX3_proofSize_70 (by decide) ?_
        refine X.loc (L' := [xR (5, 0, 0), xR (4, 0, 0), xI q, xI n, xI i, xI (j + 1), none]) ⟨rfl, ⟨rfl, ⟨rfl, ⟨rfl, ⟨rfl, ⟨rfl, trivial⟩⟩⟩⟩⟩⟩ ?_
        exact ih T n (j + 1) (by omega) (hQ.skip (by omega)) (by omega) (by omega) (by omega)
set_option maxHeartbeats 4000000 in
set_option maxRecDepth 100000 in
theorem l_proofSizeO (S : XS) (hb : CB S) (q : Int) (q0 : 0 ≤ q) (q1 : q < 384) (hin : ∀ q k : Int, 0 ≤ q → q < 384 → premV S.1 (S.1 (40, 0, 0)) (S.1 (41, 0, 0)) (S.1 (42, 0, 0)) q k = -1 ∨ 0 ≤ premV S.1 (S.1 (40, 0, 0)) (S.1 (41, 0, 0)) (S.1 (42, 0, 0)) q k ∧ premV S.1 (S.1 (40, 0, 0)) (S.1 (41, 0, 0)) (S.1 (42, 0, 0)) q k < 384) : ∀ (nn : Nat) (T : XS) (n i : Int), 386 - i < (nn : Int) → (QW S q T n i 0) → (0 ≤ i) → (i ≤ n) → (i ≤ 384) → X mX3_proofSize 18 [xR (5, 0, 0), xR (4, 0, 0), xI q, xI n, xI i, none, none] [] (hp T) 0 0 (pPr S q) := by
  intro nn
  induction nn with
  | zero => intro T n i hm hQ hi0 hin2 hin3; exfalso; omega
  | succ nn ih =>
    intro T n i hm hQ hi0 hin2 hin3
    have hz := hQ.2.1.1
    have hle := hQ.le
    refine x_iload dX3_proofSize_18 rfl ?_
    refine x_iload_n dX3_proofSize_20 rfl ?_
    refine x_icmp_ge (tgt := 79) dX3_proofSize_21 (by decide) (by first | exact hz _ _ | exact hw.1 _ _ | exact zR_of _ | exact bI_z _ | assumption | exact ⟨by omega, by omega⟩) (by first | exact hz _ _ | exact hw.1 _ _ | exact zR_of _ | exact bI_z _ | assumption | exact ⟨by omega, by omega⟩) (fun c21 => ?_) (fun c21 => ?_)
    · refine x_iload_n dX3_proofSize_79 rfl ?_
      exact x_iret dX3_proofSize_80 rfl ⟨by rw [show n = _ from hQ.2.2.1.full hQ.2.2.2.1 q0 q1 hin (fun j a b k c d z => hQ.2.2.2.2 j k a b c d (by omega) z)], T, rfl, hQ.1, hQ.2.1⟩
    · refine x_iconst dX3_proofSize_24 ?_
      refine x_istore (L' := [xR (5, 0, 0), xR (4, 0, 0), xI q, xI n, xI i, xI 0, none]) dX3_proofSize_25 (by decide) rfl ?_
      exact l_proofSizeI S hb q q0 q1 hin i (by omega) (fun T n h1 h2 => ih T n (i + 1) (by omega) h1 (by omega) (by omega) (by have := h1.le; omega)) 5 T n 0 (by omega) hQ (by omega) (by omega) (by omega)
set_option maxHeartbeats 4000000 in
set_option maxRecDepth 100000 in
theorem c_proofSize (S : XS) (hb : CB S) (q : Int) (q0 : 0 ≤ q) (q1 : q < 384) (hin : ∀ q k : Int, 0 ≤ q → q < 384 → premV S.1 (S.1 (40, 0, 0)) (S.1 (41, 0, 0)) (S.1 (42, 0, 0)) q k = -1 ∨ 0 ≤ premV S.1 (S.1 (40, 0, 0)) (S.1 (41, 0, 0)) (S.1 (42, 0, 0)) q k ∧ premV S.1 (S.1 (40, 0, 0)) (S.1 (41, 0, 0)) (S.1 (42, 0, 0)) q k < 384) : X mX3_proofSize 0 (xEnt mX3_proofSize [xR (5, 0, 0), xR (4, 0, 0), xI q]) [] (hp S) 0 0 (pPr S q) := by
  show X mX3_proofSize 0 [xR (5, 0, 0), xR (4, 0, 0), xI q, none, none, none, none] [] (hp S) 0 0 _
  refine x_aload_n dX3_proofSize_0 rfl ?_
  refine x_get (v := xR (45, 0, 0)) dX3_proofSize_1 fl_RX3_35 (hp5 S) rfl ?_
  refine x_lconst (v := 0) dX3_proofSize_4 (by decide) ?_
  refine x_callS_v (a := 0) (b := 0) (as := [xR (45, 0, 0), xJ 0]) (rest := []) ok_J7_fill_d0a16 dX3_proofSize_5 wd891 wd422 (c_fillJ45 S 0) rfl (Nat.le_of_ble_eq_true rfl) (Nat.le_of_ble_eq_true rfl) (by decide) (by omega) (by omega) ?_
  refine x_aload_n dX3_proofSize_8 rfl ?_
  refine x_iload_n dX3_proofSize_9 rfl ?_
  refine x_iconst dX3_proofSize_10 ?_
  refine x_callV (a := 0) (b := 0) (as := [xI q, xI 0]) (rest := []) ok_X3_enqueue dX3_proofSize_11 wd945 ⟨wd947, wd15⟩ (hp5 (rowJ S (45, 0, 0) (fun _ => 0) 6)) rfl rfl (c_enqueue (rowJ S (45, 0, 0) (fun _ => 0) 6) (WI.row hb.1) q (by omega) (by omega) 0 (by omega) (by omega)) rfl (Nat.le_of_ble_eq_true rfl) (Nat.le_of_ble_eq_true rfl) (by decide) (by omega) (by omega) (fun _ q => by rcases q with ⟨_, q, _⟩ | ⟨_, q, _⟩ <;> cases q) (fun _ _ q => ?_) (fun _ _ q => by rcases q with ⟨_, q, _⟩ | ⟨_, q, _⟩ <;> cases q)
  rcases q with ⟨cE, y, rfl⟩ | ⟨cE, y, rfl⟩ <;> cases y
  · exact absurd cE (enq_first S (by omega) (by omega))
  · refine x_istore_n (L' := [xR (5, 0, 0), xR (4, 0, 0), xI q, xI (0 + 1), none, none, none]) dX3_proofSize_14 (by decide) rfl ?_
    refine x_iconst dX3_proofSize_15 ?_
    refine x_istore (L' := [xR (5, 0, 0), xR (4, 0, 0), xI q, xI (0 + 1), xI 0, none, none]) dX3_proofSize_16 (by decide) rfl ?_
    exact l_proofSizeO S hb q q0 q1 hin 387 _ _ _ (by omega) (QW.first hb.1 q0 q1) (by omega) (by omega) (by omega)
/-- what is asked of the reasons of a fact: an answer out of its rows -/
def pAsk (S : XS) (b : Int) (n : Nat) (t : Int) (A : (Int → Int) → (Int → Int) → (Int → Int) → Int) : XO → XH → Prop := fun o h' => ∃ rk ru wy, Rsn S.1 b n t rk ru wy ∧ pQ S (some (xI (A rk ru wy))) o h'
set_option maxHeartbeats 4000000 in
set_option maxRecDepth 100000 in
theorem c_rank (S : XS) (hb : CB S) (i n t q : Int) (zi : zR i) (zn : zR n) (zt : zR t) (zq : zR q) : X mX8_rank 0 (xEnt mX8_rank [xR (0, 0, 0), xI i, xI n, xI t, xI q]) [] (hp S) 5 30 (pOr ((0 ≤ i ∧ i < S.1 (0, 0, 0) 6) ∧ 0 ≤ n ∧ n < S.1 (9, i, 0) 3 + 1) (pOr ((0 ≤ t ∧ t < 24) ∧ 0 ≤ q ∧ q < 384) (pOr (hB S.1 i n.toNat t q) (pAsk S i n.toNat t (fun rk _ _ => rk q)) (pX S "java/util/NoSuchElementException")) (pX S "java/lang/IllegalArgumentException")) (pX S "java/lang/IndexOutOfBoundsException")) := by
  have hw := hb.1
  have hn6 := wf0_6 hw
  have h93 : 0 ≤ i → i < S.1 (0, 0, 0) 6 → 0 ≤ S.1 (9, i, 0) 3 ∧ S.1 (9, i, 0) 3 ≤ 60 := fun a b => wf9_3 hw a (by omega)
  have zi2 := zi
  unfold zR at zi2
  have zn2 := zn
  unfold zR at zn2
  have zt2 := zt
  unfold zR at zt2
  have zq2 := zq
  unfold zR at zq2
  show X mX8_rank 0 [xR (0, 0, 0), xI i, xI n, xI t, xI q] [] (hp S) 5 30 _
  refine x_aload_n dX8_rank_0 rfl ?_
  refine x_iload_n dX8_rank_1 rfl ?_
  refine x_iload_n dX8_rank_2 rfl ?_
  refine x_iload_n dX8_rank_3 rfl ?_
  refine x_iload dX8_rank_4 rfl ?_
  refine x_callV (a := 5) (b := 30) (as := [xI i, xI n, xI t, xI q]) (rest := []) ok_X8_findReason dX8_rank_6 wd876 ⟨wd878, wd10⟩ (hp0 S) rfl rfl (c_findReason S hb i n t q (by first | exact hz _ _ | exact hw.1 _ _ | exact zR_of _ | exact bI_z _ | assumption | exact ⟨by omega, by omega⟩) (by first | exact hz _ _ | exact hw.1 _ _ | exact zR_of _ | exact bI_z _ | assumption | exact ⟨by omega, by omega⟩) (by first | exact hz _ _ | exact hw.1 _ _ | exact zR_of _ | exact bI_z _ | assumption | exact ⟨by omega, by omega⟩) (by first | exact hz _ _ | exact hw.1 _ _ | exact zR_of _ | exact bI_z _ | assumption | exact ⟨by omega, by omega⟩)) rfl (Nat.le_of_ble_eq_true rfl) (Nat.le_of_ble_eq_true rfl) (by decide) (by omega) (by omega) (fun _ q => ?_) (fun _ _ q => by rcases q with ⟨_, ⟨_, ⟨_, q, _⟩ | ⟨_, q, _⟩⟩ | ⟨_, q, _⟩⟩ | ⟨_, q, _⟩ <;> cases q) (fun _ _ q => ?_)
  · rcases q with ⟨g1, ⟨g2, ⟨g3, y, R1, rfl, qR1, bR1, sR1⟩ | ⟨_, q, _⟩⟩ | ⟨_, q, _⟩⟩ | ⟨_, q, _⟩
    · refine x_aload_n dX8_rank_9 rfl ?_
      refine x_get (v := xR (5, 0, 0)) dX8_rank_10 fl_RX8_35 (hp0 R1) rfl ?_
      refine x_get (v := xR (40, 0, 0)) dX8_rank_13 fl_RX8_191 (hp5 R1) rfl ?_
      refine x_iload dX8_rank_16 rfl ?_
      refine x_aldi (f := R1.1 (40, 0, 0)) dX8_rank_18 (hp40 R1) (show (40 : Nat) ≠ 99 by decide) (by omega) (by omega) (by decide) ?_
      have f18_1 := wfa40 bR1.1 (S := R1) q
      exact x_iret dX8_rank_19 rfl (Or.inl ⟨g1, Or.inl ⟨g2, Or.inl ⟨g3, _, _, _, sR1, pQi qR1 bR1⟩⟩⟩)
    · cases q
    · cases q
    · cases q
  · rcases q with ⟨g1, ⟨g2, ⟨_, q, _⟩ | ⟨g3, q, R1, rfl, qR1, bR1⟩⟩ | ⟨g2, q, R1, rfl, qR1, bR1⟩⟩ | ⟨g1, q, R1, rfl, qR1, bR1⟩ <;> cases q
    · exact XX.out rfl (Or.inl ⟨g1, Or.inl ⟨g2, Or.inr ⟨g3, pXi qR1 bR1⟩⟩⟩)
    · exact XX.out rfl (Or.inl ⟨g1, Or.inr ⟨g2, pXi qR1 bR1⟩⟩)
    · exact XX.out rfl (Or.inr ⟨g1, pXi qR1 bR1⟩)
set_option maxHeartbeats 4000000 in
set_option maxRecDepth 100000 in
theorem c_reason (S : XS) (hb : CB S) (i n t q : Int) (zi : zR i) (zn : zR n) (zt : zR t) (zq : zR q) : X mX8_reason 0 (xEnt mX8_reason [xR (0, 0, 0), xI i, xI n, xI t, xI q]) [] (hp S) 5 30 (pOr ((0 ≤ i ∧ i < S.1 (0, 0, 0) 6) ∧ 0 ≤ n ∧ n < S.1 (9, i, 0) 3 + 1) (pOr ((0 ≤ t ∧ t < 24) ∧ 0 ≤ q ∧ q < 384) (pOr (hB S.1 i n.toNat t q) (pAsk S i n.toNat t (fun rk ru _ => if 0 < rk q then ru q else -1)) (pX S "java/util/NoSuchElementException")) (pX S "java/lang/IllegalArgumentException")) (pX S "java/lang/IndexOutOfBoundsException")) := by
  have hw := hb.1
  have hn6 := wf0_6 hw
  have h93 : 0 ≤ i → i < S.1 (0, 0, 0) 6 → 0 ≤ S.1 (9, i, 0) 3 ∧ S.1 (9, i, 0) 3 ≤ 60 := fun a b => wf9_3 hw a (by omega)
  have zi2 := zi
  unfold zR at zi2
  have zn2 := zn
  unfold zR at zn2
  have zt2 := zt
  unfold zR at zt2
  have zq2 := zq
  unfold zR at zq2
  show X mX8_reason 0 [xR (0, 0, 0), xI i, xI n, xI t, xI q] [] (hp S) 5 30 _
  refine x_aload_n dX8_reason_0 rfl ?_
  refine x_iload_n dX8_reason_1 rfl ?_
  refine x_iload_n dX8_reason_2 rfl ?_
  refine x_iload_n dX8_reason_3 rfl ?_
  refine x_iload dX8_reason_4 rfl ?_
  refine x_callV (a := 5) (b := 30) (as := [xI i, xI n, xI t, xI q]) (rest := []) ok_X8_findReason dX8_reason_6 wd876 ⟨wd878, wd10⟩ (hp0 S) rfl rfl (c_findReason S hb i n t q (by first | exact hz _ _ | exact hw.1 _ _ | exact zR_of _ | exact bI_z _ | assumption | exact ⟨by omega, by omega⟩) (by first | exact hz _ _ | exact hw.1 _ _ | exact zR_of _ | exact bI_z _ | assumption | exact ⟨by omega, by omega⟩) (by first | exact hz _ _ | exact hw.1 _ _ | exact zR_of _ | exact bI_z _ | assumption | exact ⟨by omega, by omega⟩) (by first | exact hz _ _ | exact hw.1 _ _ | exact zR_of _ | exact bI_z _ | assumption | exact ⟨by omega, by omega⟩)) rfl (Nat.le_of_ble_eq_true rfl) (Nat.le_of_ble_eq_true rfl) (by decide) (by omega) (by omega) (fun _ q => ?_) (fun _ _ q => by rcases q with ⟨_, ⟨_, ⟨_, q, _⟩ | ⟨_, q, _⟩⟩ | ⟨_, q, _⟩⟩ | ⟨_, q, _⟩ <;> cases q) (fun _ _ q => ?_)
  · rcases q with ⟨g1, ⟨g2, ⟨g3, y, R1, rfl, qR1, bR1, sR1⟩ | ⟨_, q, _⟩⟩ | ⟨_, q, _⟩⟩ | ⟨_, q, _⟩
    · refine x_aload_n dX8_reason_9 rfl ?_
      refine x_get (v := xR (5, 0, 0)) dX8_reason_10 fl_RX8_35 (hp0 R1) rfl ?_
      refine x_iload dX8_reason_13 rfl ?_
      refine x_callV_r (a := 0) (b := 0) (as := [xI q]) (rest := []) ok_X3_ruleOf dX8_reason_15 wd918 ⟨wd919, wd920⟩ (hp5 R1) rfl rfl (c_ruleOf R1 bR1.1 q (by omega) (by omega)) rfl (Nat.le_of_ble_eq_true rfl) (Nat.le_of_ble_eq_true rfl) (by decide) (by omega) (by omega) ?_
      exact x_iret dX8_reason_18 rfl (Or.inl ⟨g1, Or.inl ⟨g2, Or.inl ⟨g3, _, _, _, sR1, pQi qR1 bR1⟩⟩⟩)
    · cases q
    · cases q
    · cases q
  · rcases q with ⟨g1, ⟨g2, ⟨_, q, _⟩ | ⟨g3, q, R1, rfl, qR1, bR1⟩⟩ | ⟨g2, q, R1, rfl, qR1, bR1⟩⟩ | ⟨g1, q, R1, rfl, qR1, bR1⟩ <;> cases q
    · exact XX.out rfl (Or.inl ⟨g1, Or.inl ⟨g2, Or.inr ⟨g3, pXi qR1 bR1⟩⟩⟩)
    · exact XX.out rfl (Or.inl ⟨g1, Or.inr ⟨g2, pXi qR1 bR1⟩⟩)
    · exact XX.out rfl (Or.inr ⟨g1, pXi qR1 bR1⟩)
