/-! the reference: rules -/
/-- one cell's ints alone are changed -/
def Ex1 (l : XL) (S T : XS) : Prop := (∀ l' : XL, l' ≠ l → T.1 l' = S.1 l') ∧ T.2 = S.2
theorem Ex1.rf (l : XL) (S : XS) : Ex1 l S S := ⟨fun _ _ => rfl, rfl⟩
theorem Ex1.tr {l : XL} {S T U : XS} (h : Ex1 l S T) (k : Ex1 l T U) : Ex1 l S U := ⟨fun l' a => (k.1 l' a).trans (h.1 l' a), k.2.trans h.2⟩
theorem Ex1.put {l : XL} {S T : XS} (h : Ex1 l S T) (k v : Int) : Ex1 l S (putI T l k v) := ⟨fun l' a => (putI_o a).trans (h.1 l' a), h.2⟩
theorem Ex1.md {l : XL} {S T : XS} (h : Ex1 l S T) (hl : mI l.1 = true) : MdQ S T := ⟨fun l' a _ => h.1 l' (fun z => by rw [z, hl] at a; cases a), fun k _ => by rw [h.1 _ (fun z => by rw [← z] at hl; cases hl)], by rw [h.2], by rw [h.2], by rw [h.2], by rw [h.2], Int.le_of_eq (by rw [h.2])⟩
theorem on_step {C : XS} (hC : CB C) (b : Int) (b0 : 0 ≤ b) (b1 : b < 4) (n : Nat) (hn : (n : Int) < C.1 (9, b, 0) 3) (r : Nat) (hr : r < 10) : bitI (onN C.1 b (n + 1)) r ↔ if C.1 (13, b, n) 0 ≠ 0 ∧ C.1 (13, b, n) 2 = r then C.1 (13, b, n) 1 ≠ 0 else bitI (onN C.1 b n) r := by
  have c9 := wf9_3 hC.1 b0 b1
  have c4 := wf4_2 hC.1
  obtain ⟨c, e, hc, -⟩ := onN_nat hC.1 hC.2.2.2.2.2.2 b b0 b1 n (by omega)
  have a0 := wf13_2 hC.1 b0 b1 (show (0 : Int) ≤ (n : Int) by omega) (show (n : Int) < 60 by omega)
  simp only [onN]
  by_cases h0 : C.1 (13, b, n) 0 = 0
  · rw [if_pos h0, if_neg (fun z => z.1 h0)]
  · have a1 := (hC.2.2.2.2.2.2 b b0 b1 n hn h0).1
    obtain ⟨m, hm⟩ := Int.eq_ofNat_of_zero_le a0.1
    rw [if_neg h0, hm, e]
    by_cases h1 : C.1 (13, b, n) 1 = 0
    · rw [if_pos h1]
      obtain ⟨d, d1, d2, d3⟩ := bitI_andNot c m (by omega) (by omega)
      rw [d1, d3 r (by omega)]
      by_cases q : (m : Int) = r
      · rw [if_pos ⟨h0, q⟩]
        exact ⟨fun z => absurd (by omega) z.2, fun z => absurd h1 z⟩
      · rw [if_neg (fun z => q z.2)]
        exact ⟨fun z => z.1, fun z => ⟨z, by omega⟩⟩
    · rw [if_neg h1, bitI_or c m r (by omega) (by omega) (by omega)]
      by_cases q : (m : Int) = r
      · rw [if_pos ⟨h0, q⟩]
        exact ⟨fun _ => h1, fun _ => Or.inr (by omega)⟩
      · rw [if_neg (fun z => q z.2)]
        exact ⟨fun z => z.elim id (fun y => absurd (by omega) q), Or.inl⟩
/-- the rules that are on are marked -/
def OnRow (T : XS) (on : Int) : Prop := ∀ r : Nat, r < 10 → T.1 (71, 0, 0) r = bI (bitI on r)
def pOn (C S : XS) (b : Int) (n : Nat) : XO → XH → Prop := fun o h' => o = .inl none ∧ ∃ T, h' = hp T ∧ Ex1 (71, 0, 0) S T ∧ WI T ∧ OnRow T (onN C.1 b n)
set_option maxHeartbeats 4000000 in
set_option maxRecDepth 100000 in
theorem l_turnsOn2 (C S : XS) (hC : CB C) (hw : WI S) (ht : MRt C S) (b : Int) (b0 : 0 ≤ b) (b1 : b < 4) (n : Nat) (hn : (n : Int) ≤ C.1 (9, b, 0) 3) : ∀ (nn : Nat) (T : XS) (i : Nat), (n : Int) - i < (nn : Int) → (i ≤ n) → (Ex1 (71, 0, 0) S T) → (WI T) → (OnRow T (onN C.1 b i)) → X mX9_turnsOn 26 [xR (50, 0, 0), xI b, xI (n : Int), xI (60 * b + (i : Int))] [] (hp T) 0 0 (pOn C S b n) := by
  intro nn
  induction nn with
  | zero => intro T i hm hi eT wT hO; exfalso; omega
  | succ nn ih =>
    intro T i hm hi eT wT hO
    have c9 := wf9_3 hC.1 b0 b1
    have c4 := wf4_2 hC.1
    have ti := fun (h : (i : Int) < (n : Int)) => ht b i b0 b1 (by omega) (by omega)
    have fi2 := fun (h : (i : Int) < (n : Int)) => wf13_2 hC.1 b0 b1 (show (0 : Int) ≤ (i : Int) by omega) (show (i : Int) < 60 by omega)
    have fi0 := fun (h : (i : Int) < (n : Int)) => kd_fact (C.1 (13, b, i) 0) (C.1 (13, b, i) 1)
    have fi1 := fun (h : (i : Int) < (n : Int)) => kd_on (C.1 (13, b, i) 0) (C.1 (13, b, i) 1)
    have te := fun (h : (i : Int) < (n : Int)) => hC.2.2.2.2.2.2 b b0 b1 i (by omega)
    have o1 := eT.1 (51, 0, 0) (nK (by decide) _ _ _ _)
    have o2 := eT.1 (52, 0, 0) (nK (by decide) _ _ _ _)
    have hz := wT.1
    refine x_iload_n dX9_turnsOn_26 rfl ?_
    refine x_iload_n dX9_turnsOn_27 rfl ?_
    refine x_bipush (v := 60) dX9_turnsOn_28 (by decide) ?_
    refine x_imul dX9_turnsOn_30 ?_
    refine x_iload_n dX9_turnsOn_31 rfl ?_
    refine x_iadd dX9_turnsOn_32 ?_
    refine x_icmp_ge (tgt := 81) dX9_turnsOn_33 (by decide) (by first | exact hz _ _ | exact hw.1 _ _ | exact zR_of _ | exact bI_z _ | assumption | exact ⟨by omega, by omega⟩) (by first | exact hz _ _ | exact hw.1 _ _ | exact zR_of _ | exact bI_z _ | assumption | exact ⟨by omega, by omega⟩) (fun c33 => ?_) (fun c33 => ?_)
    · exact x_vret dX9_turnsOn_81 rfl (by obtain rfl : i = n := (by omega); exact ⟨rfl, T, rfl, eT, wT, hO⟩)
    · have ti := ti (by omega); have fi2 := fi2 (by omega); have fi0 := fi0 (by omega); have fi1 := fi1 (by omega); have te := te (by omega); rw [← o1, ← o2] at ti
      refine x_aload_n dX9_turnsOn_36 rfl ?_
      refine x_get (v := xR (51, 0, 0)) dX9_turnsOn_37 fl_RX9_9 (hp50 T) rfl ?_
      refine x_iload_n dX9_turnsOn_40 rfl ?_
      refine x_aldc (f := T.1 (51, 0, 0)) dX9_turnsOn_41 (hp51 T) (show (51 : Nat) ≠ 99 by decide) (by omega) (by omega) (by decide) ?_
      have f41_1 := wfa51 wT (S := T) (60 * b + (i : Int))
      refine x_callS_r (a := 0) (b := 0) (as := [xI (T.1 (51, 0, 0) (60 * b + (i : Int)))]) (rest := []) ok_X9_isOfFact dX9_turnsOn_42 wd1230 wd1231 (m_isOfFact T (T.1 (51, 0, 0) (60 * b + (i : Int))) (by first | exact hz _ _ | exact hw.1 _ _ | exact zR_of _ | exact bI_z _ | assumption | exact ⟨by omega, by omega⟩)) rfl (Nat.le_of_ble_eq_true rfl) (Nat.le_of_ble_eq_true rfl) (by decide) (by omega) (by omega) ?_
      by_cases b42 : (T.1 (51, 0, 0) (60 * b + (i : Int))) = 104 ∨ (T.1 (51, 0, 0) (60 * b + (i : Int))) = 117
      · refine x_top (bI_t b42) ?_
        refine x_if_ne (tgt := 75) dX9_turnsOn_45 (by decide) ⟨by decide, by decide⟩ (fun _ => ?_) (fun z => absurd z (by decide))
        refine x_iinc (L' := [xR (50, 0, 0), xI b, xI (n : Int), xI ((60 * b + (i : Int)) + 1)]) dX9_turnsOn_75 rfl rfl ?_
        refine x_goto (tgt := 26) dX9_turnsOn_78 (by decide) ?_
        have kk := ih T (i + 1) (by omega) (by omega) eT wT (fun r hr => by rw [hO r hr]; exact bI_c (by rw [on_step hC b b0 b1 i (by omega) r hr, if_neg (fun z => z.1 (by omega))]))
        rw [show 60 * b + ((i + 1 : Nat) : Int) = 60 * b + (i : Int) + 1 by omega] at kk
        exact kk
      · refine x_top (bI_f b42) ?_
        refine x_if_ne (tgt := 75) dX9_turnsOn_45 (by decide) ⟨by decide, by decide⟩ (fun z => absurd z (by decide)) (fun _ => ?_)
        refine x_aload_n dX9_turnsOn_48 rfl ?_
        refine x_get (v := xR (71, 0, 0)) dX9_turnsOn_49 fl_RX9_81 (hp50 T) rfl ?_
        refine x_aload_n dX9_turnsOn_52 rfl ?_
        refine x_get (v := xR (52, 0, 0)) dX9_turnsOn_53 fl_RX9_13 (hp50 T) rfl ?_
        refine x_iload_n dX9_turnsOn_56 rfl ?_
        refine x_aldi (f := T.1 (52, 0, 0)) dX9_turnsOn_57 (hp52 T) (show (52 : Nat) ≠ 99 by decide) (by omega) (by omega) (by decide) ?_
        have f57_2 := wfa52 wT (S := T) (60 * b + (i : Int))
        refine x_aload_n dX9_turnsOn_58 rfl ?_
        refine x_get (v := xR (51, 0, 0)) dX9_turnsOn_59 fl_RX9_9 (hp50 T) rfl ?_
        refine x_iload_n dX9_turnsOn_62 rfl ?_
        refine x_aldc (f := T.1 (51, 0, 0)) dX9_turnsOn_63 (hp51 T) (show (51 : Nat) ≠ 99 by decide) (by omega) (by omega) (by decide) ?_
        have f63_3 := wfa51 wT (S := T) (60 * b + (i : Int))
        refine x_bipush (v := 110) dX9_turnsOn_64 (by decide) ?_
        refine x_icmp_ne (tgt := 73) dX9_turnsOn_66 (by decide) (by first | exact hz _ _ | exact hw.1 _ _ | exact zR_of _ | exact bI_z _ | assumption | exact ⟨by omega, by omega⟩) ⟨by decide, by decide⟩ (fun c66 => ?_) (fun c66 => ?_)
        · refine x_iconst dX9_turnsOn_73 ?_
          refine x_astz dX9_turnsOn_74 (hp71 T) (show (71 : Nat) ≠ 99 by decide) (by omega) (by omega) (by decide) (Or.inl rfl) ?_
          refine x_heq (pa71 T (T.1 (52, 0, 0) (60 * b + (i : Int))) 0) ?_
          have hw74_4 : WI (putI T (71, 0, 0) (T.1 (52, 0, 0) (60 * b + (i : Int))) 0) := wpa71 wT (Or.inl rfl)
          refine x_iinc (L' := [xR (50, 0, 0), xI b, xI (n : Int), xI ((60 * b + (i : Int)) + 1)]) dX9_turnsOn_75 rfl rfl ?_
          refine x_goto (tgt := 26) dX9_turnsOn_78 (by decide) ?_
          have kk := ih (putI T (71, 0, 0) (T.1 (52, 0, 0) (60 * b + (i : Int))) 0) (i + 1) (by omega) (by omega) (eT.put _ _) (by assumption) (fun r hr => by rw [putI_at, bI_c (on_step hC b b0 b1 i (by omega) r hr)]; by_cases q : (r : Int) = T.1 (52, 0, 0) (60 * b + (i : Int)); (rw [if_pos q, if_pos ⟨by omega, by omega⟩]; first | exact (bI_t (by omega)).symm | exact (bI_f (by omega)).symm); (rw [if_neg q, if_neg (fun z => q (by omega))]; exact hO r hr))
          rw [show 60 * b + ((i + 1 : Nat) : Int) = 60 * b + (i : Int) + 1 by omega] at kk
          exact kk
        · refine x_iconst dX9_turnsOn_69 ?_
          refine x_goto (tgt := 74) dX9_turnsOn_70 (by decide) ?_
          refine x_astz dX9_turnsOn_74 (hp71 T) (show (71 : Nat) ≠ 99 by decide) (by omega) (by omega) (by decide) (Or.inr rfl) ?_
          refine x_heq (pa71 T (T.1 (52, 0, 0) (60 * b + (i : Int))) 1) ?_
          have hw74_5 : WI (putI T (71, 0, 0) (T.1 (52, 0, 0) (60 * b + (i : Int))) 1) := wpa71 wT (Or.inr rfl)
          refine x_iinc (L' := [xR (50, 0, 0), xI b, xI (n : Int), xI ((60 * b + (i : Int)) + 1)]) dX9_turnsOn_75 rfl rfl ?_
          refine x_goto (tgt := 26) dX9_turnsOn_78 (by decide) ?_
          have kk := ih (putI T (71, 0, 0) (T.1 (52, 0, 0) (60 * b + (i : Int))) 1) (i + 1) (by omega) (by omega) (eT.put _ _) (by assumption) (fun r hr => by rw [putI_at, bI_c (on_step hC b b0 b1 i (by omega) r hr)]; by_cases q : (r : Int) = T.1 (52, 0, 0) (60 * b + (i : Int)); (rw [if_pos q, if_pos ⟨by omega, by omega⟩]; first | exact (bI_t (by omega)).symm | exact (bI_f (by omega)).symm); (rw [if_neg q, if_neg (fun z => q (by omega))]; exact hO r hr))
          rw [show 60 * b + ((i + 1 : Nat) : Int) = 60 * b + (i : Int) + 1 by omega] at kk
          exact kk
set_option maxHeartbeats 4000000 in
set_option maxRecDepth 100000 in
theorem l_turnsOn1 (C S : XS) (hC : CB C) (hw : WI S) (ht : MRt C S) (b : Int) (b0 : 0 ≤ b) (b1 : b < 4) (n : Nat) (hn : (n : Int) ≤ C.1 (9, b, 0) 3) : ∀ (nn : Nat) (T : XS) (i : Nat), 10 - (i : Int) < (nn : Int) → (i ≤ 10) → (Ex1 (71, 0, 0) S T) → (WI T) → (∀ j : Nat, j < i → T.1 (71, 0, 0) j = 0) → X mX9_turnsOn 2 [xR (50, 0, 0), xI b, xI (n : Int), xI (i : Int)] [] (hp T) 0 0 (pOn C S b n) := by
  intro nn
  induction nn with
  | zero => intro T i hm hi eT wT h0; exfalso; omega
  | succ nn ih =>
    intro T i hm hi eT wT h0
    refine x_iload_n dX9_turnsOn_2 rfl ?_
    refine x_bipush (v := 10) dX9_turnsOn_3 (by decide) ?_
    refine x_icmp_ge (tgt := 21) dX9_turnsOn_5 (by decide) (by first | exact hz _ _ | exact hw.1 _ _ | exact zR_of _ | exact bI_z _ | assumption | exact ⟨by omega, by omega⟩) ⟨by decide, by decide⟩ (fun c5 => ?_) (fun c5 => ?_)
    · refine x_iload_n dX9_turnsOn_21 rfl ?_
      refine x_bipush (v := 60) dX9_turnsOn_22 (by decide) ?_
      refine x_imul dX9_turnsOn_24 ?_
      refine x_istore_n (L' := [xR (50, 0, 0), xI b, xI (n : Int), xI (b * 60)]) dX9_turnsOn_25 (by decide) rfl ?_
      have z := l_turnsOn2 C S hC hw ht b b0 b1 n hn (n + 1) T 0 (by omega) (by omega) eT wT (fun r hr => by rw [h0 r (by omega)]; exact (bI_f (bitI_0 r (by omega))).symm)
      rw [show 60 * b + ((0 : Nat) : Int) = b * 60 by omega] at z
      exact z
    · refine x_aload_n dX9_turnsOn_8 rfl ?_
      refine x_get (v := xR (71, 0, 0)) dX9_turnsOn_9 fl_RX9_81 (hp50 T) rfl ?_
      refine x_iload_n dX9_turnsOn_12 rfl ?_
      refine x_iconst dX9_turnsOn_13 ?_
      refine x_astz dX9_turnsOn_14 (hp71 T) (show (71 : Nat) ≠ 99 by decide) (by omega) (by omega) (by decide) (Or.inl rfl) ?_
      refine x_heq (pa71 T (i : Int) 0) ?_
      have hw14_1 : WI (putI T (71, 0, 0) (i : Int) 0) := wpa71 wT (Or.inl rfl)
      refine x_iinc (L' := [xR (50, 0, 0), xI b, xI (n : Int), xI ((i : Int) + 1)]) dX9_turnsOn_15 rfl rfl ?_
      refine x_goto (tgt := 2) dX9_turnsOn_18 (by decide) ?_
      exact ih (putI T (71, 0, 0) (i : Int) 0) (i + 1) (by omega) (by omega) (eT.put _ _) (by assumption) (fun j hj => by rw [putI_at]; split; rfl; exact h0 j (by omega))
set_option maxHeartbeats 4000000 in
set_option maxRecDepth 100000 in
theorem m_turnsOn (C S : XS) (hC : CB C) (hw : WI S) (ht : MRt C S) (b : Int) (b0 : 0 ≤ b) (b1 : b < 4) (n : Nat) (hn : (n : Int) ≤ C.1 (9, b, 0) 3) : X mX9_turnsOn 0 (xEnt mX9_turnsOn [xR (50, 0, 0), xI b, xI (n : Int)]) [] (hp S) 0 0 (pOn C S b n) := by
  show X mX9_turnsOn 0 [xR (50, 0, 0), xI b, xI (n : Int), none] [] (hp S) 0 0 _
  refine x_iconst dX9_turnsOn_0 ?_
  refine x_istore_n (L' := [xR (50, 0, 0), xI b, xI (n : Int), xI 0]) dX9_turnsOn_1 (by decide) rfl ?_
  exact l_turnsOn1 C S hC hw ht b b0 b1 n hn 11 S 0 (by omega) (by omega) (Ex1.rf _ _) hw (fun j hj => by omega)
/-- the rows of rules; the variables in use -/
def UsN (S : XS) (r v : Int) : Nat → Prop
  | 0 => S.1 (62, 0, 0) (3 * r + 1) = v ∨ S.1 (62, 0, 0) (3 * r + 2) = v
  | n + 1 => UsN S r v n ∨ S.1 (63, 0, 0) (9 * r + 3 * (n : Int) + 1) = v ∨ S.1 (63, 0, 0) (9 * r + 3 * (n : Int) + 2) = v
def MRr (C S : XS) : Prop := ∀ r : Int, 0 ≤ r → r < C.1 (4, 0, 0) 2 →
  S.1 (62, 0, 0) (3 * r) = C.1 (37, r, 0) 0 ∧ (C.1 (37, r, 0) 2 = 3 * (2 - S.1 (62, 0, 0) (3 * r + 1)) ∧ 0 ≤ S.1 (62, 0, 0) (3 * r + 1) ∧ S.1 (62, 0, 0) (3 * r + 1) ≤ 2) ∧ (C.1 (37, r, 0) 3 = 3 * (2 - S.1 (62, 0, 0) (3 * r + 2)) ∧ 0 ≤ S.1 (62, 0, 0) (3 * r + 2) ∧ S.1 (62, 0, 0) (3 * r + 2) ≤ 2) ∧
  S.1 (64, 0, 0) r = C.1 (34, r, 0) 2 ∧ S.1 (66, 0, 0) r = C.1 (34, r, 0) 5 ∧
  (∀ c : Int, 0 ≤ c → c < C.1 (34, r, 0) 2 → S.1 (63, 0, 0) (9 * r + 3 * c) = C.1 (36, r, c) 0 ∧ (C.1 (36, r, c) 2 = 3 * (2 - S.1 (63, 0, 0) (9 * r + 3 * c + 1)) ∧ 0 ≤ S.1 (63, 0, 0) (9 * r + 3 * c + 1) ∧ S.1 (63, 0, 0) (9 * r + 3 * c + 1) ≤ 2) ∧ (C.1 (36, r, c) 3 = 3 * (2 - S.1 (63, 0, 0) (9 * r + 3 * c + 2)) ∧ 0 ≤ S.1 (63, 0, 0) (9 * r + 3 * c + 2) ∧ S.1 (63, 0, 0) (9 * r + 3 * c + 2) ≤ 2) ∧ S.1 (65, 0, 0) (3 * r + c) = C.1 (36, r, c) 1) ∧
  ∀ v : Int, 0 ≤ v → v ≤ 2 → (zAnd (C.1 (34, r, 0) 4) (zShl 7 (3 * (2 - v))) = 0 ↔ UsN S r v (C.1 (34, r, 0) 2).toNat)
def MRn (C S : XS) : Prop := S.1 (50, 0, 0) 11 = C.1 (0, 0, 0) 6 ∧ S.1 (50, 0, 0) 12 = C.1 (4, 0, 0) 2 ∧ S.1 (50, 0, 0) 13 = C.1 (0, 0, 0) 8 ∧ S.1 (50, 0, 0) 24 = C.1 (0, 0, 0) 7
theorem UsN_congr {S T : XS} (h1 : T.1 (62, 0, 0) = S.1 (62, 0, 0)) (h2 : T.1 (63, 0, 0) = S.1 (63, 0, 0)) (r v : Int) (n : Nat) : UsN T r v n ↔ UsN S r v n := by
  induction n with
  | zero => simp only [UsN, h1]
  | succ n ih => simp only [UsN, h2, ih]
theorem MRr.q {C S T : XS} (h : MRr C S) (q : MdQ S T) : MRr C T := by
  have e2 := q.1 (62, 0, 0) rfl (by decide)
  have e3 := q.1 (63, 0, 0) rfl (by decide)
  intro r r0 r1
  rw [e2, e3, q.1 (64, 0, 0) rfl (by decide), q.1 (65, 0, 0) rfl (by decide), q.1 (66, 0, 0) rfl (by decide)]
  simp only [UsN_congr e2 e3]
  exact h r r0 r1
theorem MRn.q {C S T : XS} (h : MRn C S) (q : MdQ S T) : MRn C T := by
  unfold MRn
  rw [q.2.1 11 (by decide), q.2.1 12 (by decide), q.2.1 13 (by decide), q.2.1 24 (by decide)]
  exact h
theorem zOr_bI (P Q : Prop) : zOr (bI P) (bI Q) = bI (P ∨ Q) := by
  by_cases p : P <;> by_cases q : Q
  · rw [bI_t p, bI_t q, bI_t (Or.inl p)]; decide
  · rw [bI_t p, bI_f q, bI_t (Or.inl p)]; decide
  · rw [bI_f p, bI_t q, bI_t (Or.inr q)]; decide
  · rw [bI_f p, bI_f q, bI_f (fun z => z.elim p q)]; decide
theorem zOr_b1 (P : Prop) : zOr (bI P) 1 = 1 := by
  by_cases p : P
  · rw [bI_t p]; decide
  · rw [bI_f p]; decide
theorem zOr_b0 (P : Prop) : zOr (bI P) 0 = bI P := by
  by_cases p : P
  · rw [bI_t p]; decide
  · rw [bI_f p]; decide
noncomputable def tr8 (S : XS) (r v : Int) (n : Nat) : Int := @ite Int (UsN S r v n) (Classical.propDecidable _) 8 1
theorem tr8_t {S : XS} {r v : Int} {n : Nat} (h : UsN S r v n) : tr8 S r v n = 8 := if_pos h
theorem tr8_f {S : XS} {r v : Int} {n : Nat} (h : ¬ UsN S r v n) : tr8 S r v n = 1 := if_neg h
set_option maxHeartbeats 4000000 in
set_option maxRecDepth 100000 in
theorem l_uses (C S : XS) (hC : WI C) (hw : WI S) (hr : MRr C S) (r v : Int) (r0 : 0 ≤ r) (r1 : r < C.1 (4, 0, 0) 2) (v0 : 0 ≤ v) (v1 : v ≤ 2) (n : Nat) (hn : C.1 (34, r, 0) 2 = n) : ∀ (nn : Nat) (j : Nat), (n : Int) - j < (nn : Int) → (j ≤ n) → X mX9_uses 37 [xR (50, 0, 0), xI r, xI v, xI (bI (UsN S r v j)), xI (j : Int)] [] (hp S) 0 0 (pRet (xI (bI (UsN S r v n))) (hp S)) := by
  intro nn
  induction nn with
  | zero => intro j hm hj; exfalso; omega
  | succ nn ih =>
    intro j hm hj
    have c4 := wf4_2 hC
    have c34 := wf34_2 hC r0 (show r < 10 by omega)
    obtain ⟨-, -, -, q4, -, -, -⟩ := hr r r0 r1
    have hz := hw.1
    refine x_iload dX9_uses_37 rfl ?_
    refine x_aload_n dX9_uses_39 rfl ?_
    refine x_get (v := xR (64, 0, 0)) dX9_uses_40 fl_RX9_55 (hp50 S) rfl ?_
    refine x_iload_n dX9_uses_43 rfl ?_
    refine x_aldi (f := S.1 (64, 0, 0)) dX9_uses_44 (hp64 S) (show (64 : Nat) ≠ 99 by decide) (by omega) (by omega) (by decide) ?_
    have f44_1 := wfa64 hw (S := S) r
    refine x_icmp_ge (tgt := 102) dX9_uses_45 (by decide) (by first | exact hz _ _ | exact hw.1 _ _ | exact zR_of _ | exact bI_z _ | assumption | exact ⟨by omega, by omega⟩) (by first | exact hz _ _ | exact hw.1 _ _ | exact zR_of _ | exact bI_z _ | assumption | exact ⟨by omega, by omega⟩) (fun c45 => ?_) (fun c45 => ?_)
    · refine x_iload_n dX9_uses_102 rfl ?_
      exact x_zret dX9_uses_103 rfl (bI_01 _) (by obtain rfl : j = n := (by omega); exact pRI rfl)
    · refine x_iload_n dX9_uses_48 rfl ?_
      refine x_aload_n dX9_uses_49 rfl ?_
      refine x_get (v := xR (63, 0, 0)) dX9_uses_50 fl_RX9_52 (hp50 S) rfl ?_
      refine x_bipush (v := 9) dX9_uses_53 (by decide) ?_
      refine x_iload_n dX9_uses_55 rfl ?_
      refine x_imul dX9_uses_56 ?_
      refine x_iconst dX9_uses_57 ?_
      refine x_iload dX9_uses_58 rfl ?_
      refine x_imul dX9_uses_60 ?_
      refine x_iadd dX9_uses_61 ?_
      refine x_iconst dX9_uses_62 ?_
      refine x_iadd dX9_uses_63 ?_
      refine x_aldi (f := S.1 (63, 0, 0)) dX9_uses_64 (hp63 S) (show (63 : Nat) ≠ 99 by decide) (by omega) (by omega) (by decide) ?_
      have f64_2 := wfa63 hw (S := S) (((9 * r) + (3 * (j : Int))) + 1)
      refine x_iload_n dX9_uses_65 rfl ?_
      refine x_icmp_eq (tgt := 89) dX9_uses_66 (by decide) (by first | exact hz _ _ | exact hw.1 _ _ | exact zR_of _ | exact bI_z _ | assumption | exact ⟨by omega, by omega⟩) (by first | exact hz _ _ | exact hw.1 _ _ | exact zR_of _ | exact bI_z _ | assumption | exact ⟨by omega, by omega⟩) (fun c66 => ?_) (fun c66 => ?_)
      · refine x_iconst dX9_uses_89 ?_
        refine x_goto (tgt := 94) dX9_uses_90 (by decide) ?_
        refine x_ior dX9_uses_94 ?_
        refine x_istore_n (L' := [xR (50, 0, 0), xI r, xI v, xI (zOr (bI (UsN S r v j)) 1), xI (j : Int)]) dX9_uses_95 (by decide) rfl ?_
        refine x_iinc (L' := [xR (50, 0, 0), xI r, xI v, xI (zOr (bI (UsN S r v j)) 1), xI ((j : Int) + 1)]) dX9_uses_96 rfl rfl ?_
        refine x_goto (tgt := 37) dX9_uses_99 (by decide) ?_
        have kk := ih (j + 1) (by omega) (by omega)
        rw [show bI (UsN S r v (j + 1)) = zOr (bI (UsN S r v j)) 1 from by rw [zOr_b1]; exact bI_t (Or.inr (by omega))] at kk
        exact kk
      · refine x_aload_n dX9_uses_69 rfl ?_
        refine x_get (v := xR (63, 0, 0)) dX9_uses_70 fl_RX9_52 (hp50 S) rfl ?_
        refine x_bipush (v := 9) dX9_uses_73 (by decide) ?_
        refine x_iload_n dX9_uses_75 rfl ?_
        refine x_imul dX9_uses_76 ?_
        refine x_iconst dX9_uses_77 ?_
        refine x_iload dX9_uses_78 rfl ?_
        refine x_imul dX9_uses_80 ?_
        refine x_iadd dX9_uses_81 ?_
        refine x_iconst dX9_uses_82 ?_
        refine x_iadd dX9_uses_83 ?_
        refine x_aldi (f := S.1 (63, 0, 0)) dX9_uses_84 (hp63 S) (show (63 : Nat) ≠ 99 by decide) (by omega) (by omega) (by decide) ?_
        have f84_3 := wfa63 hw (S := S) (((9 * r) + (3 * (j : Int))) + 2)
        refine x_iload_n dX9_uses_85 rfl ?_
        refine x_icmp_ne (tgt := 93) dX9_uses_86 (by decide) (by first | exact hz _ _ | exact hw.1 _ _ | exact zR_of _ | exact bI_z _ | assumption | exact ⟨by omega, by omega⟩) (by first | exact hz _ _ | exact hw.1 _ _ | exact zR_of _ | exact bI_z _ | assumption | exact ⟨by omega, by omega⟩) (fun c86 => ?_) (fun c86 => ?_)
        · refine x_iconst dX9_uses_93 ?_
          refine x_ior dX9_uses_94 ?_
          refine x_istore_n (L' := [xR (50, 0, 0), xI r, xI v, xI (zOr (bI (UsN S r v j)) 0), xI (j : Int)]) dX9_uses_95 (by decide) rfl ?_
          refine x_iinc (L' := [xR (50, 0, 0), xI r, xI v, xI (zOr (bI (UsN S r v j)) 0), xI ((j : Int) + 1)]) dX9_uses_96 rfl rfl ?_
          refine x_goto (tgt := 37) dX9_uses_99 (by decide) ?_
          have kk := ih (j + 1) (by omega) (by omega)
          rw [show bI (UsN S r v (j + 1)) = zOr (bI (UsN S r v j)) 0 from by rw [zOr_b0]; exact bI_c ⟨fun z => z.elim id (fun y => by omega), Or.inl⟩] at kk
          exact kk
        · refine x_iconst dX9_uses_89 ?_
          refine x_goto (tgt := 94) dX9_uses_90 (by decide) ?_
          refine x_ior dX9_uses_94 ?_
          refine x_istore_n (L' := [xR (50, 0, 0), xI r, xI v, xI (zOr (bI (UsN S r v j)) 1), xI (j : Int)]) dX9_uses_95 (by decide) rfl ?_
          refine x_iinc (L' := [xR (50, 0, 0), xI r, xI v, xI (zOr (bI (UsN S r v j)) 1), xI ((j : Int) + 1)]) dX9_uses_96 rfl rfl ?_
          refine x_goto (tgt := 37) dX9_uses_99 (by decide) ?_
          have kk := ih (j + 1) (by omega) (by omega)
          rw [show bI (UsN S r v (j + 1)) = zOr (bI (UsN S r v j)) 1 from by rw [zOr_b1]; exact bI_t (Or.inr (by omega))] at kk
          exact kk
set_option maxHeartbeats 4000000 in
set_option maxRecDepth 100000 in
theorem m_uses (C S : XS) (hC : WI C) (hw : WI S) (hr : MRr C S) (r v : Int) (r0 : 0 ≤ r) (r1 : r < C.1 (4, 0, 0) 2) (v0 : 0 ≤ v) (v1 : v ≤ 2) (n : Nat) (hn : C.1 (34, r, 0) 2 = n) : X mX9_uses 0 (xEnt mX9_uses [xR (50, 0, 0), xI r, xI v]) [] (hp S) 0 0 (pRet (xI (bI (UsN S r v n))) (hp S)) := by
  have c4 := wf4_2 hC
  have c34 := wf34_2 hC r0 (show r < 10 by omega)
  obtain ⟨-, -, -, q4, -, -, -⟩ := hr r r0 r1
  have hz := hw.1
  show X mX9_uses 0 [xR (50, 0, 0), xI r, xI v, none, none] [] (hp S) 0 0 _
  refine x_aload_n dX9_uses_0 rfl ?_
  refine x_get (v := xR (62, 0, 0)) dX9_uses_1 fl_RX9_49 (hp50 S) rfl ?_
  refine x_iconst dX9_uses_4 ?_
  refine x_iload_n dX9_uses_5 rfl ?_
  refine x_imul dX9_uses_6 ?_
  refine x_iconst dX9_uses_7 ?_
  refine x_iadd dX9_uses_8 ?_
  refine x_aldi (f := S.1 (62, 0, 0)) dX9_uses_9 (hp62 S) (show (62 : Nat) ≠ 99 by decide) (by omega) (by omega) (by decide) ?_
  have f9_1 := wfa62 hw (S := S) ((3 * r) + 1)
  refine x_iload_n dX9_uses_10 rfl ?_
  refine x_icmp_eq (tgt := 28) dX9_uses_11 (by decide) (by first | exact hz _ _ | exact hw.1 _ _ | exact zR_of _ | exact bI_z _ | assumption | exact ⟨by omega, by omega⟩) (by first | exact hz _ _ | exact hw.1 _ _ | exact zR_of _ | exact bI_z _ | assumption | exact ⟨by omega, by omega⟩) (fun c11 => ?_) (fun c11 => ?_)
  · refine x_iconst dX9_uses_28 ?_
    refine x_goto (tgt := 33) dX9_uses_29 (by decide) ?_
    refine x_istore_n (L' := [xR (50, 0, 0), xI r, xI v, xI 1, none]) dX9_uses_33 (by decide) rfl ?_
    refine x_iconst dX9_uses_34 ?_
    refine x_istore (L' := [xR (50, 0, 0), xI r, xI v, xI 1, xI 0]) dX9_uses_35 (by decide) rfl ?_
    have z := l_uses C S hC hw hr r v r0 r1 v0 v1 n hn (n + 1) 0 (by omega) (by omega)
    rw [show bI (UsN S r v 0) = 1 from bI_t (by unfold UsN; omega)] at z
    exact z
  · refine x_aload_n dX9_uses_14 rfl ?_
    refine x_get (v := xR (62, 0, 0)) dX9_uses_15 fl_RX9_49 (hp50 S) rfl ?_
    refine x_iconst dX9_uses_18 ?_
    refine x_iload_n dX9_uses_19 rfl ?_
    refine x_imul dX9_uses_20 ?_
    refine x_iconst dX9_uses_21 ?_
    refine x_iadd dX9_uses_22 ?_
    refine x_aldi (f := S.1 (62, 0, 0)) dX9_uses_23 (hp62 S) (show (62 : Nat) ≠ 99 by decide) (by omega) (by omega) (by decide) ?_
    have f23_2 := wfa62 hw (S := S) ((3 * r) + 2)
    refine x_iload_n dX9_uses_24 rfl ?_
    refine x_icmp_ne (tgt := 32) dX9_uses_25 (by decide) (by first | exact hz _ _ | exact hw.1 _ _ | exact zR_of _ | exact bI_z _ | assumption | exact ⟨by omega, by omega⟩) (by first | exact hz _ _ | exact hw.1 _ _ | exact zR_of _ | exact bI_z _ | assumption | exact ⟨by omega, by omega⟩) (fun c25 => ?_) (fun c25 => ?_)
    · refine x_iconst dX9_uses_32 ?_
      refine x_istore_n (L' := [xR (50, 0, 0), xI r, xI v, xI 0, none]) dX9_uses_33 (by decide) rfl ?_
      refine x_iconst dX9_uses_34 ?_
      refine x_istore (L' := [xR (50, 0, 0), xI r, xI v, xI 0, xI 0]) dX9_uses_35 (by decide) rfl ?_
      have z := l_uses C S hC hw hr r v r0 r1 v0 v1 n hn (n + 1) 0 (by omega) (by omega)
      rw [show bI (UsN S r v 0) = 0 from bI_f (by unfold UsN; omega)] at z
      exact z
    · refine x_iconst dX9_uses_28 ?_
      refine x_goto (tgt := 33) dX9_uses_29 (by decide) ?_
      refine x_istore_n (L' := [xR (50, 0, 0), xI r, xI v, xI 1, none]) dX9_uses_33 (by decide) rfl ?_
      refine x_iconst dX9_uses_34 ?_
      refine x_istore (L' := [xR (50, 0, 0), xI r, xI v, xI 1, xI 0]) dX9_uses_35 (by decide) rfl ?_
      have z := l_uses C S hC hw hr r v r0 r1 v0 v1 n hn (n + 1) 0 (by omega) (by omega)
      rw [show bI (UsN S r v 0) = 1 from bI_t (by unfold UsN; omega)] at z
      exact z
set_option maxHeartbeats 4000000 in
set_option maxRecDepth 100000 in
theorem m_tried (C S : XS) (hC : WI C) (hw : WI S) (hr : MRr C S) (r v : Int) (r0 : 0 ≤ r) (r1 : r < C.1 (4, 0, 0) 2) (v0 : 0 ≤ v) (v1 : v ≤ 2) (n : Nat) (hn : C.1 (34, r, 0) 2 = n) : X mX9_tried 0 (xEnt mX9_tried [xR (50, 0, 0), xI r, xI v]) [] (hp S) 0 0 (pRet (xI (tr8 S r v n)) (hp S)) := by
  show X mX9_tried 0 [xR (50, 0, 0), xI r, xI v] [] (hp S) 0 0 _
  refine x_aload_n dX9_tried_0 rfl ?_
  refine x_iload_n dX9_tried_1 rfl ?_
  refine x_iload_n dX9_tried_2 rfl ?_
  refine x_callV_r (a := 0) (b := 0) (as := [xI r, xI v]) (rest := []) ok_X9_uses dX9_tried_3 wd1266 ⟨wd1268, wd31⟩ (hp50 S) rfl rfl (m_uses C S hC hw hr r v (by omega) (by omega) (by omega) (by omega) n hn) rfl (Nat.le_of_ble_eq_true rfl) (Nat.le_of_ble_eq_true rfl) (by decide) (by omega) (by omega) ?_
  by_cases b3 : UsN S r v n
  · refine x_top (bI_t b3) ?_
    refine x_if_eq (tgt := 14) dX9_tried_6 (by decide) ⟨by decide, by decide⟩ (fun z => absurd z (by decide)) (fun _ => ?_)
    refine x_bipush (v := 8) dX9_tried_9 (by decide) ?_
    refine x_goto (tgt := 15) dX9_tried_11 (by decide) ?_
    exact x_iret dX9_tried_15 rfl (pRI (tr8_t (by assumption)).symm)
  · refine x_top (bI_f b3) ?_
    refine x_if_eq (tgt := 14) dX9_tried_6 (by decide) ⟨by decide, by decide⟩ (fun _ => ?_) (fun z => absurd z (by decide))
    refine x_iconst dX9_tried_14 ?_
    exact x_iret dX9_tried_15 rfl (pRI (tr8_f (by assumption)).symm)
