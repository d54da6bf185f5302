/-! merge -/
theorem QEq.symm {S S' : XS} (q : QEq S S') : QEq S' S := ⟨fun l h => (q.1 l h).symm, fun l h => (q.2.1 l h).symm, q.2.2.symm⟩
theorem Riv.q {S S' : XS} (q : QEq S S') {b x u v : Int} (h : Riv S.1 b x u v) : Riv S'.1 b x u v := by
  obtain ⟨h1, t, h2, h3, p, p1, p2, p3, p4⟩ := h
  exact ⟨by rw [q.1 (3, 0, 0) rfl]; exact h1, t, h2, h3, p, p1, p2, p3, by rw [q.1 (9, b, 0) rfl, q.toldN]; exact p4⟩
theorem CanTell.q {S S' : XS} (q : QEq S S') {b c k : Int} (h : CanTell S b c k) : CanTell S' b c k := by
  obtain ⟨h1, h2⟩ := h
  unfold CanTell
  rw [q.1 (9, b, 0) rfl, q.1 (13, c, k) rfl, q.onN]
  exact ⟨h1, fun z => ⟨fun y => q.can ((h2 z).1 y), fun y w => (h2 z).2 y (w.q q.symm)⟩⟩
theorem fHasC.q {S S' : XS} (q : QEq S S') {b f t : Int} {c k : Int} (h : fHasC S b f t (13, c, k)) : fHasC S' b f t (13, c, k) := by
  obtain ⟨i, h1, h2, h3, h4, h5⟩ := h
  refine ⟨i, h1, by rw [q.1 (9, b, 0) rfl]; exact h2, by rw [q.1 (13, b, _) rfl]; exact h3, by rw [q.1 (13, b, _) rfl]; exact h4, ?_⟩
  unfold fAgainst at *
  rw [q.1 (13, b, _) rfl, q.1 (13, c, k) rfl]
  exact h5
/-- a telling is passed over -/
def Conf (T : XS) (o b k : Int) : Prop := T.1 (13, b, k) 6 ≠ 0 ∨ fHasC T o (T.1 (9, b, 0) 5) b (13, b, k) ∨ ¬ CanTell T o b k
theorem Conf.q {S S' : XS} (q : QEq S S') {o b k : Int} (h : Conf S o b k) : Conf S' o b k := by
  unfold Conf at *
  rw [q.1 (13, b, k) rfl, q.1 (9, b, 0) rfl]
  rcases h with h | h | h
  · exact Or.inl h
  · exact Or.inr (Or.inl (h.q q))
  · exact Or.inr (Or.inr (fun z => h (z.q q.symm)))
def sPut8 (T : XS) : XS := putI T (0, 0, 0) 8 (T.1 (0, 0, 0) 8 + 1)
def sTake1 (T : XS) (o b k : Int) : XS := sApp T o (T.1 (13, b, k) 0) (T.1 (13, b, k) 1) (T.1 (13, b, k) 2) (T.1 (13, b, k) 3) (T.1 (13, b, k) 4) b
/-- n of the tellings are merged -/
noncomputable def sMgN (S : XS) (o b : Int) : Nat → XS
  | 0 => putI S (0, 0, 0) 8 0
  | n + 1 => @ite _ (Conf (sMgN S o b n) o b (S.1 (9, b, 0) 6 + n)) (Classical.propDecidable _) (sPut8 (sMgN S o b n)) (sTake1 (sMgN S o b n) o b (S.1 (9, b, 0) 6 + n))
theorem sMgN_t {S : XS} {o b : Int} {n : Nat} (h : Conf (sMgN S o b n) o b (S.1 (9, b, 0) 6 + n)) : sMgN S o b (n + 1) = sPut8 (sMgN S o b n) := if_pos h
theorem sMgN_f {S : XS} {o b : Int} {n : Nat} (h : ¬ Conf (sMgN S o b n) o b (S.1 (9, b, 0) 6 + n)) : sMgN S o b (n + 1) = sTake1 (sMgN S o b n) o b (S.1 (9, b, 0) 6 + n) := if_neg h
theorem QEq.put8 {S S' : XS} (q : QEq S S') : QEq (sPut8 S) (sPut8 S') := by
  unfold sPut8
  rw [q.1 (0, 0, 0) rfl]
  exact q.pI rfl _ _
theorem QEq.take1 {S S' : XS} (q : QEq S S') (o b k : Int) : QEq (sTake1 S o b k) (sTake1 S' o b k) := by
  unfold sTake1
  rw [q.1 (13, b, k) rfl]
  exact q.app _ _ _ _ _ _ _
/-- what merging leaves alone -/
theorem mg_o (S : XS) {o b : Int} (n : Nat) {l : XL} (h1 : l.1 ≠ 13) (h2 : l.1 ≠ 11) (h3 : l ≠ (9, o, 0)) (h4 : l ≠ (0, 0, 0)) : (sMgN S o b n).1 l = S.1 l := by
  induction n with
  | zero => exact putI_o h4
  | succ n ih =>
    by_cases h : Conf (sMgN S o b n) o b (S.1 (9, b, 0) 6 + n)
    · rw [sMgN_t h]
      exact (putI_o h4).trans ih
    · rw [sMgN_f h]
      exact (sApp_o _ _ _ _ _ _ _ _ (fun z => h1 (by rw [z])) (fun z => h2 (by rw [z])) h3).trans ih
theorem mg_0 (S : XS) {o b : Int} (n : Nat) {j : Int} (h : j ≠ 8) : (sMgN S o b n).1 (0, 0, 0) j = S.1 (0, 0, 0) j := by
  induction n with
  | zero =>
    show (putI S (0, 0, 0) 8 0).1 (0, 0, 0) j = _
    rw [putI_at, if_neg h]
  | succ n ih =>
    by_cases hc : Conf (sMgN S o b n) o b (S.1 (9, b, 0) 6 + n)
    · rw [sMgN_t hc]
      unfold sPut8
      rw [putI_at, if_neg h]
      exact ih
    · rw [sMgN_f hc]
      unfold sTake1
      rw [sApp_k _ _ _ _ _ _ _ _ (k := 0) (by decide)]
      exact ih
theorem mg_13 (S : XS) {o b : Int} (n : Nat) (b' k : Int) (h : b' ≠ o) : (sMgN S o b n).1 (13, b', k) = S.1 (13, b', k) := by
  induction n with
  | zero => exact putI_o (nK (by decide) _ _ _ _)
  | succ n ih =>
    by_cases hc : Conf (sMgN S o b n) o b (S.1 (9, b, 0) 6 + n)
    · rw [sMgN_t hc]
      exact (putI_o (nK (by decide) _ _ _ _)).trans ih
    · rw [sMgN_f hc]
      exact (sApp_tel _ _ _ _ _ _ _ _ _ _ (fun z => h z.1)).trans ih
theorem CB.take1 {V : XS} (hb : CB V) {o b k : Int} (o0 : 0 ≤ o) (o1 : o < V.1 (0, 0, 0) 6) (b0 : 0 ≤ b) (b1 : b < 4) (k0 : 0 ≤ k) (k1 : k < V.1 (9, b, 0) 3) (hc : CanTell V o b k) : CB (sTake1 V o b k) := by
  have k9 := wf9_3 hb.1 b0 b1
  have a0 := wf13_0 hb.1 b0 b1 k0 (show k < 60 by omega)
  have a1 := wf13_1 hb.1 b0 b1 k0 (show k < 60 by omega)
  have a2 := wf13_2 hb.1 b0 b1 k0 (show k < 60 by omega)
  have a3 := wf13_3 hb.1 b0 b1 k0 (show k < 60 by omega)
  have a4 := wf13_4 hb.1 b0 b1 k0 (show k < 60 by omega)
  have ht := hb.2.2.2.2.2.2 b b0 b1 k.toNat (by omega)
  rw [show (k.toNat : Int) = k by omega] at ht
  obtain ⟨c1, c2⟩ := hc
  exact hb.app o0 o1 c1 a0 a1 (by omega) (by omega) (by omega) (by omega) (fun z => turn_lay hb o0 o1 a2.1 (ht z).1 (fun y => by obtain ⟨-, g, g1, g2⟩ := (c2 y).1 z; exact ⟨g, g1, g2⟩)) ht
theorem CB.put8 {V : XS} (hb : CB V) (h : V.1 (0, 0, 0) 8 < 60) : CB (sPut8 V) := by
  have k8 := wf0_8 hb.1
  exact hb.gen (wp0_8 hb.1 ⟨by omega, by omega⟩) (fun k x y a b c d e => putI_o (nK a _ _ _ _)) (by unfold sPut8; rw [putI_at, if_neg (by decide)]) (fun b' => by unfold sPut8; rw [putI_o (nK (by decide) _ _ _ _)]) (fun k x y a b c => rfl)
/-- the state after merge, before the listeners hear -/
noncomputable def sMgF (S : XS) (o b : Int) : XS := putI (sMgN S o b (S.1 (9, b, 0) 3 - S.1 (9, b, 0) 6).toNat) (9, b, 0) 6 (S.1 (9, b, 0) 3)
set_option maxHeartbeats 4000000 in
set_option maxRecDepth 100000 in
theorem l_merge (S : XS) (hb : CB S) (b : Int) (b0 : 0 < b) (b1 : b < S.1 (0, 0, 0) 6) (ho : (S.1 (9, b, 0) 4) < b) (n : Nat) (hn : (S.1 (9, b, 0) 3 - S.1 (9, b, 0) 6).toNat = n) (hcap : CapOk (sMgF S (S.1 (9, b, 0) 4) b) (S.1 (9, b, 0) 4)) : ∀ (nn : Nat) (T0 : XS) (j : Nat), (n : Int) - j < (nn : Int) → (QEq (sMgN S (S.1 (9, b, 0) 4) b j) T0) → (CB T0) → (j ≤ n) → (T0.1 (0, 0, 0) 8 ≤ (j : Int)) → X mX8_merge 47 [xR (0, 0, 0), xI b, xR (9, b, 0), xR (9, (S.1 (9, b, 0) 4), 0), xI (S.1 (9, (S.1 (9, b, 0) 4), 0) 3), xI (S.1 (9, b, 0) 6 + (j : Int)), none] [] (hp T0) 0 0 (pN (sInf (sMgF S (S.1 (9, b, 0) 4) b) (S.1 (9, b, 0) 4) (S.1 (0, 0, 0) 7).toNat) (some (xI ((sMgF S (S.1 (9, b, 0) 4) b).1 (9, (S.1 (9, b, 0) 4), 0) 3 - S.1 (9, (S.1 (9, b, 0) 4), 0) 3)))) := by
  intro nn
  induction nn with
  | zero => intro T0 j hm qT0 bT0 hj hj8; exfalso; omega
  | succ nn ih =>
    intro T0 j hm qT0 bT0 hj hj8
    have hw := bT0.1
    have k6 := wf0_6 hb.1
    have k7 := wf0_7 hb.1
    have kb := wf9_3 hb.1 (b := b) (by omega) (by omega)
    have ko := wf9_4 hb.1 (b := b) (by omega) (by omega)
    have kf := wf9_5 hb.1 (b := b) (by omega) (by omega)
    have kt := wf9_6 hb.1 (b := b) (by omega) (by omega)
    have e6 : T0.1 (0, 0, 0) 6 = S.1 (0, 0, 0) 6 := by rw [qT0.1 (0, 0, 0) rfl, mg_0 S j (by decide)]
    have e7 : T0.1 (0, 0, 0) 7 = S.1 (0, 0, 0) 7 := by rw [qT0.1 (0, 0, 0) rfl, mg_0 S j (by decide)]
    have e9 : T0.1 (9, b, 0) = S.1 (9, b, 0) := by rw [qT0.1 (9, b, 0) rfl, mg_o S j (show (9 : Nat) ≠ 13 by decide) (show (9 : Nat) ≠ 11 by decide) (nX (by omega) _) (nK (by decide) _ _ _ _)]
    have e93 := congrFun e9 3
    have e95 := congrFun e9 5
    have e94 := congrFun e9 4
    have c13 := fun (h : S.1 (9, b, 0) 6 + (j : Int) < 60) => wf13_0 bT0.1 (b := b) (t := S.1 (9, b, 0) 6 + (j : Int)) (by omega) (by omega) (by omega) h
    have h8 := wf0_8 bT0.1
    refine x_iload dX8_merge_47 rfl ?_
    refine x_aload_n dX8_merge_49 rfl ?_
    refine x_get (v := xI (T0.1 (9, b, 0) 3)) dX8_merge_50 fl_RX8_92 (hp9 T0 (by omega) (by omega)) rfl ?_
    have f50_1 := wf9_3 bT0.1 (S := T0) (b := b) (by omega) (by omega)
    refine x_icmp_ge (tgt := 146) dX8_merge_53 (by decide) (by first | exact hz _ _ | exact hw.1 _ _ | exact zR_of _ | exact bI_z _ | assumption | exact ⟨by omega, by omega⟩) (by first | exact hz _ _ | exact hw.1 _ _ | exact zR_of _ | exact bI_z _ | assumption | exact ⟨by omega, by omega⟩) (fun c53 => ?_) (fun c53 => ?_)
    · refine x_aload_n dX8_merge_146 rfl ?_
      refine x_aload_n dX8_merge_147 rfl ?_
      refine x_get (v := xI (T0.1 (9, b, 0) 3)) dX8_merge_148 fl_RX8_92 (hp9 T0 (by omega) (by omega)) rfl ?_
      have f148_2 := wf9_3 bT0.1 (S := T0) (b := b) (by omega) (by omega)
      refine x_put dX8_merge_151 fl_RX8_249 (fun r hr => by cases hr; rfl) (hp9 T0 (by omega) (by omega)) xfit_i (Nat.le_of_ble_eq_true rfl) rfl ?_
      refine x_heq (pu9_6 T0 (by omega) (by omega) (T0.1 (9, b, 0) 3)) ?_
      have hw151_3 : WI (putI T0 (9, b, 0) 6 (T0.1 (9, b, 0) 3)) := wp9_6 bT0.1 (by omega) (by omega) (by omega)
      refine x_aload_n dX8_merge_154 rfl ?_
      refine x_aload_n dX8_merge_155 rfl ?_
      refine x_get (v := xI ((putI T0 (9, b, 0) 6 (T0.1 (9, b, 0) 3)).1 (9, b, 0) 4)) dX8_merge_156 fl_RX8_246 (hp9 (putI T0 (9, b, 0) 6 (T0.1 (9, b, 0) 3)) (by omega) (by omega)) rfl ?_
      have f156_4 := wf9_4 hw151_3 (S := putI T0 (9, b, 0) 6 (T0.1 (9, b, 0) 3)) (b := b) (by omega) (by omega)
      have eN : j = (S.1 (9, b, 0) 3 - S.1 (9, b, 0) 6).toNat := by omega
      have qF : QEq (sMgF S (S.1 (9, b, 0) 4) b) (putI T0 (9, b, 0) 6 (T0.1 (9, b, 0) 3)) := by rw [show T0.1 (9, b, 0) 3 = S.1 (9, b, 0) 3 by omega]; unfold sMgF; rw [← eN]; exact qT0.pI rfl _ _
      have bF : CB (putI T0 (9, b, 0) 6 (T0.1 (9, b, 0) 3)) := bT0.gen (wp9_6 bT0.1 (by omega) (by omega) (by omega)) (fun k x y a b c d e => putI_o (nK e _ _ _ _)) (by rw [putI_o (nK (by decide) _ _ _ _)]) (fun b' => by by_cases z : b' = b; rw [z, putI_at, if_neg (by decide)]; rw [putI_o (nX z _)]) (fun k x y a b c => rfl)
      have f6 : (putI T0 (9, b, 0) 6 (T0.1 (9, b, 0) 3)).1 (0, 0, 0) 6 = S.1 (0, 0, 0) 6 := by rw [putI_o (nK (by decide) _ _ _ _)]; omega
      have f7 : (putI T0 (9, b, 0) 6 (T0.1 (9, b, 0) 3)).1 (0, 0, 0) 7 = S.1 (0, 0, 0) 7 := by rw [putI_o (nK (by decide) _ _ _ _)]; omega
      refine x_top (show (putI T0 (9, b, 0) 6 (T0.1 (9, b, 0) 3)).1 (9, b, 0) 4 = (S.1 (9, b, 0) 4) from by rw [putI_at, if_neg (by decide)]; omega) ?_
      refine x_callV (a := 0) (b := 0) (as := [xI (S.1 (9, b, 0) 4)]) (rest := []) ok_X8_inform dX8_merge_159 wd674 ⟨wd676, wd8⟩ (hp0 (putI T0 (9, b, 0) 6 (T0.1 (9, b, 0) 3))) rfl rfl (c_inform (putI T0 (9, b, 0) 6 (T0.1 (9, b, 0) 3)) bF (S.1 (9, b, 0) 4) (by omega) (by omega) (hcap.q qF) (S.1 (0, 0, 0) 7).toNat (by omega)) rfl (Nat.le_of_ble_eq_true rfl) (Nat.le_of_ble_eq_true rfl) (by decide) (by omega) (by omega) (fun _ q => ?_) (fun _ _ q => by cases q.1) (fun _ _ q => by cases q.1)
      obtain ⟨-, I1, rfl, qI1, bI1⟩ := q
      refine x_aload_n dX8_merge_162 rfl ?_
      refine x_get (v := xI (I1.1 (9, (S.1 (9, b, 0) 4), 0) 3)) dX8_merge_163 fl_RX8_92 (hp9 I1 (by omega) (by omega)) rfl ?_
      have f163_5 := wf9_3 bI1.1 (S := I1) (b := (S.1 (9, b, 0) 4)) (by omega) (by omega)
      refine x_iload dX8_merge_166 rfl ?_
      refine x_isub dX8_merge_168 ?_
      exact x_iret dX8_merge_169 rfl ⟨by rw [show I1.1 (9, (S.1 (9, b, 0) 4), 0) 3 = (sMgF S (S.1 (9, b, 0) 4) b).1 (9, (S.1 (9, b, 0) 4), 0) 3 from by rw [qI1.1 (9, _, 0) rfl, (sInf_L _ _ _).i (k := 9) (by decide), qF.1 (9, _, 0) rfl]], I1, rfl, (qF.inf _ _).tr qI1, bI1⟩
    · refine x_aload_n dX8_merge_56 rfl ?_
      refine x_get (v := xR (10, b, 0)) dX8_merge_57 fl_RX8_226 (hp9 T0 (by omega) (by omega)) rfl ?_
      refine x_iload dX8_merge_60 rfl ?_
      refine x_alda (l2 := (13, b, S.1 (9, b, 0) 6 + (j : Int))) dX8_merge_62 (hp10 T0 (by omega) (by omega)) (show (10 : Nat) ≠ 99 by decide) (by decide) (by decide) (by omega) (by omega) (by decide) rfl ?_
      refine x_astore (L' := [xR (0, 0, 0), xI b, xR (9, b, 0), xR (9, (S.1 (9, b, 0) 4), 0), xI (S.1 (9, (S.1 (9, b, 0) 4), 0) 3), xI (S.1 (9, b, 0) 6 + (j : Int)), xR (13, b, S.1 (9, b, 0) 6 + (j : Int))]) dX8_merge_63 (by decide) rfl ?_
      refine x_aload dX8_merge_65 rfl ?_
      refine x_get (v := xI (T0.1 (13, b, S.1 (9, b, 0) 6 + (j : Int)) 6)) dX8_merge_67 fl_RX8_230 (hp13 T0 (by omega) (by omega) (by omega) (by omega)) rfl ?_
      have f67_6 := wf13_6 bT0.1 (S := T0) (b := b) (t := S.1 (9, b, 0) 6 + (j : Int)) (by omega) (by omega) (by omega) (by omega)
      refine x_if_ne (tgt := 97) dX8_merge_70 (by decide) (by first | exact hz _ _ | exact hw.1 _ _ | exact zR_of _ | exact bI_z _ | assumption | exact ⟨by omega, by omega⟩) (fun c70 => ?_) (fun c70 => ?_)
      · refine x_aload_n dX8_merge_97 rfl ?_
        refine x_dup dX8_merge_98 rfl ?_
        refine x_get (v := xI (T0.1 (0, 0, 0) 8)) dX8_merge_99 fl_RX8_53 (hp0 T0) rfl ?_
        have f99_7 := wf0_8 bT0.1 (S := T0)
        refine x_iconst dX8_merge_102 ?_
        refine x_iadd dX8_merge_103 ?_
        refine x_put dX8_merge_104 fl_RX8_53 (fun r hr => by cases hr; rfl) (hp0 T0) xfit_i (Nat.le_of_ble_eq_true rfl) rfl ?_
        refine x_heq (pu0_8 T0 ((T0.1 (0, 0, 0) 8) + 1)) ?_
        have hw104_8 : WI (putI T0 (0, 0, 0) 8 ((T0.1 (0, 0, 0) 8) + 1)) := wp0_8 bT0.1 (by omega)
        refine x_goto (tgt := 140) dX8_merge_107 (by decide) ?_
        refine x_iinc (L' := [xR (0, 0, 0), xI b, xR (9, b, 0), xR (9, (S.1 (9, b, 0) 4), 0), xI (S.1 (9, (S.1 (9, b, 0) 4), 0) 3), xI ((S.1 (9, b, 0) 6 + (j : Int)) + 1), xR (13, b, S.1 (9, b, 0) 6 + (j : Int))]) dX8_merge_140 rfl rfl ?_
        refine x_goto (tgt := 47) dX8_merge_143 (by decide) ?_
        refine X.loc (L' := [xR (0, 0, 0), xI b, xR (9, b, 0), xR (9, (S.1 (9, b, 0) 4), 0), xI (S.1 (9, (S.1 (9, b, 0) 4), 0) 3), xI ((S.1 (9, b, 0) 6 + (j : Int)) + 1), none]) ⟨rfl, ⟨rfl, ⟨rfl, ⟨rfl, ⟨rfl, ⟨rfl, trivial⟩⟩⟩⟩⟩⟩ ?_
        have k := ih (sPut8 T0) (j + 1) (by omega) (by rw [sMgN_t (Conf.q qT0.symm (by first | exact Or.inl (by omega) | exact Or.inr (Or.inl (by assumption)) | exact Or.inr (Or.inr hCt)))]; exact qT0.put8) (bT0.put8 (by omega)) (by omega) (by unfold sPut8; rw [putI_at, if_pos rfl]; omega)
        rw [show S.1 (9, b, 0) 6 + ((j + 1 : Nat) : Int) = S.1 (9, b, 0) 6 + (j : Int) + 1 by omega] at k
        exact k
      · refine x_aload_n dX8_merge_73 rfl ?_
        refine x_aload dX8_merge_74 rfl ?_
        refine x_aload_n dX8_merge_76 rfl ?_
        refine x_get (v := xI (T0.1 (9, b, 0) 5)) dX8_merge_77 fl_RX8_252 (hp9 T0 (by omega) (by omega)) rfl ?_
        have f77_9 := wf9_5 bT0.1 (S := T0) (b := b) (by omega) (by omega)
        refine x_iload_n dX8_merge_80 rfl ?_
        refine x_callV_r (a := 0) (b := 0) (as := [xR (13, b, S.1 (9, b, 0) 6 + (j : Int)), xI (T0.1 (9, b, 0) 5), xI b]) (rest := []) ok_X0_hasContrary dX8_merge_81 wd1005 ⟨wd1006, wd1007⟩ (hp9 T0 (by omega) (by omega)) rfl rfl (x_nat (e := (T0.1 (9, b, 0) 5)) (by omega) (fun e => X mX0_hasContrary 0 (xEnt mX0_hasContrary [xR (9, (S.1 (9, b, 0) 4), 0), xR (13, b, (S.1 (9, b, 0) 6 + (j : Int))), xI e, xI b]) [] (hp T0) 0 0 (pRet (xI (bI (fHasC T0 (S.1 (9, b, 0) 4) e b (13, b, (S.1 (9, b, 0) 6 + (j : Int)))))) (hp T0))) (c_hasContrary T0 bT0.1 (S.1 (9, b, 0) 4) (by omega) (by omega) b (S.1 (9, b, 0) 6 + (j : Int)) (by omega) (by omega) (by omega) (by omega) (T0.1 (9, b, 0) 5).toNat b ⟨by omega, by omega⟩ (by omega))) rfl (Nat.le_of_ble_eq_true rfl) (Nat.le_of_ble_eq_true rfl) (by decide) (by omega) (by omega) ?_
        by_cases b81 : fHasC T0 (S.1 (9, b, 0) 4) (T0.1 (9, b, 0) 5) b (13, b, (S.1 (9, b, 0) 6 + (j : Int)))
        · refine x_top (bI_t b81) ?_
          refine x_if_ne (tgt := 97) dX8_merge_84 (by decide) ⟨by decide, by decide⟩ (fun _ => ?_) (fun z => absurd z (by decide))
          refine x_aload_n dX8_merge_97 rfl ?_
          refine x_dup dX8_merge_98 rfl ?_
          refine x_get (v := xI (T0.1 (0, 0, 0) 8)) dX8_merge_99 fl_RX8_53 (hp0 T0) rfl ?_
          have f99_10 := wf0_8 bT0.1 (S := T0)
          refine x_iconst dX8_merge_102 ?_
          refine x_iadd dX8_merge_103 ?_
          refine x_put dX8_merge_104 fl_RX8_53 (fun r hr => by cases hr; rfl) (hp0 T0) xfit_i (Nat.le_of_ble_eq_true rfl) rfl ?_
          refine x_heq (pu0_8 T0 ((T0.1 (0, 0, 0) 8) + 1)) ?_
          have hw104_11 : WI (putI T0 (0, 0, 0) 8 ((T0.1 (0, 0, 0) 8) + 1)) := wp0_8 bT0.1 (by omega)
          refine x_goto (tgt := 140) dX8_merge_107 (by decide) ?_
          refine x_iinc (L' := [xR (0, 0, 0), xI b, xR (9, b, 0), xR (9, (S.1 (9, b, 0) 4), 0), xI (S.1 (9, (S.1 (9, b, 0) 4), 0) 3), xI ((S.1 (9, b, 0) 6 + (j : Int)) + 1), xR (13, b, S.1 (9, b, 0) 6 + (j : Int))]) dX8_merge_140 rfl rfl ?_
          refine x_goto (tgt := 47) dX8_merge_143 (by decide) ?_
          refine X.loc (L' := [xR (0, 0, 0), xI b, xR (9, b, 0), xR (9, (S.1 (9, b, 0) 4), 0), xI (S.1 (9, (S.1 (9, b, 0) 4), 0) 3), xI ((S.1 (9, b, 0) 6 + (j : Int)) + 1), none]) ⟨rfl, ⟨rfl, ⟨rfl, ⟨rfl, ⟨rfl, ⟨rfl, trivial⟩⟩⟩⟩⟩⟩ ?_
          have k := ih (sPut8 T0) (j + 1) (by omega) (by rw [sMgN_t (Conf.q qT0.symm (by first | exact Or.inl (by omega) | exact Or.inr (Or.inl (by assumption)) | exact Or.inr (Or.inr hCt)))]; exact qT0.put8) (bT0.put8 (by omega)) (by omega) (by unfold sPut8; rw [putI_at, if_pos rfl]; omega)
          rw [show S.1 (9, b, 0) 6 + ((j + 1 : Nat) : Int) = S.1 (9, b, 0) 6 + (j : Int) + 1 by omega] at k
          exact k
        · refine x_top (bI_f b81) ?_
          refine x_if_ne (tgt := 97) dX8_merge_84 (by decide) ⟨by decide, by decide⟩ (fun z => absurd z (by decide)) (fun _ => ?_)
          refine x_aload_n dX8_merge_87 rfl ?_
          refine x_aload_n dX8_merge_88 rfl ?_
          refine x_aload dX8_merge_89 rfl ?_
          refine x_callV (a := 0) (b := 0) (as := [xR (9, (S.1 (9, b, 0) 4), 0), xR (13, b, S.1 (9, b, 0) 6 + (j : Int))]) (rest := []) ok_X8_canBeTold dX8_merge_91 wd1013 ⟨wd1015, wd16⟩ (hp0 T0) rfl rfl (c_canBeTold T0 bT0 (S.1 (9, b, 0) 4) (by omega) (by omega) b (S.1 (9, b, 0) 6 + (j : Int)) (by omega) (by omega) (by omega) (by omega) (by omega)) rfl (Nat.le_of_ble_eq_true rfl) (Nat.le_of_ble_eq_true rfl) (by decide) (by omega) (by omega) (fun _ q => by cases q.1) (fun _ _ q => ?_) (fun _ _ q => by cases q.1)
          obtain ⟨y, V1, rfl, qV1, bV1⟩ := q
          cases y
          have v8 := congrFun (qV1.1 (0, 0, 0) rfl) 8
          have v6 := congrFun (qV1.1 (0, 0, 0) rfl) 6
          have v9 := congrFun (qV1.1 (9, b, 0) rfl) 3
          have v9o := congrFun (qV1.1 (9, (S.1 (9, b, 0) 4), 0) rfl) 3
          by_cases hCt : CanTell T0 (S.1 (9, b, 0) 4) b (S.1 (9, b, 0) 6 + (j : Int))
          · refine x_top (bI_t hCt) ?_
            have hCt2 := hCt.q qV1
            have hCs := hCt2.1
            refine x_if_ne (tgt := 110) dX8_merge_94 (by decide) ⟨by decide, by decide⟩ (fun _ => ?_) (fun z => absurd z (by decide))
            refine x_aload_n dX8_merge_110 rfl ?_
            refine x_aload dX8_merge_111 rfl ?_
            refine x_get (v := xI (V1.1 (13, b, S.1 (9, b, 0) 6 + (j : Int)) 0)) dX8_merge_113 fl_RX8_263 (hp13 V1 (by omega) (by omega) (by omega) (by omega)) rfl ?_
            have f113_12 := wf13_0 bV1.1 (S := V1) (b := b) (t := S.1 (9, b, 0) 6 + (j : Int)) (by omega) (by omega) (by omega) (by omega)
            refine x_aload dX8_merge_116 rfl ?_
            refine x_get (v := xI (V1.1 (13, b, S.1 (9, b, 0) 6 + (j : Int)) 1)) dX8_merge_118 fl_RX8_266 (hp13 V1 (by omega) (by omega) (by omega) (by omega)) rfl ?_
            have f118_13 := wf13_1 bV1.1 (S := V1) (b := b) (t := S.1 (9, b, 0) 6 + (j : Int)) (by omega) (by omega) (by omega) (by omega)
            refine x_aload dX8_merge_121 rfl ?_
            refine x_get (v := xI (V1.1 (13, b, S.1 (9, b, 0) 6 + (j : Int)) 2)) dX8_merge_123 fl_RX8_269 (hp13 V1 (by omega) (by omega) (by omega) (by omega)) rfl ?_
            have f123_14 := wf13_2 bV1.1 (S := V1) (b := b) (t := S.1 (9, b, 0) 6 + (j : Int)) (by omega) (by omega) (by omega) (by omega)
            refine x_aload dX8_merge_126 rfl ?_
            refine x_get (v := xI (V1.1 (13, b, S.1 (9, b, 0) 6 + (j : Int)) 3)) dX8_merge_128 fl_RX8_272 (hp13 V1 (by omega) (by omega) (by omega) (by omega)) rfl ?_
            have f128_15 := wf13_3 bV1.1 (S := V1) (b := b) (t := S.1 (9, b, 0) 6 + (j : Int)) (by omega) (by omega) (by omega) (by omega)
            refine x_aload dX8_merge_131 rfl ?_
            refine x_get (v := xI (V1.1 (13, b, S.1 (9, b, 0) 6 + (j : Int)) 4)) dX8_merge_133 fl_RX8_275 (hp13 V1 (by omega) (by omega) (by omega) (by omega)) rfl ?_
            have f133_16 := wf13_4 bV1.1 (S := V1) (b := b) (t := S.1 (9, b, 0) 6 + (j : Int)) (by omega) (by omega) (by omega) (by omega)
            refine x_iload_n dX8_merge_136 rfl ?_
            refine x_callV_v (a := 0) (b := 0) (as := [xI (V1.1 (13, b, S.1 (9, b, 0) 6 + (j : Int)) 0), xI (V1.1 (13, b, S.1 (9, b, 0) 6 + (j : Int)) 1), xI (V1.1 (13, b, S.1 (9, b, 0) 6 + (j : Int)) 2), xI (V1.1 (13, b, S.1 (9, b, 0) 6 + (j : Int)) 3), xI (V1.1 (13, b, S.1 (9, b, 0) 6 + (j : Int)) 4), xI b]) (rest := []) ok_X0_append dX8_merge_137 wd664 ⟨wd665, wd666⟩ (hp9 V1 (by omega) (by omega)) rfl rfl (c_append V1 bV1.1 (S.1 (9, b, 0) 4) (by omega) (by omega) (by omega) (V1.1 (13, b, S.1 (9, b, 0) 6 + (j : Int)) 0) (V1.1 (13, b, S.1 (9, b, 0) 6 + (j : Int)) 1) (V1.1 (13, b, S.1 (9, b, 0) 6 + (j : Int)) 2) (V1.1 (13, b, S.1 (9, b, 0) 6 + (j : Int)) 3) (V1.1 (13, b, S.1 (9, b, 0) 6 + (j : Int)) 4) b (by omega) (by omega) (by omega) (by omega) (by omega) (by omega)) rfl (Nat.le_of_ble_eq_true rfl) (Nat.le_of_ble_eq_true rfl) (by decide) (by omega) (by omega) ?_
            refine x_iinc (L' := [xR (0, 0, 0), xI b, xR (9, b, 0), xR (9, (S.1 (9, b, 0) 4), 0), xI (S.1 (9, (S.1 (9, b, 0) 4), 0) 3), xI ((S.1 (9, b, 0) 6 + (j : Int)) + 1), xR (13, b, S.1 (9, b, 0) 6 + (j : Int))]) dX8_merge_140 rfl rfl ?_
            refine x_goto (tgt := 47) dX8_merge_143 (by decide) ?_
            refine X.loc (L' := [xR (0, 0, 0), xI b, xR (9, b, 0), xR (9, (S.1 (9, b, 0) 4), 0), xI (S.1 (9, (S.1 (9, b, 0) 4), 0) 3), xI ((S.1 (9, b, 0) 6 + (j : Int)) + 1), none]) ⟨rfl, ⟨rfl, ⟨rfl, ⟨rfl, ⟨rfl, ⟨rfl, trivial⟩⟩⟩⟩⟩⟩ ?_
            have k := ih (sTake1 V1 (S.1 (9, b, 0) 4) b (S.1 (9, b, 0) 6 + (j : Int))) (j + 1) (by omega) (by rw [sMgN_f (fun z => by rcases z.q qT0 with z | z | z; exact z (by omega); (first | exact absurd z (by assumption) | exact absurd (hCt) z); exact z hCt)]; exact (qT0.tr qV1).take1 _ _ _) (bV1.take1 (by omega) (by omega) (by omega) (by omega) (by omega) (by omega) hCt2) (by omega) (by unfold sTake1; rw [sApp_k _ _ _ _ _ _ _ _ (k := 0) (by decide)]; omega)
            rw [show S.1 (9, b, 0) 6 + ((j + 1 : Nat) : Int) = S.1 (9, b, 0) 6 + (j : Int) + 1 by omega] at k
            exact k
          · refine x_top (bI_f hCt) ?_
            refine x_if_ne (tgt := 110) dX8_merge_94 (by decide) ⟨by decide, by decide⟩ (fun z => absurd z (by decide)) (fun _ => ?_)
            refine x_aload_n dX8_merge_97 rfl ?_
            refine x_dup dX8_merge_98 rfl ?_
            refine x_get (v := xI (V1.1 (0, 0, 0) 8)) dX8_merge_99 fl_RX8_53 (hp0 V1) rfl ?_
            have f99_17 := wf0_8 bV1.1 (S := V1)
            refine x_iconst dX8_merge_102 ?_
            refine x_iadd dX8_merge_103 ?_
            refine x_put dX8_merge_104 fl_RX8_53 (fun r hr => by cases hr; rfl) (hp0 V1) xfit_i (Nat.le_of_ble_eq_true rfl) rfl ?_
            refine x_heq (pu0_8 V1 ((V1.1 (0, 0, 0) 8) + 1)) ?_
            have hw104_18 : WI (putI V1 (0, 0, 0) 8 ((V1.1 (0, 0, 0) 8) + 1)) := wp0_8 bV1.1 (by omega)
            refine x_goto (tgt := 140) dX8_merge_107 (by decide) ?_
            refine x_iinc (L' := [xR (0, 0, 0), xI b, xR (9, b, 0), xR (9, (S.1 (9, b, 0) 4), 0), xI (S.1 (9, (S.1 (9, b, 0) 4), 0) 3), xI ((S.1 (9, b, 0) 6 + (j : Int)) + 1), xR (13, b, S.1 (9, b, 0) 6 + (j : Int))]) dX8_merge_140 rfl rfl ?_
            refine x_goto (tgt := 47) dX8_merge_143 (by decide) ?_
            refine X.loc (L' := [xR (0, 0, 0), xI b, xR (9, b, 0), xR (9, (S.1 (9, b, 0) 4), 0), xI (S.1 (9, (S.1 (9, b, 0) 4), 0) 3), xI ((S.1 (9, b, 0) 6 + (j : Int)) + 1), none]) ⟨rfl, ⟨rfl, ⟨rfl, ⟨rfl, ⟨rfl, ⟨rfl, trivial⟩⟩⟩⟩⟩⟩ ?_
            have k := ih (sPut8 V1) (j + 1) (by omega) (by rw [sMgN_t (Conf.q qT0.symm (by first | exact Or.inl (by omega) | exact Or.inr (Or.inl (by assumption)) | exact Or.inr (Or.inr hCt)))]; exact (qT0.tr qV1).put8) (bV1.put8 (by omega)) (by omega) (by unfold sPut8; rw [putI_at, if_pos rfl]; omega)
            rw [show S.1 (9, b, 0) 6 + ((j + 1 : Nat) : Int) = S.1 (9, b, 0) 6 + (j : Int) + 1 by omega] at k
            exact k
set_option maxHeartbeats 4000000 in
set_option maxRecDepth 100000 in
theorem c_merge (S : XS) (hb : CB S) (b : Int) (zb : zR b) (ho : ∀ b : Int, 0 < b → b < S.1 (0, 0, 0) 6 → (S.1 (9, b, 0) 4) < b) (hcap : 0 < b → b < S.1 (0, 0, 0) 6 → CapOk (sMgF S (S.1 (9, b, 0) 4) b) (S.1 (9, b, 0) 4)) : X mX8_merge 0 (xEnt mX8_merge [xR (0, 0, 0), xI b]) [] (hp S) 2 12 (pOr (0 ≤ b ∧ b < S.1 (0, 0, 0) 6) (pOr (b ≠ 0) (pN (sInf (sMgF S (S.1 (9, b, 0) 4) b) (S.1 (9, b, 0) 4) (S.1 (0, 0, 0) 7).toNat) (some (xI ((sMgF S (S.1 (9, b, 0) 4) b).1 (9, (S.1 (9, b, 0) 4), 0) 3 - S.1 (9, (S.1 (9, b, 0) 4), 0) 3)))) (pX S "java/lang/IllegalArgumentException")) (pX S "java/lang/IndexOutOfBoundsException")) := by
  have hw := hb.1
  have hn6 := wf0_6 hw
  have zb2 := zb
  unfold zR at zb2
  show X mX8_merge 0 [xR (0, 0, 0), xI b, none, none, none, none, none] [] (hp S) 2 12 _
  refine x_aload_n dX8_merge_0 rfl ?_
  refine x_iload_n dX8_merge_1 rfl ?_
  refine x_callV_t (a := 1) (b := 6) (as := [xI b]) (rest := []) ok_X8_branchAt dX8_merge_2 wd574 ⟨wd576, wd6⟩ (hp0 S) rfl rfl (c_branchAt S hb.1 b (by first | exact hz _ _ | exact hw.1 _ _ | exact zR_of _ | exact bI_z _ | assumption | exact ⟨by omega, by omega⟩)) rfl (Nat.le_of_ble_eq_true rfl) (Nat.le_of_ble_eq_true rfl) (by decide) (by omega) (by omega) (fun t2 => ?_) (fun t2 => ?_)
  · refine x_astore_n (L' := [xR (0, 0, 0), xI b, xR (9, b, 0), none, none, none, none]) dX8_merge_5 (by decide) rfl ?_
    refine x_iload_n dX8_merge_6 rfl ?_
    refine x_if_ne (tgt := 20) dX8_merge_7 (by decide) (by first | exact hz _ _ | exact hw.1 _ _ | exact zR_of _ | exact bI_z _ | assumption | exact ⟨by omega, by omega⟩) (fun c7 => ?_) (fun c7 => ?_)
    · refine x_aload_n dX8_merge_20 rfl ?_
      refine x_get (v := xR (1, 0, 0)) dX8_merge_21 fl_RX8_11 (hp0 S) rfl ?_
      refine x_aload_n dX8_merge_24 rfl ?_
      refine x_get (v := xI (S.1 (9, b, 0) 4)) dX8_merge_25 fl_RX8_246 (hp9 S (by omega) (by omega)) rfl ?_
      have f25_1 := wf9_4 hb.1 (S := S) (b := b) (by omega) (by omega)
      refine x_alda (l2 := (9, S.1 (9, b, 0) 4, 0)) dX8_merge_28 (hp1 S) (show (1 : Nat) ≠ 99 by decide) (by decide) (by decide) (by omega) (by omega) (by decide) rfl ?_
      refine x_astore_n (L' := [xR (0, 0, 0), xI b, xR (9, b, 0), xR (9, S.1 (9, b, 0) 4, 0), none, none, none]) dX8_merge_29 (by decide) rfl ?_
      refine x_aload_n dX8_merge_30 rfl ?_
      refine x_get (v := xI (S.1 (9, S.1 (9, b, 0) 4, 0) 3)) dX8_merge_31 fl_RX8_92 (hp9 S (by omega) (by omega)) rfl ?_
      have f31_2 := wf9_3 hb.1 (S := S) (b := S.1 (9, b, 0) 4) (by omega) (by omega)
      refine x_istore (L' := [xR (0, 0, 0), xI b, xR (9, b, 0), xR (9, S.1 (9, b, 0) 4, 0), xI (S.1 (9, S.1 (9, b, 0) 4, 0) 3), none, none]) dX8_merge_34 (by decide) rfl ?_
      refine x_aload_n dX8_merge_36 rfl ?_
      refine x_iconst dX8_merge_37 ?_
      refine x_put dX8_merge_38 fl_RX8_53 (fun r hr => by cases hr; rfl) (hp0 S) xfit_i (Nat.le_of_ble_eq_true rfl) rfl ?_
      refine x_heq (pu0_8 S 0) ?_
      have hw38_3 : WI (putI S (0, 0, 0) 8 0) := wp0_8 hb.1 (by omega)
      refine x_aload_n dX8_merge_41 rfl ?_
      refine x_get (v := xI (S.1 (9, b, 0) 6)) dX8_merge_42 fl_RX8_249 (hp9 (putI S (0, 0, 0) 8 0) (by omega) (by omega)) rfl ?_
      have f42_4 := wf9_6 hb.1 (S := S) (b := b) (by omega) (by omega)
      refine x_istore (L' := [xR (0, 0, 0), xI b, xR (9, b, 0), xR (9, S.1 (9, b, 0) 4, 0), xI (S.1 (9, S.1 (9, b, 0) 4, 0) 3), xI (S.1 (9, b, 0) 6), none]) dX8_merge_45 (by decide) rfl ?_
      have kt := wf9_6 hb.1 (b := b) (by omega) (by omega)
      have kb := wf9_3 hb.1 (b := b) (by omega) (by omega)
      have z := l_merge S hb b (by omega) (by omega) (ho b (by omega) (by omega)) _ rfl (hcap (by omega) (by omega)) ((S.1 (9, b, 0) 3 - S.1 (9, b, 0) 6).toNat + 1) (putI S (0, 0, 0) 8 0) 0 (by omega) (QEq.rf _) (hb.gen (wp0_8 hb.1 (by omega)) (fun k x y a b c d e => putI_o (nK a _ _ _ _)) (by rw [putI_at, if_neg (by decide)]) (fun b' => by rw [putI_o (nK (by decide) _ _ _ _)]) (fun k x y a b c => rfl)) (by omega) (by rw [putI_at, if_pos rfl]; omega)
      rw [show S.1 (9, b, 0) 6 + ((0 : Nat) : Int) = S.1 (9, b, 0) 6 by omega] at z
      exact X.weak z (Nat.zero_le _) (Nat.zero_le _) (fun _ _ z => Or.inl ⟨by omega, Or.inl ⟨by omega, z⟩⟩)
    · exact x_throw (thr_RX8_213_244_217) rfl dX8_merge_10 dX8_merge_13 (Or.inl ⟨dX8_merge_14, dX8_merge_16, dX8_merge_19⟩) (by decide) (Nat.le_of_ble_eq_true rfl) (by omega) (by omega) (by first | exact Or.inr ⟨by omega, pXi (QEq.rf S) hb⟩ | exact Or.inl ⟨by omega, Or.inr ⟨by omega, pXi (QEq.rf S) hb⟩⟩ | exact Or.inl ⟨by omega, Or.inl ⟨by omega, Or.inr ⟨by first | omega | assumption | exact fun z => z hRv, pXi (QEq.rf S) hb⟩⟩⟩ | exact Or.inl ⟨by omega, Or.inl ⟨by omega, Or.inl ⟨by first | omega | assumption, Or.inr ⟨by omega, pXi (QEq.rf S) hb⟩⟩⟩⟩)
  · exact XX.out rfl (by first | exact Or.inr ⟨by omega, pXi (QEq.rf S) hb⟩ | exact Or.inl ⟨by omega, Or.inr ⟨by omega, pXi (QEq.rf S) hb⟩⟩ | exact Or.inl ⟨by omega, Or.inl ⟨by omega, Or.inr ⟨by first | omega | assumption | exact fun z => z hRv, pXi (QEq.rf S) hb⟩⟩⟩ | exact Or.inl ⟨by omega, Or.inl ⟨by omega, Or.inl ⟨by first | omega | assumption, Or.inr ⟨by omega, pXi (QEq.rf S) hb⟩⟩⟩⟩)
