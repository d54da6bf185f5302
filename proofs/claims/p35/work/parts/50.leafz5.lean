/-! listeners are informed; may a telling be told -/
def sHrV (S : XS) (l : Int) (v : Int64) : XS := if v ≠ S.2.1 (14, l, 0) 6 ∧ S.1 (14, l, 0) 8 < 120 then
    putJ (putI (putI (putJ (putJ S (30, l, 0) (S.1 (14, l, 0) 8) (v &&& (S.2.1 (14, l, 0) 6 ^^^ (-1)))) (31, l, 0) (S.1 (14, l, 0) 8) (S.2.1 (14, l, 0) 6 &&& (v ^^^ (-1)))) (14, l, 0) 9 (S.1 (14, l, 0) 9 + fBits (v ^^^ S.2.1 (14, l, 0) 6))) (14, l, 0) 8 (S.1 (14, l, 0) 8 + 1)) (14, l, 0) 6 v
  else putJ S (14, l, 0) 6 v
theorem sHear_V (S : XS) (l b t : Int) : sHear S l b t = sHrV S l (lNow S l b t) := rfl
theorem wi_hrV {S : XS} (hw : WI S) {l : Int} (h1 : 0 ≤ l) (h2 : l < 5) {v : Int64} (hu : S.1 (14, l, 0) 9 + fBits (v ^^^ S.2.1 (14, l, 0) 6) ≤ 7680) : WI (sHrV S l v) := by
  unfold sHrV
  have a := fBits_64 (v ^^^ S.2.1 (14, l, 0) 6)
  have b := wf14_9 hw h1 h2
  have c := wf14_8 hw h1 h2
  split
  · rename_i z
    exact wp14_8 (S := putI (putJ (putJ S (30, l, 0) (S.1 (14, l, 0) 8) (v &&& (S.2.1 (14, l, 0) 6 ^^^ (-1)))) (31, l, 0) (S.1 (14, l, 0) 8) (S.2.1 (14, l, 0) 6 &&& (v ^^^ (-1)))) (14, l, 0) 9 (S.1 (14, l, 0) 9 + fBits (v ^^^ S.2.1 (14, l, 0) 6))) (wp14_9 (S := putJ (putJ S (30, l, 0) (S.1 (14, l, 0) 8) (v &&& (S.2.1 (14, l, 0) 6 ^^^ (-1)))) (31, l, 0) (S.1 (14, l, 0) 8) (S.2.1 (14, l, 0) 6 &&& (v ^^^ (-1)))) hw h1 h2 ⟨by omega, by omega⟩) h1 h2 ⟨by omega, by omega⟩
  · exact hw
/-- alike but for the listeners -/
def LEq (S S' : XS) : Prop := (∀ l : XL, l.1 ≠ 14 → S'.1 l = S.1 l) ∧ (∀ l : XL, l.1 ≠ 14 → l.1 ≠ 30 → l.1 ≠ 31 → S'.2.1 l = S.2.1 l) ∧ S'.2.2 = S.2.2
theorem LEq.rf (S : XS) : LEq S S := ⟨fun _ _ => rfl, fun _ _ _ _ => rfl, rfl⟩
theorem LEq.tr {S S' S2 : XS} (h : LEq S S') (k : LEq S' S2) : LEq S S2 := ⟨fun l a => (k.1 l a).trans (h.1 l a), fun l a b c => (k.2.1 l a b c).trans (h.2.1 l a b c), k.2.2.trans h.2.2⟩
theorem LEq.i {S S' : XS} (h : LEq S S') {k : Nat} (hk : k ≠ 14) (x y : Int) : S'.1 (k, x, y) = S.1 (k, x, y) := h.1 (k, x, y) hk
theorem LEq.j {S S' : XS} (h : LEq S S') {k : Nat} (hk : k ≠ 14 ∧ k ≠ 30 ∧ k ≠ 31) (x y : Int) : S'.2.1 (k, x, y) = S.2.1 (k, x, y) := h.2.1 (k, x, y) hk.1 hk.2.1 hk.2.2
theorem LEq.rule {S S' : XS} (h : LEq S S') : RuleEq S.1 S'.1 := ⟨fun r => (h.i (by decide) r 0).symm, fun r i => (h.i (by decide) r i).symm, fun r => (h.i (by decide) r 0).symm, (h.i (by decide) 0 0).symm⟩
theorem LEq.hl {S S' : XS} (h : LEq S S') (b : Int) (n : Nat) (t : Int) : hl S'.1 b n t = hl S.1 b n t := (hl_congr h.rule (fun k => (h.i (by decide) b k).symm) n t).symm
theorem LEq.onN {S S' : XS} (h : LEq S S') (b : Int) (n : Nat) : onN S'.1 b n = onN S.1 b n := onN_congr (fun k => h.i (by decide) b k) n
theorem LEq.onL {S S' : XS} (h : LEq S S') {on : Int} (k : OnL S on) : OnL S' on := by
  intro r hr hb
  rw [h.i (k := 4) (by decide), h.i (k := 34) (by decide)]
  exact k r hr hb
theorem LEq.cb {S S' : XS} (h : LEq S S') (w : WI S') (b : CB S) : CB S' := by
  obtain ⟨b1, b2, b3, b4, b5, b6, b7⟩ := b
  refine ⟨w, RulesOk_eq h.rule b2, fun b' t' a0 a1 a2 a3 => ?_, fun b' a0 a1 n hn => ?_, ?_, ⟨fun b' t' a0 a1 a2 a3 => ?_, ?_⟩, fun b' a0 a1 k hk => ?_⟩
  · rw [h.i (k := 8) (by decide), h.j (k := 18) (by decide), h.j (k := 28) (by decide)]
    exact Stab_eq h.rule (b3 b' t' a0 a1 a2 a3)
  · rw [h.i (k := 0) (by decide)] at a1
    rw [h.i (k := 9) (by decide)] at hn
    obtain ⟨g, g1, g2⟩ := b4 b' a0 a1 n hn
    rw [h.onN]
    exact ⟨g, g1, Lay_eq h.rule g2⟩
  · unfold RGood
    rw [h.i (k := 7) (by decide), h.i (k := 40) (by decide), h.i (k := 41) (by decide), h.i (k := 42) (by decide), h.j (k := 17) (by decide), h.j (k := 27) (by decide)]
    exact ⟨Stab_eq h.rule b5.1, RFin_eq h.rule b5.2⟩
  · rw [h.i (k := 8) (by decide)]
    exact h.onL (b6.1 b' t' a0 a1 a2 a3)
  · rw [h.i (k := 7) (by decide)]
    exact h.onL b6.2
  · rw [h.i (k := 9) (by decide)] at hk
    rw [h.i (k := 13) (by decide), h.i (k := 4) (by decide), h.i (k := 34) (by decide)]
    exact b7 b' a0 a1 k hk
theorem LEq.hrV (S : XS) (l : Int) (v : Int64) : LEq S (sHrV S l v) := by
  unfold sHrV
  split
  · refine ⟨fun l' a => ?_, fun l' a b c => ?_, rfl⟩
    · show (if l' = _ then _ else if l' = _ then _ else _) = _
      rw [if_neg (fun z => a (by rw [z])), if_neg (fun z => a (by rw [z]))]
      rfl
    · show (if l' = _ then _ else if l' = _ then _ else if l' = _ then _ else _) = _
      rw [if_neg (fun z => a (by rw [z])), if_neg (fun z => c (by rw [z])), if_neg (fun z => b (by rw [z]))]
  · exact ⟨fun l' a => rfl, fun l' a b c => by show (if l' = _ then _ else _) = _; rw [if_neg (fun z => a (by rw [z]))], rfl⟩
theorem hrV_o (S : XS) (l : Int) (v : Int64) {l' : Int} (h : l' ≠ l) : (sHrV S l v).1 (14, l', 0) = S.1 (14, l', 0) ∧ (sHrV S l v).2.1 (14, l', 0) = S.2.1 (14, l', 0) ∧ (sHrV S l v).2.1 (30, l', 0) = S.2.1 (30, l', 0) ∧ (sHrV S l v).2.1 (31, l', 0) = S.2.1 (31, l', 0) := by
  have n : ∀ k k' : Nat, ((k, l', 0) : XL) ≠ (k', l, 0) := fun k k' z => h (by injection z with _ z; injection z)
  have n1 := n 14 14; have n2 := n 14 30; have n3 := n 14 31; have n4 := n 30 14; have n5 := n 30 30; have n6 := n 30 31; have n7 := n 31 14; have n8 := n 31 30; have n9 := n 31 31
  unfold sHrV
  split <;> simp [putI, putJ, n1, n2, n3, n4, n5, n6, n7, n8, n9]
/-- what a listener would hold now -/
noncomputable def lv (S : XS) (b l : Int) : Int64 := hl S.1 b (S.1 (9, b, 0) 3).toNat (S.1 (14, l, 0) 4) (S.1 (14, l, 0) 3) &&& S.2.1 (14, l, 0) 5
/-- the first n listeners are informed of a branch -/
noncomputable def sInf (S : XS) (b : Int) : Nat → XS
  | 0 => S
  | n + 1 => if S.1 (14, n, 0) 2 = b then sHrV (sInf S b n) n (lv S b n) else sInf S b n
theorem sInf_t {S : XS} {b : Int} {n : Nat} (h : S.1 (14, n, 0) 2 = b) : sInf S b (n + 1) = sHrV (sInf S b n) n (lv S b n) := if_pos h
theorem sInf_f {S : XS} {b : Int} {n : Nat} (h : ¬ S.1 (14, n, 0) 2 = b) : sInf S b (n + 1) = sInf S b n := if_neg h
theorem sInf_L (S : XS) (b : Int) (n : Nat) : LEq S (sInf S b n) := by
  induction n with
  | zero => exact LEq.rf S
  | succ n ih =>
    by_cases h : S.1 (14, n, 0) 2 = b
    · rw [sInf_t h]; exact ih.tr (LEq.hrV _ _ _)
    · rw [sInf_f h]; exact ih
theorem sInf_o (S : XS) (b : Int) (n : Nat) (l : Int) (h : (n : Int) ≤ l) : (sInf S b n).1 (14, l, 0) = S.1 (14, l, 0) ∧ (sInf S b n).2.1 (14, l, 0) = S.2.1 (14, l, 0) ∧ (sInf S b n).2.1 (30, l, 0) = S.2.1 (30, l, 0) ∧ (sInf S b n).2.1 (31, l, 0) = S.2.1 (31, l, 0) := by
  induction n with
  | zero => exact ⟨rfl, rfl, rfl, rfl⟩
  | succ n ih =>
    have i := ih (by omega)
    by_cases q : S.1 (14, n, 0) 2 = b
    · rw [sInf_t q]
      obtain ⟨a1, a2, a3, a4⟩ := hrV_o (sInf S b n) n (lv S b n) (l' := l) (by omega)
      exact ⟨a1.trans i.1, a2.trans i.2.1, a3.trans i.2.2.1, a4.trans i.2.2.2⟩
    · rw [sInf_f q]; exact i
theorem QEq.hrV {S S' : XS} (q : QEq S S') (l : Int) (v : Int64) : QEq (sHrV S l v) (sHrV S' l v) := by
  have e1 : S'.1 (14, l, 0) = S.1 (14, l, 0) := q.1 (14, l, 0) rfl
  have e2 : S'.2.1 (14, l, 0) = S.2.1 (14, l, 0) := q.2.1 (14, l, 0) rfl
  have e3 : S'.2.1 (30, l, 0) = S.2.1 (30, l, 0) := q.2.1 (30, l, 0) rfl
  have e4 : S'.2.1 (31, l, 0) = S.2.1 (31, l, 0) := q.2.1 (31, l, 0) rfl
  unfold sHrV
  rw [e1, e2]
  split
  · refine ⟨fun k hk => ?_, fun k hk => ?_, q.2.2⟩
    · simp only [putI, putJ, e1, q.1 k hk]
    · simp only [putI, putJ, e1, e2, e3, e4, q.2.1 k hk]
  · refine ⟨fun k hk => q.1 k hk, fun k hk => ?_, q.2.2⟩
    simp only [putJ, e2, q.2.1 k hk]
/-- what informing leaves -/
def pInf (S : XS) (b : Int) (n : Nat) : XO → XH → Prop := fun o h' => o = .inl none ∧ ∃ S', h' = hp S' ∧ QEq (sInf S b n) S' ∧ CB S'
def CapOk (S : XS) (b : Int) : Prop := ∀ l : Int, 0 ≤ l → l < S.1 (0, 0, 0) 7 → S.1 (14, l, 0) 2 = b → S.1 (14, l, 0) 9 + fBits (lv S b l ^^^ S.2.1 (14, l, 0) 6) ≤ 7680
theorem inf_lv {S T T1 : XS} {b t : Int} {i : Nat} (q : QEq (sInf S b i) T) (q1 : QEq T T1) (ht : t = S.1 (14, (i : Int), 0) 4) (hl1 : ∀ x : Int, 0 ≤ x → x ≤ 5 → T1.2.1 (28, b, t) x = hl T.1 b (T.1 (9, b, 0) 3).toNat t x) (r0 : 0 ≤ S.1 (14, (i : Int), 0) 3) (r1 : S.1 (14, (i : Int), 0) 3 ≤ 5) : lNow T1 i b t = lv S b i := by
  have o := sInf_o S b i i (Int.le_refl _)
  have a1 : T1.1 (14, (i : Int), 0) = S.1 (14, (i : Int), 0) := ((q1.1 (14, (i : Int), 0) rfl).trans (q.1 (14, (i : Int), 0) rfl)).trans o.1
  have a2 : T1.2.1 (14, (i : Int), 0) = S.2.1 (14, (i : Int), 0) := ((q1.2.1 (14, (i : Int), 0) rfl).trans (q.2.1 (14, (i : Int), 0) rfl)).trans o.2.1
  have a3 : T.1 (9, b, 0) = S.1 (9, b, 0) := (q.1 (9, b, 0) rfl).trans ((sInf_L S b i).i (by decide) b 0)
  unfold lNow lv
  rw [a1, a2, hl1 _ r0 r1, q.hl, (sInf_L S b i).hl, a3, ht]
theorem inf_stay {S T T1 : XS} {b : Int} {i : Nat} (q : QEq (sInf S b i) T) (q1 : QEq T T1) : T1.1 (14, (i : Int), 0) = S.1 (14, (i : Int), 0) ∧ T1.2.1 (14, (i : Int), 0) = S.2.1 (14, (i : Int), 0) := by
  have o := sInf_o S b i i (Int.le_refl _)
  exact ⟨((q1.1 (14, (i : Int), 0) rfl).trans (q.1 (14, (i : Int), 0) rfl)).trans o.1, ((q1.2.1 (14, (i : Int), 0) rfl).trans (q.2.1 (14, (i : Int), 0) rfl)).trans o.2.1⟩
set_option maxHeartbeats 4000000 in
set_option maxRecDepth 100000 in
theorem l_inform (S : XS) (hb : CB S) (b : Int) (h1 : 0 ≤ b) (h2 : b < S.1 (0, 0, 0) 6) (hc : CapOk S b) (n : Nat) (hn : S.1 (0, 0, 0) 7 = n) : ∀ (nn : Nat) (T0 : XS) (i : Nat), (n : Int) - i < (nn : Int) → (QEq (sInf S b i) T0) → (CB T0) → (i ≤ n) → X mX8_inform 2 [xR (0, 0, 0), xI b, xI (i : Int), none, none] [] (hp T0) 0 0 (pInf S b n) := by
  intro nn
  induction nn with
  | zero => intro T0 i hm qT0 bT0 hi; exfalso; omega
  | succ nn ih =>
    intro T0 i hm qT0 bT0 hi
    have hw := bT0.1
    have k7 := wf0_7 hb.1
    have k6 := wf0_6 hb.1
    have k9 := wf9_3 hb.1 h1 (show b < 4 by omega)
    have e6 : T0.1 (0, 0, 0) 6 = S.1 (0, 0, 0) 6 := by rw [qT0.1 (0, 0, 0) rfl, (sInf_L S b i).i (k := 0) (by decide)]
    have e7 : T0.1 (0, 0, 0) 7 = S.1 (0, 0, 0) 7 := by rw [qT0.1 (0, 0, 0) rfl, (sInf_L S b i).i (k := 0) (by decide)]
    have e9 : T0.1 (9, b, 0) 3 = S.1 (9, b, 0) 3 := by rw [qT0.1 (9, b, 0) rfl, (sInf_L S b i).i (k := 9) (by decide)]
    have s0 := (inf_stay qT0 (QEq.rf T0)).1
    have s2 := congrFun s0 2
    have s3 := congrFun s0 3
    have s4 := congrFun s0 4
    have z3 := fun (h : (i : Int) < 5) => wf14_3 bT0.1 (b := (i : Int)) (by omega) h
    have z4 := fun (h : (i : Int) < 5) => wf14_4 bT0.1 (b := (i : Int)) (by omega) h
    refine x_iload_n dX8_inform_2 rfl ?_
    refine x_aload_n dX8_inform_3 rfl ?_
    refine x_get (v := xI (T0.1 (0, 0, 0) 7)) dX8_inform_4 fl_RX8_50 (hp0 T0) rfl ?_
    have f4_1 := wf0_7 bT0.1 (S := T0)
    refine x_icmp_ge (tgt := 58) dX8_inform_7 (by decide) (by first | exact hz _ _ | exact hw.1 _ _ | exact zR_of _ | exact bI_z _ | assumption | exact ⟨by omega, by omega⟩) (by first | exact hz _ _ | exact hw.1 _ _ | exact zR_of _ | exact bI_z _ | assumption | exact ⟨by omega, by omega⟩) (fun c7 => ?_) (fun c7 => ?_)
    · exact x_vret dX8_inform_58 rfl ⟨rfl, T0, rfl, by obtain rfl : i = n := (by omega); exact qT0, bT0⟩
    · refine x_aload_n dX8_inform_10 rfl ?_
      refine x_get (v := xR (2, 0, 0)) dX8_inform_11 fl_RX8_17 (hp0 T0) rfl ?_
      refine x_iload_n dX8_inform_14 rfl ?_
      refine x_alda (l2 := (14, (i : Int), 0)) dX8_inform_15 (hp2 T0) (show (2 : Nat) ≠ 99 by decide) (by decide) (by decide) (by omega) (by omega) (by decide) rfl ?_
      refine x_astore_n (L' := [xR (0, 0, 0), xI b, xI (i : Int), xR (14, (i : Int), 0), none]) dX8_inform_16 (by decide) rfl ?_
      refine x_aload_n dX8_inform_17 rfl ?_
      refine x_get (v := xI (T0.1 (14, (i : Int), 0) 2)) dX8_inform_18 fl_RX8_377 (hp14 T0 (by omega) (by omega)) rfl ?_
      have f18_2 := wf14_2 bT0.1 (S := T0) (b := (i : Int)) (by omega) (by omega)
      refine x_iload_n dX8_inform_21 rfl ?_
      refine x_icmp_ne (tgt := 52) dX8_inform_22 (by decide) (by first | exact hz _ _ | exact hw.1 _ _ | exact zR_of _ | exact bI_z _ | assumption | exact ⟨by omega, by omega⟩) (by first | exact hz _ _ | exact hw.1 _ _ | exact zR_of _ | exact bI_z _ | assumption | exact ⟨by omega, by omega⟩) (fun c22 => ?_) (fun c22 => ?_)
      · refine x_iinc (L' := [xR (0, 0, 0), xI b, xI ((i : Int) + 1), xR (14, (i : Int), 0), none]) dX8_inform_52 rfl rfl ?_
        refine x_goto (tgt := 2) dX8_inform_55 (by decide) ?_
        refine X.loc (L' := [xR (0, 0, 0), xI b, xI ((i : Int) + 1), none, none]) ⟨rfl, ⟨rfl, ⟨rfl, trivial⟩⟩⟩ ?_
        exact ih T0 (i + 1) (by omega) (by rw [sInf_f (by omega)]; exact qT0) bT0 (by omega)
      · refine x_aload_n dX8_inform_25 rfl ?_
        refine x_get (v := xR (1, 0, 0)) dX8_inform_26 fl_RX8_11 (hp0 T0) rfl ?_
        refine x_iload_n dX8_inform_29 rfl ?_
        refine x_alda (l2 := (9, b, 0)) dX8_inform_30 (hp1 T0) (show (1 : Nat) ≠ 99 by decide) (by decide) (by decide) (by omega) (by omega) (by decide) rfl ?_
        refine x_astore (L' := [xR (0, 0, 0), xI b, xI (i : Int), xR (14, (i : Int), 0), xR (9, b, 0)]) dX8_inform_31 (by decide) rfl ?_
        refine x_aload_n dX8_inform_33 rfl ?_
        refine x_aload_n dX8_inform_34 rfl ?_
        refine x_aload dX8_inform_35 rfl ?_
        refine x_aload dX8_inform_37 rfl ?_
        refine x_get (v := xI (T0.1 (9, b, 0) 3)) dX8_inform_39 fl_RX8_92 (hp9 T0 (by omega) (by omega)) rfl ?_
        have f39_3 := wf9_3 bT0.1 (S := T0) (b := b) (by omega) (by omega)
        refine x_aload_n dX8_inform_42 rfl ?_
        refine x_get (v := xI (T0.1 (14, (i : Int), 0) 4)) dX8_inform_43 fl_RX8_380 (hp14 T0 (by omega) (by omega)) rfl ?_
        have f43_4 := wf14_4 bT0.1 (S := T0) (b := (i : Int)) (by omega) (by omega)
        refine x_callV (a := 0) (b := 0) (as := [xR (9, b, 0), xI (T0.1 (9, b, 0) 3), xI (T0.1 (14, (i : Int), 0) 4)]) (rest := [xR (14, (i : Int), 0)]) ok_X8_stateOf dX8_inform_46 wd350 ⟨wd352, wd1⟩ (hp0 T0) rfl rfl (c_stateZ T0 bT0 b (by omega) (by omega) (T0.1 (9, b, 0) 3) (by omega) (by omega) (T0.1 (14, (i : Int), 0) 4) (by omega) (by omega)) rfl (Nat.le_of_ble_eq_true rfl) (Nat.le_of_ble_eq_true rfl) (by decide) (by omega) (by omega) (fun _ q => by cases q.1) (fun _ _ q => ?_) (fun _ _ q => by cases q.1)
        obtain ⟨y1, T1, rfl, qq1, bT1, o1, t1, l1⟩ := q
        cases y1
        have s14 := inf_stay qT0 qq1
        have hcap : T1.1 (14, (i : Int), 0) 9 + fBits (lNow T1 i b ((T0.1 (14, (i : Int), 0) 4)) ^^^ T1.2.1 (14, (i : Int), 0) 6) ≤ 7680 := by rw [inf_lv qT0 qq1 (by omega) l1 (by omega) (by omega), s14.1, s14.2]; exact hc i (by omega) (by omega) (by omega)
        refine x_callV_v (a := 0) (b := 0) (as := [xR (8, b, (T0.1 (14, (i : Int), 0) 4))]) (rest := []) ok_X1_hear dX8_inform_49 wd615 ⟨wd616, wd617⟩ (hp14 T1 (by omega) (by omega)) rfl rfl (c_hear T1 bT1.1 (i : Int) (by omega) (by omega) b (T0.1 (14, (i : Int), 0) 4) (by omega) (by omega) (by omega) (by omega) hcap) rfl (Nat.le_of_ble_eq_true rfl) (Nat.le_of_ble_eq_true rfl) (by decide) (by omega) (by omega) ?_
        refine x_iinc (L' := [xR (0, 0, 0), xI b, xI ((i : Int) + 1), xR (14, (i : Int), 0), xR (9, b, 0)]) dX8_inform_52 rfl rfl ?_
        refine x_goto (tgt := 2) dX8_inform_55 (by decide) ?_
        refine X.loc (L' := [xR (0, 0, 0), xI b, xI ((i : Int) + 1), none, none]) ⟨rfl, ⟨rfl, ⟨rfl, trivial⟩⟩⟩ ?_
        exact ih _ (i + 1) (by omega) (by rw [sHear_V, inf_lv qT0 qq1 (by omega) l1 (by omega) (by omega), sInf_t (by omega)]; exact (qT0.tr qq1).hrV _ _) (by rw [sHear_V]; exact (LEq.hrV T1 _ _).cb (wi_hrV bT1.1 (by omega) (by omega) hcap) bT1) (by omega)
set_option maxHeartbeats 4000000 in
set_option maxRecDepth 100000 in
theorem c_inform (S : XS) (hb : CB S) (b : Int) (h1 : 0 ≤ b) (h2 : b < S.1 (0, 0, 0) 6) (hc : CapOk S b) (n : Nat) (hn : S.1 (0, 0, 0) 7 = n) : X mX8_inform 0 (xEnt mX8_inform [xR (0, 0, 0), xI b]) [] (hp S) 0 0 (pInf S b n) := by
  show X mX8_inform 0 [xR (0, 0, 0), xI b, none, none, none] [] (hp S) 0 0 _
  refine x_iconst dX8_inform_0 ?_
  refine x_istore_n (L' := [xR (0, 0, 0), xI b, xI 0, none, none]) dX8_inform_1 (by decide) rfl ?_
  exact l_inform S hb b h1 h2 hc n hn (n + 1) S 0 (by omega) (QEq.rf S) hb (by omega)
