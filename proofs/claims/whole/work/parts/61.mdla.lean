/-! THE REFERENCE. C is a state whose class cells say what the reference's cells stand for. Leaves -/
def mI (k : Nat) : Bool := [71, 72, 73, 74, 75, 82].contains k
/-- alike but for what the reference works on -/
def MdQ (S T : XS) : Prop := (∀ l : XL, mI l.1 = false → l.1 ≠ 50 → T.1 l = S.1 l) ∧ (∀ k : Int, k ≠ 25 → T.1 (50, 0, 0) k = S.1 (50, 0, 0) k) ∧ T.2.1 = S.2.1 ∧ T.2.2.1 = S.2.2.1 ∧ T.2.2.2.1 = S.2.2.2.1 ∧ T.2.2.2.2.2 = S.2.2.2.2.2 ∧ S.2.2.2.2.1 ≤ T.2.2.2.2.1
theorem MdQ.rf (S : XS) : MdQ S S := ⟨fun _ _ _ => rfl, fun _ _ => rfl, rfl, rfl, rfl, rfl, Int.le_refl _⟩
theorem MdQ.tr {S T U : XS} (h : MdQ S T) (k : MdQ T U) : MdQ S U := ⟨fun l a b => (k.1 l a b).trans (h.1 l a b), fun j a => (k.2.1 j a).trans (h.2.1 j a), k.2.2.1.trans h.2.2.1, k.2.2.2.1.trans h.2.2.2.1, k.2.2.2.2.1.trans h.2.2.2.2.1, k.2.2.2.2.2.1.trans h.2.2.2.2.2.1, Int.le_trans h.2.2.2.2.2.2 k.2.2.2.2.2.2⟩
theorem MdQ.put {S T : XS} (h : MdQ S T) {l : XL} (hl : mI l.1 = true) (k v : Int) : MdQ S (putI T l k v) := by
  refine ⟨fun l' a b => ?_, fun j a => ?_, h.2.2.1, h.2.2.2.1, h.2.2.2.2.1, h.2.2.2.2.2.1, h.2.2.2.2.2.2⟩
  · rw [putI_o (fun z => by rw [z, hl] at a; cases a)]; exact h.1 l' a b
  · rw [putI_o (fun z => by rw [← z] at hl; cases hl)]; exact h.2.1 j a
theorem MdQ.thr {S T : XS} (h : MdQ S T) (v : Int) : MdQ S (putI T (50, 0, 0) 25 v) := by
  refine ⟨fun l' a b => ?_, fun j a => ?_, h.2.2.1, h.2.2.2.1, h.2.2.2.2.1, h.2.2.2.2.2.1, h.2.2.2.2.2.2⟩
  · rw [putI_o (fun z => b (by rw [z]))]; exact h.1 l' a b
  · rw [putI_at, if_neg a]; exact h.2.1 j a
def kd (r s : Int) : Int := if r = 0 then (if s = 0 then 117 else 104) else (if s = 0 then 102 else 110)
theorem kd_fact (r s : Int) : (kd r s = 104 ∨ kd r s = 117) ↔ r = 0 := by unfold kd; split <;> split <;> omega
theorem kd_tell (r s : Int) : kd r s = 104 ↔ r = 0 ∧ s ≠ 0 := by unfold kd; split <;> split <;> omega
theorem kd_on (r s : Int) : kd r s = 110 ↔ r ≠ 0 ∧ s ≠ 0 := by unfold kd; split <;> split <;> omega
/-- the rows of tellings -/
def MRt (C S : XS) : Prop := ∀ b k : Int, 0 ≤ b → b < 4 → 0 ≤ k → k < C.1 (9, b, 0) 3 → S.1 (51, 0, 0) (60 * b + k) = kd (C.1 (13, b, k) 0) (C.1 (13, b, k) 1) ∧ S.1 (52, 0, 0) (60 * b + k) = C.1 (13, b, k) 2 ∧ S.1 (53, 0, 0) (60 * b + k) = C.1 (13, b, k) 3 ∧ S.1 (54, 0, 0) (60 * b + k) = C.1 (13, b, k) 4 ∧ S.1 (55, 0, 0) (60 * b + k) = C.1 (13, b, k) 7 ∧ S.1 (56, 0, 0) (60 * b + k) = C.1 (13, b, k) 6
theorem MRt.q {C S T : XS} (h : MRt C S) (q : MdQ S T) : MRt C T := by
  intro b k b0 b1 k0 k1
  rw [q.1 (51, 0, 0) rfl (by decide), q.1 (52, 0, 0) rfl (by decide), q.1 (53, 0, 0) rfl (by decide), q.1 (54, 0, 0) rfl (by decide), q.1 (55, 0, 0) rfl (by decide), q.1 (56, 0, 0) rfl (by decide)]
  exact h b k b0 b1 k0 k1
theorem sB_clr (se : Int → Int64) {x y : Int} (x0 : 0 ≤ x) (x1 : x < 384) (y0 : 0 ≤ y) (y1 : y < 384) : sB (xUpd se (x / 64) (se (x / 64) &&& (jShl 1 (x % 64) ^^^ (-1)))) y ↔ sB se y ∧ y ≠ x := by
  unfold sB xUpd
  obtain ⟨a, ha⟩ := Int.eq_ofNat_of_zero_le (show 0 ≤ y % 64 by omega)
  obtain ⟨b, hb⟩ := Int.eq_ofNat_of_zero_le (show 0 ≤ x % 64 by omega)
  by_cases e : y / 64 = x / 64
  · rw [if_pos e, ha, hb, bitJ_and _ _ _ (by omega), bitJ_not _ _ (by omega), bitJ_one _ _ (by omega) (by omega), e]
    constructor
    · rintro ⟨h1, h2⟩; exact ⟨h1, by omega⟩
    · rintro ⟨h1, h2⟩; exact ⟨h1, by omega⟩
  · rw [if_neg e]
    exact ⟨fun h => ⟨h, fun z => e (by rw [z])⟩, fun h => h.1⟩
/-- whether a fact is told, one telling more -/
theorem told_step (f : XL → Int → Int) (b t : Int) (n : Nat) {x : Int} (x0 : 0 ≤ x) (x1 : x < 384) (h0 : 0 ≤ f (13, b, n) 2) (h1 : f (13, b, n) 2 < 384) : sB (toldN f b t (n + 1)) x ↔ if f (13, b, n) 0 = 0 ∧ f (13, b, n) 6 = 0 ∧ f (13, b, n) 3 ≤ t ∧ t ≤ f (13, b, n) 4 ∧ f (13, b, n) 2 = x then f (13, b, n) 1 ≠ 0 else sB (toldN f b t n) x := by
  simp only [toldN]
  by_cases hc : f (13, b, n) 0 = 0 ∧ f (13, b, n) 6 = 0 ∧ f (13, b, n) 3 ≤ t ∧ t ≤ f (13, b, n) 4
  · rw [if_pos hc]
    by_cases hs : f (13, b, n) 1 = 0
    · rw [if_pos hs, sB_clr _ h0 h1 x0 x1]
      by_cases e : f (13, b, n) 2 = x
      · rw [if_pos ⟨hc.1, hc.2.1, hc.2.2.1, hc.2.2.2, e⟩]
        exact ⟨fun z => absurd e.symm z.2, fun z => absurd hs z⟩
      · rw [if_neg (fun z => e z.2.2.2.2)]
        exact ⟨fun z => z.1, fun z => ⟨z, fun y => e y.symm⟩⟩
    · rw [if_neg hs, sB_upd _ h0 h1 x0 x1]
      by_cases e : f (13, b, n) 2 = x
      · rw [if_pos ⟨hc.1, hc.2.1, hc.2.2.1, hc.2.2.2, e⟩]
        exact ⟨fun _ => hs, fun _ => Or.inr e.symm⟩
      · rw [if_neg (fun z => e z.2.2.2.2)]
        exact ⟨fun z => z.elim id (fun y => absurd y.symm e), Or.inl⟩
  · rw [if_neg hc, if_neg (fun z => hc ⟨z.1, z.2.1, z.2.2.1, z.2.2.2.1⟩)]
set_option maxHeartbeats 4000000 in
set_option maxRecDepth 100000 in
theorem m_isIn (S : XS) (v a b : Int) (zv : zR v) (za : zR a) (zb : zR b) : X mX9_isIn 0 (xEnt mX9_isIn [xI v, xI a, xI b]) [] (hp S) 0 0 (pRet (xI (bI (a ≤ v ∧ v ≤ b))) (hp S)) := by
  have zv2 := zv
  unfold zR at zv2
  have za2 := za
  unfold zR at za2
  have zb2 := zb
  unfold zR at zb2
  show X mX9_isIn 0 [xI v, xI a, xI b] [] (hp S) 0 0 _
  refine x_iload_n dX9_isIn_0 rfl ?_
  refine x_iload_n dX9_isIn_1 rfl ?_
  refine x_icmp_lt (tgt := 14) dX9_isIn_2 (by decide) (by first | exact hz _ _ | exact hw.1 _ _ | exact zR_of _ | exact bI_z _ | assumption | exact ⟨by omega, by omega⟩) (by first | exact hz _ _ | exact hw.1 _ _ | exact zR_of _ | exact bI_z _ | assumption | exact ⟨by omega, by omega⟩) (fun c2 => ?_) (fun c2 => ?_)
  · refine x_iconst dX9_isIn_14 ?_
    exact x_zret dX9_isIn_15 rfl (Or.inl rfl) (pRI (bI_f (by omega)).symm)
  · refine x_iload_n dX9_isIn_5 rfl ?_
    refine x_iload_n dX9_isIn_6 rfl ?_
    refine x_icmp_gt (tgt := 14) dX9_isIn_7 (by decide) (by first | exact hz _ _ | exact hw.1 _ _ | exact zR_of _ | exact bI_z _ | assumption | exact ⟨by omega, by omega⟩) (by first | exact hz _ _ | exact hw.1 _ _ | exact zR_of _ | exact bI_z _ | assumption | exact ⟨by omega, by omega⟩) (fun c7 => ?_) (fun c7 => ?_)
    · refine x_iconst dX9_isIn_14 ?_
      exact x_zret dX9_isIn_15 rfl (Or.inl rfl) (pRI (bI_f (by omega)).symm)
    · refine x_iconst dX9_isIn_10 ?_
      refine x_goto (tgt := 15) dX9_isIn_11 (by decide) ?_
      exact x_zret dX9_isIn_15 rfl (Or.inr rfl) (pRI (bI_t (by omega)).symm)
set_option maxHeartbeats 4000000 in
set_option maxRecDepth 100000 in
theorem m_isOfFact (S : XS) (c : Int) (zc : zR c) : X mX9_isOfFact 0 (xEnt mX9_isOfFact [xI c]) [] (hp S) 0 0 (pRet (xI (bI (c = 104 ∨ c = 117))) (hp S)) := by
  have zc2 := zc
  unfold zR at zc2
  show X mX9_isOfFact 0 [xI c] [] (hp S) 0 0 _
  refine x_iload_n dX9_isOfFact_0 rfl ?_
  refine x_bipush (v := 104) dX9_isOfFact_1 (by decide) ?_
  refine x_icmp_eq (tgt := 12) dX9_isOfFact_3 (by decide) (by first | exact hz _ _ | exact hw.1 _ _ | exact zR_of _ | exact bI_z _ | assumption | exact ⟨by omega, by omega⟩) ⟨by decide, by decide⟩ (fun c3 => ?_) (fun c3 => ?_)
  · refine x_iconst dX9_isOfFact_12 ?_
    refine x_goto (tgt := 17) dX9_isOfFact_13 (by decide) ?_
    exact x_zret dX9_isOfFact_17 rfl (Or.inr rfl) (pRI (bI_t (by omega)).symm)
  · refine x_iload_n dX9_isOfFact_6 rfl ?_
    refine x_bipush (v := 117) dX9_isOfFact_7 (by decide) ?_
    refine x_icmp_ne (tgt := 16) dX9_isOfFact_9 (by decide) (by first | exact hz _ _ | exact hw.1 _ _ | exact zR_of _ | exact bI_z _ | assumption | exact ⟨by omega, by omega⟩) ⟨by decide, by decide⟩ (fun c9 => ?_) (fun c9 => ?_)
    · refine x_iconst dX9_isOfFact_16 ?_
      exact x_zret dX9_isOfFact_17 rfl (Or.inl rfl) (pRI (bI_f (by omega)).symm)
    · refine x_iconst dX9_isOfFact_12 ?_
      refine x_goto (tgt := 17) dX9_isOfFact_13 (by decide) ?_
      exact x_zret dX9_isOfFact_17 rfl (Or.inr rfl) (pRI (bI_t (by omega)).symm)
set_option maxHeartbeats 4000000 in
set_option maxRecDepth 100000 in
theorem m_isThrown (S : XS) (hw : WI S) (z v : Int) (hz1 : z = 0 ∨ z = 1) (hv : 0 ≤ v ∧ v ≤ 4) : X mX9_isThrown 0 (xEnt mX9_isThrown [xR (50, 0, 0), xI z, xI v]) [] (hp S) 0 0 (pRet (xI z) (hp (putI S (50, 0, 0) 25 (if z = 0 then 0 else v)))) := by
  show X mX9_isThrown 0 [xR (50, 0, 0), xI z, xI v] [] (hp S) 0 0 _
  refine x_aload_n dX9_isThrown_0 rfl ?_
  refine x_iload_n dX9_isThrown_1 rfl ?_
  refine x_if_eq (tgt := 9) dX9_isThrown_2 (by decide) (by first | exact hz _ _ | exact hw.1 _ _ | exact zR_of _ | exact bI_z _ | assumption | exact ⟨by omega, by omega⟩) (fun c2 => ?_) (fun c2 => ?_)
  · refine x_iconst dX9_isThrown_9 ?_
    refine x_top (show 0 = if z = 0 then 0 else v from by first | rw [if_pos (by omega)] | rw [if_neg (by omega)]) ?_
    refine x_put dX9_isThrown_10 fl_RX9_96 (fun r hr => by cases hr; rfl) (hp50 S) xfit_i (Nat.le_of_ble_eq_true rfl) rfl ?_
    refine x_heq (pu50_25 S (if z = 0 then 0 else v)) ?_
    have hw10_1 : WI (putI S (50, 0, 0) 25 (if z = 0 then 0 else v)) := wp50_25 hw (by omega)
    refine x_iload_n dX9_isThrown_13 rfl ?_
    exact x_zret dX9_isThrown_14 rfl hz1 ⟨rfl, rfl⟩
  · refine x_iload_n dX9_isThrown_5 rfl ?_
    refine x_goto (tgt := 10) dX9_isThrown_6 (by decide) ?_
    refine x_top (show v = if z = 0 then 0 else v from by first | rw [if_pos (by omega)] | rw [if_neg (by omega)]) ?_
    refine x_put dX9_isThrown_10 fl_RX9_96 (fun r hr => by cases hr; rfl) (hp50 S) xfit_i (Nat.le_of_ble_eq_true rfl) rfl ?_
    refine x_heq (pu50_25 S (if z = 0 then 0 else v)) ?_
    have hw10_2 : WI (putI S (50, 0, 0) 25 (if z = 0 then 0 else v)) := wp50_25 hw (by omega)
    refine x_iload_n dX9_isThrown_13 rfl ?_
    exact x_zret dX9_isThrown_14 rfl hz1 ⟨rfl, rfl⟩
set_option maxHeartbeats 4000000 in
set_option maxRecDepth 100000 in
theorem m_isNo (S : XS) (hw : WI S) (n k : Int) (zn : zR n) (k0 : 0 ≤ k) (k1 : k ≤ 1000) : X mX9_isNo 0 (xEnt mX9_isNo [xR (50, 0, 0), xI n, xI k]) [] (hp S) 0 0 (pRet (xI (bI (¬ (0 ≤ n ∧ n < k)))) (hp (putI S (50, 0, 0) 25 (bI (¬ (0 ≤ n ∧ n < k)))))) := by
  have zn2 := zn
  unfold zR at zn2
  show X mX9_isNo 0 [xR (50, 0, 0), xI n, xI k] [] (hp S) 0 0 _
  refine x_aload_n dX9_isNo_0 rfl ?_
  refine x_iload_n dX9_isNo_1 rfl ?_
  refine x_iconst dX9_isNo_2 ?_
  refine x_iload_n dX9_isNo_3 rfl ?_
  refine x_iconst dX9_isNo_4 ?_
  refine x_isub dX9_isNo_5 ?_
  refine x_callS_r (a := 0) (b := 0) (as := [xI n, xI 0, xI (k - 1)]) (rest := [xR (50, 0, 0)]) ok_X9_isIn dX9_isNo_6 wd1212 wd1213 (m_isIn S n 0 (k - 1) (by first | exact hz _ _ | exact hw.1 _ _ | exact zR_of _ | exact bI_z _ | assumption | exact ⟨by omega, by omega⟩) ⟨by decide, by decide⟩ (by first | exact hz _ _ | exact hw.1 _ _ | exact zR_of _ | exact bI_z _ | assumption | exact ⟨by omega, by omega⟩)) rfl (Nat.le_of_ble_eq_true rfl) (Nat.le_of_ble_eq_true rfl) (by decide) (by omega) (by omega) ?_
  by_cases b6 : 0 ≤ n ∧ n ≤ (k - 1)
  · refine x_top (bI_t b6) ?_
    refine x_if_ne (tgt := 16) dX9_isNo_9 (by decide) ⟨by decide, by decide⟩ (fun _ => ?_) (fun z => absurd z (by decide))
    refine x_iconst dX9_isNo_16 ?_
    refine x_iconst dX9_isNo_17 ?_
    refine x_callV_r (a := 0) (b := 0) (as := [xI 0, xI 1]) (rest := []) ok_X9_isThrown dX9_isNo_18 wd1215 ⟨wd1217, wd20⟩ (hp50 S) rfl rfl ((show X mX9_isThrown 0 (xEnt mX9_isThrown [xR (50, 0, 0), xI 0, xI 1]) [] (hp S) 0 0 (pRet (xI 0) (hp (putI S (50, 0, 0) 25 0))) from by have q := m_isThrown S hw 0 1 (by omega) (by omega); rw [if_pos rfl] at q; exact q)) rfl (Nat.le_of_ble_eq_true rfl) (Nat.le_of_ble_eq_true rfl) (by decide) (by omega) (by omega) ?_
    exact x_zret dX9_isNo_21 rfl (Or.inl rfl) ⟨by rw [bI_f (by omega)], by rw [bI_f (by omega)]⟩
  · refine x_top (bI_f b6) ?_
    refine x_if_ne (tgt := 16) dX9_isNo_9 (by decide) ⟨by decide, by decide⟩ (fun z => absurd z (by decide)) (fun _ => ?_)
    refine x_iconst dX9_isNo_12 ?_
    refine x_goto (tgt := 17) dX9_isNo_13 (by decide) ?_
    refine x_iconst dX9_isNo_17 ?_
    refine x_callV_r (a := 0) (b := 0) (as := [xI 1, xI 1]) (rest := []) ok_X9_isThrown dX9_isNo_18 wd1215 ⟨wd1217, wd20⟩ (hp50 S) rfl rfl ((show X mX9_isThrown 0 (xEnt mX9_isThrown [xR (50, 0, 0), xI 1, xI 1]) [] (hp S) 0 0 (pRet (xI 1) (hp (putI S (50, 0, 0) 25 1))) from by have q := m_isThrown S hw 1 1 (by omega) (by omega); rw [if_neg (by decide)] at q; exact q)) rfl (Nat.le_of_ble_eq_true rfl) (Nat.le_of_ble_eq_true rfl) (by decide) (by omega) (by omega) ?_
    exact x_zret dX9_isNo_21 rfl (Or.inr rfl) ⟨by rw [bI_t (by omega)], by rw [bI_t (by omega)]⟩
set_option maxHeartbeats 4000000 in
set_option maxRecDepth 100000 in
theorem l_isTold (C S : XS) (hC : WI C) (hw : WI S) (ht : MRt C S) (b : Int) (b0 : 0 ≤ b) (b1 : b < 4) (n : Nat) (hn : (n : Int) ≤ C.1 (9, b, 0) 3) (t x : Int) (t0 : 0 ≤ t) (t1 : t < 24) (x0 : 0 ≤ x) (x1 : x < 384) : ∀ (nn : Nat) (i : Nat), (n : Int) - i < (nn : Int) → (i ≤ n) → X mX9_isTold 9 [xR (50, 0, 0), xI b, xI (n : Int), xI t, xI x, xI (bI (sB (toldN C.1 b t i) x)), xI (60 * b + (i : Int)), none] [] (hp S) 0 0 (pRet (xI (bI (sB (toldN C.1 b t n) x))) (hp S)) := by
  intro nn
  induction nn with
  | zero => intro i hm hi; exfalso; omega
  | succ nn ih =>
    intro i hm hi
    have c9 := wf9_3 hC b0 b1
    have zt : zR t := ⟨by omega, by omega⟩
    have ti := fun (h : (i : Int) < (n : Int)) => ht b i b0 b1 (by omega) (by omega)
    have fi2 := fun (h : (i : Int) < (n : Int)) => wf13_2 hC b0 b1 (show (0 : Int) ≤ (i : Int) by omega) (show (i : Int) < 60 by omega)
    have fi0 := fun (h : (i : Int) < (n : Int)) => kd_fact (C.1 (13, b, i) 0) (C.1 (13, b, i) 1)
    have fi1 := fun (h : (i : Int) < (n : Int)) => kd_tell (C.1 (13, b, i) 0) (C.1 (13, b, i) 1)
    have hz := hw.1
    refine x_iload dX9_isTold_9 rfl ?_
    refine x_iload_n dX9_isTold_11 rfl ?_
    refine x_bipush (v := 60) dX9_isTold_12 (by decide) ?_
    refine x_imul dX9_isTold_14 ?_
    refine x_iload_n dX9_isTold_15 rfl ?_
    refine x_iadd dX9_isTold_16 ?_
    refine x_icmp_ge (tgt := 118) dX9_isTold_17 (by decide) (by first | exact hz _ _ | exact hw.1 _ _ | exact zR_of _ | exact bI_z _ | assumption | exact ⟨by omega, by omega⟩) (by first | exact hz _ _ | exact hw.1 _ _ | exact zR_of _ | exact bI_z _ | assumption | exact ⟨by omega, by omega⟩) (fun c17 => ?_) (fun c17 => ?_)
    · refine x_iload dX9_isTold_118 rfl ?_
      exact x_zret dX9_isTold_120 rfl (bI_01 _) (by obtain rfl : i = n := (by omega); exact pRI rfl)
    · have ti := ti (by omega); have fi2 := fi2 (by omega); have fi0 := fi0 (by omega); have fi1 := fi1 (by omega)
      refine x_aload_n dX9_isTold_20 rfl ?_
      refine x_get (v := xR (51, 0, 0)) dX9_isTold_21 fl_RX9_9 (hp50 S) rfl ?_
      refine x_iload dX9_isTold_24 rfl ?_
      refine x_aldc (f := S.1 (51, 0, 0)) dX9_isTold_26 (hp51 S) (show (51 : Nat) ≠ 99 by decide) (by omega) (by omega) (by decide) ?_
      have f26_1 := wfa51 hw (S := S) (60 * b + (i : Int))
      refine x_callS_r (a := 0) (b := 0) (as := [xI (S.1 (51, 0, 0) (60 * b + (i : Int)))]) (rest := []) ok_X9_isOfFact dX9_isTold_27 wd1230 wd1231 (m_isOfFact S (S.1 (51, 0, 0) (60 * b + (i : Int))) (by first | exact hz _ _ | exact hw.1 _ _ | exact zR_of _ | exact bI_z _ | assumption | exact ⟨by omega, by omega⟩)) rfl (Nat.le_of_ble_eq_true rfl) (Nat.le_of_ble_eq_true rfl) (by decide) (by omega) (by omega) ?_
      by_cases b27 : (S.1 (51, 0, 0) (60 * b + (i : Int))) = 104 ∨ (S.1 (51, 0, 0) (60 * b + (i : Int))) = 117
      · refine x_top (bI_t b27) ?_
        refine x_if_eq (tgt := 80) dX9_isTold_30 (by decide) ⟨by decide, by decide⟩ (fun z => absurd z (by decide)) (fun _ => ?_)
        refine x_aload_n dX9_isTold_33 rfl ?_
        refine x_get (v := xR (52, 0, 0)) dX9_isTold_34 fl_RX9_13 (hp50 S) rfl ?_
        refine x_iload dX9_isTold_37 rfl ?_
        refine x_aldi (f := S.1 (52, 0, 0)) dX9_isTold_39 (hp52 S) (show (52 : Nat) ≠ 99 by decide) (by omega) (by omega) (by decide) ?_
        have f39_2 := wfa52 hw (S := S) (60 * b + (i : Int))
        refine x_iload dX9_isTold_40 rfl ?_
        refine x_icmp_ne (tgt := 80) dX9_isTold_42 (by decide) (by first | exact hz _ _ | exact hw.1 _ _ | exact zR_of _ | exact bI_z _ | assumption | exact ⟨by omega, by omega⟩) (by first | exact hz _ _ | exact hw.1 _ _ | exact zR_of _ | exact bI_z _ | assumption | exact ⟨by omega, by omega⟩) (fun c42 => ?_) (fun c42 => ?_)
        · refine x_iconst dX9_isTold_80 ?_
          refine x_istore (L' := [xR (50, 0, 0), xI b, xI (n : Int), xI t, xI x, xI (bI (sB (toldN C.1 b t i) x)), xI (60 * b + (i : Int)), xI 0]) dX9_isTold_81 (by decide) rfl ?_
          refine x_iload dX9_isTold_83 rfl ?_
          refine x_if_eq (tgt := 108) dX9_isTold_85 (by decide) ⟨by decide, by decide⟩ (fun _ => ?_) (fun z => absurd z (by decide))
          refine x_iload dX9_isTold_108 rfl ?_
          refine x_istore (L' := [xR (50, 0, 0), xI b, xI (n : Int), xI t, xI x, xI (bI (sB (toldN C.1 b t i) x)), xI (60 * b + (i : Int)), xI 0]) dX9_isTold_110 (by decide) rfl ?_
          refine x_iinc (L' := [xR (50, 0, 0), xI b, xI (n : Int), xI t, xI x, xI (bI (sB (toldN C.1 b t i) x)), xI ((60 * b + (i : Int)) + 1), xI 0]) dX9_isTold_112 rfl rfl ?_
          refine x_goto (tgt := 9) dX9_isTold_115 (by decide) ?_
          refine X.loc (L' := [xR (50, 0, 0), xI b, xI (n : Int), xI t, xI x, xI (bI (sB (toldN C.1 b t i) x)), xI ((60 * b + (i : Int)) + 1), none]) ⟨rfl, ⟨rfl, ⟨rfl, ⟨rfl, ⟨rfl, ⟨rfl, ⟨rfl, trivial⟩⟩⟩⟩⟩⟩⟩ ?_
          have kk := ih (i + 1) (by omega) (by omega)
          rw [show 60 * b + ((i + 1 : Nat) : Int) = 60 * b + (i : Int) + 1 by omega, show bI (sB (toldN C.1 b t (i + 1)) x) = bI (sB (toldN C.1 b t i) x) from by rw [bI_c (told_step C.1 b t i x0 x1 (by omega) (by omega))]; first | (rw [if_pos (by omega)]; first | exact bI_t (by omega) | exact bI_f (by omega)) | rw [if_neg (by omega)]] at kk
          rw [show b * 60 = 60 * b by omega] at *
          exact kk
        · refine x_iload_n dX9_isTold_45 rfl ?_
          refine x_aload_n dX9_isTold_46 rfl ?_
          refine x_get (v := xR (53, 0, 0)) dX9_isTold_47 fl_RX9_17 (hp50 S) rfl ?_
          refine x_iload dX9_isTold_50 rfl ?_
          refine x_aldi (f := S.1 (53, 0, 0)) dX9_isTold_52 (hp53 S) (show (53 : Nat) ≠ 99 by decide) (by omega) (by omega) (by decide) ?_
          have f52_3 := wfa53 hw (S := S) (60 * b + (i : Int))
          refine x_aload_n dX9_isTold_53 rfl ?_
          refine x_get (v := xR (54, 0, 0)) dX9_isTold_54 fl_RX9_20 (hp50 S) rfl ?_
          refine x_iload dX9_isTold_57 rfl ?_
          refine x_aldi (f := S.1 (54, 0, 0)) dX9_isTold_59 (hp54 S) (show (54 : Nat) ≠ 99 by decide) (by omega) (by omega) (by decide) ?_
          have f59_4 := wfa54 hw (S := S) (60 * b + (i : Int))
          refine x_callS_r (a := 0) (b := 0) (as := [xI t, xI (S.1 (53, 0, 0) (60 * b + (i : Int))), xI (S.1 (54, 0, 0) (60 * b + (i : Int)))]) (rest := []) ok_X9_isIn dX9_isTold_60 wd1212 wd1213 (m_isIn S t (S.1 (53, 0, 0) (60 * b + (i : Int))) (S.1 (54, 0, 0) (60 * b + (i : Int))) (by first | exact hz _ _ | exact hw.1 _ _ | exact zR_of _ | exact bI_z _ | assumption | exact ⟨by omega, by omega⟩) (by first | exact hz _ _ | exact hw.1 _ _ | exact zR_of _ | exact bI_z _ | assumption | exact ⟨by omega, by omega⟩) (by first | exact hz _ _ | exact hw.1 _ _ | exact zR_of _ | exact bI_z _ | assumption | exact ⟨by omega, by omega⟩)) rfl (Nat.le_of_ble_eq_true rfl) (Nat.le_of_ble_eq_true rfl) (by decide) (by omega) (by omega) ?_
          by_cases b60 : (S.1 (53, 0, 0) (60 * b + (i : Int))) ≤ t ∧ t ≤ (S.1 (54, 0, 0) (60 * b + (i : Int)))
          · refine x_top (bI_t b60) ?_
            refine x_if_eq (tgt := 80) dX9_isTold_63 (by decide) ⟨by decide, by decide⟩ (fun z => absurd z (by decide)) (fun _ => ?_)
            refine x_aload_n dX9_isTold_66 rfl ?_
            refine x_get (v := xR (56, 0, 0)) dX9_isTold_67 fl_RX9_26 (hp50 S) rfl ?_
            refine x_iload dX9_isTold_70 rfl ?_
            refine x_aldz (f := S.1 (56, 0, 0)) dX9_isTold_72 (hp56 S) (show (56 : Nat) ≠ 99 by decide) (by omega) (by omega) (by decide) ?_
            have f72_5 := wfa56 hw (S := S) (60 * b + (i : Int))
            refine x_if_ne (tgt := 80) dX9_isTold_73 (by decide) (by first | exact hz _ _ | exact hw.1 _ _ | exact zR_of _ | exact bI_z _ | assumption | exact ⟨by omega, by omega⟩) (fun c73 => ?_) (fun c73 => ?_)
            · refine x_iconst dX9_isTold_80 ?_
              refine x_istore (L' := [xR (50, 0, 0), xI b, xI (n : Int), xI t, xI x, xI (bI (sB (toldN C.1 b t i) x)), xI (60 * b + (i : Int)), xI 0]) dX9_isTold_81 (by decide) rfl ?_
              refine x_iload dX9_isTold_83 rfl ?_
              refine x_if_eq (tgt := 108) dX9_isTold_85 (by decide) ⟨by decide, by decide⟩ (fun _ => ?_) (fun z => absurd z (by decide))
              refine x_iload dX9_isTold_108 rfl ?_
              refine x_istore (L' := [xR (50, 0, 0), xI b, xI (n : Int), xI t, xI x, xI (bI (sB (toldN C.1 b t i) x)), xI (60 * b + (i : Int)), xI 0]) dX9_isTold_110 (by decide) rfl ?_
              refine x_iinc (L' := [xR (50, 0, 0), xI b, xI (n : Int), xI t, xI x, xI (bI (sB (toldN C.1 b t i) x)), xI ((60 * b + (i : Int)) + 1), xI 0]) dX9_isTold_112 rfl rfl ?_
              refine x_goto (tgt := 9) dX9_isTold_115 (by decide) ?_
              refine X.loc (L' := [xR (50, 0, 0), xI b, xI (n : Int), xI t, xI x, xI (bI (sB (toldN C.1 b t i) x)), xI ((60 * b + (i : Int)) + 1), none]) ⟨rfl, ⟨rfl, ⟨rfl, ⟨rfl, ⟨rfl, ⟨rfl, ⟨rfl, trivial⟩⟩⟩⟩⟩⟩⟩ ?_
              have kk := ih (i + 1) (by omega) (by omega)
              rw [show 60 * b + ((i + 1 : Nat) : Int) = 60 * b + (i : Int) + 1 by omega, show bI (sB (toldN C.1 b t (i + 1)) x) = bI (sB (toldN C.1 b t i) x) from by rw [bI_c (told_step C.1 b t i x0 x1 (by omega) (by omega))]; first | (rw [if_pos (by omega)]; first | exact bI_t (by omega) | exact bI_f (by omega)) | rw [if_neg (by omega)]] at kk
              rw [show b * 60 = 60 * b by omega] at *
              exact kk
            · refine x_iconst dX9_isTold_76 ?_
              refine x_goto (tgt := 81) dX9_isTold_77 (by decide) ?_
              refine x_istore (L' := [xR (50, 0, 0), xI b, xI (n : Int), xI t, xI x, xI (bI (sB (toldN C.1 b t i) x)), xI (60 * b + (i : Int)), xI 1]) dX9_isTold_81 (by decide) rfl ?_
              refine x_iload dX9_isTold_83 rfl ?_
              refine x_if_eq (tgt := 108) dX9_isTold_85 (by decide) ⟨by decide, by decide⟩ (fun z => absurd z (by decide)) (fun _ => ?_)
              refine x_aload_n dX9_isTold_88 rfl ?_
              refine x_get (v := xR (51, 0, 0)) dX9_isTold_89 fl_RX9_9 (hp50 S) rfl ?_
              refine x_iload dX9_isTold_92 rfl ?_
              refine x_aldc (f := S.1 (51, 0, 0)) dX9_isTold_94 (hp51 S) (show (51 : Nat) ≠ 99 by decide) (by omega) (by omega) (by decide) ?_
              have f94_6 := wfa51 hw (S := S) (60 * b + (i : Int))
              refine x_bipush (v := 104) dX9_isTold_95 (by decide) ?_
              refine x_icmp_ne (tgt := 104) dX9_isTold_97 (by decide) (by first | exact hz _ _ | exact hw.1 _ _ | exact zR_of _ | exact bI_z _ | assumption | exact ⟨by omega, by omega⟩) ⟨by decide, by decide⟩ (fun c97 => ?_) (fun c97 => ?_)
              · refine x_iconst dX9_isTold_104 ?_
                refine x_goto (tgt := 110) dX9_isTold_105 (by decide) ?_
                refine x_istore (L' := [xR (50, 0, 0), xI b, xI (n : Int), xI t, xI x, xI 0, xI (60 * b + (i : Int)), xI 1]) dX9_isTold_110 (by decide) rfl ?_
                refine x_iinc (L' := [xR (50, 0, 0), xI b, xI (n : Int), xI t, xI x, xI 0, xI ((60 * b + (i : Int)) + 1), xI 1]) dX9_isTold_112 rfl rfl ?_
                refine x_goto (tgt := 9) dX9_isTold_115 (by decide) ?_
                refine X.loc (L' := [xR (50, 0, 0), xI b, xI (n : Int), xI t, xI x, xI 0, xI ((60 * b + (i : Int)) + 1), none]) ⟨rfl, ⟨rfl, ⟨rfl, ⟨rfl, ⟨rfl, ⟨rfl, ⟨rfl, trivial⟩⟩⟩⟩⟩⟩⟩ ?_
                have kk := ih (i + 1) (by omega) (by omega)
                rw [show 60 * b + ((i + 1 : Nat) : Int) = 60 * b + (i : Int) + 1 by omega, show bI (sB (toldN C.1 b t (i + 1)) x) = 0 from by rw [bI_c (told_step C.1 b t i x0 x1 (by omega) (by omega))]; first | (rw [if_pos (by omega)]; first | exact bI_t (by omega) | exact bI_f (by omega)) | rw [if_neg (by omega)]] at kk
                rw [show b * 60 = 60 * b by omega] at *
                exact kk
              · refine x_iconst dX9_isTold_100 ?_
                refine x_goto (tgt := 110) dX9_isTold_101 (by decide) ?_
                refine x_istore (L' := [xR (50, 0, 0), xI b, xI (n : Int), xI t, xI x, xI 1, xI (60 * b + (i : Int)), xI 1]) dX9_isTold_110 (by decide) rfl ?_
                refine x_iinc (L' := [xR (50, 0, 0), xI b, xI (n : Int), xI t, xI x, xI 1, xI ((60 * b + (i : Int)) + 1), xI 1]) dX9_isTold_112 rfl rfl ?_
                refine x_goto (tgt := 9) dX9_isTold_115 (by decide) ?_
                refine X.loc (L' := [xR (50, 0, 0), xI b, xI (n : Int), xI t, xI x, xI 1, xI ((60 * b + (i : Int)) + 1), none]) ⟨rfl, ⟨rfl, ⟨rfl, ⟨rfl, ⟨rfl, ⟨rfl, ⟨rfl, trivial⟩⟩⟩⟩⟩⟩⟩ ?_
                have kk := ih (i + 1) (by omega) (by omega)
                rw [show 60 * b + ((i + 1 : Nat) : Int) = 60 * b + (i : Int) + 1 by omega, show bI (sB (toldN C.1 b t (i + 1)) x) = 1 from by rw [bI_c (told_step C.1 b t i x0 x1 (by omega) (by omega))]; first | (rw [if_pos (by omega)]; first | exact bI_t (by omega) | exact bI_f (by omega)) | rw [if_neg (by omega)]] at kk
                rw [show b * 60 = 60 * b by omega] at *
                exact kk
          · refine x_top (bI_f b60) ?_
            refine x_if_eq (tgt := 80) dX9_isTold_63 (by decide) ⟨by decide, by decide⟩ (fun _ => ?_) (fun z => absurd z (by decide))
            refine x_iconst dX9_isTold_80 ?_
            refine x_istore (L' := [xR (50, 0, 0), xI b, xI (n : Int), xI t, xI x, xI (bI (sB (toldN C.1 b t i) x)), xI (60 * b + (i : Int)), xI 0]) dX9_isTold_81 (by decide) rfl ?_
            refine x_iload dX9_isTold_83 rfl ?_
            refine x_if_eq (tgt := 108) dX9_isTold_85 (by decide) ⟨by decide, by decide⟩ (fun _ => ?_) (fun z => absurd z (by decide))
            refine x_iload dX9_isTold_108 rfl ?_
            refine x_istore (L' := [xR (50, 0, 0), xI b, xI (n : Int), xI t, xI x, xI (bI (sB (toldN C.1 b t i) x)), xI (60 * b + (i : Int)), xI 0]) dX9_isTold_110 (by decide) rfl ?_
            refine x_iinc (L' := [xR (50, 0, 0), xI b, xI (n : Int), xI t, xI x, xI (bI (sB (toldN C.1 b t i) x)), xI ((60 * b + (i : Int)) + 1), xI 0]) dX9_isTold_112 rfl rfl ?_
            refine x_goto (tgt := 9) dX9_isTold_115 (by decide) ?_
            refine X.loc (L' := [xR (50, 0, 0), xI b, xI (n : Int), xI t, xI x, xI (bI (sB (toldN C.1 b t i) x)), xI ((60 * b + (i : Int)) + 1), none]) ⟨rfl, ⟨rfl, ⟨rfl, ⟨rfl, ⟨rfl, ⟨rfl, ⟨rfl, trivial⟩⟩⟩⟩⟩⟩⟩ ?_
            have kk := ih (i + 1) (by omega) (by omega)
            rw [show 60 * b + ((i + 1 : Nat) : Int) = 60 * b + (i : Int) + 1 by omega, show bI (sB (toldN C.1 b t (i + 1)) x) = bI (sB (toldN C.1 b t i) x) from by rw [bI_c (told_step C.1 b t i x0 x1 (by omega) (by omega))]; first | (rw [if_pos (by omega)]; first | exact bI_t (by omega) | exact bI_f (by omega)) | rw [if_neg (by omega)]] at kk
            rw [show b * 60 = 60 * b by omega] at *
            exact kk
      · refine x_top (bI_f b27) ?_
        refine x_if_eq (tgt := 80) dX9_isTold_30 (by decide) ⟨by decide, by decide⟩ (fun _ => ?_) (fun z => absurd z (by decide))
        refine x_iconst dX9_isTold_80 ?_
        refine x_istore (L' := [xR (50, 0, 0), xI b, xI (n : Int), xI t, xI x, xI (bI (sB (toldN C.1 b t i) x)), xI (60 * b + (i : Int)), xI 0]) dX9_isTold_81 (by decide) rfl ?_
        refine x_iload dX9_isTold_83 rfl ?_
        refine x_if_eq (tgt := 108) dX9_isTold_85 (by decide) ⟨by decide, by decide⟩ (fun _ => ?_) (fun z => absurd z (by decide))
        refine x_iload dX9_isTold_108 rfl ?_
        refine x_istore (L' := [xR (50, 0, 0), xI b, xI (n : Int), xI t, xI x, xI (bI (sB (toldN C.1 b t i) x)), xI (60 * b + (i : Int)), xI 0]) dX9_isTold_110 (by decide) rfl ?_
        refine x_iinc (L' := [xR (50, 0, 0), xI b, xI (n : Int), xI t, xI x, xI (bI (sB (toldN C.1 b t i) x)), xI ((60 * b + (i : Int)) + 1), xI 0]) dX9_isTold_112 rfl rfl ?_
        refine x_goto (tgt := 9) dX9_isTold_115 (by decide) ?_
        refine X.loc (L' := [xR (50, 0, 0), xI b, xI (n : Int), xI t, xI x, xI (bI (sB (toldN C.1 b t i) x)), xI ((60 * b + (i : Int)) + 1), none]) ⟨rfl, ⟨rfl, ⟨rfl, ⟨rfl, ⟨rfl, ⟨rfl, ⟨rfl, trivial⟩⟩⟩⟩⟩⟩⟩ ?_
        have kk := ih (i + 1) (by omega) (by omega)
        rw [show 60 * b + ((i + 1 : Nat) : Int) = 60 * b + (i : Int) + 1 by omega, show bI (sB (toldN C.1 b t (i + 1)) x) = bI (sB (toldN C.1 b t i) x) from by rw [bI_c (told_step C.1 b t i x0 x1 (by omega) (by omega))]; first | (rw [if_pos (by omega)]; first | exact bI_t (by omega) | exact bI_f (by omega)) | rw [if_neg (by omega)]] at kk
        rw [show b * 60 = 60 * b by omega] at *
        exact kk
set_option maxHeartbeats 4000000 in
set_option maxRecDepth 100000 in
theorem m_isTold (C S : XS) (hC : WI C) (hw : WI S) (ht : MRt C S) (b : Int) (b0 : 0 ≤ b) (b1 : b < 4) (n : Nat) (hn : (n : Int) ≤ C.1 (9, b, 0) 3) (t x : Int) (t0 : 0 ≤ t) (t1 : t < 24) (x0 : 0 ≤ x) (x1 : x < 384) : X mX9_isTold 0 (xEnt mX9_isTold [xR (50, 0, 0), xI b, xI (n : Int), xI t, xI x]) [] (hp S) 0 0 (pRet (xI (bI (sB (toldN C.1 b t n) x))) (hp S)) := by
  show X mX9_isTold 0 [xR (50, 0, 0), xI b, xI (n : Int), xI t, xI x, none, none, none] [] (hp S) 0 0 _
  refine x_iconst dX9_isTold_0 ?_
  refine x_istore (L' := [xR (50, 0, 0), xI b, xI (n : Int), xI t, xI x, xI 0, none, none]) dX9_isTold_1 (by decide) rfl ?_
  refine x_iload_n dX9_isTold_3 rfl ?_
  refine x_bipush (v := 60) dX9_isTold_4 (by decide) ?_
  refine x_imul dX9_isTold_6 ?_
  refine x_istore (L' := [xR (50, 0, 0), xI b, xI (n : Int), xI t, xI x, xI 0, xI (b * 60), none]) dX9_isTold_7 (by decide) rfl ?_
  have z := l_isTold C S hC hw ht b b0 b1 n hn t x t0 t1 x0 x1 (n + 1) 0 (by omega) (by omega)
  rw [show 60 * b + ((0 : Nat) : Int) = b * 60 by omega, bI_f (show ¬ sB (toldN C.1 b t 0) x from fun z => by unfold sB at z; obtain ⟨p, hp⟩ := Int.eq_ofNat_of_zero_le (show 0 ≤ x % 64 by omega); rw [hp] at z; exact bitJ_0 p (by omega) z)] at z
  exact z
