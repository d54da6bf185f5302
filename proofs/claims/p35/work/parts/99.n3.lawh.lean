/-! p35: the law: a telling -/
set_option maxHeartbeats 4000000 in
set_option maxRecDepth 100000 in
theorem c_tells (S : XS) (hw : WI S) (n : Int) (hn : S.1 (50, 0, 0) 0 = n) (n0 : 0 ≤ n) (n1 : n < 60) (k a x y o : Int) (zk : zR k) (za : zR a) (zx : zR x) (zy : zR y) (zo : zR o) : X mL_tells 0 (xEnt mL_tells [xR (50, 0, 0), xI 0, xI k, xI a, xI x, xI y, xI o]) [] (hp S) 0 0 (pVoid (hp (sTl S n k a x y o))) := by
  have hz := hw.1
  show X mL_tells 0 [xR (50, 0, 0), xI 0, xI k, xI a, xI x, xI y, xI o, none] [] (hp S) 0 0 _
  refine x_iload_n dL_tells_0 rfl ?_
  refine x_aload_n dL_tells_1 rfl ?_
  refine x_iload_n dL_tells_2 rfl ?_
  refine x_aldi (f := S.1 (50, 0, 0)) dL_tells_3 (hp50 S) (show (50 : Nat) ≠ 99 by decide) (by omega) (by omega) (by decide) ?_
  refine x_top (show S.1 (50, 0, 0) 0 = n from hn) ?_
  refine x_callS_r (a := 0) (b := 0) (as := [xI 0, xI n]) (rest := []) ok_L_at dL_tells_4 wd836 wd837 (c_at S n) rfl (Nat.le_of_ble_eq_true rfl) (Nat.le_of_ble_eq_true rfl) (by decide) (by omega) (by omega) ?_
  refine x_istore (L' := [xR (50, 0, 0), xI 0, xI k, xI a, xI x, xI y, xI o, xI (100 + 6 * n)]) dL_tells_7 (by decide) rfl ?_
  refine x_aload_n dL_tells_9 rfl ?_
  refine x_iload dL_tells_10 rfl ?_
  refine x_iload_n dL_tells_12 rfl ?_
  refine x_asti dL_tells_13 (hp50 S) (show (50 : Nat) ≠ 99 by decide) (by omega) (by omega) (by decide) ?_
  refine x_heq (pa50 S (100 + 6 * n) k) ?_
  have hw13_1 : WI (putI S (50, 0, 0) (100 + 6 * n) k) := hw.put (by first | exact hz _ _ | exact hw.1 _ _ | exact zR_of _ | exact bI_z _ | assumption | exact ⟨by omega, by omega⟩) trivial
  refine x_aload_n dL_tells_14 rfl ?_
  refine x_iload dL_tells_15 rfl ?_
  refine x_iconst dL_tells_17 ?_
  refine x_iadd dL_tells_18 ?_
  refine x_iload_n dL_tells_19 rfl ?_
  refine x_asti dL_tells_20 (hp50 (putI S (50, 0, 0) (100 + 6 * n) k)) (show (50 : Nat) ≠ 99 by decide) (by omega) (by omega) (by decide) ?_
  refine x_heq (pa50 (putI S (50, 0, 0) (100 + 6 * n) k) ((100 + 6 * n) + 1) a) ?_
  have hw20_2 : WI (putI (putI S (50, 0, 0) (100 + 6 * n) k) (50, 0, 0) ((100 + 6 * n) + 1) a) := hw13_1.put (by first | exact hz _ _ | exact hw.1 _ _ | exact zR_of _ | exact bI_z _ | assumption | exact ⟨by omega, by omega⟩) trivial
  refine x_aload_n dL_tells_21 rfl ?_
  refine x_iload dL_tells_22 rfl ?_
  refine x_iconst dL_tells_24 ?_
  refine x_iadd dL_tells_25 ?_
  refine x_iload dL_tells_26 rfl ?_
  refine x_asti dL_tells_28 (hp50 (putI (putI S (50, 0, 0) (100 + 6 * n) k) (50, 0, 0) ((100 + 6 * n) + 1) a)) (show (50 : Nat) ≠ 99 by decide) (by omega) (by omega) (by decide) ?_
  refine x_heq (pa50 (putI (putI S (50, 0, 0) (100 + 6 * n) k) (50, 0, 0) ((100 + 6 * n) + 1) a) ((100 + 6 * n) + 2) x) ?_
  have hw28_3 : WI (putI (putI (putI S (50, 0, 0) (100 + 6 * n) k) (50, 0, 0) ((100 + 6 * n) + 1) a) (50, 0, 0) ((100 + 6 * n) + 2) x) := hw20_2.put (by first | exact hz _ _ | exact hw.1 _ _ | exact zR_of _ | exact bI_z _ | assumption | exact ⟨by omega, by omega⟩) trivial
  refine x_aload_n dL_tells_29 rfl ?_
  refine x_iload dL_tells_30 rfl ?_
  refine x_iconst dL_tells_32 ?_
  refine x_iadd dL_tells_33 ?_
  refine x_iload dL_tells_34 rfl ?_
  refine x_asti dL_tells_36 (hp50 (putI (putI (putI S (50, 0, 0) (100 + 6 * n) k) (50, 0, 0) ((100 + 6 * n) + 1) a) (50, 0, 0) ((100 + 6 * n) + 2) x)) (show (50 : Nat) ≠ 99 by decide) (by omega) (by omega) (by decide) ?_
  refine x_heq (pa50 (putI (putI (putI S (50, 0, 0) (100 + 6 * n) k) (50, 0, 0) ((100 + 6 * n) + 1) a) (50, 0, 0) ((100 + 6 * n) + 2) x) ((100 + 6 * n) + 3) y) ?_
  have hw36_4 : WI (putI (putI (putI (putI S (50, 0, 0) (100 + 6 * n) k) (50, 0, 0) ((100 + 6 * n) + 1) a) (50, 0, 0) ((100 + 6 * n) + 2) x) (50, 0, 0) ((100 + 6 * n) + 3) y) := hw28_3.put (by first | exact hz _ _ | exact hw.1 _ _ | exact zR_of _ | exact bI_z _ | assumption | exact ⟨by omega, by omega⟩) trivial
  refine x_aload_n dL_tells_37 rfl ?_
  refine x_iload dL_tells_38 rfl ?_
  refine x_iconst dL_tells_40 ?_
  refine x_iadd dL_tells_41 ?_
  refine x_iconst dL_tells_42 ?_
  refine x_asti dL_tells_43 (hp50 (putI (putI (putI (putI S (50, 0, 0) (100 + 6 * n) k) (50, 0, 0) ((100 + 6 * n) + 1) a) (50, 0, 0) ((100 + 6 * n) + 2) x) (50, 0, 0) ((100 + 6 * n) + 3) y)) (show (50 : Nat) ≠ 99 by decide) (by omega) (by omega) (by decide) ?_
  refine x_heq (pa50 (putI (putI (putI (putI S (50, 0, 0) (100 + 6 * n) k) (50, 0, 0) ((100 + 6 * n) + 1) a) (50, 0, 0) ((100 + 6 * n) + 2) x) (50, 0, 0) ((100 + 6 * n) + 3) y) ((100 + 6 * n) + 4) 0) ?_
  have hw43_5 : WI (putI (putI (putI (putI (putI S (50, 0, 0) (100 + 6 * n) k) (50, 0, 0) ((100 + 6 * n) + 1) a) (50, 0, 0) ((100 + 6 * n) + 2) x) (50, 0, 0) ((100 + 6 * n) + 3) y) (50, 0, 0) ((100 + 6 * n) + 4) 0) := hw36_4.put (by first | exact hz _ _ | exact hw.1 _ _ | exact zR_of _ | exact bI_z _ | assumption | exact ⟨by omega, by omega⟩) trivial
  refine x_aload_n dL_tells_44 rfl ?_
  refine x_iload dL_tells_45 rfl ?_
  refine x_iconst dL_tells_47 ?_
  refine x_iadd dL_tells_48 ?_
  refine x_iload dL_tells_49 rfl ?_
  refine x_asti dL_tells_51 (hp50 (putI (putI (putI (putI (putI S (50, 0, 0) (100 + 6 * n) k) (50, 0, 0) ((100 + 6 * n) + 1) a) (50, 0, 0) ((100 + 6 * n) + 2) x) (50, 0, 0) ((100 + 6 * n) + 3) y) (50, 0, 0) ((100 + 6 * n) + 4) 0)) (show (50 : Nat) ≠ 99 by decide) (by omega) (by omega) (by decide) ?_
  refine x_heq (pa50 (putI (putI (putI (putI (putI S (50, 0, 0) (100 + 6 * n) k) (50, 0, 0) ((100 + 6 * n) + 1) a) (50, 0, 0) ((100 + 6 * n) + 2) x) (50, 0, 0) ((100 + 6 * n) + 3) y) (50, 0, 0) ((100 + 6 * n) + 4) 0) ((100 + 6 * n) + 5) o) ?_
  have hw51_6 : WI (putI (putI (putI (putI (putI (putI S (50, 0, 0) (100 + 6 * n) k) (50, 0, 0) ((100 + 6 * n) + 1) a) (50, 0, 0) ((100 + 6 * n) + 2) x) (50, 0, 0) ((100 + 6 * n) + 3) y) (50, 0, 0) ((100 + 6 * n) + 4) 0) (50, 0, 0) ((100 + 6 * n) + 5) o) := hw43_5.put (by first | exact hz _ _ | exact hw.1 _ _ | exact zR_of _ | exact bI_z _ | assumption | exact ⟨by omega, by omega⟩) trivial
  refine x_aload_n dL_tells_52 rfl ?_
  refine x_iload_n dL_tells_53 rfl ?_
  refine x_dup2 dL_tells_54 rfl rfl ?_
  refine x_aldi (f := (putI (putI (putI (putI (putI (putI S (50, 0, 0) (100 + 6 * n) k) (50, 0, 0) ((100 + 6 * n) + 1) a) (50, 0, 0) ((100 + 6 * n) + 2) x) (50, 0, 0) ((100 + 6 * n) + 3) y) (50, 0, 0) ((100 + 6 * n) + 4) 0) (50, 0, 0) ((100 + 6 * n) + 5) o).1 (50, 0, 0)) dL_tells_55 (hp50 (putI (putI (putI (putI (putI (putI S (50, 0, 0) (100 + 6 * n) k) (50, 0, 0) ((100 + 6 * n) + 1) a) (50, 0, 0) ((100 + 6 * n) + 2) x) (50, 0, 0) ((100 + 6 * n) + 3) y) (50, 0, 0) ((100 + 6 * n) + 4) 0) (50, 0, 0) ((100 + 6 * n) + 5) o)) (show (50 : Nat) ≠ 99 by decide) (by omega) (by omega) (by decide) ?_
  refine x_top (show (putI (putI (putI (putI (putI (putI S (50, 0, 0) (100 + 6 * n) k) (50, 0, 0) ((100 + 6 * n) + 1) a) (50, 0, 0) ((100 + 6 * n) + 2) x) (50, 0, 0) ((100 + 6 * n) + 3) y) (50, 0, 0) ((100 + 6 * n) + 4) 0) (50, 0, 0) ((100 + 6 * n) + 5) o).1 (50, 0, 0) 0 = n from by simp only [putI_at]; rw [if_neg (by omega), if_neg (by omega), if_neg (by omega), if_neg (by omega), if_neg (by omega), if_neg (by omega)]; exact hn) ?_
  refine x_iconst dL_tells_56 ?_
  refine x_iadd dL_tells_57 ?_
  refine x_asti dL_tells_58 (hp50 (putI (putI (putI (putI (putI (putI S (50, 0, 0) (100 + 6 * n) k) (50, 0, 0) ((100 + 6 * n) + 1) a) (50, 0, 0) ((100 + 6 * n) + 2) x) (50, 0, 0) ((100 + 6 * n) + 3) y) (50, 0, 0) ((100 + 6 * n) + 4) 0) (50, 0, 0) ((100 + 6 * n) + 5) o)) (show (50 : Nat) ≠ 99 by decide) (by omega) (by omega) (by decide) ?_
  refine x_heq (pa50 (putI (putI (putI (putI (putI (putI S (50, 0, 0) (100 + 6 * n) k) (50, 0, 0) ((100 + 6 * n) + 1) a) (50, 0, 0) ((100 + 6 * n) + 2) x) (50, 0, 0) ((100 + 6 * n) + 3) y) (50, 0, 0) ((100 + 6 * n) + 4) 0) (50, 0, 0) ((100 + 6 * n) + 5) o) 0 (n + 1)) ?_
  have hw58_7 : WI (putI (putI (putI (putI (putI (putI (putI S (50, 0, 0) (100 + 6 * n) k) (50, 0, 0) ((100 + 6 * n) + 1) a) (50, 0, 0) ((100 + 6 * n) + 2) x) (50, 0, 0) ((100 + 6 * n) + 3) y) (50, 0, 0) ((100 + 6 * n) + 4) 0) (50, 0, 0) ((100 + 6 * n) + 5) o) (50, 0, 0) 0 (n + 1)) := hw51_6.put (by first | exact hz _ _ | exact hw.1 _ _ | exact zR_of _ | exact bI_z _ | assumption | exact ⟨by omega, by omega⟩) trivial
  exact x_vret dL_tells_59 rfl pV
/-- what isTelling leaves -/
def pTg (S : XS) : XO → XH → Prop := fun o h' => o = .inl (some (xI 1)) ∧ ∃ T, h' = hp T ∧ LW T ∧ T.1 (4, 0, 0) 2 = S.1 (4, 0, 0) 2 ∧ T.1 (9, 0, 0) 3 ≤ S.1 (9, 0, 0) 3 + 1 ∧ T.2.2.2.2 = S.2.2.2.2
theorem told_50 {S D S1 : XS} (em : MdE S D) (q : QEq D S1) : S1.1 (50, 0, 0) = S.1 (50, 0, 0) := (q.1 (50, 0, 0) rfl).trans (em.1 50 0 0 (by decide))
theorem pTg.mk {S S1 D : XS} {n k a x y o r s b f t : Int} (hl : LW (sTl S1 n k a x y o)) (tl : Told S D r s b f t) (q : QEq D S1) (em : MdE S D) : pTg S (.inl (some (xI 1))) (hp (sTl S1 n k a x y o)) := by
  refine ⟨rfl, _, rfl, hl, ?_, ?_, ?_⟩
  · rw [sTl_o _ _ _ _ _ _ _ (nK (by decide) _ _ _ _), q.1 (4, 0, 0) rfl, tl.2.2.2.2.2.2.1]
  · rw [sTl_o _ _ _ _ _ _ _ (nK (by decide) _ _ _ _), q.1 (9, 0, 0) rfl, tl.1]
    exact Int.le_refl _
  · show S1.2.2.2.2 = S.2.2.2.2
    rw [q.2.2, em.2]
theorem pTg.tr {S V : XS} (q : KQ S V) {o : XO} {h' : XH} (h : pTg V o h') : pTg S o h' := by
  obtain ⟨a, T, b, c, d, e, f⟩ := h
  exact ⟨a, T, b, c, by rw [d, q.k (k := 4) rfl (by decide)], by rw [q.k (k := 9) rfl (by decide)] at e; exact e, by rw [f, q.2.2.2.2]⟩
theorem pTg.no {S S1 : XS} (h : LW S) (q : QEq S S1) (cb : CB S1) : pTg S (.inl (some (xI 1))) (hp S1) :=
  ⟨rfl, S1, rfl, h.k q.kq cb, by rw [q.1 (4, 0, 0) rfl], by rw [q.1 (9, 0, 0) rfl]; omega, by rw [q.2.2]⟩
set_option maxHeartbeats 4000000 in
set_option maxRecDepth 100000 in
theorem c_isTelling (S0 : XS) (h : LW S0) (n60 : S0.1 (9, 0, 0) 3 < 60) (hn : S0.2.2.2.2.2 < 1000000) (i : Int) (i0 : 0 ≤ i) (i1 : i < 1000) : X mL_isTelling 0 (xEnt mL_isTelling [xR (0, 0, 0), xR (50, 0, 0), xR (99, 0, 0), xI i, xI 0]) [] (hp S0) 8 53 (pTg S0) := by
  have hw := h.1.1
  have hz := hw.1
  have c4 := wf4_2 hw
  have c9 := wf9_3 hw (b := 0) (by decide) (by decide)
  obtain ⟨-, -, ⟨n0, -⟩, ⟨n5, -⟩, -, h6, h7, hu⟩ := id h
  show X mL_isTelling 0 [xR (0, 0, 0), xR (50, 0, 0), xR (99, 0, 0), xI i, xI 0, none, none, none, none, none, none, none, none, none] [] (hp S0) 8 53 _
  refine x_aload_n dL_isTelling_0 rfl ?_
  refine x_iload_n dL_isTelling_1 rfl ?_
  refine x_bipush (v := 6) dL_isTelling_2 (by decide) ?_
  refine x_callS (a := 0) (b := 0) (as := [xR (99, 0, 0), xI i, xI 6]) (rest := []) ok_L_in dL_isTelling_4 wd824 wd825 (c_in S0 hw hn i 6 (by omega) (by omega) (by omega) (by omega)) rfl (Nat.le_of_ble_eq_true rfl) (Nat.le_of_ble_eq_true rfl) (by decide) (by omega) (by omega) (fun _ q => by obtain ⟨_, _, q, _⟩ := q; cases q) (fun _ _ q => ?_) (fun _ _ q => by obtain ⟨_, _, q, _⟩ := q; cases q)
  obtain ⟨v4, hv4, y, rfl⟩ := q
  cases y
  refine x_istore (L' := [xR (0, 0, 0), xR (50, 0, 0), xR (99, 0, 0), xI i, xI 0, xI v4, none, none, none, none, none, none, none, none]) dL_isTelling_7 (by decide) rfl ?_
  refine x_aload_n dL_isTelling_9 rfl ?_
  refine x_iload_n dL_isTelling_10 rfl ?_
  refine x_iconst dL_isTelling_11 ?_
  refine x_iadd dL_isTelling_12 ?_
  refine x_callS (a := 0) (b := 0) (as := [xR (99, 0, 0), xI (i + 1)]) (rest := []) ok_L_anyFact dL_isTelling_13 wd852 wd853 (c_anyFact S0 hw hn (i + 1) (by omega) (by omega)) rfl (Nat.le_of_ble_eq_true rfl) (Nat.le_of_ble_eq_true rfl) (by decide) (by omega) (by omega) (fun _ q => by obtain ⟨_, _, q, _⟩ := q; cases q) (fun _ _ q => ?_) (fun _ _ q => by obtain ⟨_, _, q, _⟩ := q; cases q)
  obtain ⟨v13, hv13, y, rfl⟩ := q
  cases y
  refine x_istore (L' := [xR (0, 0, 0), xR (50, 0, 0), xR (99, 0, 0), xI i, xI 0, xI v4, xI v13, none, none, none, none, none, none, none]) dL_isTelling_16 (by decide) rfl ?_
  refine x_aload_n dL_isTelling_18 rfl ?_
  refine x_iload_n dL_isTelling_19 rfl ?_
  refine x_iconst dL_isTelling_20 ?_
  refine x_iadd dL_isTelling_21 ?_
  refine x_bipush (v := 24) dL_isTelling_22 (by decide) ?_
  refine x_callS (a := 0) (b := 0) (as := [xR (99, 0, 0), xI (i + 4), xI 24]) (rest := []) ok_L_in dL_isTelling_24 wd824 wd825 (c_in S0 hw hn (i + 4) 24 (by omega) (by omega) (by omega) (by omega)) rfl (Nat.le_of_ble_eq_true rfl) (Nat.le_of_ble_eq_true rfl) (by decide) (by omega) (by omega) (fun _ q => by obtain ⟨_, _, q, _⟩ := q; cases q) (fun _ _ q => ?_) (fun _ _ q => by obtain ⟨_, _, q, _⟩ := q; cases q)
  obtain ⟨v24, hv24, y, rfl⟩ := q
  cases y
  refine x_istore (L' := [xR (0, 0, 0), xR (50, 0, 0), xR (99, 0, 0), xI i, xI 0, xI v4, xI v13, xI v24, none, none, none, none, none, none]) dL_isTelling_27 (by decide) rfl ?_
  refine x_iload dL_isTelling_29 rfl ?_
  refine x_aload_n dL_isTelling_31 rfl ?_
  refine x_iload_n dL_isTelling_32 rfl ?_
  refine x_iconst dL_isTelling_33 ?_
  refine x_iadd dL_isTelling_34 ?_
  refine x_bipush (v := 24) dL_isTelling_35 (by decide) ?_
  refine x_iload dL_isTelling_37 rfl ?_
  refine x_isub dL_isTelling_39 ?_
  refine x_callS (a := 0) (b := 0) (as := [xR (99, 0, 0), xI (i + 5), xI (24 - v24)]) (rest := [xI v24]) ok_L_in dL_isTelling_40 wd824 wd825 (c_in S0 hw hn (i + 5) (24 - v24) (by omega) (by omega) (by omega) (by omega)) rfl (Nat.le_of_ble_eq_true rfl) (Nat.le_of_ble_eq_true rfl) (by decide) (by omega) (by omega) (fun _ q => by obtain ⟨_, _, q, _⟩ := q; cases q) (fun _ _ q => ?_) (fun _ _ q => by obtain ⟨_, _, q, _⟩ := q; cases q)
  obtain ⟨v40, hv40, y, rfl⟩ := q
  cases y
  refine x_iadd dL_isTelling_43 ?_
  refine x_istore (L' := [xR (0, 0, 0), xR (50, 0, 0), xR (99, 0, 0), xI i, xI 0, xI v4, xI v13, xI v24, xI (v24 + v40), none, none, none, none, none]) dL_isTelling_44 (by decide) rfl ?_
  refine x_aload_n dL_isTelling_46 rfl ?_
  refine x_iload dL_isTelling_47 rfl ?_
  refine x_aldi (f := S0.1 (50, 0, 0)) dL_isTelling_49 (hp50 S0) (show (50 : Nat) ≠ 99 by decide) (by omega) (by omega) (by decide) ?_
  refine x_top (show S0.1 (50, 0, 0) 0 = (S0.1 (9, 0, 0) 3) from n0) ?_
  refine x_bipush (v := 60) dL_isTelling_50 (by decide) ?_
  refine x_icmp_ne (tgt := 59) dL_isTelling_52 (by decide) (by first | exact hz _ _ | exact hw.1 _ _ | exact zR_of _ | exact bI_z _ | assumption | exact ⟨by omega, by omega⟩) ⟨by decide, by decide⟩ (fun c52 => ?_) (fun c52 => by exfalso; omega)
  refine x_iconst dL_isTelling_59 ?_
  refine x_istore (L' := [xR (0, 0, 0), xR (50, 0, 0), xR (99, 0, 0), xI i, xI 0, xI v4, xI v13, xI v24, xI (v24 + v40), xI 0, none, none, none, none]) dL_isTelling_60 (by decide) rfl ?_
  refine x_iload dL_isTelling_62 rfl ?_
  refine x_iconst dL_isTelling_64 ?_
  refine x_icmp_ge (tgt := 126) dL_isTelling_65 (by decide) (by first | exact hz _ _ | exact hw.1 _ _ | exact zR_of _ | exact bI_z _ | assumption | exact ⟨by omega, by omega⟩) ⟨by decide, by decide⟩ (fun c65 => ?_) (fun c65 => ?_)
  · refine x_iload dL_isTelling_126 rfl ?_
    refine x_iconst dL_isTelling_128 ?_
    refine x_icmp_eq (tgt := 138) dL_isTelling_129 (by decide) (by first | exact hz _ _ | exact hw.1 _ _ | exact zR_of _ | exact bI_z _ | assumption | exact ⟨by omega, by omega⟩) ⟨by decide, by decide⟩ (fun c129 => ?_) (fun c129 => ?_)
    · refine x_aload_n dL_isTelling_138 rfl ?_
      refine x_iload dL_isTelling_139 rfl ?_
      refine x_iload dL_isTelling_141 rfl ?_
      refine x_iload dL_isTelling_143 rfl ?_
      refine x_iload dL_isTelling_145 rfl ?_
      refine x_callSH (a := 6) (b := 36) (as := [xR (0, 0, 0), xI 0, xI v13, xI v24, xI (v24 + v40)]) (rest := []) ok_L_untell dL_isTelling_147 wd630 wd631 (wo_untell S0 h.i 0 v13 v24 (v24 + v40) ⟨by omega, by omega⟩ ⟨by omega, by omega⟩ ⟨by omega, by omega⟩ ⟨by omega, by omega⟩) rfl (Nat.le_of_ble_eq_true rfl) (Nat.le_of_ble_eq_true rfl) (by decide) (by omega) (by omega) (fun _ q => by obtain ⟨_, _, _, _, _, q, _⟩ := q; cases q) (fun _ _ q => ?_) (fun _ _ q => by obtain ⟨_, _, _, _, _, q, _⟩ := q; cases q)
      obtain ⟨S1, D, kk, vv, rfl, yy, qq, cb, em, ji, hR⟩ := q
      cases yy
      rcases hR with ⟨rfl, g1, g2, g3, rfl, hD⟩ | ⟨rfl, g1, -⟩ | ⟨rfl, g1, g2, -⟩ | ⟨rfl, g1, g2, g3, -⟩
      rotate_left
      · exfalso; omega
      · exfalso; omega
      · exfalso; omega
      have hD2 : sApp S0 0 0 0 v13 v24 (v24 + v40) (-1) = D := by rw [h7] at hD; exact hD
      have tl : Told S0 D 0 0 v13 v24 (v24 + v40) := by rw [← hD2]; exact told_app S0 0 0 v13 v24 (v24 + v40) (-1)
      have e50 : S1.1 (50, 0, 0) 0 = (S0.1 (9, 0, 0) 3) := (congrFun (told_50 em qq) 0).trans n0
      have hl := h.told tl (by omega) em qq cb ji (Or.inl rfl) (Or.inl rfl) ⟨by omega, by omega⟩ ⟨by omega, by omega⟩ ⟨by omega, by omega⟩
      refine x_top (show _ = (S0.1 (9, 0, 0) 3) + 1 from by rw [if_pos rfl]) ?_
      refine x_istore (L' := [xR (0, 0, 0), xR (50, 0, 0), xR (99, 0, 0), xI i, xI 0, xI v4, xI v13, xI v24, xI (v24 + v40), xI 0, xI ((S0.1 (9, 0, 0) 3) + 1), none, none, none]) dL_isTelling_150 (by decide) rfl ?_
      refine x_iload dL_isTelling_152 rfl ?_
      refine x_if_ne (tgt := 171) dL_isTelling_154 (by decide) ⟨by decide, by decide⟩ (fun z => absurd z (by decide)) (fun _ => ?_)
      refine x_aload_n dL_isTelling_157 rfl ?_
      refine x_iload dL_isTelling_158 rfl ?_
      refine x_iconst dL_isTelling_160 ?_
      refine x_iload dL_isTelling_161 rfl ?_
      refine x_iload dL_isTelling_163 rfl ?_
      refine x_iload dL_isTelling_165 rfl ?_
      refine x_iconst dL_isTelling_167 ?_
      refine x_callS_v (a := 0) (b := 0) (as := [xR (50, 0, 0), xI 0, xI 0, xI v13, xI v24, xI (v24 + v40), xI 0]) (rest := []) ok_L_tells dL_isTelling_168 wd855 wd856 (c_tells S1 cb.1 (S0.1 (9, 0, 0) 3) e50 (by omega) (by omega) 0 v13 v24 (v24 + v40) 0 ⟨by omega, by omega⟩ ⟨by omega, by omega⟩ ⟨by omega, by omega⟩ ⟨by omega, by omega⟩ ⟨by omega, by omega⟩) rfl (Nat.le_of_ble_eq_true rfl) (Nat.le_of_ble_eq_true rfl) (by decide) (by omega) (by omega) ?_
      refine x_iload dL_isTelling_171 rfl ?_
      refine x_iload dL_isTelling_173 rfl ?_
      refine x_if_eq (tgt := 183) dL_isTelling_175 (by decide) ⟨by decide, by decide⟩ (fun _ => ?_) (fun z => absurd z (by decide))
      refine x_aload_n dL_isTelling_183 rfl ?_
      refine x_iload dL_isTelling_184 rfl ?_
      refine x_aldi (f := (sTl S1 (S0.1 (9, 0, 0) 3) 0 v13 v24 (v24 + v40) 0).1 (50, 0, 0)) dL_isTelling_186 (hp50 (sTl S1 (S0.1 (9, 0, 0) 3) 0 v13 v24 (v24 + v40) 0)) (show (50 : Nat) ≠ 99 by decide) (by omega) (by omega) (by decide) ?_
      refine x_top (show (sTl S1 (S0.1 (9, 0, 0) 3) 0 v13 v24 (v24 + v40) 0).1 (50, 0, 0) 0 = (S0.1 (9, 0, 0) 3) + 1 from by rw [sTl_50, if_pos rfl]) ?_
      refine x_icmp_ne (tgt := 194) dL_isTelling_187 (by decide) (by first | exact hz _ _ | exact hw.1 _ _ | exact zR_of _ | exact bI_z _ | assumption | exact ⟨by omega, by omega⟩) (by first | exact hz _ _ | exact hw.1 _ _ | exact zR_of _ | exact bI_z _ | assumption | exact ⟨by omega, by omega⟩) (fun c187 => by exfalso; omega) (fun c187 => ?_)
      refine x_iconst dL_isTelling_190 ?_
      refine x_goto (tgt := 195) dL_isTelling_191 (by decide) ?_
      exact x_zret dL_isTelling_195 rfl (Or.inr rfl) (pTg.mk hl tl qq em)
    · refine x_aload_n dL_isTelling_132 rfl ?_
      refine x_iconst dL_isTelling_133 ?_
      refine x_aldi (f := S0.1 (50, 0, 0)) dL_isTelling_134 (hp50 S0) (show (50 : Nat) ≠ 99 by decide) (by omega) (by omega) (by decide) ?_
      refine x_top (show S0.1 (50, 0, 0) 5 = S0.1 (4, 0, 0) 2 from n5) ?_
      refine x_if_ne (tgt := 196) dL_isTelling_135 (by decide) (by first | exact hz _ _ | exact hw.1 _ _ | exact zR_of _ | exact bI_z _ | assumption | exact ⟨by omega, by omega⟩) (fun c135 => ?_) (fun c135 => ?_)
      · refine x_aload_n dL_isTelling_196 rfl ?_
        refine x_iload_n dL_isTelling_197 rfl ?_
        refine x_iconst dL_isTelling_198 ?_
        refine x_iadd dL_isTelling_199 ?_
        refine x_aload_n dL_isTelling_200 rfl ?_
        refine x_iconst dL_isTelling_201 ?_
        refine x_aldi (f := S0.1 (50, 0, 0)) dL_isTelling_202 (hp50 S0) (show (50 : Nat) ≠ 99 by decide) (by omega) (by omega) (by decide) ?_
        refine x_top (show S0.1 (50, 0, 0) 5 = S0.1 (4, 0, 0) 2 from n5) ?_
        refine x_callS (a := 0) (b := 0) (as := [xR (99, 0, 0), xI (i + 1), xI (S0.1 (4, 0, 0) 2)]) (rest := []) ok_L_in dL_isTelling_203 wd824 wd825 (c_in S0 hw hn (i + 1) (S0.1 (4, 0, 0) 2) (by omega) (by omega) (by omega) (by omega)) rfl (Nat.le_of_ble_eq_true rfl) (Nat.le_of_ble_eq_true rfl) (by decide) (by omega) (by omega) (fun _ q => by obtain ⟨_, _, q, _⟩ := q; cases q) (fun _ _ q => ?_) (fun _ _ q => by obtain ⟨_, _, q, _⟩ := q; cases q)
        obtain ⟨v203, hv203, y, rfl⟩ := q
        cases y
        refine x_istore (L' := [xR (0, 0, 0), xR (50, 0, 0), xR (99, 0, 0), xI i, xI 0, xI v4, xI v13, xI v24, xI (v24 + v40), xI 0, xI v203, none, none, none]) dL_isTelling_206 (by decide) rfl ?_
        refine x_aload_n dL_isTelling_208 rfl ?_
        refine x_iload_n dL_isTelling_209 rfl ?_
        refine x_iconst dL_isTelling_210 ?_
        refine x_iadd dL_isTelling_211 ?_
        refine x_iconst dL_isTelling_212 ?_
        refine x_callS (a := 0) (b := 0) (as := [xR (99, 0, 0), xI (i + 2), xI 4]) (rest := []) ok_L_in dL_isTelling_213 wd824 wd825 (c_in S0 hw hn (i + 2) 4 (by omega) (by omega) (by omega) (by omega)) rfl (Nat.le_of_ble_eq_true rfl) (Nat.le_of_ble_eq_true rfl) (by decide) (by omega) (by omega) (fun _ q => by obtain ⟨_, _, q, _⟩ := q; cases q) (fun _ _ q => ?_) (fun _ _ q => by obtain ⟨_, _, q, _⟩ := q; cases q)
        obtain ⟨v213, hv213, y, rfl⟩ := q
        cases y
        refine x_if_le (tgt := 223) dL_isTelling_216 (by decide) (by first | exact hz _ _ | exact hw.1 _ _ | exact zR_of _ | exact bI_z _ | assumption | exact ⟨by omega, by omega⟩) (fun c216 => ?_) (fun c216 => ?_)
        · refine x_iconst dL_isTelling_223 ?_
          refine x_istore (L' := [xR (0, 0, 0), xR (50, 0, 0), xR (99, 0, 0), xI i, xI 0, xI v4, xI v13, xI v24, xI (v24 + v40), xI 0, xI v203, xI 0, none, none]) dL_isTelling_224 (by decide) rfl ?_
          refine x_iload dL_isTelling_226 rfl ?_
          refine x_if_eq (tgt := 242) dL_isTelling_228 (by decide) ⟨by decide, by decide⟩ (fun _ => ?_) (fun z => absurd z (by decide))
          refine x_iconst dL_isTelling_242 ?_
          refine x_goto (tgt := 247) dL_isTelling_243 (by decide) ?_
          refine x_istore (L' := [xR (0, 0, 0), xR (50, 0, 0), xR (99, 0, 0), xI i, xI 0, xI v4, xI v13, xI v24, xI (v24 + v40), xI 0, xI v203, xI 0, xI 1, none]) dL_isTelling_247 (by decide) rfl ?_
          refine x_aload_n dL_isTelling_249 rfl ?_
          refine x_iload dL_isTelling_250 rfl ?_
          refine x_iload dL_isTelling_252 rfl ?_
          refine x_iload dL_isTelling_254 rfl ?_
          refine x_callSH (a := 6) (b := 36) (as := [xR (0, 0, 0), xI 0, xI v203, xI 0]) (rest := []) ok_L_turn dL_isTelling_256 wd681 wd682 (wo_turn S0 h.i 0 v203 0 ⟨by omega, by omega⟩ ⟨by omega, by omega⟩ (Or.inl rfl)) rfl (Nat.le_of_ble_eq_true rfl) (Nat.le_of_ble_eq_true rfl) (by decide) (by omega) (by omega) (fun _ q => by obtain ⟨_, _, _, _, _, q, _⟩ := q; cases q) (fun _ _ q => ?_) (fun _ _ q => by obtain ⟨_, _, _, _, _, q, _⟩ := q; cases q)
          obtain ⟨S1, D, kk, vv, rfl, yy, qq, cb, em, ji, hR⟩ := q
          cases yy
          rcases hR with ⟨rfl, g1, g2, g3, rfl, hD⟩ | ⟨rfl, g1, -⟩ | ⟨rfl, g1, g2, -⟩ | ⟨rfl, g1, g2, g3, -⟩
          rotate_left
          · exfalso; omega
          · exfalso; omega
          · exfalso; omega
          have hD2 : sTurn S0 0 v203 0 = D := by rw [h7] at hD; exact hD
          have tl : Told S0 D 1 0 v203 0 0 := by rw [← hD2]; exact told_turn S0 v203 0
          have e50 : S1.1 (50, 0, 0) 0 = (S0.1 (9, 0, 0) 3) := (congrFun (told_50 em qq) 0).trans n0
          have hl := h.told tl (by omega) em qq cb ji (Or.inr rfl) (Or.inl rfl) ⟨by omega, by omega⟩ ⟨by decide, by decide⟩ ⟨by decide, by decide⟩
          refine x_top (show _ = (S0.1 (9, 0, 0) 3) + 1 from by rw [if_pos rfl]) ?_
          refine x_istore (L' := [xR (0, 0, 0), xR (50, 0, 0), xR (99, 0, 0), xI i, xI 0, xI v4, xI v13, xI v24, xI (v24 + v40), xI 0, xI v203, xI 0, xI 1, xI ((S0.1 (9, 0, 0) 3) + 1)]) dL_isTelling_259 (by decide) rfl ?_
          refine x_iload dL_isTelling_261 rfl ?_
          refine x_if_eq (tgt := 292) dL_isTelling_263 (by decide) ⟨by decide, by decide⟩ (fun z => absurd z (by decide)) (fun _ => ?_)
          refine x_iload dL_isTelling_266 rfl ?_
          refine x_if_ne (tgt := 292) dL_isTelling_268 (by decide) ⟨by decide, by decide⟩ (fun z => absurd z (by decide)) (fun _ => ?_)
          refine x_aload_n dL_isTelling_271 rfl ?_
          refine x_iload dL_isTelling_272 rfl ?_
          refine x_iload dL_isTelling_274 rfl ?_
          refine x_if_eq (tgt := 283) dL_isTelling_276 (by decide) ⟨by decide, by decide⟩ (fun _ => ?_) (fun z => absurd z (by decide))
          refine x_iconst dL_isTelling_283 ?_
          refine x_iload dL_isTelling_284 rfl ?_
          refine x_iconst dL_isTelling_286 ?_
          refine x_iconst dL_isTelling_287 ?_
          refine x_iconst dL_isTelling_288 ?_
          refine x_callS_v (a := 0) (b := 0) (as := [xR (50, 0, 0), xI 0, xI 2, xI v203, xI 0, xI 0, xI 0]) (rest := []) ok_L_tells dL_isTelling_289 wd855 wd856 (c_tells S1 cb.1 (S0.1 (9, 0, 0) 3) e50 (by omega) (by omega) 2 v203 0 0 0 ⟨by omega, by omega⟩ ⟨by omega, by omega⟩ ⟨by omega, by omega⟩ ⟨by omega, by omega⟩ ⟨by omega, by omega⟩) rfl (Nat.le_of_ble_eq_true rfl) (Nat.le_of_ble_eq_true rfl) (by decide) (by omega) (by omega) ?_
          refine x_iload dL_isTelling_292 rfl ?_
          refine x_iload dL_isTelling_294 rfl ?_
          refine x_if_ne (tgt := 304) dL_isTelling_296 (by decide) ⟨by decide, by decide⟩ (fun _ => ?_) (fun z => absurd z (by decide))
          refine x_iload dL_isTelling_304 rfl ?_
          refine x_if_eq (tgt := 314) dL_isTelling_306 (by decide) ⟨by decide, by decide⟩ (fun _ => ?_) (fun z => absurd z (by decide))
          refine x_aload_n dL_isTelling_314 rfl ?_
          refine x_iload dL_isTelling_315 rfl ?_
          refine x_aldi (f := (sTl S1 (S0.1 (9, 0, 0) 3) 2 v203 0 0 0).1 (50, 0, 0)) dL_isTelling_317 (hp50 (sTl S1 (S0.1 (9, 0, 0) 3) 2 v203 0 0 0)) (show (50 : Nat) ≠ 99 by decide) (by omega) (by omega) (by decide) ?_
          refine x_top (show (sTl S1 (S0.1 (9, 0, 0) 3) 2 v203 0 0 0).1 (50, 0, 0) 0 = (S0.1 (9, 0, 0) 3) + 1 from by rw [sTl_50, if_pos rfl]) ?_
          refine x_icmp_ne (tgt := 325) dL_isTelling_318 (by decide) (by first | exact hz _ _ | exact hw.1 _ _ | exact zR_of _ | exact bI_z _ | assumption | exact ⟨by omega, by omega⟩) (by first | exact hz _ _ | exact hw.1 _ _ | exact zR_of _ | exact bI_z _ | assumption | exact ⟨by omega, by omega⟩) (fun c318 => by exfalso; omega) (fun c318 => ?_)
          refine x_iconst dL_isTelling_321 ?_
          refine x_goto (tgt := 326) dL_isTelling_322 (by decide) ?_
          exact x_zret dL_isTelling_326 rfl (Or.inr rfl) (pTg.mk hl tl qq em)
        · refine x_iconst dL_isTelling_219 ?_
          refine x_goto (tgt := 224) dL_isTelling_220 (by decide) ?_
          refine x_istore (L' := [xR (0, 0, 0), xR (50, 0, 0), xR (99, 0, 0), xI i, xI 0, xI v4, xI v13, xI v24, xI (v24 + v40), xI 0, xI v203, xI 1, none, none]) dL_isTelling_224 (by decide) rfl ?_
          refine x_iload dL_isTelling_226 rfl ?_
          refine x_if_eq (tgt := 242) dL_isTelling_228 (by decide) ⟨by decide, by decide⟩ (fun z => absurd z (by decide)) (fun _ => ?_)
          refine x_aload_n dL_isTelling_231 rfl ?_
          refine x_iload dL_isTelling_232 rfl ?_
          refine x_iload dL_isTelling_234 rfl ?_
          refine x_callS (a := 2) (b := 17) (as := [xR (50, 0, 0), xI 0, xI v203]) (rest := []) ok_L_canTurn dL_isTelling_236 wd858 wd859 (c_canTurn S0 S0 h.1 hw h.2.2.1 h.2.2.2.1 h.2.2.2.2.1 v203 (by omega) (by omega) (S0.1 (34, v203, 0) 2).toNat (by have := wf34_2 h.1.1 (b := v203) (by omega) (by omega); omega)) rfl (Nat.le_of_ble_eq_true rfl) (Nat.le_of_ble_eq_true rfl) (by decide) (by omega) (by omega) (fun _ q => by cases q.1) (fun _ _ q => ?_) (fun _ _ q => by cases q.1)
          obtain ⟨yy, V, rfl, eV, wV⟩ := q
          cases yy
          have hV : LW V := h.k eV.kq (h.1.nq eV wV)
          have vv6 : V.1 (0, 0, 0) 6 = 1 := hV.2.2.2.2.2.1
          have vv7 : V.1 (0, 0, 0) 7 = 0 := hV.2.2.2.2.2.2.1
          have vv4 : V.1 (4, 0, 0) 2 = S0.1 (4, 0, 0) 2 := congrFun (eV.kq.k (k := 4) rfl (by decide) 0 0) 2
          have vv9 : V.1 (9, 0, 0) 3 = (S0.1 (9, 0, 0) 3) := congrFun (eV.kq.k (k := 9) rfl (by decide) 0 0) 3
          have vn0 : V.1 (50, 0, 0) 0 = (S0.1 (9, 0, 0) 3) := hV.2.2.1.1.trans vv9
          have b01 := bI_01 (CanOn S0 v203 (onN S0.1 0 (S0.1 (9, 0, 0) 3).toNat))
          have ec : bI (CanOn V v203 (onN V.1 0 (V.1 (9, 0, 0) 3).toNat)) = bI (CanOn S0 v203 (onN S0.1 0 (S0.1 (9, 0, 0) 3).toNat)) := by rw [vv9, eV.kq.onN]; exact bI_c (eV.kq.can _ _)
          refine x_if_eq (tgt := 246) dL_isTelling_239 (by decide) (by first | exact hz _ _ | exact hw.1 _ _ | exact zR_of _ | exact bI_z _ | assumption | exact ⟨by omega, by omega⟩) (fun c239 => ?_) (fun c239 => ?_)
          · refine x_iconst dL_isTelling_246 ?_
            refine x_istore (L' := [xR (0, 0, 0), xR (50, 0, 0), xR (99, 0, 0), xI i, xI 0, xI v4, xI v13, xI v24, xI (v24 + v40), xI 0, xI v203, xI 1, xI 0, none]) dL_isTelling_247 (by decide) rfl ?_
            refine x_aload_n dL_isTelling_249 rfl ?_
            refine x_iload dL_isTelling_250 rfl ?_
            refine x_iload dL_isTelling_252 rfl ?_
            refine x_iload dL_isTelling_254 rfl ?_
            refine x_callSH (a := 6) (b := 36) (as := [xR (0, 0, 0), xI 0, xI v203, xI 1]) (rest := []) ok_L_turn dL_isTelling_256 wd681 wd682 (wo_turn V hV.i 0 v203 1 ⟨by omega, by omega⟩ ⟨by omega, by omega⟩ (Or.inr rfl)) rfl (Nat.le_of_ble_eq_true rfl) (Nat.le_of_ble_eq_true rfl) (by decide) (by omega) (by omega) (fun _ q => by obtain ⟨_, _, _, _, _, q, _⟩ := q; cases q) (fun _ _ q => ?_) (fun _ _ q => by obtain ⟨_, _, _, _, _, q, _⟩ := q; cases q)
            obtain ⟨S1, D, kk, vv, rfl, yy, qq, cb, em, ji, hR⟩ := q
            cases yy
            have hR2 : kk = 2 ∧ V = D := by
              rcases hR with ⟨-, g1, g2, -⟩ | ⟨-, g1, -⟩ | ⟨g0, -, -, hD⟩ | ⟨-, g1, g2, -⟩
              · exfalso; omega
              · exfalso; omega
              · exact ⟨g0, hD⟩
              · exfalso; omega
            obtain ⟨rfl, rfl⟩ := hR2
            refine x_top (show _ = (-900002) from by rw [if_neg (by decide)]; decide) ?_
            refine x_istore (L' := [xR (0, 0, 0), xR (50, 0, 0), xR (99, 0, 0), xI i, xI 0, xI v4, xI v13, xI v24, xI (v24 + v40), xI 0, xI v203, xI 1, xI 0, xI (-900002)]) dL_isTelling_259 (by decide) rfl ?_
            refine x_iload dL_isTelling_261 rfl ?_
            refine x_if_eq (tgt := 292) dL_isTelling_263 (by decide) ⟨by decide, by decide⟩ (fun _ => ?_) (fun z => absurd z (by decide))
            refine x_iload dL_isTelling_292 rfl ?_
            refine x_iload dL_isTelling_294 rfl ?_
            refine x_if_ne (tgt := 304) dL_isTelling_296 (by decide) ⟨by decide, by decide⟩ (fun z => absurd z (by decide)) (fun _ => ?_)
            refine x_ldc (v := (-900002)) dL_isTelling_299 wd627 ?_
            refine x_goto (tgt := 318) dL_isTelling_301 (by decide) ?_
            refine x_icmp_ne (tgt := 325) dL_isTelling_318 (by decide) ⟨by decide, by decide⟩ ⟨by decide, by decide⟩ (fun z => absurd z (by decide)) (fun _ => ?_)
            refine x_iconst dL_isTelling_321 ?_
            refine x_goto (tgt := 326) dL_isTelling_322 (by decide) ?_
            exact x_zret dL_isTelling_326 rfl (Or.inr rfl) (pTg.tr eV.kq (pTg.no hV qq cb))
          · refine x_iconst dL_isTelling_242 ?_
            refine x_goto (tgt := 247) dL_isTelling_243 (by decide) ?_
            refine x_istore (L' := [xR (0, 0, 0), xR (50, 0, 0), xR (99, 0, 0), xI i, xI 0, xI v4, xI v13, xI v24, xI (v24 + v40), xI 0, xI v203, xI 1, xI 1, none]) dL_isTelling_247 (by decide) rfl ?_
            refine x_aload_n dL_isTelling_249 rfl ?_
            refine x_iload dL_isTelling_250 rfl ?_
            refine x_iload dL_isTelling_252 rfl ?_
            refine x_iload dL_isTelling_254 rfl ?_
            refine x_callSH (a := 6) (b := 36) (as := [xR (0, 0, 0), xI 0, xI v203, xI 1]) (rest := []) ok_L_turn dL_isTelling_256 wd681 wd682 (wo_turn V hV.i 0 v203 1 ⟨by omega, by omega⟩ ⟨by omega, by omega⟩ (Or.inr rfl)) rfl (Nat.le_of_ble_eq_true rfl) (Nat.le_of_ble_eq_true rfl) (by decide) (by omega) (by omega) (fun _ q => by obtain ⟨_, _, _, _, _, q, _⟩ := q; cases q) (fun _ _ q => ?_) (fun _ _ q => by obtain ⟨_, _, _, _, _, q, _⟩ := q; cases q)
            obtain ⟨S1, D, kk, vv, rfl, yy, qq, cb, em, ji, hR⟩ := q
            cases yy
            rcases hR with ⟨rfl, g1, g2, g3, rfl, hD⟩ | ⟨rfl, g1, -⟩ | ⟨rfl, g1, g2, -⟩ | ⟨rfl, g1, g2, g3, -⟩
            rotate_left
            · exfalso; omega
            · exfalso; omega
            · exfalso; omega
            have hD2 : sTurn V 0 v203 1 = D := by rw [vv7] at hD; exact hD
            have tl : Told V D 1 1 v203 0 0 := by rw [← hD2]; exact told_turn V v203 1
            have e50 : S1.1 (50, 0, 0) 0 = (S0.1 (9, 0, 0) 3) := (congrFun (told_50 em qq) 0).trans vn0
            have hl := hV.told tl (by omega) em qq cb ji (Or.inr rfl) (Or.inr rfl) ⟨by omega, by omega⟩ ⟨by decide, by decide⟩ ⟨by decide, by decide⟩
            rw [vv9] at hl
            refine x_top (show _ = (S0.1 (9, 0, 0) 3) + 1 from by rw [if_pos rfl]; omega) ?_
            refine x_istore (L' := [xR (0, 0, 0), xR (50, 0, 0), xR (99, 0, 0), xI i, xI 0, xI v4, xI v13, xI v24, xI (v24 + v40), xI 0, xI v203, xI 1, xI 1, xI ((S0.1 (9, 0, 0) 3) + 1)]) dL_isTelling_259 (by decide) rfl ?_
            refine x_iload dL_isTelling_261 rfl ?_
            refine x_if_eq (tgt := 292) dL_isTelling_263 (by decide) ⟨by decide, by decide⟩ (fun z => absurd z (by decide)) (fun _ => ?_)
            refine x_iload dL_isTelling_266 rfl ?_
            refine x_if_ne (tgt := 292) dL_isTelling_268 (by decide) ⟨by decide, by decide⟩ (fun z => absurd z (by decide)) (fun _ => ?_)
            refine x_aload_n dL_isTelling_271 rfl ?_
            refine x_iload dL_isTelling_272 rfl ?_
            refine x_iload dL_isTelling_274 rfl ?_
            refine x_if_eq (tgt := 283) dL_isTelling_276 (by decide) ⟨by decide, by decide⟩ (fun z => absurd z (by decide)) (fun _ => ?_)
            refine x_iconst dL_isTelling_279 ?_
            refine x_goto (tgt := 284) dL_isTelling_280 (by decide) ?_
            refine x_iload dL_isTelling_284 rfl ?_
            refine x_iconst dL_isTelling_286 ?_
            refine x_iconst dL_isTelling_287 ?_
            refine x_iconst dL_isTelling_288 ?_
            refine x_callS_v (a := 0) (b := 0) (as := [xR (50, 0, 0), xI 0, xI 3, xI v203, xI 0, xI 0, xI 0]) (rest := []) ok_L_tells dL_isTelling_289 wd855 wd856 (c_tells S1 cb.1 (S0.1 (9, 0, 0) 3) e50 (by omega) (by omega) 3 v203 0 0 0 ⟨by omega, by omega⟩ ⟨by omega, by omega⟩ ⟨by omega, by omega⟩ ⟨by omega, by omega⟩ ⟨by omega, by omega⟩) rfl (Nat.le_of_ble_eq_true rfl) (Nat.le_of_ble_eq_true rfl) (by decide) (by omega) (by omega) ?_
            refine x_iload dL_isTelling_292 rfl ?_
            refine x_iload dL_isTelling_294 rfl ?_
            refine x_if_ne (tgt := 304) dL_isTelling_296 (by decide) ⟨by decide, by decide⟩ (fun _ => ?_) (fun z => absurd z (by decide))
            refine x_iload dL_isTelling_304 rfl ?_
            refine x_if_eq (tgt := 314) dL_isTelling_306 (by decide) ⟨by decide, by decide⟩ (fun _ => ?_) (fun z => absurd z (by decide))
            refine x_aload_n dL_isTelling_314 rfl ?_
            refine x_iload dL_isTelling_315 rfl ?_
            refine x_aldi (f := (sTl S1 (S0.1 (9, 0, 0) 3) 3 v203 0 0 0).1 (50, 0, 0)) dL_isTelling_317 (hp50 (sTl S1 (S0.1 (9, 0, 0) 3) 3 v203 0 0 0)) (show (50 : Nat) ≠ 99 by decide) (by omega) (by omega) (by decide) ?_
            refine x_top (show (sTl S1 (S0.1 (9, 0, 0) 3) 3 v203 0 0 0).1 (50, 0, 0) 0 = (S0.1 (9, 0, 0) 3) + 1 from by rw [sTl_50, if_pos rfl]) ?_
            refine x_icmp_ne (tgt := 325) dL_isTelling_318 (by decide) (by first | exact hz _ _ | exact hw.1 _ _ | exact zR_of _ | exact bI_z _ | assumption | exact ⟨by omega, by omega⟩) (by first | exact hz _ _ | exact hw.1 _ _ | exact zR_of _ | exact bI_z _ | assumption | exact ⟨by omega, by omega⟩) (fun c318 => by exfalso; omega) (fun c318 => ?_)
            refine x_iconst dL_isTelling_321 ?_
            refine x_goto (tgt := 326) dL_isTelling_322 (by decide) ?_
            exact x_zret dL_isTelling_326 rfl (Or.inr rfl) (pTg.tr eV.kq (pTg.mk hl tl qq em))
      · refine x_aload_n dL_isTelling_138 rfl ?_
        refine x_iload dL_isTelling_139 rfl ?_
        refine x_iload dL_isTelling_141 rfl ?_
        refine x_iload dL_isTelling_143 rfl ?_
        refine x_iload dL_isTelling_145 rfl ?_
        refine x_callSH (a := 6) (b := 36) (as := [xR (0, 0, 0), xI 0, xI v13, xI v24, xI (v24 + v40)]) (rest := []) ok_L_untell dL_isTelling_147 wd630 wd631 (wo_untell S0 h.i 0 v13 v24 (v24 + v40) ⟨by omega, by omega⟩ ⟨by omega, by omega⟩ ⟨by omega, by omega⟩ ⟨by omega, by omega⟩) rfl (Nat.le_of_ble_eq_true rfl) (Nat.le_of_ble_eq_true rfl) (by decide) (by omega) (by omega) (fun _ q => by obtain ⟨_, _, _, _, _, q, _⟩ := q; cases q) (fun _ _ q => ?_) (fun _ _ q => by obtain ⟨_, _, _, _, _, q, _⟩ := q; cases q)
        obtain ⟨S1, D, kk, vv, rfl, yy, qq, cb, em, ji, hR⟩ := q
        cases yy
        rcases hR with ⟨rfl, g1, g2, g3, rfl, hD⟩ | ⟨rfl, g1, -⟩ | ⟨rfl, g1, g2, -⟩ | ⟨rfl, g1, g2, g3, -⟩
        rotate_left
        · exfalso; omega
        · exfalso; omega
        · exfalso; omega
        have hD2 : sApp S0 0 0 0 v13 v24 (v24 + v40) (-1) = D := by rw [h7] at hD; exact hD
        have tl : Told S0 D 0 0 v13 v24 (v24 + v40) := by rw [← hD2]; exact told_app S0 0 0 v13 v24 (v24 + v40) (-1)
        have e50 : S1.1 (50, 0, 0) 0 = (S0.1 (9, 0, 0) 3) := (congrFun (told_50 em qq) 0).trans n0
        have hl := h.told tl (by omega) em qq cb ji (Or.inl rfl) (Or.inl rfl) ⟨by omega, by omega⟩ ⟨by omega, by omega⟩ ⟨by omega, by omega⟩
        refine x_top (show _ = (S0.1 (9, 0, 0) 3) + 1 from by rw [if_pos rfl]) ?_
        refine x_istore (L' := [xR (0, 0, 0), xR (50, 0, 0), xR (99, 0, 0), xI i, xI 0, xI v4, xI v13, xI v24, xI (v24 + v40), xI 0, xI ((S0.1 (9, 0, 0) 3) + 1), none, none, none]) dL_isTelling_150 (by decide) rfl ?_
        refine x_iload dL_isTelling_152 rfl ?_
        refine x_if_ne (tgt := 171) dL_isTelling_154 (by decide) ⟨by decide, by decide⟩ (fun z => absurd z (by decide)) (fun _ => ?_)
        refine x_aload_n dL_isTelling_157 rfl ?_
        refine x_iload dL_isTelling_158 rfl ?_
        refine x_iconst dL_isTelling_160 ?_
        refine x_iload dL_isTelling_161 rfl ?_
        refine x_iload dL_isTelling_163 rfl ?_
        refine x_iload dL_isTelling_165 rfl ?_
        refine x_iconst dL_isTelling_167 ?_
        refine x_callS_v (a := 0) (b := 0) (as := [xR (50, 0, 0), xI 0, xI 0, xI v13, xI v24, xI (v24 + v40), xI 0]) (rest := []) ok_L_tells dL_isTelling_168 wd855 wd856 (c_tells S1 cb.1 (S0.1 (9, 0, 0) 3) e50 (by omega) (by omega) 0 v13 v24 (v24 + v40) 0 ⟨by omega, by omega⟩ ⟨by omega, by omega⟩ ⟨by omega, by omega⟩ ⟨by omega, by omega⟩ ⟨by omega, by omega⟩) rfl (Nat.le_of_ble_eq_true rfl) (Nat.le_of_ble_eq_true rfl) (by decide) (by omega) (by omega) ?_
        refine x_iload dL_isTelling_171 rfl ?_
        refine x_iload dL_isTelling_173 rfl ?_
        refine x_if_eq (tgt := 183) dL_isTelling_175 (by decide) ⟨by decide, by decide⟩ (fun _ => ?_) (fun z => absurd z (by decide))
        refine x_aload_n dL_isTelling_183 rfl ?_
        refine x_iload dL_isTelling_184 rfl ?_
        refine x_aldi (f := (sTl S1 (S0.1 (9, 0, 0) 3) 0 v13 v24 (v24 + v40) 0).1 (50, 0, 0)) dL_isTelling_186 (hp50 (sTl S1 (S0.1 (9, 0, 0) 3) 0 v13 v24 (v24 + v40) 0)) (show (50 : Nat) ≠ 99 by decide) (by omega) (by omega) (by decide) ?_
        refine x_top (show (sTl S1 (S0.1 (9, 0, 0) 3) 0 v13 v24 (v24 + v40) 0).1 (50, 0, 0) 0 = (S0.1 (9, 0, 0) 3) + 1 from by rw [sTl_50, if_pos rfl]) ?_
        refine x_icmp_ne (tgt := 194) dL_isTelling_187 (by decide) (by first | exact hz _ _ | exact hw.1 _ _ | exact zR_of _ | exact bI_z _ | assumption | exact ⟨by omega, by omega⟩) (by first | exact hz _ _ | exact hw.1 _ _ | exact zR_of _ | exact bI_z _ | assumption | exact ⟨by omega, by omega⟩) (fun c187 => by exfalso; omega) (fun c187 => ?_)
        refine x_iconst dL_isTelling_190 ?_
        refine x_goto (tgt := 195) dL_isTelling_191 (by decide) ?_
        exact x_zret dL_isTelling_195 rfl (Or.inr rfl) (pTg.mk hl tl qq em)
  · refine x_aload_n dL_isTelling_68 rfl ?_
    refine x_iload dL_isTelling_69 rfl ?_
    refine x_iload dL_isTelling_71 rfl ?_
    refine x_iload dL_isTelling_73 rfl ?_
    refine x_iload dL_isTelling_75 rfl ?_
    refine x_callSH (a := 6) (b := 36) (as := [xR (0, 0, 0), xI 0, xI v13, xI v24, xI (v24 + v40)]) (rest := []) ok_L_tell dL_isTelling_77 wd421 wd422 (wo_tell S0 h.i 0 v13 v24 (v24 + v40) ⟨by omega, by omega⟩ ⟨by omega, by omega⟩ ⟨by omega, by omega⟩ ⟨by omega, by omega⟩) rfl (Nat.le_of_ble_eq_true rfl) (Nat.le_of_ble_eq_true rfl) (by decide) (by omega) (by omega) (fun _ q => by obtain ⟨_, _, _, _, _, q, _⟩ := q; cases q) (fun _ _ q => ?_) (fun _ _ q => by obtain ⟨_, _, _, _, _, q, _⟩ := q; cases q)
    obtain ⟨S1, D, kk, vv, rfl, yy, qq, cb, em, ji, hR⟩ := q
    cases yy
    have rv : bI (Riv S0.1 0 v13 v24 (v24 + v40)) = 0 := bI_f (fun z => z.1 (hu _))
    rcases hR with ⟨rfl, g1, g2, g3, g4, rfl, hD⟩ | ⟨rfl, g1, -⟩ | ⟨rfl, g1, g2, -⟩ | ⟨rfl, g1, g2, g3, -⟩ | ⟨rfl, g1, g2, g3, g4, -⟩
    rotate_left
    · exfalso; omega
    · exfalso; omega
    · exfalso; omega
    · exfalso; omega
    have hD2 : sApp S0 0 0 1 v13 v24 (v24 + v40) (-1) = D := by rw [h7] at hD; exact hD
    have tl : Told S0 D 0 1 v13 v24 (v24 + v40) := by rw [← hD2]; exact told_app S0 0 1 v13 v24 (v24 + v40) (-1)
    have e50 : S1.1 (50, 0, 0) 0 = (S0.1 (9, 0, 0) 3) := (congrFun (told_50 em qq) 0).trans n0
    have hl := h.told tl (by omega) em qq cb ji (Or.inl rfl) (Or.inr rfl) ⟨by omega, by omega⟩ ⟨by omega, by omega⟩ ⟨by omega, by omega⟩
    refine x_top (show _ = (S0.1 (9, 0, 0) 3) + 1 from by rw [if_pos rfl]) ?_
    refine x_istore (L' := [xR (0, 0, 0), xR (50, 0, 0), xR (99, 0, 0), xI i, xI 0, xI v4, xI v13, xI v24, xI (v24 + v40), xI 0, xI ((S0.1 (9, 0, 0) 3) + 1), none, none, none]) dL_isTelling_80 (by decide) rfl ?_
    refine x_iload dL_isTelling_82 rfl ?_
    refine x_if_ne (tgt := 101) dL_isTelling_84 (by decide) ⟨by decide, by decide⟩ (fun z => absurd z (by decide)) (fun _ => ?_)
    refine x_aload_n dL_isTelling_87 rfl ?_
    refine x_iload dL_isTelling_88 rfl ?_
    refine x_iconst dL_isTelling_90 ?_
    refine x_iload dL_isTelling_91 rfl ?_
    refine x_iload dL_isTelling_93 rfl ?_
    refine x_iload dL_isTelling_95 rfl ?_
    refine x_iconst dL_isTelling_97 ?_
    refine x_callS_v (a := 0) (b := 0) (as := [xR (50, 0, 0), xI 0, xI 1, xI v13, xI v24, xI (v24 + v40), xI 0]) (rest := []) ok_L_tells dL_isTelling_98 wd855 wd856 (c_tells S1 cb.1 (S0.1 (9, 0, 0) 3) e50 (by omega) (by omega) 1 v13 v24 (v24 + v40) 0 ⟨by omega, by omega⟩ ⟨by omega, by omega⟩ ⟨by omega, by omega⟩ ⟨by omega, by omega⟩ ⟨by omega, by omega⟩) rfl (Nat.le_of_ble_eq_true rfl) (Nat.le_of_ble_eq_true rfl) (by decide) (by omega) (by omega) ?_
    refine x_iload dL_isTelling_101 rfl ?_
    refine x_iload dL_isTelling_103 rfl ?_
    refine x_if_eq (tgt := 113) dL_isTelling_105 (by decide) ⟨by decide, by decide⟩ (fun _ => ?_) (fun z => absurd z (by decide))
    refine x_aload_n dL_isTelling_113 rfl ?_
    refine x_iload dL_isTelling_114 rfl ?_
    refine x_aldi (f := (sTl S1 (S0.1 (9, 0, 0) 3) 1 v13 v24 (v24 + v40) 0).1 (50, 0, 0)) dL_isTelling_116 (hp50 (sTl S1 (S0.1 (9, 0, 0) 3) 1 v13 v24 (v24 + v40) 0)) (show (50 : Nat) ≠ 99 by decide) (by omega) (by omega) (by decide) ?_
    refine x_top (show (sTl S1 (S0.1 (9, 0, 0) 3) 1 v13 v24 (v24 + v40) 0).1 (50, 0, 0) 0 = (S0.1 (9, 0, 0) 3) + 1 from by rw [sTl_50, if_pos rfl]) ?_
    refine x_icmp_ne (tgt := 124) dL_isTelling_117 (by decide) (by first | exact hz _ _ | exact hw.1 _ _ | exact zR_of _ | exact bI_z _ | assumption | exact ⟨by omega, by omega⟩) (by first | exact hz _ _ | exact hw.1 _ _ | exact zR_of _ | exact bI_z _ | assumption | exact ⟨by omega, by omega⟩) (fun c117 => by exfalso; omega) (fun c117 => ?_)
    refine x_iconst dL_isTelling_120 ?_
    refine x_goto (tgt := 125) dL_isTelling_121 (by decide) ?_
    exact x_zret dL_isTelling_125 rfl (Or.inr rfl) (pTg.mk hl tl qq em)
