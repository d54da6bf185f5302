/-! the reference: a rule in all ways -/
theorem dig_tab : ∀ w : Fin 512, zAnd (zShr (w.val : Int) 6) 7 = ((w.val / 64 : Nat) : Int) ∧ zAnd (zShr (w.val : Int) 3) 7 = ((w.val / 8 % 8 : Nat) : Int) ∧ zAnd (zShr (w.val : Int) 0) 7 = ((w.val % 8 : Nat) : Int) := by decide +kernel
theorem idl_tab : ∀ m ∈ ([0, 7, 56, 63, 448, 455, 504, 511] : List Int), ∀ w : Fin 512, (zAnd (w.val : Int) m = 0 ↔ (zAnd m (zShl 7 6) = 0 ∨ w.val / 64 = 0) ∧ (zAnd m (zShl 7 3) = 0 ∨ w.val / 8 % 8 = 0) ∧ (zAnd m (zShl 7 0) = 0 ∨ w.val % 8 = 0)) := by decide +kernel
/-- the way that the things make -/
def wG (g : Int → Int) : Int := 64 * g 0 + 8 * g 1 + g 2
theorem dig_w {a b c : Int} (ha : 0 ≤ a ∧ a ≤ 7) (hb : 0 ≤ b ∧ b ≤ 7) (hc : 0 ≤ c ∧ c ≤ 7) : zAnd (zShr (64 * a + 8 * b + c) 6) 7 = a ∧ zAnd (zShr (64 * a + 8 * b + c) 3) 7 = b ∧ zAnd (zShr (64 * a + 8 * b + c) 0) 7 = c := by
  have h := dig_tab ⟨(64 * a + 8 * b + c).toNat, by omega⟩
  have e : (((64 * a + 8 * b + c).toNat : Nat) : Int) = 64 * a + 8 * b + c := by omega
  simp only [e] at h
  obtain ⟨h1, h2, h3⟩ := h
  exact ⟨by omega, by omega, by omega⟩
theorem dig_g {g : Int → Int} (hg : ∀ k, 0 ≤ g k ∧ g k ≤ 7) {s v : Int} (hs : s = 3 * (2 - v)) (v0 : 0 ≤ v) (v1 : v ≤ 2) : zAnd (zShr (wG g) s) 7 = g v := by
  have h := dig_w (hg 0) (hg 1) (hg 2)
  have : v = 0 ∨ v = 1 ∨ v = 2 := by omega
  rcases this with rfl | rfl | rfl <;> subst hs
  · exact h.1
  · exact h.2.1
  · exact h.2.2
theorem pair_g (f : XL → Int → Int) {l : XL} {g : Int → Int} (hg : ∀ k, 0 ≤ g k ∧ g k ≤ 7) {v u : Int} (hv : f l 2 = 3 * (2 - v) ∧ 0 ≤ v ∧ v ≤ 2) (hu : f l 3 = 3 * (2 - u) ∧ 0 ≤ u ∧ u ≤ 2) : pairF f l (wG g) = 8 * g v + g u := by
  unfold pairF
  rw [dig_g hg hv.1 hv.2.1 hv.2.2, dig_g hg hu.1 hu.2.1 hu.2.2]
def wayI (b c j : Int) : Int := 64 * (j / (b * c)) + 8 * (j / c % b) + j % c
theorem ways_in {a b c j : Int} (ha : a = 1 ∨ a = 8) (hb : b = 1 ∨ b = 8) (hc : c = 1 ∨ c = 8) (j0 : 0 ≤ j) (j1 : j < a * b * c) : (0 ≤ j / (b * c) ∧ j / (b * c) ≤ 7) ∧ (0 ≤ j / c % b ∧ j / c % b ≤ 7) ∧ (0 ≤ j % c ∧ j % c ≤ 7) ∧ (a = 1 → j / (b * c) = 0) ∧ (b = 1 → j / c % b = 0) ∧ (c = 1 → j % c = 0) := by
  rcases ha with rfl | rfl <;> rcases hb with rfl | rfl <;> rcases hc with rfl | rfl <;> refine ⟨?_, ?_, ?_, ?_, ?_, ?_⟩ <;> omega
theorem ways_abc {a b c : Int} (ha : a = 1 ∨ a = 8) (hb : b = 1 ∨ b = 8) (hc : c = 1 ∨ c = 8) : 1 ≤ b * c ∧ b * c ≤ 64 ∧ 1 ≤ a * b * c ∧ a * b * c ≤ 512 := by
  rcases ha with rfl | rfl <;> rcases hb with rfl | rfl <;> rcases hc with rfl | rfl <;> refine ⟨?_, ?_, ?_, ?_⟩ <;> omega
theorem idl_w {m : Int} (hm : IdOk m) {x y z : Int} (hx : 0 ≤ x ∧ x ≤ 7) (hy : 0 ≤ y ∧ y ≤ 7) (hz : 0 ≤ z ∧ z ≤ 7) : zAnd (64 * x + 8 * y + z) m = 0 ↔ (zAnd m (zShl 7 6) = 0 ∨ x = 0) ∧ (zAnd m (zShl 7 3) = 0 ∨ y = 0) ∧ (zAnd m (zShl 7 0) = 0 ∨ z = 0) := by
  have h := idl_tab m (IdOk_mem.mp hm) ⟨(64 * x + 8 * y + z).toNat, by omega⟩
  have e : (((64 * x + 8 * y + z).toNat : Nat) : Int) = 64 * x + 8 * y + z := by omega
  simp only [e] at h
  rw [h]
  have e1 : (64 * x + 8 * y + z).toNat / 64 = 0 ↔ x = 0 := by omega
  have e2 : (64 * x + 8 * y + z).toNat / 8 % 8 = 0 ↔ y = 0 := by omega
  have e3 : (64 * x + 8 * y + z).toNat % 8 = 0 ↔ z = 0 := by omega
  rw [e1, e2, e3]
theorem way_ok {m a b c j : Int} (hm : IdOk m) (ha : a = 1 ∧ zAnd m (zShl 7 6) ≠ 0 ∨ a = 8 ∧ zAnd m (zShl 7 6) = 0) (hb : b = 1 ∧ zAnd m (zShl 7 3) ≠ 0 ∨ b = 8 ∧ zAnd m (zShl 7 3) = 0) (hc : c = 1 ∧ zAnd m (zShl 7 0) ≠ 0 ∨ c = 8 ∧ zAnd m (zShl 7 0) = 0) (j0 : 0 ≤ j) (j1 : j < a * b * c) : zAnd (wayI b c j) m = 0 ∧ 0 ≤ wayI b c j ∧ wayI b c j ≤ 511 := by
  obtain ⟨h1, h2, h3, h4, h5, h6⟩ := ways_in (ha.imp (fun z => z.1) (fun z => z.1)) (hb.imp (fun z => z.1) (fun z => z.1)) (hc.imp (fun z => z.1) (fun z => z.1)) j0 j1
  refine ⟨(idl_w hm h1 h2 h3).mpr ⟨?_, ?_, ?_⟩, ?_⟩
  · exact ha.elim (fun z => Or.inr (h4 z.1)) (fun z => Or.inl z.2)
  · exact hb.elim (fun z => Or.inr (h5 z.1)) (fun z => Or.inl z.2)
  · exact hc.elim (fun z => Or.inr (h6 z.1)) (fun z => Or.inl z.2)
  · unfold wayI; omega
theorem way_all {m a b c w : Int} (hm : IdOk m) (ha : a = 1 ∧ zAnd m (zShl 7 6) ≠ 0 ∨ a = 8 ∧ zAnd m (zShl 7 6) = 0) (hb : b = 1 ∧ zAnd m (zShl 7 3) ≠ 0 ∨ b = 8 ∧ zAnd m (zShl 7 3) = 0) (hc : c = 1 ∧ zAnd m (zShl 7 0) ≠ 0 ∨ c = 8 ∧ zAnd m (zShl 7 0) = 0) (w0 : 0 ≤ w) (w1 : w ≤ 511) (h : zAnd w m = 0) : ∃ j : Nat, (j : Int) < a * b * c ∧ wayI b c j = w := by
  obtain ⟨x, y, z, hx, hy, hz, rfl⟩ : ∃ x y z : Int, (0 ≤ x ∧ x ≤ 7) ∧ (0 ≤ y ∧ y ≤ 7) ∧ (0 ≤ z ∧ z ≤ 7) ∧ w = 64 * x + 8 * y + z := ⟨w / 64, w / 8 % 8, w % 8, by omega, by omega, by omega, by omega⟩
  obtain ⟨h1, h2, h3⟩ := (idl_w hm hx hy hz).mp h
  have a2 : a = 1 ∧ x = 0 ∨ a = 8 := ha.elim (fun q => Or.inl ⟨q.1, h1.elim (fun y => absurd y q.2) id⟩) (fun q => Or.inr q.1)
  have b2 : b = 1 ∧ y = 0 ∨ b = 8 := hb.elim (fun q => Or.inl ⟨q.1, h2.elim (fun y => absurd y q.2) id⟩) (fun q => Or.inr q.1)
  have c2 : c = 1 ∧ z = 0 ∨ c = 8 := hc.elim (fun q => Or.inl ⟨q.1, h3.elim (fun y => absurd y q.2) id⟩) (fun q => Or.inr q.1)
  clear ha hb hc h h1 h2 h3
  unfold wayI
  rcases a2 with ⟨rfl, rfl⟩ | rfl <;> rcases b2 with ⟨rfl, rfl⟩ | rfl <;> rcases c2 with ⟨rfl, rfl⟩ | rfl
  · exact ⟨0, by omega, by omega⟩
  · exact ⟨z.toNat, by omega, by omega⟩
  · exact ⟨y.toNat, by omega, by omega⟩
  · exact ⟨(8 * y + z).toNat, by omega, by omega⟩
  · exact ⟨x.toNat, by omega, by omega⟩
  · exact ⟨(8 * x + z).toNat, by omega, by omega⟩
  · exact ⟨(8 * x + y).toNat, by omega, by omega⟩
  · exact ⟨(64 * x + 8 * y + z).toNat, by omega, by omega⟩
set_option maxHeartbeats 4000000 in
set_option maxRecDepth 100000 in
theorem m_factOf (S : XS) (x y z : Int) (hx : 0 ≤ x ∧ x ≤ 5) (hy : 0 ≤ y ∧ y ≤ 7) (hz0 : 0 ≤ z ∧ z ≤ 7) : X mX9_factOf 0 (xEnt mX9_factOf [xI x, xI y, xI z]) [] (hp S) 0 0 (pRet (xI (64 * x + 8 * y + z)) (hp S)) := by
  show X mX9_factOf 0 [xI x, xI y, xI z] [] (hp S) 0 0 _
  refine x_bipush (v := 64) dX9_factOf_0 (by decide) ?_
  refine x_iload_n dX9_factOf_2 rfl ?_
  refine x_imul dX9_factOf_3 ?_
  refine x_bipush (v := 8) dX9_factOf_4 (by decide) ?_
  refine x_iload_n dX9_factOf_6 rfl ?_
  refine x_imul dX9_factOf_7 ?_
  refine x_iadd dX9_factOf_8 ?_
  refine x_iload_n dX9_factOf_9 rfl ?_
  refine x_iadd dX9_factOf_10 ?_
  exact x_iret dX9_factOf_11 rfl (pRI (by first | rfl | omega | (split <;> omega) | simp_all))
set_option maxHeartbeats 4000000 in
set_option maxRecDepth 100000 in
theorem m_factAt (C S : XS) (hC : WI C) (hw : WI S) (hr : MRr C S) (r c : Int) (r0 : 0 ≤ r) (r1 : r < C.1 (4, 0, 0) 2) (c0 : 0 ≤ c) (c1 : c < C.1 (34, r, 0) 2) : X mX9_factAt 0 (xEnt mX9_factAt [xR (50, 0, 0), xI r, xI c]) [] (hp S) 0 0 (pRet (xI (cfact C.1 r (wG (S.1 (74, 0, 0))) c)) (hp S)) := by
  have c4 := wf4_2 hC
  have c34 := wf34_2 hC r0 (show r < 10 by omega)
  obtain ⟨-, -, -, -, -, q6, -⟩ := hr r r0 r1
  obtain ⟨u1, u2, u3, u4⟩ := q6 c c0 c1
  have hz := hw.1
  have pg := pair_g C.1 (l := (36, r, c)) (fun k => wfa74 hw k) u2 u3
  show X mX9_factAt 0 [xR (50, 0, 0), xI r, xI c, none] [] (hp S) 0 0 _
  refine x_bipush (v := 9) dX9_factAt_0 (by decide) ?_
  refine x_iload_n dX9_factAt_2 rfl ?_
  refine x_imul dX9_factAt_3 ?_
  refine x_iconst dX9_factAt_4 ?_
  refine x_iload_n dX9_factAt_5 rfl ?_
  refine x_imul dX9_factAt_6 ?_
  refine x_iadd dX9_factAt_7 ?_
  refine x_istore_n (L' := [xR (50, 0, 0), xI r, xI c, xI ((9 * r) + (3 * c))]) dX9_factAt_8 (by decide) rfl ?_
  refine x_aload_n dX9_factAt_9 rfl ?_
  refine x_get (v := xR (63, 0, 0)) dX9_factAt_10 fl_RX9_52 (hp50 S) rfl ?_
  refine x_iload_n dX9_factAt_13 rfl ?_
  refine x_aldi (f := S.1 (63, 0, 0)) dX9_factAt_14 (hp63 S) (show (63 : Nat) ≠ 99 by decide) (by omega) (by omega) (by decide) ?_
  have f14_1 := wfa63 hw (S := S) ((9 * r) + (3 * c))
  refine x_aload_n dX9_factAt_15 rfl ?_
  refine x_get (v := xR (74, 0, 0)) dX9_factAt_16 fl_RX9_90 (hp50 S) rfl ?_
  refine x_aload_n dX9_factAt_19 rfl ?_
  refine x_get (v := xR (63, 0, 0)) dX9_factAt_20 fl_RX9_52 (hp50 S) rfl ?_
  refine x_iload_n dX9_factAt_23 rfl ?_
  refine x_iconst dX9_factAt_24 ?_
  refine x_iadd dX9_factAt_25 ?_
  refine x_aldi (f := S.1 (63, 0, 0)) dX9_factAt_26 (hp63 S) (show (63 : Nat) ≠ 99 by decide) (by omega) (by omega) (by decide) ?_
  have f26_2 := wfa63 hw (S := S) (((9 * r) + (3 * c)) + 1)
  refine x_aldi (f := S.1 (74, 0, 0)) dX9_factAt_27 (hp74 S) (show (74 : Nat) ≠ 99 by decide) (by omega) (by omega) (by decide) ?_
  have f27_3 := wfa74 hw (S := S) (S.1 (63, 0, 0) (((9 * r) + (3 * c)) + 1))
  refine x_aload_n dX9_factAt_28 rfl ?_
  refine x_get (v := xR (74, 0, 0)) dX9_factAt_29 fl_RX9_90 (hp50 S) rfl ?_
  refine x_aload_n dX9_factAt_32 rfl ?_
  refine x_get (v := xR (63, 0, 0)) dX9_factAt_33 fl_RX9_52 (hp50 S) rfl ?_
  refine x_iload_n dX9_factAt_36 rfl ?_
  refine x_iconst dX9_factAt_37 ?_
  refine x_iadd dX9_factAt_38 ?_
  refine x_aldi (f := S.1 (63, 0, 0)) dX9_factAt_39 (hp63 S) (show (63 : Nat) ≠ 99 by decide) (by omega) (by omega) (by decide) ?_
  have f39_4 := wfa63 hw (S := S) (((9 * r) + (3 * c)) + 2)
  refine x_aldi (f := S.1 (74, 0, 0)) dX9_factAt_40 (hp74 S) (show (74 : Nat) ≠ 99 by decide) (by omega) (by omega) (by decide) ?_
  have f40_5 := wfa74 hw (S := S) (S.1 (63, 0, 0) (((9 * r) + (3 * c)) + 2))
  refine x_callS_r (a := 0) (b := 0) (as := [xI (S.1 (63, 0, 0) ((9 * r) + (3 * c))), xI (S.1 (74, 0, 0) (S.1 (63, 0, 0) (((9 * r) + (3 * c)) + 1))), xI (S.1 (74, 0, 0) (S.1 (63, 0, 0) (((9 * r) + (3 * c)) + 2)))]) (rest := []) ok_X9_factOf dX9_factAt_41 wd1270 wd1271 (m_factOf S (S.1 (63, 0, 0) ((9 * r) + (3 * c))) (S.1 (74, 0, 0) (S.1 (63, 0, 0) (((9 * r) + (3 * c)) + 1))) (S.1 (74, 0, 0) (S.1 (63, 0, 0) (((9 * r) + (3 * c)) + 2))) (by omega) (by omega) (by omega)) rfl (Nat.le_of_ble_eq_true rfl) (Nat.le_of_ble_eq_true rfl) (by decide) (by omega) (by omega) ?_
  exact x_iret dX9_factAt_44 rfl (pRI (by unfold cfact; rw [pg, ← u1]; omega))
theorem cfact_in {C : XS} (hC : WI C) {r : Int} (r0 : 0 ≤ r) (r1 : r < C.1 (4, 0, 0) 2) (hR : RuleOk C.1 r) {c : Int} (c0 : 0 ≤ c) (c1 : c < C.1 (34, r, 0) 2) {w : Int} (w0 : 0 ≤ w) (w1 : w ≤ 511) : 0 ≤ cfact C.1 r w c ∧ cfact C.1 r w c < 384 := by
  obtain ⟨n, rfl⟩ := Int.eq_ofNat_of_zero_le r0
  obtain ⟨i, rfl⟩ := Int.eq_ofNat_of_zero_le c0
  have a := dl_rel hC r1 c1
  have b := pairF_in C.1 (36, n, i) (hR.2.2 i c1) w w0 w1
  unfold cfact
  omega
theorem hfact_in {C : XS} (hC : WI C) {r : Int} (r0 : 0 ≤ r) (r1 : r < C.1 (4, 0, 0) 2) (hR : RuleOk C.1 r) {w : Int} (w0 : 0 ≤ w) (w1 : w ≤ 511) : 0 ≤ hfact C.1 r w ∧ hfact C.1 r w < 384 := by
  have c4 := wf4_2 hC
  have a := wf37_0 hC (b := r) (by omega) (by omega)
  have b := pairF_in C.1 (37, r, 0) hR.2.1 w w0 w1
  unfold hfact
  omega
theorem wG_in {g : Int → Int} (hg : ∀ k, 0 ≤ g k ∧ g k ≤ 7) : 0 ≤ wG g ∧ wG g ≤ 511 := by
  have a := hg 0
  have b := hg 1
  have c := hg 2
  unfold wG
  omega
theorem gvN_s {f : XL → Int → Int} {rk : Int → Int} {r w : Int} (c : Nat) : gvN f rk r w (c + 1) = if f (36, r, c) 1 = 0 then (if gvN f rk r w c < rk (cfact f r w c) then rk (cfact f r w c) else gvN f rk r w c) else if rk (cfact f r w c) < 9999 then 9999 else gvN f rk r w c := rfl
set_option maxHeartbeats 4000000 in
set_option maxRecDepth 100000 in
theorem l_given (C S : XS) (hC : WI C) (hw : WI S) (hr : MRr C S) (r : Int) (r0 : 0 ≤ r) (r1 : r < C.1 (4, 0, 0) 2) (hR : RuleOk C.1 r) (n : Nat) (hn : C.1 (34, r, 0) 2 = n) : ∀ (nn : Nat) (i : Nat), (n : Int) - i < (nn : Int) → (i ≤ n) → X mX9_given 4 [xR (50, 0, 0), xI r, xI (gvN C.1 (S.1 (73, 0, 0)) r (wG (S.1 (74, 0, 0))) i), xI (i : Int), none] [] (hp S) 0 0 (pRet (xI (gvV C.1 (S.1 (73, 0, 0)) r (wG (S.1 (74, 0, 0))) n)) (hp S)) := by
  intro nn
  induction nn with
  | zero => intro i hm hi; exfalso; omega
  | succ nn ih =>
    intro i hm hi
    have c4 := wf4_2 hC
    have c34 := wf34_2 hC r0 (show r < 10 by omega)
    obtain ⟨-, -, -, q4, -, q6, -⟩ := hr r r0 r1
    have hz := hw.1
    have gw := wG_in (g := S.1 (74, 0, 0)) (fun k => wfa74 hw k)
    have gn := gvN_in (f := C.1) (rk := S.1 (73, 0, 0)) (fun k => wfa73 hw k) r (wG (S.1 (74, 0, 0))) i
    refine x_iload_n dX9_given_4 rfl ?_
    refine x_aload_n dX9_given_5 rfl ?_
    refine x_get (v := xR (64, 0, 0)) dX9_given_6 fl_RX9_55 (hp50 S) rfl ?_
    refine x_iload_n dX9_given_9 rfl ?_
    refine x_aldi (f := S.1 (64, 0, 0)) dX9_given_10 (hp64 S) (show (64 : Nat) ≠ 99 by decide) (by omega) (by omega) (by decide) ?_
    have f10_1 := wfa64 hw (S := S) r
    refine x_icmp_ge (tgt := 76) dX9_given_11 (by decide) (by first | exact hz _ _ | exact hw.1 _ _ | exact zR_of _ | exact bI_z _ | assumption | exact ⟨by omega, by omega⟩) (by first | exact hz _ _ | exact hw.1 _ _ | exact zR_of _ | exact bI_z _ | assumption | exact ⟨by omega, by omega⟩) (fun c11 => ?_) (fun c11 => ?_)
    · refine x_iload_n dX9_given_76 rfl ?_
      refine x_sipush (v := 9999) dX9_given_77 (by decide) ?_
      refine x_icmp_lt (tgt := 89) dX9_given_80 (by decide) (by first | exact hz _ _ | exact hw.1 _ _ | exact zR_of _ | exact bI_z _ | assumption | exact ⟨by omega, by omega⟩) ⟨by decide, by decide⟩ (fun c80 => ?_) (fun c80 => ?_)
      · refine x_iload_n dX9_given_89 rfl ?_
        refine x_iconst dX9_given_90 ?_
        refine x_iadd dX9_given_91 ?_
        exact x_iret dX9_given_92 rfl (by obtain rfl : i = n := (by omega); exact pRI (by unfold gvV; first | rw [if_pos (by omega)] | rw [if_neg (by omega)]))
      · refine x_sipush (v := 9999) dX9_given_83 (by decide) ?_
        refine x_goto (tgt := 92) dX9_given_86 (by decide) ?_
        exact x_iret dX9_given_92 rfl (by obtain rfl : i = n := (by omega); exact pRI (by unfold gvV; first | rw [if_pos (by omega)] | rw [if_neg (by omega)]))
    · obtain ⟨u1, u2, u3, u4⟩ := q6 (i : Int) (by omega) (by omega)
      have cin := cfact_in hC r0 r1 hR (c := (i : Int)) (by omega) (by omega) gw.1 gw.2
      have rin := wfa73 hw (cfact C.1 r (wG (S.1 (74, 0, 0))) (i : Int))
      refine x_aload_n dX9_given_14 rfl ?_
      refine x_iload_n dX9_given_15 rfl ?_
      refine x_iload_n dX9_given_16 rfl ?_
      refine x_callV_r (a := 0) (b := 0) (as := [xI r, xI (i : Int)]) (rest := []) ok_X9_factAt dX9_given_17 wd1277 ⟨wd1279, wd33⟩ (hp50 S) rfl rfl (m_factAt C S hC hw hr r (i : Int) (by omega) (by omega) (by omega) (by omega)) rfl (Nat.le_of_ble_eq_true rfl) (Nat.le_of_ble_eq_true rfl) (by decide) (by omega) (by omega) ?_
      refine x_istore (L' := [xR (50, 0, 0), xI r, xI (gvN C.1 (S.1 (73, 0, 0)) r (wG (S.1 (74, 0, 0))) i), xI (i : Int), xI (cfact C.1 r (wG (S.1 (74, 0, 0))) (i : Int))]) dX9_given_20 (by decide) rfl ?_
      refine x_aload_n dX9_given_22 rfl ?_
      refine x_get (v := xR (65, 0, 0)) dX9_given_23 fl_RX9_58 (hp50 S) rfl ?_
      refine x_iconst dX9_given_26 ?_
      refine x_iload_n dX9_given_27 rfl ?_
      refine x_imul dX9_given_28 ?_
      refine x_iload_n dX9_given_29 rfl ?_
      refine x_iadd dX9_given_30 ?_
      refine x_aldz (f := S.1 (65, 0, 0)) dX9_given_31 (hp65 S) (show (65 : Nat) ≠ 99 by decide) (by omega) (by omega) (by decide) ?_
      have f31_2 := wfa65 hw (S := S) ((3 * r) + (i : Int))
      refine x_if_eq (tgt := 58) dX9_given_32 (by decide) (by first | exact hz _ _ | exact hw.1 _ _ | exact zR_of _ | exact bI_z _ | assumption | exact ⟨by omega, by omega⟩) (fun c32 => ?_) (fun c32 => ?_)
      · refine x_iload_n dX9_given_58 rfl ?_
        refine x_aload_n dX9_given_59 rfl ?_
        refine x_get (v := xR (73, 0, 0)) dX9_given_60 fl_RX9_87 (hp50 S) rfl ?_
        refine x_iload dX9_given_63 rfl ?_
        refine x_aldi (f := S.1 (73, 0, 0)) dX9_given_65 (hp73 S) (show (73 : Nat) ≠ 99 by decide) (by omega) (by omega) (by decide) ?_
        have f65_3 := wfa73 hw (S := S) (cfact C.1 r (wG (S.1 (74, 0, 0))) (i : Int))
        refine x_mmax dX9_given_66 wd1257 ⟨wd453, wd70, wd454⟩ (by decide) (Nat.le_of_ble_eq_true rfl) (by first | exact hz _ _ | exact hw.1 _ _ | exact zR_of _ | exact bI_z _ | assumption | exact ⟨by omega, by omega⟩) (by first | exact hz _ _ | exact hw.1 _ _ | exact zR_of _ | exact bI_z _ | assumption | exact ⟨by omega, by omega⟩) ?_
        refine x_istore_n (L' := [xR (50, 0, 0), xI r, xI (if (gvN C.1 (S.1 (73, 0, 0)) r (wG (S.1 (74, 0, 0))) i) < (S.1 (73, 0, 0) (cfact C.1 r (wG (S.1 (74, 0, 0))) (i : Int))) then (S.1 (73, 0, 0) (cfact C.1 r (wG (S.1 (74, 0, 0))) (i : Int))) else (gvN C.1 (S.1 (73, 0, 0)) r (wG (S.1 (74, 0, 0))) i)), xI (i : Int), xI (cfact C.1 r (wG (S.1 (74, 0, 0))) (i : Int))]) dX9_given_69 (by decide) rfl ?_
        refine x_iinc (L' := [xR (50, 0, 0), xI r, xI (if (gvN C.1 (S.1 (73, 0, 0)) r (wG (S.1 (74, 0, 0))) i) < (S.1 (73, 0, 0) (cfact C.1 r (wG (S.1 (74, 0, 0))) (i : Int))) then (S.1 (73, 0, 0) (cfact C.1 r (wG (S.1 (74, 0, 0))) (i : Int))) else (gvN C.1 (S.1 (73, 0, 0)) r (wG (S.1 (74, 0, 0))) i)), xI ((i : Int) + 1), xI (cfact C.1 r (wG (S.1 (74, 0, 0))) (i : Int))]) dX9_given_70 rfl rfl ?_
        refine x_goto (tgt := 4) dX9_given_73 (by decide) ?_
        refine X.loc (L' := [xR (50, 0, 0), xI r, xI (if (gvN C.1 (S.1 (73, 0, 0)) r (wG (S.1 (74, 0, 0))) i) < (S.1 (73, 0, 0) (cfact C.1 r (wG (S.1 (74, 0, 0))) (i : Int))) then (S.1 (73, 0, 0) (cfact C.1 r (wG (S.1 (74, 0, 0))) (i : Int))) else (gvN C.1 (S.1 (73, 0, 0)) r (wG (S.1 (74, 0, 0))) i)), xI ((i : Int) + 1), none]) ⟨rfl, ⟨rfl, ⟨rfl, ⟨rfl, trivial⟩⟩⟩⟩ ?_
        have kk := ih (i + 1) (by omega) (by omega)
        rw [show gvN C.1 (S.1 (73, 0, 0)) r (wG (S.1 (74, 0, 0))) (i + 1) = if (gvN C.1 (S.1 (73, 0, 0)) r (wG (S.1 (74, 0, 0))) i) < (S.1 (73, 0, 0) (cfact C.1 r (wG (S.1 (74, 0, 0))) (i : Int))) then (S.1 (73, 0, 0) (cfact C.1 r (wG (S.1 (74, 0, 0))) (i : Int))) else (gvN C.1 (S.1 (73, 0, 0)) r (wG (S.1 (74, 0, 0))) i) from by rw [gvN_s]; first | (rw [if_pos (by omega)]; done) | (rw [if_pos (by omega)]; first | rw [if_pos (by omega)] | rw [if_neg (by omega)]) | (rw [if_neg (by omega)]; first | rw [if_pos (by omega)] | rw [if_neg (by omega)])] at kk
        exact kk
      · refine x_aload_n dX9_given_35 rfl ?_
        refine x_get (v := xR (73, 0, 0)) dX9_given_36 fl_RX9_87 (hp50 S) rfl ?_
        refine x_iload dX9_given_39 rfl ?_
        refine x_aldi (f := S.1 (73, 0, 0)) dX9_given_41 (hp73 S) (show (73 : Nat) ≠ 99 by decide) (by omega) (by omega) (by decide) ?_
        have f41_4 := wfa73 hw (S := S) (cfact C.1 r (wG (S.1 (74, 0, 0))) (i : Int))
        refine x_sipush (v := 9999) dX9_given_42 (by decide) ?_
        refine x_icmp_ge (tgt := 54) dX9_given_45 (by decide) (by first | exact hz _ _ | exact hw.1 _ _ | exact zR_of _ | exact bI_z _ | assumption | exact ⟨by omega, by omega⟩) ⟨by decide, by decide⟩ (fun c45 => ?_) (fun c45 => ?_)
        · refine x_iload_n dX9_given_54 rfl ?_
          refine x_goto (tgt := 69) dX9_given_55 (by decide) ?_
          refine x_istore_n (L' := [xR (50, 0, 0), xI r, xI (gvN C.1 (S.1 (73, 0, 0)) r (wG (S.1 (74, 0, 0))) i), xI (i : Int), xI (cfact C.1 r (wG (S.1 (74, 0, 0))) (i : Int))]) dX9_given_69 (by decide) rfl ?_
          refine x_iinc (L' := [xR (50, 0, 0), xI r, xI (gvN C.1 (S.1 (73, 0, 0)) r (wG (S.1 (74, 0, 0))) i), xI ((i : Int) + 1), xI (cfact C.1 r (wG (S.1 (74, 0, 0))) (i : Int))]) dX9_given_70 rfl rfl ?_
          refine x_goto (tgt := 4) dX9_given_73 (by decide) ?_
          refine X.loc (L' := [xR (50, 0, 0), xI r, xI (gvN C.1 (S.1 (73, 0, 0)) r (wG (S.1 (74, 0, 0))) i), xI ((i : Int) + 1), none]) ⟨rfl, ⟨rfl, ⟨rfl, ⟨rfl, trivial⟩⟩⟩⟩ ?_
          have kk := ih (i + 1) (by omega) (by omega)
          rw [show gvN C.1 (S.1 (73, 0, 0)) r (wG (S.1 (74, 0, 0))) (i + 1) = gvN C.1 (S.1 (73, 0, 0)) r (wG (S.1 (74, 0, 0))) i from by rw [gvN_s]; first | (rw [if_pos (by omega)]; done) | (rw [if_pos (by omega)]; first | rw [if_pos (by omega)] | rw [if_neg (by omega)]) | (rw [if_neg (by omega)]; first | rw [if_pos (by omega)] | rw [if_neg (by omega)])] at kk
          exact kk
        · refine x_sipush (v := 9999) dX9_given_48 (by decide) ?_
          refine x_goto (tgt := 69) dX9_given_51 (by decide) ?_
          refine x_istore_n (L' := [xR (50, 0, 0), xI r, xI 9999, xI (i : Int), xI (cfact C.1 r (wG (S.1 (74, 0, 0))) (i : Int))]) dX9_given_69 (by decide) rfl ?_
          refine x_iinc (L' := [xR (50, 0, 0), xI r, xI 9999, xI ((i : Int) + 1), xI (cfact C.1 r (wG (S.1 (74, 0, 0))) (i : Int))]) dX9_given_70 rfl rfl ?_
          refine x_goto (tgt := 4) dX9_given_73 (by decide) ?_
          refine X.loc (L' := [xR (50, 0, 0), xI r, xI 9999, xI ((i : Int) + 1), none]) ⟨rfl, ⟨rfl, ⟨rfl, ⟨rfl, trivial⟩⟩⟩⟩ ?_
          have kk := ih (i + 1) (by omega) (by omega)
          rw [show gvN C.1 (S.1 (73, 0, 0)) r (wG (S.1 (74, 0, 0))) (i + 1) = 9999 from by rw [gvN_s]; first | (rw [if_pos (by omega)]; done) | (rw [if_pos (by omega)]; first | rw [if_pos (by omega)] | rw [if_neg (by omega)]) | (rw [if_neg (by omega)]; first | rw [if_pos (by omega)] | rw [if_neg (by omega)])] at kk
          exact kk
set_option maxHeartbeats 4000000 in
set_option maxRecDepth 100000 in
theorem m_given (C S : XS) (hC : WI C) (hw : WI S) (hr : MRr C S) (r : Int) (r0 : 0 ≤ r) (r1 : r < C.1 (4, 0, 0) 2) (hR : RuleOk C.1 r) (n : Nat) (hn : C.1 (34, r, 0) 2 = n) : X mX9_given 0 (xEnt mX9_given [xR (50, 0, 0), xI r]) [] (hp S) 0 0 (pRet (xI (gvV C.1 (S.1 (73, 0, 0)) r (wG (S.1 (74, 0, 0))) n)) (hp S)) := by
  show X mX9_given 0 [xR (50, 0, 0), xI r, none, none, none] [] (hp S) 0 0 _
  refine x_iconst dX9_given_0 ?_
  refine x_istore_n (L' := [xR (50, 0, 0), xI r, xI 0, none, none]) dX9_given_1 (by decide) rfl ?_
  refine x_iconst dX9_given_2 ?_
  refine x_istore_n (L' := [xR (50, 0, 0), xI r, xI 0, xI 0, none]) dX9_given_3 (by decide) rfl ?_
  exact l_given C S hC hw hr r r0 r1 hR n hn (n + 1) 0 (by omega) (by omega)
