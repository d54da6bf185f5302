/-! the reference: a rule in all ways -/
theorem dig_tab : ∀ w : Fin 512, zAnd (zShr (w.val : Int) 6) 7 = ((w.val / 64 : Nat) : Int) ∧ zAnd (zShr (w.val : Int) 3) 7 = ((w.val / 8 % 8 : Nat) : Int) ∧ zAnd (zShr (w.val : Int) 0) 7 = ((w.val % 8 : Nat) : Int) := by decide +kernel
theorem idl_tab : ∀ m ∈ ([0, 7, 56, 63, 448, 455, 504, 511] : List Int), ∀ w : Fin 512, (zAnd (w.val : Int) m = 0 ↔ (zAnd m (zShl 7 6) = 0 ∨ w.val / 64 = 0) ∧ (zAnd m (zShl 7 3) = 0 ∨ w.val / 8 % 8 = 0) ∧ (zAnd m (zShl 7 0) = 0 ∨ w.val % 8 = 0)) := by decide +kernel
/-- the way that the things make -/
def wG (g : Int → Int) : Int := 64 * g 0 + 8 * g 1 + g 2
theorem dig_w {a b c : Int} (ha : 0 ≤ a ∧ a ≤ 7) (hb : 0 ≤ b ∧ b ≤ 7) (hc : 0 ≤ c ∧ c ≤ 7) : zAnd (zShr (64 * a + 8 * b + c) 6) 7 = a ∧ zAnd (zShr (64 * a + 8 * b + c) 3) 7 = b ∧ zAnd (zShr (64 * a + 8 * b + c) 0) 7 = c := by
  have h := dig_tab ⟨(64 * a + 8 * b + c).toNat, by omega⟩
  have e : (((64 * a + 8 * b + c).toNat : Nat) : Int) = 64 * a + 8 * b + c := by omega
  simp only [e] at h
  obtain ⟨h1, h2, h3⟩ := h
  exact ⟨by omega, by omega, by omega⟩
theorem dig_g {g : Int → Int} (hg : ∀ k, 0 ≤ g k ∧ g k ≤ 7) {s v : Int} (hs : s = 3 * (2 - v)) (v0 : 0 ≤ v) (v1 : v ≤ 2) : zAnd (zShr (wG g) s) 7 = g v := by
  have h := dig_w (hg 0) (hg 1) (hg 2)
  have : v = 0 ∨ v = 1 ∨ v = 2 := by omega
  rcases this with rfl | rfl | rfl <;> subst hs
  · exact h.1
  · exact h.2.1
  · exact h.2.2
theorem pair_g (f : XL → Int → Int) {l : XL} {g : Int → Int} (hg : ∀ k, 0 ≤ g k ∧ g k ≤ 7) {v u : Int} (hv : f l 2 = 3 * (2 - v) ∧ 0 ≤ v ∧ v ≤ 2) (hu : f l 3 = 3 * (2 - u) ∧ 0 ≤ u ∧ u ≤ 2) : pairF f l (wG g) = 8 * g v + g u := by
  unfold pairF
  rw [dig_g hg hv.1 hv.2.1 hv.2.2, dig_g hg hu.1 hu.2.1 hu.2.2]
theorem idl_w {m : Int} (hm : IdOk m) {x y z : Int} (hx : 0 ≤ x ∧ x ≤ 7) (hy : 0 ≤ y ∧ y ≤ 7) (hz : 0 ≤ z ∧ z ≤ 7) : zAnd (64 * x + 8 * y + z) m = 0 ↔ (zAnd m (zShl 7 6) = 0 ∨ x = 0) ∧ (zAnd m (zShl 7 3) = 0 ∨ y = 0) ∧ (zAnd m (zShl 7 0) = 0 ∨ z = 0) := by
  have h := idl_tab m (IdOk_mem.mp hm) ⟨(64 * x + 8 * y + z).toNat, by omega⟩
  have e : (((64 * x + 8 * y + z).toNat : Nat) : Int) = 64 * x + 8 * y + z := by omega
  simp only [e] at h
  rw [h]
  have e1 : (64 * x + 8 * y + z).toNat / 64 = 0 ↔ x = 0 := by omega
  have e2 : (64 * x + 8 * y + z).toNat / 8 % 8 = 0 ↔ y = 0 := by omega
  have e3 : (64 * x + 8 * y + z).toNat % 8 = 0 ↔ z = 0 := by omega
  rw [e1, e2, e3]
theorem cfact_in {C : XS} (hC : WI C) {r : Int} (r0 : 0 ≤ r) (r1 : r < C.1 (4, 0, 0) 2) (hR : RuleOk C.1 r) {c : Int} (c0 : 0 ≤ c) (c1 : c < C.1 (34, r, 0) 2) {w : Int} (w0 : 0 ≤ w) (w1 : w ≤ 511) : 0 ≤ cfact C.1 r w c ∧ cfact C.1 r w c < 384 := by
  obtain ⟨n, rfl⟩ := Int.eq_ofNat_of_zero_le r0
  obtain ⟨i, rfl⟩ := Int.eq_ofNat_of_zero_le c0
  have a := dl_rel hC r1 c1
  have b := pairF_in C.1 (36, n, i) (hR.2.2 i c1) w w0 w1
  unfold cfact
  omega
theorem hfact_in {C : XS} (hC : WI C) {r : Int} (r0 : 0 ≤ r) (r1 : r < C.1 (4, 0, 0) 2) (hR : RuleOk C.1 r) {w : Int} (w0 : 0 ≤ w) (w1 : w ≤ 511) : 0 ≤ hfact C.1 r w ∧ hfact C.1 r w < 384 := by
  have c4 := wf4_2 hC
  have a := wf37_0 hC (b := r) (by omega) (by omega)
  have b := pairF_in C.1 (37, r, 0) hR.2.1 w w0 w1
  unfold hfact
  omega
theorem wG_in {g : Int → Int} (hg : ∀ k, 0 ≤ g k ∧ g k ≤ 7) : 0 ≤ wG g ∧ wG g ≤ 511 := by
  have a := hg 0
  have b := hg 1
  have c := hg 2
  unfold wG
  omega
theorem gvN_s {f : XL → Int → Int} {rk : Int → Int} {r w : Int} (c : Nat) : gvN f rk r w (c + 1) = if f (36, r, c) 1 = 0 then (if gvN f rk r w c < rk (cfact f r w c) then rk (cfact f r w c) else gvN f rk r w c) else if rk (cfact f r w c) < 999 then 999 else gvN f rk r w c := rfl
