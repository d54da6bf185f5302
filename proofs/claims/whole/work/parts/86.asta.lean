/-! a row of ints is stored into a row of rows -/
theorem x_astA {M : XM} {pc : Nat} {L st : List XV} {h : XH} {kc ks : Nat} {Q : XO → XH → Prop} {n n2 : Nat} {l l2 : XL} {f : Int → Option XL} {f2 : Int → Int} {i : Int} (hd : decode (xmC M) pc = .ok (.aastore, 1)) (hh : h l = some (.inr (11, n, .inr (.inr (.inr f))))) (h99 : l.1 ≠ 99) (h2 : h l2 = some (.inr (0, n2, .inl f2))) (h29 : l2.1 ≠ 99) (g1 : 0 ≤ i) (g2 : i < n) (g3 : n < 2147483648) (kk : X M (pc + 1) L st (xUp h l (.inr (11, n, .inr (.inr (.inr (xUpd f i (some l2))))))) kc ks Q) : X M pc L (xR l2 :: xI i :: xR l :: st) h kc ks Q := by
  intro p l0 e R s m args below meth c D dA base ad0 h0 ad H locs cells slots ls stv F hE h9 hH hS hL hst hc hs
  obtain ⟨w2, r2, rfl, ⟨hx9, rfl⟩, hst⟩ := hst
  obtain ⟨w0, r0, rfl, rfl, hst⟩ := hst
  obtain ⟨w1, r1, rfl, ⟨hx, rfl⟩, hst⟩ := hst
  obtain ⟨⟨g, u1, q⟩, gb⟩ := hH.1 l _ hh h99
  have cv : H[ad l2]? = some (vp_cell (dA 0) (n2, .inl (fun j => zI (f2 j)))) := (hH.1 l2 _ h2 h29).1
  have hK := F.2.2.2.2.2.2.2.2.2.2.2.2.1.1
  have hA : s.vm.findClass ("[" ++ (FieldType.array .int).toString) = some (dA 11) := (hK.2 11 _ (xTys_at (by decide))).2
  have hA0 : s.vm.findClass ("[" ++ (FieldType.int).toString) = some (dA 0) := (hK.2 0 _ (xTys_at (by decide))).2
  obtain ⟨comp, cA2, kA, k3, -, k1, k2, k4⟩ := arrayOverA_spec (args := #[]) F.2.2.2.2.2.2.2.2.2.2.2.2.1.2.2.2.2.2.2.2.1
  cases hA.symm.trans k4
  have k3' : s.vm.findClass ("[" ++ (FieldType.int).toString) = some comp := k3
  cases hA0.symm.trans k3'
  obtain ⟨kE, hkE, -⟩ := Vm.findClass_spec k3
  have hlt : (zI i).toNatClampNeg < n := by rw [zI_clamp g1 (by omega)]; omega
  have g0 : ¬ zI i < 0 := fun z => zI_nneg g1 (by omega) z
  refine W.aast F.1 F.2.1 q (fun z hz => by cases hz) (fun z => by cases z) k1 k2 rfl hkE ⟨g0, by show _ < (arrV _ _ _).slots.size; rw [arrV_size]; exact hlt⟩ cv (fun z hz => by cases hz) hkE (va_asg _ _) rfl rfl hd fun H1 e1 e2 e3 => ?_
  have hx2 := xUp_ex (ad := ad) (c := .inr (11, n, .inr (.inr (.inr (xUpd f i (some l2)))))) (show h l ≠ none by rw [hh]; simp) h99
  have hcl := zI_cl g1 (show i < 2147483648 by omega)
  refine kk _ _ _ _ _ _ _ _ _ _ _ _ _ _ _ _ _ _ _ _ _ _ F (hE.tr hx2) (h9.ex hx2) (hH.put (show h l ≠ none by rw [hh]; simp) h99 e2 e3 ⟨va_up g (zI i).toNatClampNeg (some (ad l2)), fun j hj => ?_, ?_⟩) (hS.put e2 e3 gb) (hL.mono hx2) (hst.mono hx2) hc hs
  · by_cases hq : j = (zI i).toNatClampNeg
    · subst hq
      simp only [va_up, xUpd, hcl, if_true]
      exact ⟨fun z => absurd z (by simp), fun l3 z => (by cases z; exact ⟨(hx2.1 l2 hx9).1, rfl⟩)⟩
    · have hq2 : ¬ (j : Int) = i := fun z => hq (by omega)
      simp only [va_up, xUpd, if_neg hq, if_neg hq2]
      exact ⟨(u1 j hj).1, fun l3 z => ⟨(hx2.1 l3 ((u1 j hj).2 l3 z).1).1, ((u1 j hj).2 l3 z).2⟩⟩
  · rw [e1, vp_cell_q, vp_cell_q, arrV_store]
    congr 2
    funext q9
    by_cases hq : q9 = (zI i).toNatClampNeg
    · subst hq
      simp [updV, va_up, va_rf]
    · simp [updV, va_up, hq]
