theorem xSR.at {ad : XL → Nat} {h : XH} {v : XV} : ∀ {vs : List XV} {ws : List Value} {k : Nat}, xSR ad h vs ws → vs[k]? = some v → ∃ w, ws[k]? = some w ∧ xVR ad h v w
  | _ :: _, _, 0, ⟨w, r, q1, q2, _⟩, hv => by
    rw [List.getElem?_cons_zero] at hv
    cases hv
    exact ⟨w, by rw [q1]; rfl, q2⟩
  | _ :: _, _, k + 1, ⟨w, r, q1, _, q3⟩, hv => by
    rw [List.getElem?_cons_succ] at hv
    obtain ⟨w', a, b⟩ := xSR.at q3 hv
    exact ⟨w', by rw [q1, List.getElem?_cons_succ]; exact a, b⟩
theorem xSR.put {ad : XL → Nat} {h : XH} {v : XV} {w : Value} (hv : xVR ad h v w) : ∀ {vs : List XV} {ws : List Value} (k : Nat), xSR ad h vs ws → xSR ad h (vs.set k v) (ws.set k w)
  | [], _, _, q => by rw [show _ = [] from q]; rfl
  | _ :: _, _, 0, ⟨w0, r, q1, _, q3⟩ => by rw [q1]; exact ⟨w, r, rfl, hv, q3⟩
  | _ :: _, _, k + 1, ⟨w0, r, q1, q2, q3⟩ => by rw [q1]; exact ⟨w0, r.set k w, rfl, q2, xSR.put hv k q3⟩
/-- the classes' fields -/
def xFT (ci : Nat) : Nat → FieldType := match ci with
  | 0 => tyX0
  | 1 => tyX1
  | 2 => tyX2
  | 3 => tyX3
  | 4 => tyX4
  | 5 => tyX5
  | 6 => tyX6
  | 7 => tyX7
  | _ => tyX8
def xClF (ci : Nat) (r : vw_C) : Prop := (∀ w ∈ u_ws r.1 r.2.1 r.2.2, w ∈ xW) ∧ (∀ k, k < r.2.2 → parseFieldDescriptor (r.2.1 k).2.2.1 = some (xFT ci k)) ∧ (∀ a, a < r.2.2 → ∀ b, b < r.2.2 → a ≠ b → (r.2.1 a).2.1 ≠ (r.2.1 b).2.1) ∧ Cond.instantiable r.1 r.2.2 ∈ xW ∧ Cond.initialized r.1 ∈ xW
set_option maxRecDepth 100000 in
theorem xClF0 : xClF 0 (RX0, TX0, 7) := ⟨by decide +kernel, tyX0_ok, nmX0, by decide +kernel, by decide +kernel⟩
set_option maxRecDepth 100000 in
theorem xClF1 : xClF 1 (RX1, TX1, 10) := ⟨by decide +kernel, tyX1_ok, nmX1, by decide +kernel, by decide +kernel⟩
set_option maxRecDepth 100000 in
theorem xClF2 : xClF 2 (RX2, TX2, 4) := ⟨by decide +kernel, tyX2_ok, nmX2, by decide +kernel, by decide +kernel⟩
set_option maxRecDepth 100000 in
theorem xClF3 : xClF 3 (RX3, TX3, 8) := ⟨by decide +kernel, tyX3_ok, nmX3, by decide +kernel, by decide +kernel⟩
set_option maxRecDepth 100000 in
theorem xClF4 : xClF 4 (RX4, TX4, 6) := ⟨by decide +kernel, tyX4_ok, nmX4, by decide +kernel, by decide +kernel⟩
set_option maxRecDepth 100000 in
theorem xClF5 : xClF 5 (RX5, TX5, 3) := ⟨by decide +kernel, tyX5_ok, nmX5, by decide +kernel, by decide +kernel⟩
set_option maxRecDepth 100000 in
theorem xClF6 : xClF 6 (RX6, TX6, 3) := ⟨by decide +kernel, tyX6_ok, nmX6, by decide +kernel, by decide +kernel⟩
set_option maxRecDepth 100000 in
theorem xClF7 : xClF 7 (RX7, TX7, 8) := ⟨by decide +kernel, tyX7_ok, nmX7, by decide +kernel, by decide +kernel⟩
set_option maxRecDepth 100000 in
theorem xClF8 : xClF 8 (RX8, TX8, 9) := ⟨by decide +kernel, tyX8_ok, nmX8, by decide +kernel, by decide +kernel⟩
theorem xClF_of : ∀ {ci : Nat} {r : vw_C}, xCl[ci]? = some r → xClF ci r
  | 0, _, h => by cases h; exact xClF0
  | 1, _, h => by cases h; exact xClF1
  | 2, _, h => by cases h; exact xClF2
  | 3, _, h => by cases h; exact xClF3
  | 4, _, h => by cases h; exact xClF4
  | 5, _, h => by cases h; exact xClF5
  | 6, _, h => by cases h; exact xClF6
  | 7, _, h => by cases h; exact xClF7
  | 8, _, h => by cases h; exact xClF8
  | _ + 9, _, h => by simp [xCl] at h
/-- the entry i of the class own's pool is the field k of the class ci -/
def xFld (own : String) (i ci k : Nat) : Prop := ∃ r, xCl[ci]? = some r ∧ k < r.2.2 ∧ Cond.fieldLink own i (r.2.1 k).1 (r.2.1 k).2.1 (r.2.1 k).2.2.1 ∈ xW
theorem x_n99 {s : State} {base : Nat} {ad : XL → Nat} {h : XH} {l : XL} {o : Nat × List XV} (h9 : xS9 s base ad h) (hh : h l = some (.inl o)) : l.1 ≠ 99 := by
  intro z
  obtain ⟨n, f, q, -⟩ := h9 l _ hh z
  cases q
theorem x_get {M : XM} {pc : Nat} {L st : List XV} {h : XH} {kc ks : Nat} {Q : XO → XH → Prop} {i ci k : Nat} {l : XL} {fs : List XV} {v : XV} (hd : decode (xmC M) pc = .ok (.getfield i, 3)) (hf : xFld (xmY M).cls i ci k) (hh : h l = some (.inl (ci, fs))) (hv : fs[k]? = some v) (kk : X M (pc + 3) L (v :: st) h kc ks Q) : X M pc L (xR l :: st) h kc ks Q := by
  intro p l0 e R s m args below meth c D dA base ad0 h0 ad H locs cells slots ls stv F hE h9 hH hS hL hst hc hs
  obtain ⟨w0, r0, rfl, ⟨hx, rfl⟩, hst⟩ := hst
  obtain ⟨⟨ws, q1, q2⟩, -⟩ := hH.1 l _ hh (x_n99 h9 hh)
  obtain ⟨r, hr, hk, hlink⟩ := hf
  obtain ⟨w, hw, hvw⟩ := q1.at hv
  have hP : va_P D xCl [(ad l, .inr (ci, ws))] H := fun k9 x hx9 => by
    have h0 : k9 < 1 := (List.getElem?_eq_some_iff.mp hx9).1
    rw [show k9 = 0 by omega] at hx9
    cases hx9
    exact q2
  have hts := F.2.2.2.2.2.1
  exact va_get F.1 F.2.1 hts (xClF_of hr).1 F.2.2.2.2.1 F.2.2.2.2.2.2.2.2.2.2.2.2.1.1 hP 0 rfl hr k hk (hts _ hlink) (fun _ z => z) hw hd (kk _ _ _ _ _ _ _ _ _ _ _ _ _ _ _ _ _ _ _ _ _ _ F hE h9 hH hS hL ⟨_, _, rfl, hvw, hst⟩ hc hs)
/-- a value that a field or an array of the type may hold -/
def xFit (ty : FieldType) (v : XV) : Prop := ∀ (ad : XL → Nat) (h : XH) (w : Value), xVR ad h v w → narrow ty w = w ∧ fits ty w = true
theorem xfit_i {e : Int} : xFit .int (xI e) := fun _ _ _ hv => by cases hv; exact ⟨rfl, rfl⟩
theorem xfit_z {e : Int} (h : e = 0 ∨ e = 1) : xFit .boolean (xI e) := fun _ _ _ hv => by cases hv; rcases h with rfl | rfl <;> exact ⟨by decide, by decide⟩
theorem xfit_j {e : Int64} : xFit .long (xJ e) := fun _ _ _ hv => by cases hv; exact ⟨rfl, rfl⟩
theorem xfit_d {e : UInt64} : xFit .double (xD e) := fun _ _ _ hv => by cases hv; exact ⟨rfl, rfl⟩
theorem xfit_o {C : String} {l : XL} : xFit (.object C) (xR l) := fun _ _ _ hv => by obtain ⟨-, rfl⟩ := hv; exact ⟨rfl, rfl⟩
theorem xfit_a {t : FieldType} {l : XL} : xFit (.array t) (xR l) := fun _ _ _ hv => by obtain ⟨-, rfl⟩ := hv; exact ⟨rfl, rfl⟩
theorem x_put {M : XM} {pc : Nat} {L st : List XV} {h : XH} {kc ks : Nat} {Q : XO → XH → Prop} {i ci k : Nat} {l : XL} {fs fs' : List XV} {v : XV} (hd : decode (xmC M) pc = .ok (.putfield i, 3)) (hf : xFld (xmY M).cls i ci k) (hfin : ∀ r, xCl[ci]? = some r → (r.2.1 k).2.2.2 = false) (hh : h l = some (.inl (ci, fs))) (hv : xFit (xFT ci k) v) (hk9 : k < fs.length) (hfs : fs.set k v = fs') (kk : X M (pc + 3) L st (xUp h l (.inl (ci, fs'))) kc ks Q) : X M pc L (v :: xR l :: st) h kc ks Q := by
  subst hfs
  intro p l0 e R s m args below meth c D dA base ad0 h0 ad H locs cells slots ls stv F hE h9 hH hS hL hst hc hs
  obtain ⟨w, r0, rfl, hvw, hst⟩ := hst
  obtain ⟨w0, r0, rfl, ⟨hx, rfl⟩, hst⟩ := hst
  have hn9 := x_n99 h9 hh
  obtain ⟨⟨ws, g1, g2⟩, gb⟩ := hH.1 l _ hh hn9
  obtain ⟨r, hr, hk, hlink⟩ := hf
  have hts := F.2.2.2.2.2.1
  have hown := F.2.2.2.2.1
  have hK := F.2.2.2.2.2.2.2.2.2.2.2.2.1.1
  obtain ⟨hin0, hty, hnm, -, -⟩ := xClF_of hr
  have hap := va_apart (own := r.1) hts hin0 (xFT ci) hty hnm hK hr
  obtain ⟨r', hr', cell, q1, q2, q3, q4⟩ := g2
  cases Option.some.inj (hr.symm.trans hr')
  obtain ⟨hSl, hfc, kC, hkC, hkind⟩ := hK.1 ci _ hr
  obtain ⟨cf, kf, fi, f, hi, hsl⟩ := hSl k hk
  have hlay := hts _ (hin0 _ (u_in_lay hk))
  obtain ⟨n1, n2⟩ := hv ad h w hvw
  have hst0 := (u_facts hfc hkC (u_lays hts hin0 hk) hi).1
  unfold u_lay at hlay
  rw [if_neg (by rw [hfin r hr]; decide)] at hlay
  have h6 := u_store hfc hkC hkind hlay hi (hty k hk) n1 n2
  refine W.putK F.1 F.2.1 (f := f) ⟨hown, hts _ hlink, ⟨_, _, _, hi⟩, hst0⟩ (by rw [q2]; exact h6) q1 q3 (by rw [hsl]; exact k2_hasslot (q4 k hk)) rfl rfl hd fun H' e1 e2 e3 => ?_
  rw [hsl] at e1 ⊢
  have hx2 := xUp_ex (ad := ad) (c := .inl (ci, fs.set k v)) (show h l ≠ none by rw [hh]; simp) hn9
  have hlen := g1.len
  exact kk _ _ _ _ _ _ _ _ _ _ _ _ _ _ _ _ _ _ _ _ _ _ F (hE.tr hx2) (h9.ex hx2) (hH.put (show h l ≠ none by rw [hh]; simp) hn9 e2 e3 ⟨ws.set k w, (g1.put hvw k).mono hx2, _, hr, t_OB.to (V := updV (vp_V ws) k w) ⟨_, e1, q2, q3, t_set q4 hap hk w⟩ (fun j _ => vp_updV_set (by omega) w j)⟩) (hS.put e2 e3 gb) (hL.mono hx2) (hst.mono hx2) hc hs
theorem x_putF {M : XM} {pc : Nat} {L st : List XV} {h : XH} {kc ks : Nat} {Q : XO → XH → Prop} {i ci k : Nat} {l : XL} {fs fs' : List XV} {v : XV} (hd : decode (xmC M) pc = .ok (.putfield i, 3)) (hf : xFld (xmY M).cls i ci k) (hfin : ∀ r, xCl[ci]? = some r → (r.2.1 k).2.2.2 = true ∧ (r.2.1 k).1 = (xmY M).cls) (hh : h l = some (.inl (ci, fs))) (hv : xFit (xFT ci k) v) (hk9 : k < fs.length) (hfs : fs.set k v = fs') (hin : (xmY M).name = "<init>") (kk : X M (pc + 3) L st (xUp h l (.inl (ci, fs'))) kc ks Q) : X M pc L (v :: xR l :: st) h kc ks Q := by
  subst hfs
  intro p l0 e R s m args below meth c D dA base ad0 h0 ad H locs cells slots ls stv F hE h9 hH hS hL hst hc hs
  obtain ⟨w, r0, rfl, hvw, hst⟩ := hst
  obtain ⟨w0, r0, rfl, ⟨hx, rfl⟩, hst⟩ := hst
  have hn9 := x_n99 h9 hh
  obtain ⟨⟨ws, g1, g2⟩, gb⟩ := hH.1 l _ hh hn9
  obtain ⟨r, hr, hk, hlink⟩ := hf
  have hts := F.2.2.2.2.2.1
  have hown := F.2.2.2.2.1
  have hK := F.2.2.2.2.2.2.2.2.2.2.2.2.1.1
  obtain ⟨hin0, hty, hnm, -, -⟩ := xClF_of hr
  have hap := va_apart (own := r.1) hts hin0 (xFT ci) hty hnm hK hr
  obtain ⟨r', hr', cell, q1, q2, q3, q4⟩ := g2
  cases Option.some.inj (hr.symm.trans hr')
  obtain ⟨hSl, hfc, kC, hkC, hkind⟩ := hK.1 ci _ hr
  obtain ⟨cf, kf, fi, f, hi, hsl⟩ := hSl k hk
  have hlay := hts _ (hin0 _ (u_in_lay hk))
  obtain ⟨n1, n2⟩ := hv ad h w hvw
  have hst0 := (u_facts hfc hkC (u_lays hts hin0 hk) hi).1
  obtain ⟨hfin1, hfin2⟩ := hfin r hr
  unfold u_lay at hlay
  rw [if_pos hfin1] at hlay
  have hcf : m.cls = cf := by
    obtain ⟨_, _, c', _, _, _, -, -, hf', -, -, -, hown2, -⟩ := Cond.laysFinal_spec hlay
    have e1 : c' = cf := by have := hi.symm.trans hf'; simp at this; exact this.1.symm
    rw [hfin2] at hown2
    rw [← e1]; exact Option.some.inj (hown.symm.trans hown2)
  have h6 := u_fits hfc hkC hkind (Or.inr hlay) hi (hty k hk) n1 n2
  refine W.putFinK F.1 F.2.1 hown (hts _ hlink) hi hst0 hcf (F.2.2.2.2.2.2.2.2.1.trans hin) (by rw [q2]; exact h6) q1 q3 (by rw [hsl]; exact k2_hasslot (q4 k hk)) rfl rfl hd fun H' e1 e2 e3 => ?_
  rw [hsl] at e1 ⊢
  have hx2 := xUp_ex (ad := ad) (c := .inl (ci, fs.set k v)) (show h l ≠ none by rw [hh]; simp) hn9
  have hlen := g1.len
  exact kk _ _ _ _ _ _ _ _ _ _ _ _ _ _ _ _ _ _ _ _ _ _ F (hE.tr hx2) (h9.ex hx2) (hH.put (show h l ≠ none by rw [hh]; simp) hn9 e2 e3 ⟨ws.set k w, (g1.put hvw k).mono hx2, _, hr, t_OB.to (V := updV (vp_V ws) k w) ⟨_, e1, q2, q3, t_set q4 hap hk w⟩ (fun j _ => vp_updV_set (by omega) w j)⟩) (hS.put e2 e3 gb) (hL.mono hx2) (hst.mono hx2) hc hs
def xUpd {α : Type} (f : Int → α) (i : Int) (x : α) : Int → α := fun j => if j = i then x else f j
theorem zI_cl {e : Int} (h0 : 0 ≤ e) (h : e < 2147483648) : (((zI e).toNatClampNeg : Nat) : Int) = e := by rw [zI_clamp h0 h]; omega
theorem x_aldi {M : XM} {pc : Nat} {L st : List XV} {h : XH} {kc ks : Nat} {Q : XO → XH → Prop} {n : Nat} {l : XL} {f : Int → Int} {i : Int} (hd : decode (xmC M) pc = .ok (.iaload, 1)) (hh : h l = some (.inr (0, n, .inl f))) (h99 : l.1 ≠ 99) (g1 : 0 ≤ i) (g2 : i < n) (g3 : n < 2147483648) (kk : X M (pc + 1) L (xI (f i) :: st) h kc ks Q) : X M pc L (xI i :: xR l :: st) h kc ks Q := by
  intro p l0 e R s m args below meth c D dA base ad0 h0 ad H locs cells slots ls stv F hE h9 hH hS hL hst hc hs
  obtain ⟨w0, r0, rfl, rfl, hst⟩ := hst
  obtain ⟨w1, r1, rfl, ⟨hx, rfl⟩, hst⟩ := hst
  have q := (hH.1 l _ hh h99).1
  have hK := F.2.2.2.2.2.2.2.2.2.2.2.2.1.1
  have hlt : (zI i).toNatClampNeg < n := by rw [zI_clamp g1 (by omega)]; omega
  have hnin : ¬ (zI i < 0 ∨ n ≤ (zI i).toNatClampNeg) := by
    rintro (z | z)
    · exact zI_nneg g1 (by omega) z
    · omega
  exact W.iald (v := .int (zI (f i))) F.1 F.2.1 q ((hK.2 0 _ (xTys_at (by decide))).1 n _) (fun z => by cases z) (by show ¬ (zI i < 0 ∨ (arrV _ _ _).slots.size ≤ _); rw [arrV_size]; exact hnin) (by show (arrV _ _ _).slots[_]? = _; rw [arrV_read _ _ hlt]; exact congrArg (fun z => some (Value.int (zI (f z)))) (zI_cl g1 (by omega))) rfl rfl hd (kk _ _ _ _ _ _ _ _ _ _ _ _ _ _ _ _ _ _ _ _ _ _ F hE h9 hH hS hL ⟨_, _, rfl, rfl, hst⟩ hc hs)
theorem x_aldz {M : XM} {pc : Nat} {L st : List XV} {h : XH} {kc ks : Nat} {Q : XO → XH → Prop} {n : Nat} {l : XL} {f : Int → Int} {i : Int} (hd : decode (xmC M) pc = .ok (.baload, 1)) (hh : h l = some (.inr (2, n, .inl f))) (h99 : l.1 ≠ 99) (g1 : 0 ≤ i) (g2 : i < n) (g3 : n < 2147483648) (kk : X M (pc + 1) L (xI (f i) :: st) h kc ks Q) : X M pc L (xI i :: xR l :: st) h kc ks Q := by
  intro p l0 e R s m args below meth c D dA base ad0 h0 ad H locs cells slots ls stv F hE h9 hH hS hL hst hc hs
  obtain ⟨w0, r0, rfl, rfl, hst⟩ := hst
  obtain ⟨w1, r1, rfl, ⟨hx, rfl⟩, hst⟩ := hst
  have q := (hH.1 l _ hh h99).1
  have hK := F.2.2.2.2.2.2.2.2.2.2.2.2.1.1
  have hlt : (zI i).toNatClampNeg < n := by rw [zI_clamp g1 (by omega)]; omega
  have hnin : ¬ (zI i < 0 ∨ n ≤ (zI i).toNatClampNeg) := by
    rintro (z | z)
    · exact zI_nneg g1 (by omega) z
    · omega
  exact W.zald (v := .int (zI (f i))) F.1 F.2.1 q ((hK.2 2 _ (xTys_at (by decide))).1 n _) (fun z => by cases z) (by show ¬ (zI i < 0 ∨ (arrV _ _ _).slots.size ≤ _); rw [arrV_size]; exact hnin) (by show (arrV _ _ _).slots[_]? = _; rw [arrV_read _ _ hlt]; exact congrArg (fun z => some (Value.int (zI (f z)))) (zI_cl g1 (by omega))) rfl rfl hd (kk _ _ _ _ _ _ _ _ _ _ _ _ _ _ _ _ _ _ _ _ _ _ F hE h9 hH hS hL ⟨_, _, rfl, rfl, hst⟩ hc hs)
theorem x_aldj {M : XM} {pc : Nat} {L st : List XV} {h : XH} {kc ks : Nat} {Q : XO → XH → Prop} {n : Nat} {l : XL} {f : Int → Int64} {i : Int} (hd : decode (xmC M) pc = .ok (.laload, 1)) (hh : h l = some (.inr (1, n, .inr (.inl f)))) (h99 : l.1 ≠ 99) (g1 : 0 ≤ i) (g2 : i < n) (g3 : n < 2147483648) (kk : X M (pc + 1) L (xJ (f i) :: st) h kc ks Q) : X M pc L (xI i :: xR l :: st) h kc ks Q := by
  intro p l0 e R s m args below meth c D dA base ad0 h0 ad H locs cells slots ls stv F hE h9 hH hS hL hst hc hs
  obtain ⟨w0, r0, rfl, rfl, hst⟩ := hst
  obtain ⟨w1, r1, rfl, ⟨hx, rfl⟩, hst⟩ := hst
  have q := (hH.1 l _ hh h99).1
  have hK := F.2.2.2.2.2.2.2.2.2.2.2.2.1.1
  have hlt : (zI i).toNatClampNeg < n := by rw [zI_clamp g1 (by omega)]; omega
  have hnin : ¬ (zI i < 0 ∨ n ≤ (zI i).toNatClampNeg) := by
    rintro (z | z)
    · exact zI_nneg g1 (by omega) z
    · omega
  exact W.lald (v := .long (f i)) F.1 F.2.1 q ((hK.2 1 _ (xTys_at (by decide))).1 n _) (fun z => by cases z) (by show ¬ (zI i < 0 ∨ (arrV _ _ _).slots.size ≤ _); rw [arrV_size]; exact hnin) (by show (arrV _ _ _).slots[_]? = _; rw [arrV_read _ _ hlt]; exact congrArg (fun z => some (Value.long (f z))) (zI_cl g1 (by omega))) rfl rfl hd (kk _ _ _ _ _ _ _ _ _ _ _ _ _ _ _ _ _ _ _ _ _ _ F hE h9 hH hS hL ⟨_, _, rfl, rfl, hst⟩ hc hs)
theorem x_alda {M : XM} {pc : Nat} {L st : List XV} {h : XH} {kc ks : Nat} {Q : XO → XH → Prop} {t n : Nat} {l : XL} {f : Int → Option XL} {i : Int} {l2 : XL} (hd : decode (xmC M) pc = .ok (.aaload, 1)) (hh : h l = some (.inr (t, n, .inr (.inr (.inr f))))) (h99 : l.1 ≠ 99) (ht : 5 ≤ t) (ht2 : t < 12) (g1 : 0 ≤ i) (g2 : i < n) (g3 : n < 2147483648) (hv : f i = some l2) (kk : X M (pc + 1) L (xR l2 :: st) h kc ks Q) : X M pc L (xI i :: xR l :: st) h kc ks Q := by
  intro p l0 e R s m args below meth c D dA base ad0 h0 ad H locs cells slots ls stv F hE h9 hH hS hL hst hc hs
  obtain ⟨w0, r0, rfl, rfl, hst⟩ := hst
  obtain ⟨w1, r1, rfl, ⟨hx, rfl⟩, hst⟩ := hst
  obtain ⟨g, q1, q⟩ := (hH.1 l _ hh h99).1
  have hK := F.2.2.2.2.2.2.2.2.2.2.2.2.1.1
  have hlt : (zI i).toNatClampNeg < n := by rw [zI_clamp g1 (by omega)]; omega
  have hnin : ¬ (zI i < 0 ∨ n ≤ (zI i).toNatClampNeg) := by
    rintro (z | z)
    · exact zI_nneg g1 (by omega) z
    · omega
  have hty : (xTy t).isReference = true := by
    match t, ht, ht2 with
    | 5, _, _ => rfl
    | 6, _, _ => rfl
    | 7, _, _ => rfl
    | 8, _, _ => rfl
    | 9, _, _ => rfl
    | 10, _, _ => rfl
    | 11, _, _ => rfl
    | k + 12, _, h => omega
  obtain ⟨d1, d2⟩ := (q1 (zI i).toNatClampNeg hlt).2 l2 (by rw [zI_cl g1 (by omega)]; exact hv)
  exact W.aald (v := .ref (ad l2)) F.1 F.2.1 q ((hK.2 t _ (xTys_at ht2)).1 n _) hty (fun z => by cases z) (by show ¬ (zI i < 0 ∨ (arrV _ _ _).slots.size ≤ _); rw [arrV_size]; exact hnin) (by show (arrV _ _ _).slots[_]? = _; rw [arrV_read _ _ hlt, d2]; rfl) rfl rfl hd (kk _ _ _ _ _ _ _ _ _ _ _ _ _ _ _ _ _ _ _ _ _ _ F hE h9 hH hS hL ⟨_, _, rfl, ⟨d1, rfl⟩, hst⟩ hc hs)
theorem x_alds {M : XM} {pc : Nat} {L st : List XV} {h : XH} {kc ks : Nat} {Q : XO → XH → Prop} {n : Nat} {l : XL} {f : Int → Int} {i : Int} (hd : decode (xmC M) pc = .ok (.iaload, 1)) (hh : h l = some (.inr (0, n, .inl f))) (h99 : l.1 = 99) (g1 : 0 ≤ i) (g2 : i < n) (g3 : n < 2147483648) (kk : X M (pc + 1) L (xI (f i) :: st) h kc ks Q) : X M pc L (xI i :: xR l :: st) h kc ks Q := by
  intro p l0 e R s m args below meth c D dA base ad0 h0 ad H locs cells slots ls stv F hE h9 hH hS hL hst hc hs
  obtain ⟨w0, r0, rfl, rfl, hst⟩ := hst
  obtain ⟨w1, r1, rfl, ⟨hx, rfl⟩, hst⟩ := hst
  obtain ⟨n', f', e9, hX, hb⟩ := h9 l _ hh h99
  cases e9
  have hbs := F.2.2.2.2.2.2.2.2.2.2.2.2.2
  have e2 : f i = f (((zI i).toNatClampNeg : Nat) : Int) := by rw [zI_cl g1 (by omega)]
  exact va_sld F.1 F.2.1 hX (by omega) (by show ¬ base ≤ ad l; omega) hS (zI_in g1 g2 g3) hd (kk _ _ _ _ _ _ _ _ _ _ _ _ _ _ _ _ _ _ _ _ _ _ F hE h9 hH hS hL ⟨_, _, rfl, by show Value.int _ = Value.int _; rw [← e2], hst⟩ hc hs)
theorem x_lens {M : XM} {pc : Nat} {L st : List XV} {h : XH} {kc ks : Nat} {Q : XO → XH → Prop} {n : Nat} {l : XL} {f : Int → Int} (hd : decode (xmC M) pc = .ok (.arraylength, 1)) (hh : h l = some (.inr (0, n, .inl f))) (h99 : l.1 = 99) (g3 : n < 2147483648) (kk : X M (pc + 1) L (xI (n : Int) :: st) h kc ks Q) : X M pc L (xR l :: st) h kc ks Q := by
  intro p l0 e R s m args below meth c D dA base ad0 h0 ad H locs cells slots ls stv F hE h9 hH hS hL hst hc hs
  obtain ⟨w1, r1, rfl, ⟨hx, rfl⟩, hst⟩ := hst
  obtain ⟨n', f', e9, hX, hb⟩ := h9 l _ hh h99
  cases e9
  have hbs := F.2.2.2.2.2.2.2.2.2.2.2.2.2
  exact va_slen F.1 F.2.1 hX (by omega) (by show ¬ base ≤ ad l; omega) hS hd (kk _ _ _ _ _ _ _ _ _ _ _ _ _ _ _ _ _ _ _ _ _ _ F hE h9 hH hS hL ⟨_, _, rfl, congrArg Value.int (zI_nat g3).symm, hst⟩ hc hs)
theorem x_len {M : XM} {pc : Nat} {L st : List XV} {h : XH} {kc ks : Nat} {Q : XO → XH → Prop} {t n : Nat} {l : XL} {f : XA} (hd : decode (xmC M) pc = .ok (.arraylength, 1)) (hh : h l = some (.inr (t, n, f))) (h99 : l.1 ≠ 99) (ht2 : t < 12) (g3 : n < 2147483648) (kk : X M (pc + 1) L (xI (n : Int) :: st) h kc ks Q) : X M pc L (xR l :: st) h kc ks Q := by
  intro p l0 e R s m args below meth c D dA base ad0 h0 ad H locs cells slots ls stv F hE h9 hH hS hL hst hc hs
  obtain ⟨w1, r1, rfl, ⟨hx, rfl⟩, hst⟩ := hst
  have q := (hH.1 l _ hh h99).1
  have hK := F.2.2.2.2.2.2.2.2.2.2.2.2.1.1
  have hq : ∃ V : Nat → Value, H[ad l]? = some (arrV (dA t) n V) := by
    rcases f with f | f | f | f
    · exact ⟨fun j => .int (zI (f j)), q⟩
    · exact ⟨fun j => .long (f j), q⟩
    · exact ⟨fun j => .double (f j), q⟩
    · obtain ⟨g, -, q⟩ := q
      exact ⟨fun j => va_rf (g j), q⟩
  obtain ⟨V, hV⟩ := hq
  exact W.alen (n := Int32.ofNat n) F.1 F.2.1 hV ((hK.2 t _ (xTys_at ht2)).1 n _) (by rw [arrV_size] <;> rfl) rfl rfl hd (kk _ _ _ _ _ _ _ _ _ _ _ _ _ _ _ _ _ _ _ _ _ _ F hE h9 hH hS hL ⟨_, _, rfl, congrArg Value.int (zI_nat g3).symm, hst⟩ hc hs)
theorem x_asti {M : XM} {pc : Nat} {L st : List XV} {h : XH} {kc ks : Nat} {Q : XO → XH → Prop} {n : Nat} {l : XL} {f : Int → Int} {i : Int} {x : Int} (hd : decode (xmC M) pc = .ok (.iastore, 1)) (hh : h l = some (.inr (0, n, .inl f))) (h99 : l.1 ≠ 99) (g1 : 0 ≤ i) (g2 : i < n) (g3 : n < 2147483648) (kk : X M (pc + 1) L st (xUp h l (.inr (0, n, .inl (xUpd f i x)))) kc ks Q) : X M pc L (xI x :: xI i :: xR l :: st) h kc ks Q := by
  intro p l0 e R s m args below meth c D dA base ad0 h0 ad H locs cells slots ls stv F hE h9 hH hS hL hst hc hs
  obtain ⟨w2, r2, rfl, rfl, hst⟩ := hst
  obtain ⟨w0, r0, rfl, rfl, hst⟩ := hst
  obtain ⟨w1, r1, rfl, ⟨hx, rfl⟩, hst⟩ := hst
  obtain ⟨q, gb⟩ := hH.1 l _ hh h99
  have hK := F.2.2.2.2.2.2.2.2.2.2.2.2.1.1
  have hlt : (zI i).toNatClampNeg < n := by rw [zI_clamp g1 (by omega)]; omega
  have hnin : ¬ (zI i < 0 ∨ n ≤ (zI i).toNatClampNeg) := by
    rintro (z | z)
    · exact zI_nneg g1 (by omega) z
    · omega
  refine W.iast F.1 F.2.1 q ((hK.2 0 _ (xTys_at (by decide))).1 n _) (fun z => by cases z) (by show ¬ (zI i < 0 ∨ (arrV _ _ _).slots.size ≤ _); rw [arrV_size]; exact hnin) rfl rfl hd fun H1 e1 e2 e3 => ?_
  have hx2 := xUp_ex (ad := ad) (c := .inr (0, n, .inl (xUpd f i x))) (show h l ≠ none by rw [hh]; simp) h99
  refine kk _ _ _ _ _ _ _ _ _ _ _ _ _ _ _ _ _ _ _ _ _ _ F (hE.tr hx2) (h9.ex hx2) (hH.put (show h l ≠ none by rw [hh]; simp) h99 e2 e3 ?_) (hS.put e2 e3 gb) (hL.mono hx2) (hst.mono hx2) hc hs
  show H1[ad l]? = some (vp_cell _ _)
  rw [e1, vp_cell_i, vp_cell_i, arrV_store]
  congr 2
  funext q9
  have hcl := zI_cl g1 (show i < 2147483648 by omega)
  by_cases hq : q9 = (zI i).toNatClampNeg
  · subst hq
    simp only [updV, xUpd, if_true, hcl]
  · have hq2 : ¬ (q9 : Int) = i := fun z => hq (by omega)
    simp only [updV, xUpd, if_neg hq, if_neg hq2]
theorem x_astz {M : XM} {pc : Nat} {L st : List XV} {h : XH} {kc ks : Nat} {Q : XO → XH → Prop} {n : Nat} {l : XL} {f : Int → Int} {i : Int} {x : Int} (hd : decode (xmC M) pc = .ok (.bastore, 1)) (hh : h l = some (.inr (2, n, .inl f))) (h99 : l.1 ≠ 99) (g1 : 0 ≤ i) (g2 : i < n) (g3 : n < 2147483648) (hx0 : x = 0 ∨ x = 1) (kk : X M (pc + 1) L st (xUp h l (.inr (2, n, .inl (xUpd f i x)))) kc ks Q) : X M pc L (xI x :: xI i :: xR l :: st) h kc ks Q := by
  intro p l0 e R s m args below meth c D dA base ad0 h0 ad H locs cells slots ls stv F hE h9 hH hS hL hst hc hs
  obtain ⟨w2, r2, rfl, rfl, hst⟩ := hst
  obtain ⟨w0, r0, rfl, rfl, hst⟩ := hst
  obtain ⟨w1, r1, rfl, ⟨hx, rfl⟩, hst⟩ := hst
  obtain ⟨q, gb⟩ := hH.1 l _ hh h99
  have hK := F.2.2.2.2.2.2.2.2.2.2.2.2.1.1
  have hlt : (zI i).toNatClampNeg < n := by rw [zI_clamp g1 (by omega)]; omega
  have hnin : ¬ (zI i < 0 ∨ n ≤ (zI i).toNatClampNeg) := by
    rintro (z | z)
    · exact zI_nneg g1 (by omega) z
    · omega
  have hnr : narrow .boolean (.int (zI x)) = .int (zI x) := by rcases hx0 with rfl | rfl <;> decide
  refine W.zast F.1 F.2.1 q ((hK.2 2 _ (xTys_at (by decide))).1 n _) (fun z => by cases z) (by show ¬ (zI i < 0 ∨ (arrV _ _ _).slots.size ≤ _); rw [arrV_size]; exact hnin) rfl rfl hd fun H1 e1 e2 e3 => ?_
  rw [hnr] at e1
  have hx2 := xUp_ex (ad := ad) (c := .inr (2, n, .inl (xUpd f i x))) (show h l ≠ none by rw [hh]; simp) h99
  refine kk _ _ _ _ _ _ _ _ _ _ _ _ _ _ _ _ _ _ _ _ _ _ F (hE.tr hx2) (h9.ex hx2) (hH.put (show h l ≠ none by rw [hh]; simp) h99 e2 e3 ?_) (hS.put e2 e3 gb) (hL.mono hx2) (hst.mono hx2) hc hs
  show H1[ad l]? = some (vp_cell _ _)
  rw [e1, vp_cell_i, vp_cell_i, arrV_store]
  congr 2
  funext q9
  have hcl := zI_cl g1 (show i < 2147483648 by omega)
  by_cases hq : q9 = (zI i).toNatClampNeg
  · subst hq
    simp only [updV, xUpd, if_true, hcl]
  · have hq2 : ¬ (q9 : Int) = i := fun z => hq (by omega)
    simp only [updV, xUpd, if_neg hq, if_neg hq2]
theorem x_astj {M : XM} {pc : Nat} {L st : List XV} {h : XH} {kc ks : Nat} {Q : XO → XH → Prop} {n : Nat} {l : XL} {f : Int → Int64} {i : Int} {x : Int64} (hd : decode (xmC M) pc = .ok (.lastore, 1)) (hh : h l = some (.inr (1, n, .inr (.inl f)))) (h99 : l.1 ≠ 99) (g1 : 0 ≤ i) (g2 : i < n) (g3 : n < 2147483648) (kk : X M (pc + 1) L st (xUp h l (.inr (1, n, .inr (.inl (xUpd f i x))))) kc ks Q) : X M pc L (xJ x :: xI i :: xR l :: st) h kc ks Q := by
  intro p l0 e R s m args below meth c D dA base ad0 h0 ad H locs cells slots ls stv F hE h9 hH hS hL hst hc hs
  obtain ⟨w2, r2, rfl, rfl, hst⟩ := hst
  obtain ⟨w0, r0, rfl, rfl, hst⟩ := hst
  obtain ⟨w1, r1, rfl, ⟨hx, rfl⟩, hst⟩ := hst
  obtain ⟨q, gb⟩ := hH.1 l _ hh h99
  have hK := F.2.2.2.2.2.2.2.2.2.2.2.2.1.1
  have hlt : (zI i).toNatClampNeg < n := by rw [zI_clamp g1 (by omega)]; omega
  have hnin : ¬ (zI i < 0 ∨ n ≤ (zI i).toNatClampNeg) := by
    rintro (z | z)
    · exact zI_nneg g1 (by omega) z
    · omega
  refine W.last F.1 F.2.1 q ((hK.2 1 _ (xTys_at (by decide))).1 n _) (fun z => by cases z) (by show ¬ (zI i < 0 ∨ (arrV _ _ _).slots.size ≤ _); rw [arrV_size]; exact hnin) rfl rfl hd fun H1 e1 e2 e3 => ?_
  have hx2 := xUp_ex (ad := ad) (c := .inr (1, n, .inr (.inl (xUpd f i x)))) (show h l ≠ none by rw [hh]; simp) h99
  refine kk _ _ _ _ _ _ _ _ _ _ _ _ _ _ _ _ _ _ _ _ _ _ F (hE.tr hx2) (h9.ex hx2) (hH.put (show h l ≠ none by rw [hh]; simp) h99 e2 e3 ?_) (hS.put e2 e3 gb) (hL.mono hx2) (hst.mono hx2) hc hs
  show H1[ad l]? = some (vp_cell _ _)
  rw [e1, vp_cell_l, vp_cell_l, arrV_store]
  congr 2
  funext q9
  have hcl := zI_cl g1 (show i < 2147483648 by omega)
  by_cases hq : q9 = (zI i).toNatClampNeg
  · subst hq
    simp only [updV, xUpd, if_true, hcl]
  · have hq2 : ¬ (q9 : Int) = i := fun z => hq (by omega)
    simp only [updV, xUpd, if_neg hq, if_neg hq2]
theorem x_asta {M : XM} {pc : Nat} {L st : List XV} {h : XH} {kc ks : Nat} {Q : XO → XH → Prop} {t n ci : Nat} {l l2 : XL} {f : Int → Option XL} {i : Int} {r : vw_C} {fs : List XV} (hd : decode (xmC M) pc = .ok (.aastore, 1)) (hh : h l = some (.inr (t, n, .inr (.inr (.inr f))))) (h99 : l.1 ≠ 99) (ht2 : t < 12) (hr : xCl[ci]? = some r) (hty : xTy t = .object r.1) (h2 : h l2 = some (.inl (ci, fs))) (g1 : 0 ≤ i) (g2 : i < n) (g3 : n < 2147483648) (kk : X M (pc + 1) L st (xUp h l (.inr (t, n, .inr (.inr (.inr (xUpd f i (some l2))))))) kc ks Q) : X M pc L (xR l2 :: xI i :: xR l :: st) h kc ks Q := by
  intro p l0 e R s m args below meth c D dA base ad0 h0 ad H locs cells slots ls stv F hE h9 hH hS hL hst hc hs
  obtain ⟨w2, r2, rfl, ⟨hx9, rfl⟩, hst⟩ := hst
  obtain ⟨w0, r0, rfl, rfl, hst⟩ := hst
  obtain ⟨w1, r1, rfl, ⟨hx, rfl⟩, hst⟩ := hst
  obtain ⟨⟨g, u1, q⟩, gb⟩ := hH.1 l _ hh h99
  obtain ⟨⟨ws, v1, r', hr', cellV, z1, z2, z3, -⟩, -⟩ := hH.1 l2 _ h2 (x_n99 h9 h2)
  cases Option.some.inj (hr.symm.trans hr')
  have hK := F.2.2.2.2.2.2.2.2.2.2.2.2.1.1
  have hcls := (hK.1 ci _ hr).2
  obtain ⟨hA1, hA2⟩ := hK.2 t _ (xTys_at ht2)
  rw [hty] at hA1 hA2
  obtain ⟨kA, comp, k1, k2, k3, -⟩ := hA2
  have hcomp : comp = D.1 ci := Option.some.inj (k3.symm.trans hcls.1)
  subst hcomp
  obtain ⟨kC, hkC, -⟩ := hcls.2
  have hlt : (zI i).toNatClampNeg < n := by rw [zI_clamp g1 (by omega)]; omega
  have hnin : ¬ (zI i < 0 ∨ n ≤ (zI i).toNatClampNeg) := by
    rintro (z | z)
    · exact zI_nneg g1 (by omega) z
    · omega
  have g0 : ¬ zI i < 0 := fun z => hnin (Or.inl z)
  refine W.aast F.1 F.2.1 q (fun z hz => by cases hz) (fun z => by cases z) k1 k2 rfl hkC ⟨g0, by show _ < (arrV _ _ _).slots.size; rw [arrV_size]; exact hlt⟩ z1 (fun z hz => by rw [z3] at hz; cases hz) (by rw [z2]; exact hkC) (by rw [z2]; exact va_assign hcls) rfl rfl hd fun H1 e1 e2 e3 => ?_
  have hx2 := xUp_ex (ad := ad) (c := .inr (t, n, .inr (.inr (.inr (xUpd f i (some l2)))))) (show h l ≠ none by rw [hh]; simp) h99
  have hcl := zI_cl g1 (show i < 2147483648 by omega)
  refine kk _ _ _ _ _ _ _ _ _ _ _ _ _ _ _ _ _ _ _ _ _ _ F (hE.tr hx2) (h9.ex hx2) (hH.put (show h l ≠ none by rw [hh]; simp) h99 e2 e3 ⟨va_up g (zI i).toNatClampNeg (some (ad l2)), fun j hj => ?_, ?_⟩) (hS.put e2 e3 gb) (hL.mono hx2) (hst.mono hx2) hc hs
  · by_cases hq : j = (zI i).toNatClampNeg
    · subst hq
      simp only [va_up, xUpd, hcl, if_true]
      exact ⟨fun z => absurd z (by simp), fun l3 z => (by cases z; exact ⟨(hx2.1 l2 hx9).1, rfl⟩)⟩
    · have hq2 : ¬ (j : Int) = i := fun z => hq (by omega)
      simp only [va_up, xUpd, if_neg hq, if_neg hq2]
      exact ⟨(u1 j hj).1, fun l3 z => ⟨(hx2.1 l3 ((u1 j hj).2 l3 z).1).1, ((u1 j hj).2 l3 z).2⟩⟩
  · rw [e1, vp_cell_q, vp_cell_q, arrV_store]
    congr 2
    funext q9
    by_cases hq : q9 = (zI i).toNatClampNeg
    · subst hq
      simp [updV, va_up, va_rf]
    · simp [updV, va_up, hq]
theorem x_iret {M : XM} {pc : Nat} {L : List XV} {h : XH} {kc ks : Nat} {Q : XO → XH → Prop} {v : Int} (hd : decode (xmC M) pc = .ok (.ireturn, 1)) (hr : xmR M = some .int) (hq : Q (.inl (some (xI v))) h) : X M pc L [xI v] h kc ks Q := by
  intro p l0 e R s m args below meth c D dA base ad0 h0 ad H locs cells slots ls stv F hE h9 hH hS hL hst hc hs
  obtain ⟨w, r0, rfl, e0, e2⟩ := hst
  cases e0
  cases e2
  refine W.widen (k := R.cells) (n := R.slots) (by omega) (by omega) (vx_ret ?_)
  exact W.iret F.1 F.2.1 (F.2.2.1.trans hr) (fun t ht hW => ⟨_, some (xI v), h, ad, rfl, hq, hE, by rw [ht]; exact hH, rfl, hS.F ht⟩) hS.2.2 hd F.2.2.2.2.2.2.1
theorem x_lret {M : XM} {pc : Nat} {L : List XV} {h : XH} {kc ks : Nat} {Q : XO → XH → Prop} {v : Int64} (hd : decode (xmC M) pc = .ok (.lreturn, 1)) (hr : xmR M = some .long) (hq : Q (.inl (some (xJ v))) h) : X M pc L [xJ v] h kc ks Q := by
  intro p l0 e R s m args below meth c D dA base ad0 h0 ad H locs cells slots ls stv F hE h9 hH hS hL hst hc hs
  obtain ⟨w, r0, rfl, e0, e2⟩ := hst
  cases e0
  cases e2
  refine W.widen (k := R.cells) (n := R.slots) (by omega) (by omega) (vx_ret ?_)
  exact W.lret F.1 F.2.1 (F.2.2.1.trans hr) (fun t ht hW => ⟨_, some (xJ v), h, ad, rfl, hq, hE, by rw [ht]; exact hH, rfl, hS.F ht⟩) hS.2.2 hd F.2.2.2.2.2.2.1
theorem x_fret {M : XM} {pc : Nat} {L : List XV} {h : XH} {kc ks : Nat} {Q : XO → XH → Prop} {v : UInt32} (hd : decode (xmC M) pc = .ok (.freturn, 1)) (hr : xmR M = some .float) (hq : Q (.inl (some (xF v))) h) : X M pc L [xF v] h kc ks Q := by
  intro p l0 e R s m args below meth c D dA base ad0 h0 ad H locs cells slots ls stv F hE h9 hH hS hL hst hc hs
  obtain ⟨w, r0, rfl, e0, e2⟩ := hst
  cases e0
  cases e2
  refine W.widen (k := R.cells) (n := R.slots) (by omega) (by omega) (vx_ret ?_)
  exact W.fret F.1 F.2.1 (F.2.2.1.trans hr) (fun t ht hW => ⟨_, some (xF v), h, ad, rfl, hq, hE, by rw [ht]; exact hH, rfl, hS.F ht⟩) hS.2.2 hd F.2.2.2.2.2.2.1
theorem x_dret {M : XM} {pc : Nat} {L : List XV} {h : XH} {kc ks : Nat} {Q : XO → XH → Prop} {v : UInt64} (hd : decode (xmC M) pc = .ok (.dreturn, 1)) (hr : xmR M = some .double) (hq : Q (.inl (some (xD v))) h) : X M pc L [xD v] h kc ks Q := by
  intro p l0 e R s m args below meth c D dA base ad0 h0 ad H locs cells slots ls stv F hE h9 hH hS hL hst hc hs
  obtain ⟨w, r0, rfl, e0, e2⟩ := hst
  cases e0
  cases e2
  refine W.widen (k := R.cells) (n := R.slots) (by omega) (by omega) (vx_ret ?_)
  exact W.dret F.1 F.2.1 (F.2.2.1.trans hr) (fun t ht hW => ⟨_, some (xD v), h, ad, rfl, hq, hE, by rw [ht]; exact hH, rfl, hS.F ht⟩) hS.2.2 hd F.2.2.2.2.2.2.1
theorem x_zret {M : XM} {pc : Nat} {L : List XV} {h : XH} {kc ks : Nat} {Q : XO → XH → Prop} {v : Int} (hd : decode (xmC M) pc = .ok (.ireturn, 1)) (hr : xmR M = some .boolean) (hv : v = 0 ∨ v = 1) (hq : Q (.inl (some (xI v))) h) : X M pc L [xI v] h kc ks Q := by
  intro p l0 e R s m args below meth c D dA base ad0 h0 ad H locs cells slots ls stv F hE h9 hH hS hL hst hc hs
  obtain ⟨w, r0, rfl, e0, e2⟩ := hst
  cases e0
  cases e2
  refine W.widen (k := R.cells) (n := R.slots) (by omega) (by omega) (vx_ret ?_)
  exact W.zret F.1 F.2.1 (F.2.2.1.trans hr) (by rcases hv with rfl | rfl <;> decide) (fun t ht hW => ⟨_, some (xI v), h, ad, rfl, hq, hE, by rw [ht]; exact hH, rfl, hS.F ht⟩) hS.2.2 hd F.2.2.2.2.2.2.1
theorem x_aret {M : XM} {pc : Nat} {L : List XV} {h : XH} {kc ks : Nat} {Q : XO → XH → Prop} {v : XL} {n : String} (hd : decode (xmC M) pc = .ok (.areturn, 1)) (hr : xmR M = some (.object n)) (hq : Q (.inl (some (xR v))) h) : X M pc L [xR v] h kc ks Q := by
  intro p l0 e R s m args below meth c D dA base ad0 h0 ad H locs cells slots ls stv F hE h9 hH hS hL hst hc hs
  obtain ⟨w, r0, rfl, e0, e2⟩ := hst
  have e1 := e0
  obtain ⟨hx, rfl⟩ := e0
  cases e2
  refine W.widen (k := R.cells) (n := R.slots) (by omega) (by omega) (vx_ret ?_)
  exact W.aret F.1 F.2.1 (F.2.2.1.trans hr) (Or.inl ⟨n, rfl⟩) (Or.inr ⟨_, rfl⟩) (fun t ht hW => ⟨_, some (xR v), h, ad, rfl, hq, hE, by rw [ht]; exact hH, e1, hS.F ht⟩) hS.2.2 hd F.2.2.2.2.2.2.1
theorem x_vret {M : XM} {pc : Nat} {L : List XV} {h : XH} {kc ks : Nat} {Q : XO → XH → Prop} (hd : decode (xmC M) pc = .ok (.return_, 1)) (hr : xmR M = none) (hq : Q (.inl none) h) : X M pc L [] h kc ks Q := by
  intro p l0 e R s m args below meth c D dA base ad0 h0 ad H locs cells slots ls stv F hE h9 hH hS hL hst hc hs
  cases hst
  refine W.widen (k := R.cells) (n := R.slots) (by omega) (by omega) (vx_ret ?_)
  exact W.vret F.1 F.2.1 (F.2.2.1.trans hr) (fun t ht hW => ⟨_, none, h, ad, rfl, hq, hE, by rw [ht]; exact hH, trivial, hS.F ht⟩) hS.2.2 hd F.2.2.2.2.2.2.1
