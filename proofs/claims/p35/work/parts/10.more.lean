/-! arrays are made and copied; methods with a table of handlers -/
theorem x_grow {s : State} {base : Nat} {H H1 : Heap} {locs : List Loc} (hS : va_S (fun q => base ≤ q) s.heap H locs) (z1 : H.size ≤ H1.size) (o1 : ∀ q, q < H.size → H1[q]? = H[q]?) : va_S (fun q => base ≤ q) s.heap H1 locs := ⟨Nat.le_trans hS.1 z1, fun x h1 h2 => (o1 x (Nat.lt_of_lt_of_le h1 hS.1)).trans (hS.2.1 x h1 h2), hS.2.2⟩
/-- the kinds of 'newarray' -/
def xNA (t : Nat) : Option ArrayType := match t with
  | 0 => some .int
  | 1 => some .long
  | 2 => some .boolean
  | _ => none
def xZero (t : Nat) : XA := match t with
  | 1 => .inr (.inl (fun _ => 0))
  | 4 => .inr (.inr (.inl (fun _ => 0)))
  | _ => .inl (fun _ => 0)
theorem x_newarray {M : XM} {pc : Nat} {L st : List XV} {h : XH} {kc ks : Nat} {Q : XO → XH → Prop} (l' : XL) {t n : Nat} {N : Int} {ty : ArrayType} (hd : decode (xmC M) pc = .ok (.newarray ty, 2)) (ht : xNA t = some ty) (hw : Cond.arrayClass (newarray.typeOf ty) ∈ xW) (hfree : h l' = none) (h99 : l'.1 ≠ 99) (hN : N = n) (hn : n < 1000000) (h1 : 1 ≤ kc) (h2 : n ≤ ks)
    (k : X M (pc + 2) L (xR l' :: st) (xUp h l' (.inr (t, n, xZero t))) (kc - 1) (ks - n) Q) : X M pc L (xI N :: st) h kc ks Q := by
  subst hN
  intro p l e R s m args below meth c D dA base ad0 h0 ad H locs cells slots ls stv F hE h9 hH hS hL hst hc hs
  obtain ⟨w0, r0, rfl, rfl, hst⟩ := hst
  obtain ⟨f1, f2, f3, f4, f5, f6, f7, f8, f9, f10, f11, f12, f13, f14⟩ := id F
  have hcl : (zI (n : Int)).toNatClampNeg = n := by rw [zI_clamp (by omega) (by omega)]; omega
  have hty : xTy t = newarray.typeOf ty ∧ t < 12 ∧ componentBytes (newarray.typeOf ty) ≤ 8 := by
    match t, ht with
    | 0, ht => cases ht; exact ⟨rfl, by decide, by decide⟩
    | 1, ht => cases ht; exact ⟨rfl, by decide, by decide⟩
    | 2, ht => cases ht; exact ⟨rfl, by decide, by decide⟩
    | k + 3, ht => cases ht
  refine va_newaK (N := n) f1 f2 (f6 _ hw) rfl hd rfl (zI_nneg (by omega) (by omega)) hcl (by have := Nat.mul_le_mul_left n hty.2.2; omega) (by omega) (by omega) rfl fun H1 cA e1 z1 o1 hAr hNm => ?_
  have hx2 := xUp_new (ad := ad) (c := .inr (t, n, xZero t)) (a := H.size) hfree h99
  have hA := (f13.1.2 t _ (xTys_at hty.2.1)).2
  have hcA : cA = dA t := by
    rw [hty.1] at hA
    have hA' : s.vm.findClass ("[" ++ (newarray.typeOf ty).toString) = some (dA t) := by cases ty <;> exact hA
    exact Option.some.inj (hNm.symm.trans hA')
  refine k p l e R s m args below meth c D dA base ad0 h0 _ H1 locs (cells + 1) (slots + n) ls _ F (hE.tr hx2) (h9.ex hx2) (hH.new hfree h99 (Nat.le_trans f14 hS.1) (by omega) o1 ?_) (x_grow hS (by omega) o1) (hL.mono hx2) ⟨_, _, rfl, ⟨by simp [xUp], by simp⟩, hst.mono hx2⟩ (by omega) (by omega)
  have e2 : H1[H.size]? = some (arrV (dA t) n (fun _ => defaultValue (newarray.typeOf ty))) := by rw [e1, hcA]
  have fin : ∀ (t : Nat) (ty : ArrayType), xNA t = some ty → H1[H.size]? = some (arrV (dA t) n (fun _ => defaultValue (newarray.typeOf ty))) → ∀ ad' h', xCR D dA ad' h' H.size (.inr (t, n, xZero t)) H1 := by
    intro t ty ht e2 ad' h'
    match t, ht, e2 with
    | 0, ht, e2 => cases ht; exact e2.trans (congrArg some (congrArg (arrV (dA 0) n) (funext fun j => congrArg Value.int zI_0.symm)))
    | 1, ht, e2 => cases ht; exact e2
    | 2, ht, e2 => cases ht; exact e2.trans (congrArg some (congrArg (arrV (dA 2) n) (funext fun j => congrArg Value.int zI_0.symm)))
    | k + 3, ht, e2 => cases ht
  exact fin t ty ht e2 _ _
theorem x_anewarray {M : XM} {pc i : Nat} {L st : List XV} {h : XH} {kc ks : Nat} {Q : XO → XH → Prop} (l' : XL) {t n : Nat} {N : Int} {C : String} (hd : decode (xmC M) pc = .ok (.anewarray i, 3)) (ht : xTy t = .object C) (ht2 : t < 12) (hC : C ∈ xObj) (hw : Cond.classLink (xmY M).cls i C ∈ xW) (hfree : h l' = none) (h99 : l'.1 ≠ 99) (hN : N = n) (hn : n < 1000000) (h1 : 1 ≤ kc) (h2 : n ≤ ks)
    (k : X M (pc + 3) L (xR l' :: st) (xUp h l' (.inr (t, n, .inr (.inr (.inr (fun _ => none)))))) (kc - 1) (ks - n) Q) : X M pc L (xI N :: st) h kc ks Q := by
  subst hN
  intro p l e R s m args below meth c D dA base ad0 h0 ad H locs cells slots ls stv F hE h9 hH hS hL hst hc hs
  obtain ⟨w0, r0, rfl, rfl, hst⟩ := hst
  obtain ⟨f1, f2, f3, f4, f5, f6, f7, f8, f9, f10, f11, f12, f13, f14⟩ := id F
  have hcl : (zI (n : Int)).toNatClampNeg = n := by rw [zI_clamp (by omega) (by omega)]; omega
  refine W.anew f1 f2 f5 (f6 _ hw) (va_AO.use (f13.2.2.2.2.2.2.1 C hC)) rfl hd rfl (zI_nneg (by omega) (by omega)) (by rw [hcl]; omega) (by omega) (by rw [hcl]; omega) fun cA kA comp g1 g2 g3 g4 => ?_
  rw [hcl]
  generalize hH1 : H.push ({ cls := cA, slots := Array.replicate n .null, vm := .none } : Cell) = H1
  have z1 : H1.size = H.size + 1 := by rw [← hH1, Array.size_push]
  have e1 : H1[H.size]? = some (arrV cA n (fun _ => .null)) := by rw [← hH1, Array.getElem?_push_size, ← arrV_new]
  have o1 : ∀ q : Nat, q < H.size → H1[q]? = H[q]? := fun q hq => by rw [← hH1, Array.getElem?_push, if_neg (Nat.ne_of_lt hq)]
  have hx2 := xUp_new (ad := ad) (c := .inr (t, n, .inr (.inr (.inr (fun _ => none))))) (a := H.size) hfree h99
  have hA := (f13.1.2 t _ (xTys_at ht2)).2
  have hcA : cA = dA t := by
    rw [ht] at hA
    obtain ⟨_, _, _, _, _, q⟩ := hA
    exact Option.some.inj (g1.symm.trans q)
  refine k p l e R s m args below meth c D dA base ad0 h0 _ H1 locs (cells + 1) (slots + n) ls _ F (hE.tr hx2) (h9.ex hx2) (hH.new hfree h99 (Nat.le_trans f14 hS.1) (by omega) o1 ⟨fun _ => none, fun j hj => ⟨fun _ => rfl, fun l2 z => by cases z⟩, ?_⟩) (x_grow hS (by omega) o1) (hL.mono hx2) ⟨_, _, rfl, ⟨by simp [xUp], by simp⟩, hst.mono hx2⟩ (by omega) (by omega)
  rw [e1, hcA, vp_cell_q]
  rfl
/-- System.arraycopy between rows of longs, each from its start -/
theorem x_copyl {M : XM} {pc i : Nat} {L st : List XV} {h : XH} {kc ks : Nat} {Q : XO → XH → Prop} {l1 l2 : XL} {n1 n2 n : Nat} {f g : Int → Int64} (hd : decode (xmC M) pc = .ok (.invokestatic i, 3)) (hw : Cond.methodLink (xmY M).cls i arraycopyName ∈ xW ∧ Cond.native arraycopyName ∈ xW ∧ Cond.static arraycopyName ∈ xW ∧ Cond.initialized "java/lang/System" ∈ xW)
    (h1 : h l1 = some (.inr (1, n1, .inr (.inl f)))) (h2 : h l2 = some (.inr (1, n2, .inr (.inl g)))) (h91 : l1.1 ≠ 99) (h92 : l2.1 ≠ 99) (hn1 : n ≤ n1) (hn2 : n ≤ n2) (hn : n < 1000000) (hfr : 1 ≤ xmF M) (hlo : (st.map xCat).sum + (nativeFrameWords "java/lang/System" "arraycopy" 5 + 11) ≤ xmO M)
    (k : X M (pc + 3) L st (xUp h l2 (.inr (1, n2, .inr (.inl (fun j => if 0 ≤ j ∧ j < n then f j else g j))))) kc ks Q) : X M pc L (xI (n : Int) :: xI 0 :: xR l2 :: xI 0 :: xR l1 :: st) h kc ks Q := by
  intro p l e R s m args below meth c D dA base ad0 h0 ad H locs cells slots ls stv F hE h9 hH hS hL hst hc hs
  obtain ⟨w0, r0, rfl, rfl, hst⟩ := hst
  obtain ⟨w1, r1, rfl, rfl, hst⟩ := hst
  obtain ⟨w2, r2, rfl, ⟨hx2, rfl⟩, hst⟩ := hst
  obtain ⟨w3, r3, rfl, rfl, hst⟩ := hst
  obtain ⟨w4, r4, rfl, ⟨hx4, rfl⟩, hst⟩ := hst
  obtain ⟨f1, f2, f3, f4, f5, f6, f7, f8, f9, f10, f11, f12, f13, f14⟩ := id F
  have c1 : H[ad l1]? = some (vp_cell (dA 1) (n1, .inr (.inl (fun j => f j)))) := (hH.1 l1 _ h1 h91).1
  obtain ⟨c2, gb⟩ := hH.1 l2 _ h2 h92
  have c2 : H[ad l2]? = some (vp_cell (dA 1) (n2, .inr (.inl (fun j => g j)))) := c2
  have hA := (f13.1.2 1 _ (xTys_at (by decide))).1
  have hcl : (zI (n : Int)).toNatClampNeg = n := by rw [zI_clamp (by omega) (by omega)]; omega
  have hcl0 : (zI 0).toNatClampNeg = 0 := by rw [zI_0]; rfl
  have hn0 : (zI (n : Int)).toInt = n := zI_toInt ⟨by omega, by omega⟩
  have h00 : (zI 0).toInt = 0 := by rw [zI_0]; rfl
  have p0 : ¬ zI 0 < 0 := by rw [zI_0]; decide
  intro T hT X0
  obtain ⟨-, k0, hk0, cm0, hkk0⟩ := hA n1 (fun j => .long (f j))
  obtain ⟨-, k1, hk1, cm1, hkk1⟩ := hA n2 (fun j => .long (g j))
  obtain ⟨vm', X', step⟩ := X0.arraycopy f1 f5 (f6 _ hw.1) (f6 _ hw.2.1) (f6 _ hw.2.2.1) (f6 _ hw.2.2.2) (src := ad l1) (dst := ad l2) (cs := vp_cell (dA 1) (n1, .inr (.inl (fun j => f j)))) (cd := vp_cell (dA 1) (n2, .inr (.inl (fun j => g j)))) (srcPos := zI 0) (destPos := zI 0) (n := zI (n : Int)) (by rw [hT]; exact c1) (by rw [hT]; exact c2)
    (fun _ h => by cases h) (fun _ h => by cases h) (fun h => by cases h) (fun h => by cases h) hk0 hk1 hkk0 hkk1 (by simp) p0 p0 (zI_nneg (by omega) (by omega))
    (by rw [h00, hn0]; show ¬ _ > ((arrV (dA 1) n1 (fun j => .long (f j))).slots.size : Int); rw [arrV_size]; omega)
    (by rw [h00, hn0]; show ¬ _ > ((arrV (dA 1) n2 (fun j => .long (g j))).slots.size : Int); rw [arrV_size]; omega)
    (fun vm₁ _ i hi => by
      rw [hcl] at hi
      have e : (vp_cell (dA 1) (n1, .inr (.inl (fun j => f j)))).slots.getD ((zI 0).toNatClampNeg + i) .null = .long (f i) := by
        show (arrV (dA 1) n1 (fun j => .long (f j))).slots.getD _ _ = _
        rw [hcl0, Nat.zero_add, Array.getD_eq_getD_getElem?, arrV_read _ _ (by omega)]
        rfl
      exact ⟨by rw [e]; rfl, by rw [e]; exact trivial⟩)
    (g := F0 m pc ls (.int (zI (n : Int)) :: .int (zI 0) :: .ref (ad l2) :: .int (zI 0) :: .ref (ad l1) :: r4)) rfl (by rw [f4]; exact hL.2.1) (rest := r4) rfl (by rw [f2]; exact hd) (by omega) (by show 2 * 0 + _ + _ ≤ _; rw [hst.cats]; omega)
  have e1 : copied (vp_cell (dA 1) (n1, .inr (.inl (fun j => f j)))) (vp_cell (dA 1) (n2, .inr (.inl (fun j => g j)))) (zI 0) (zI 0) (zI (n : Int)) = vp_cell (dA 1) (n2, .inr (.inl (fun j : Nat => (fun j : Int => if 0 ≤ j ∧ j < n then f j else g j) (j : Int)))) := by
    refine (va_copied (fun z => Value.long z) (dA 1) (dA 1) (fun j : Nat => f j) (fun j : Nat => g j) (by rw [hcl0, hcl]; omega)).trans ?_
    rw [vp_cell_l]
    refine congrArg (arrV (dA 1) n2) (funext fun j => ?_)
    rw [hcl0, hcl]
    by_cases hj : j < n
    · simp [va_cpy, hj]
    · simp [va_cpy, hj]
  rw [e1] at X' step
  generalize hc9 : (vp_cell (dA 1) (n2, .inr (.inl (fun j : Nat => (fun j : Int => if 0 ≤ j ∧ j < n then f j else g j) (j : Int))))) = c9 at X' step
  have hl : ad l2 < H.size := (Array.getElem?_eq_some_iff.mp c2).1
  have hheap : ((T.setVm vm').setCell (ad l2) c9).heap = H.setIfInBounds (ad l2) c9 := by rw [← hT]; rfl
  have oq : ∀ q : Nat, q ≠ ad l2 → (H.setIfInBounds (ad l2) c9)[q]? = H[q]? := fun q hq => by simp [Array.getElem?_setIfInBounds, Ne.symm hq]
  have ha : (H.setIfInBounds (ad l2) c9)[ad l2]? = some c9 := by simp [Array.getElem?_setIfInBounds, hl]
  have hz : (H.setIfInBounds (ad l2) c9).size = H.size := by simp
  have hx := xUp_ex (ad := ad) (c := .inr (1, n2, .inr (.inl (fun j => if 0 ≤ j ∧ j < n then f j else g j)))) (show h l2 ≠ none by rw [h2]; simp) h92
  obtain ⟨t, a1, b1⟩ := k p l e R s m args below meth c D dA base ad0 h0 ad _ _ cells slots ls r4 F (hE.tr hx) (h9.ex hx) (hH.put (show h l2 ≠ none by rw [h2]; simp) h92 hz oq (by show _ = _; rw [ha, ← hc9])) ⟨by rw [hz]; exact hS.1, fun q g1 g2 => by
      rw [oq q (fun e => g2 (by rw [e]; exact gb))]
      exact hS.2.1 q g1 g2, fun q hq => by
      rcases List.mem_append.mp hq with h | h
      · exact hS.2.2 q h
      · obtain ⟨z, -, hz⟩ := List.mem_map.mp h
        rw [← hz]
        exact gb⟩ (hL.mono hx) (hst.mono hx) hc hs _ hheap X'
  exact ⟨t, step t a1, b1⟩
/-- methods with a table -/
def xOkH (M : XM) (n : Nat) : Prop := plainName (xmY M).cls = true ∧ Cond.codeWith (xmY M) (xmC M) (xmL M) (xmR M) (xmH M) ∈ xW ∧ Cond.initialized (xmY M).cls ∈ xW ∧ ((xmY M).cls ≠ "java/lang/invoke/MethodHandle" ∧ (xmY M).cls ≠ "java/lang/invoke/VarHandle") ∧ (parseMethodDescriptor (xmY M).desc).map (fun d => d.parameters.length) = some n
abbrev xWsH (M : XM) : List Cond := Cond.codeWith (xmY M) (xmC M) (xmL M) (xmR M) (xmH M) :: xW
theorem x_metH {M : XM} {n : Nat} {as : List XV} {h : XH} {a b : Nat} {Q : XO → XH → Prop} (hok : xOkH M n) (hc : X M 0 (xEnt M as) [] h a b Q) (hn : (xArgs as).length ≤ xmL M) {l : Launch} (hl : l.stackTraces = false) (D : va_G) (dA : Nat → ClassId) (base : Nat) (ad : XL → Nat) :
    vx_Met l (xmY M) (xWsH M) { frames := xmF M, cells := a, slots := b, locals := xmO M } (xPc D dA base ad h as) (xQc D dA base ad h Q) (xXC D dA base ad h Q) a b (fun q => base ≤ q) := by
  refine vx_ofWH (cc := xmC M) (maxL := xmL M) (ret := xmR M) (hh := xmH M) hok.1 rfl ?_
  intro p e s m args below meth c s₁ B hml hv
  obtain ⟨ws, rfl, hsr, hamb, hb0, h9, hH⟩ := hv
  rw [lg_entry_eq]
  have ht2 : c.exceptionTable.toList = tableOf (xmH M) := vx_table (x := xmY M) B (atoms_spec (ws := xWsH M) B.pre _ List.mem_cons_self)
  exact hc p l e _ s m _ below meth c D dA base ad h ad s.heap [] 0 0 _ [] (x_fx rfl B hml ht2 hl (Nat.le_refl _) (Nat.le_refl _) hamb hb0) xEx.rf h9 hH va_S.rf (xEnt_ok hsr hn) rfl (by show 0 + a ≤ a; omega) (by show 0 + b ≤ b; omega)
theorem x_callSH {M M' : XM} {pc i n : Nat} {L as rest : List XV} {h : XH} {kc ks : Nat} (a b : Nat) {Q Q1 : XO → XH → Prop} (hok : xOkH M' n) (hd : decode (xmC M) pc = .ok (.invokestatic i, 3)) (hl : Cond.methodLink (xmY M).cls i (xmY M') ∈ xW) (hsw : Cond.static (xmY M') ∈ xW)
    (hc1 : X M' 0 (xEnt M' as) [] h a b Q1) (hn : as.length = n) (hn2 : (xArgs as).length ≤ xmL M') (hcat : (rest.map xCat).sum ≤ 8) (hroom : xmF M' + 1 ≤ xmF M ∧ 8 + (xmL M' + 11) + xmO M' ≤ xmO M) (ha : a ≤ kc) (hb : b ≤ ks)
    (kv : ∀ h', Q1 (.inl none) h' → X M (pc + 3) L rest h' (kc - a) (ks - b) Q) (kr : ∀ v h', Q1 (.inl (some v)) h' → X M (pc + 3) L (v :: rest) h' (kc - a) (ks - b) Q) (kx : ∀ E h', Q1 (.inr E) h' → XX M pc L h' E (kc - a) (ks - b) Q) :
    X M pc L (as.reverse ++ rest) h kc ks Q := by
  intro p l e R s m args below meth c D dA base ad0 h0 ad H locs cells slots ls stv F hE h9 hH hS hL hst hc hs
  obtain ⟨w1, w2, rfl, s1, s2⟩ := xSR.app hst
  have s3 := s1.rev
  rw [List.reverse_reverse] at s3
  obtain ⟨f1, f2, f3, f4, f5, f6, f7, f8, f9, f10, f11, f12, f13, f14⟩ := id F
  have cw : vx_CSW R s args (xmY M).cls i (xmY M') (xmC M') (xmL M') (xmR M') (xmH M') (xWsH M') { frames := xmF M', cells := a, slots := b, locals := xmO M' } a b n := by
    obtain ⟨q2, q3, q4, q5, q6⟩ := id hok
    refine ⟨⟨rfl, rfl, Nat.le_trans hroom.1 f10, Nat.le_trans hroom.2 f11, pay_in f6 (xW_in fun w hw => ?_), List.mem_cons_self⟩, f6 _ q3, f6 _ q4, q5, fun sig h => ?_, f6 _ hl, f6 _ hsw⟩
    · rcases List.mem_cons.mp hw with rfl | hw
      · exact q3
      · exact hw
    · rw [h] at q6
      exact (Option.some.inj q6).symm
  exact x_back (vx_runSX ⟨f1, f2, f4, f5, f6⟩ (x_metH hok hc1 hn2 f12 D dA base ad) cw ⟨xPc_blind, fun U hU hW => xPc_at f13 f14 h9 hH hS s3 hU hW⟩ rfl (by rw [s3.len]; exact hn) hL.2.1 (by show w1 ++ w2 = w1.reverse.reverse ++ w2; rw [List.reverse_reverse]) (by show 2 * 0 + _ ≤ 8; rw [s2.cats]; omega) hd ⟨by omega, by omega⟩) F hE h9 hS hL s2 hc hs ha hb kv kr kx
/-- caught by the row x of the method's table; the rows ahead name other classes -/
theorem XX.catch {M : XM} {pc : Nat} {L : List XV} {h : XH} {E : String} {kc ks : Nat} {Q : XO → XH → Prop} (pre : List (Nat × Nat × Nat × Nat)) (x : Nat × Nat × Nat × Nat) (suf : List (Nat × Nat × Nat × Nat)) (hsplit : xmH M = pre ++ x :: suf) (hE : E ∈ xExc)
    (hpass : ∀ z ∈ pre, z.2.2.2 ≠ 0 ∧ ∃ nm ∈ xExc, Cond.classLink (xmY M).cls z.2.2.2 nm ∈ xW ∧ E ≠ nm) (hx : x.1 ≤ pc ∧ pc < x.2.1) (h0 : x.2.2.2 ≠ 0) (hlink : Cond.classLink (xmY M).cls x.2.2.2 E ∈ xW) (k : X M x.2.2.1 L [none] h kc ks Q) : XX M pc L h E kc ks Q := by
  intro p l e R s m args below meth c D dA base ad0 h00 ad H locs cells slots ls stv q ce F hE0 h9 hH hS hl h1 h2 h3 hc hs
  obtain ⟨f1, f2, f3, f4, f5, f6, f7, f8, f9, f10, f11, f12, f13, f14⟩ := id F
  refine vx_catch (own := (xmY M).cls) (name := E) f5 (tableOf pre) ⟨x.1, x.2.1, x.2.2.1, x.2.2.2⟩ (tableOf suf) (by rw [f8, hsplit]; simp [tableOf]) (fun z hz => ?_) (by simp [covers, hx.1, hx.2]) h0 (f6 _ hlink) (f13.2.2.2.2.1 E hE) h1 h2 h3 (k p l e R s m args below meth c D dA base ad0 h00 ad H locs cells slots ls [.ref q] F hE0 h9 hH hS hl ⟨_, _, rfl, ⟨q, rfl⟩, rfl⟩ hc hs)
  obtain ⟨z', hz', rfl⟩ := List.mem_map.mp hz
  obtain ⟨a1, nm, a2, a3, a4⟩ := hpass z' hz'
  exact Or.inr ⟨a1, nm, f6 _ a3, f13.2.2.2.2.2.1 E hE nm a2 a4⟩
/-- Math.max, Math.min -/
theorem x_mmax {M : XM} {pc i : Nat} {L st : List XV} {h : XH} {kc ks : Nat} {Q : XO → XH → Prop} {a b : Int} (hd : decode (xmC M) pc = .ok (.invokestatic i, 3)) (hw : Cond.methodLink (xmY M).cls i Lib.Math.max.name ∈ xW) (hw2 : Cond.static Lib.Math.max.name ∈ xW ∧ Cond.initialized "java/lang/Math" ∈ xW ∧ Cond.code Lib.Math.max.name Lib.Math.max.code 2 (some .int) ∈ xW) (hfr : 1 ≤ xmF M) (hlo : (st.map xCat).sum + 13 ≤ xmO M) (h1 : zR a) (h2 : zR b) (k : X M (pc + 3) L (xI (if a < b then b else a) :: st) h kc ks Q) : X M pc L (xI b :: xI a :: st) h kc ks Q := by
  intro p l e R s m args below meth c D dA base ad0 h0 ad H locs cells slots ls stv F hE h9 hH hS hL hst hc hs
  obtain ⟨w0, r0, rfl, rfl, hst⟩ := hst
  obtain ⟨w1, r1, rfl, rfl, hst⟩ := hst
  obtain ⟨f1, f2, f3, f4, f5, f6, f7, f8, f9, f10, f11, f12, f13, f14⟩ := id F
  refine va_mmax f1 f2 (by rw [f4]; exact hL.2.1.symm) f5 (f6 _ hw) (f6 _ hw2.1) (f6 _ hw2.2.1) (f6 _ hw2.2.2) (by omega) (by rw [hst.cats]; omega) (by omega) (by omega) hd (k p l e R s m args below meth c D dA base ad0 h0 ad H locs cells slots ls _ F hE h9 hH hS hL ⟨_, _, rfl, ?_, hst⟩ hc hs)
  show Value.int _ = Value.int _
  congr 1
  by_cases hab : a < b
  · rw [if_pos ((zI_lt h1 h2).mpr hab), if_pos hab]
  · rw [if_neg (fun z => hab ((zI_lt h1 h2).mp z)), if_neg hab]
theorem x_mmin {M : XM} {pc i : Nat} {L st : List XV} {h : XH} {kc ks : Nat} {Q : XO → XH → Prop} {a b : Int} (hd : decode (xmC M) pc = .ok (.invokestatic i, 3)) (hw : Cond.methodLink (xmY M).cls i Lib.Math.min.name ∈ xW) (hw2 : Cond.static Lib.Math.min.name ∈ xW ∧ Cond.initialized "java/lang/Math" ∈ xW ∧ Cond.code Lib.Math.min.name Lib.Math.min.code 2 (some .int) ∈ xW) (hfr : 1 ≤ xmF M) (hlo : (st.map xCat).sum + 13 ≤ xmO M) (h1 : zR a) (h2 : zR b) (k : X M (pc + 3) L (xI (if b < a then b else a) :: st) h kc ks Q) : X M pc L (xI b :: xI a :: st) h kc ks Q := by
  intro p l e R s m args below meth c D dA base ad0 h0 ad H locs cells slots ls stv F hE h9 hH hS hL hst hc hs
  obtain ⟨w0, r0, rfl, rfl, hst⟩ := hst
  obtain ⟨w1, r1, rfl, rfl, hst⟩ := hst
  obtain ⟨f1, f2, f3, f4, f5, f6, f7, f8, f9, f10, f11, f12, f13, f14⟩ := id F
  refine va_mmin f1 f2 (by rw [f4]; exact hL.2.1.symm) f5 (f6 _ hw) (f6 _ hw2.1) (f6 _ hw2.2.1) (f6 _ hw2.2.2) (by omega) (by rw [hst.cats]; omega) (by omega) (by omega) hd (k p l e R s m args below meth c D dA base ad0 h0 ad H locs cells slots ls _ F hE h9 hH hS hL ⟨_, _, rfl, ?_, hst⟩ hc hs)
  show Value.int _ = Value.int _
  congr 1
  by_cases hab : b < a
  · simp [hab, (zI_lt h2 h1).mpr hab]
  · have h9 : ¬ zI b < zI a := fun z => hab ((zI_lt h2 h1).mp z)
    simp [hab, h9]
