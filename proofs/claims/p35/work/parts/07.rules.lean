theorem x_iconst {M : XM} {pc : Nat} {L st : List XV} {h : XH} {kc ks : Nat} {Q : XO → XH → Prop} {n : Int} (hd : decode (xmC M) pc = .ok (.iconst n, 1))  (k : X M (pc + 1) L (xI n :: st) h kc ks Q) : X M pc L (st) h kc ks Q := by
  refine x_of k ?_
  intro p l e R s m args below meth c D dA base ad H locs cells slots QQ ls stv F hl hst go
  exact lv_iconst F.1 F.2.1 hd rfl (go _ _ hl ⟨_, _, rfl, rfl, hst⟩)
theorem x_bipush {M : XM} {pc : Nat} {L st : List XV} {h : XH} {kc ks : Nat} {Q : XO → XH → Prop} {n v : Int} (hd : decode (xmC M) pc = .ok (.bipush n, 2)) (hv : (Int8.ofInt n).toInt32 = zI v) (k : X M (pc + 2) L (xI v :: st) h kc ks Q) : X M pc L (st) h kc ks Q := by
  refine x_of k ?_
  intro p l e R s m args below meth c D dA base ad H locs cells slots QQ ls stv F hl hst go
  exact lv_bipush F.1 F.2.1 hd hv (go _ _ hl ⟨_, _, rfl, rfl, hst⟩)
theorem x_sipush {M : XM} {pc : Nat} {L st : List XV} {h : XH} {kc ks : Nat} {Q : XO → XH → Prop} {n v : Int} (hd : decode (xmC M) pc = .ok (.sipush n, 3)) (hv : (Int16.ofInt n).toInt32 = zI v) (k : X M (pc + 3) L (xI v :: st) h kc ks Q) : X M pc L (st) h kc ks Q := by
  refine x_of k ?_
  intro p l e R s m args below meth c D dA base ad H locs cells slots QQ ls stv F hl hst go
  exact lv_sipush F.1 F.2.1 hd hv (go _ _ hl ⟨_, _, rfl, rfl, hst⟩)
theorem x_lconst {M : XM} {pc : Nat} {L st : List XV} {h : XH} {kc ks : Nat} {Q : XO → XH → Prop} {n : Fin 2} {v : Int64} (hd : decode (xmC M) pc = .ok (.lconst n, 1)) (hv : Int64.ofNat (n : Nat) = v) (k : X M (pc + 1) L (xJ v :: st) h kc ks Q) : X M pc L (st) h kc ks Q := by
  refine x_of k ?_
  intro p l e R s m args below meth c D dA base ad H locs cells slots QQ ls stv F hl hst go
  exact lv_lconst F.1 F.2.1 hd hv (go _ _ hl ⟨_, _, rfl, rfl, hst⟩)
theorem x_fconst0 {M : XM} {pc : Nat} {L st : List XV} {h : XH} {kc ks : Nat} {Q : XO → XH → Prop}  (hd : decode (xmC M) pc = .ok (.fconst 0, 1))  (k : X M (pc + 1) L (xF 0 :: st) h kc ks Q) : X M pc L (st) h kc ks Q := by
  refine x_of k ?_
  intro p l e R s m args below meth c D dA base ad H locs cells slots QQ ls stv F hl hst go
  exact lv_fconst0 F.1 F.2.1 hd (go _ _ hl ⟨_, _, rfl, rfl, hst⟩)
theorem x_dconst0 {M : XM} {pc : Nat} {L st : List XV} {h : XH} {kc ks : Nat} {Q : XO → XH → Prop}  (hd : decode (xmC M) pc = .ok (.dconst 0, 1))  (k : X M (pc + 1) L (xD 0 :: st) h kc ks Q) : X M pc L (st) h kc ks Q := by
  refine x_of k ?_
  intro p l e R s m args below meth c D dA base ad H locs cells slots QQ ls stv F hl hst go
  exact lv_dconst0 F.1 F.2.1 hd (go _ _ hl ⟨_, _, rfl, rfl, hst⟩)
theorem x_ldc {M : XM} {pc : Nat} {L st : List XV} {h : XH} {kc ks : Nat} {Q : XO → XH → Prop} {i : Nat} {v : Int} (hd : decode (xmC M) pc = .ok (.ldc i, 2)) (hw : Cond.constant (xmY M).cls i (zI v) ∈ xW) (k : X M (pc + 2) L (xI v :: st) h kc ks Q) : X M pc L (st) h kc ks Q := by
  refine x_of k ?_
  intro p l e R s m args below meth c D dA base ad H locs cells slots QQ ls stv F hl hst go
  exact lv_ldc F.1 F.2.1 F.2.2.2.2.1 (F.2.2.2.2.2.1 _ hw) hd (go _ _ hl ⟨_, _, rfl, rfl, hst⟩)
theorem x_ldcw {M : XM} {pc : Nat} {L st : List XV} {h : XH} {kc ks : Nat} {Q : XO → XH → Prop} {i : Nat} {v : Int} (hd : decode (xmC M) pc = .ok (.ldc_w i, 3)) (hw : Cond.constant (xmY M).cls i (zI v) ∈ xW) (k : X M (pc + 3) L (xI v :: st) h kc ks Q) : X M pc L (st) h kc ks Q := by
  refine x_of k ?_
  intro p l e R s m args below meth c D dA base ad H locs cells slots QQ ls stv F hl hst go
  exact lv_ldcw F.1 F.2.1 F.2.2.2.2.1 (F.2.2.2.2.2.1 _ hw) hd (go _ _ hl ⟨_, _, rfl, rfl, hst⟩)
theorem x_ldc2 {M : XM} {pc : Nat} {L st : List XV} {h : XH} {kc ks : Nat} {Q : XO → XH → Prop} {i : Nat} {v : Int64} (hd : decode (xmC M) pc = .ok (.ldc2_w i, 3)) (hw : Cond.constantLong (xmY M).cls i v ∈ xW) (k : X M (pc + 3) L (xJ v :: st) h kc ks Q) : X M pc L (st) h kc ks Q := by
  refine x_of k ?_
  intro p l e R s m args below meth c D dA base ad H locs cells slots QQ ls stv F hl hst go
  exact lv_ldc2 F.1 F.2.1 F.2.2.2.2.1 (F.2.2.2.2.2.1 _ hw) hd (go _ _ hl ⟨_, _, rfl, rfl, hst⟩)
theorem x_iload {M : XM} {pc : Nat} {L st : List XV} {h : XH} {kc ks : Nat} {Q : XO → XH → Prop} {i : Nat} {v : Int} (hd : decode (xmC M) pc = .ok (.iload i, 2)) (hl : L[i]? = some (xI v)) (k : X M (pc + 2) L (xI v :: st) h kc ks Q) : X M pc L st h kc ks Q := by
  refine x_of k ?_
  intro p l e R s m args below meth c D dA base ad H locs cells slots QQ ls stv F hL hst go
  obtain ⟨w, hw, rfl⟩ := hL.2.2.2 i _ hl
  exact lv_iload F.1 F.2.1 hd hw (go _ _ hL ⟨_, _, rfl, rfl, hst⟩)
theorem x_iload_n {M : XM} {pc : Nat} {L st : List XV} {h : XH} {kc ks : Nat} {Q : XO → XH → Prop} {n : Fin 4} {v : Int} (hd : decode (xmC M) pc = .ok (.iload_n n, 1)) (hl : L[(n : Nat)]? = some (xI v)) (k : X M (pc + 1) L (xI v :: st) h kc ks Q) : X M pc L st h kc ks Q := by
  refine x_of k ?_
  intro p l e R s m args below meth c D dA base ad H locs cells slots QQ ls stv F hL hst go
  obtain ⟨w, hw, rfl⟩ := hL.2.2.2 _ _ hl
  exact lv_iload_n F.1 F.2.1 hd rfl hw (go _ _ hL ⟨_, _, rfl, rfl, hst⟩)
theorem x_lload {M : XM} {pc : Nat} {L st : List XV} {h : XH} {kc ks : Nat} {Q : XO → XH → Prop} {i : Nat} {v : Int64} (hd : decode (xmC M) pc = .ok (.lload i, 2)) (hl : L[i]? = some (xJ v)) (k : X M (pc + 2) L (xJ v :: st) h kc ks Q) : X M pc L st h kc ks Q := by
  refine x_of k ?_
  intro p l e R s m args below meth c D dA base ad H locs cells slots QQ ls stv F hL hst go
  obtain ⟨w, hw, rfl⟩ := hL.2.2.2 i _ hl
  exact lv_lload F.1 F.2.1 hd hw (go _ _ hL ⟨_, _, rfl, rfl, hst⟩)
theorem x_lload_n {M : XM} {pc : Nat} {L st : List XV} {h : XH} {kc ks : Nat} {Q : XO → XH → Prop} {n : Fin 4} {v : Int64} (hd : decode (xmC M) pc = .ok (.lload_n n, 1)) (hl : L[(n : Nat)]? = some (xJ v)) (k : X M (pc + 1) L (xJ v :: st) h kc ks Q) : X M pc L st h kc ks Q := by
  refine x_of k ?_
  intro p l e R s m args below meth c D dA base ad H locs cells slots QQ ls stv F hL hst go
  obtain ⟨w, hw, rfl⟩ := hL.2.2.2 _ _ hl
  exact lv_lload_n F.1 F.2.1 hd rfl hw (go _ _ hL ⟨_, _, rfl, rfl, hst⟩)
theorem x_aload {M : XM} {pc : Nat} {L st : List XV} {h : XH} {kc ks : Nat} {Q : XO → XH → Prop} {i : Nat} {v : XL} (hd : decode (xmC M) pc = .ok (.aload i, 2)) (hl : L[i]? = some (xR v)) (k : X M (pc + 2) L (xR v :: st) h kc ks Q) : X M pc L st h kc ks Q := by
  refine x_of k ?_
  intro p l e R s m args below meth c D dA base ad H locs cells slots QQ ls stv F hL hst go
  obtain ⟨w, hw, ⟨hx, rfl⟩⟩ := hL.2.2.2 i _ hl
  exact lv_aload F.1 F.2.1 hd hw (go _ _ hL ⟨_, _, rfl, ⟨hx, rfl⟩, hst⟩)
theorem x_aload_n {M : XM} {pc : Nat} {L st : List XV} {h : XH} {kc ks : Nat} {Q : XO → XH → Prop} {n : Fin 4} {v : XL} (hd : decode (xmC M) pc = .ok (.aload_n n, 1)) (hl : L[(n : Nat)]? = some (xR v)) (k : X M (pc + 1) L (xR v :: st) h kc ks Q) : X M pc L st h kc ks Q := by
  refine x_of k ?_
  intro p l e R s m args below meth c D dA base ad H locs cells slots QQ ls stv F hL hst go
  obtain ⟨w, hw, ⟨hx, rfl⟩⟩ := hL.2.2.2 _ _ hl
  exact lv_aload_n F.1 F.2.1 hd rfl hw (go _ _ hL ⟨_, _, rfl, ⟨hx, rfl⟩, hst⟩)
theorem x_fload {M : XM} {pc : Nat} {L st : List XV} {h : XH} {kc ks : Nat} {Q : XO → XH → Prop} {i : Nat} {v : UInt32} (hd : decode (xmC M) pc = .ok (.fload i, 2)) (hl : L[i]? = some (xF v)) (k : X M (pc + 2) L (xF v :: st) h kc ks Q) : X M pc L st h kc ks Q := by
  refine x_of k ?_
  intro p l e R s m args below meth c D dA base ad H locs cells slots QQ ls stv F hL hst go
  obtain ⟨w, hw, rfl⟩ := hL.2.2.2 i _ hl
  exact lv_fload F.1 F.2.1 hd hw (go _ _ hL ⟨_, _, rfl, rfl, hst⟩)
theorem x_fload_n {M : XM} {pc : Nat} {L st : List XV} {h : XH} {kc ks : Nat} {Q : XO → XH → Prop} {n : Fin 4} {v : UInt32} (hd : decode (xmC M) pc = .ok (.fload_n n, 1)) (hl : L[(n : Nat)]? = some (xF v)) (k : X M (pc + 1) L (xF v :: st) h kc ks Q) : X M pc L st h kc ks Q := by
  refine x_of k ?_
  intro p l e R s m args below meth c D dA base ad H locs cells slots QQ ls stv F hL hst go
  obtain ⟨w, hw, rfl⟩ := hL.2.2.2 _ _ hl
  exact lv_fload_n F.1 F.2.1 hd rfl hw (go _ _ hL ⟨_, _, rfl, rfl, hst⟩)
theorem x_dload {M : XM} {pc : Nat} {L st : List XV} {h : XH} {kc ks : Nat} {Q : XO → XH → Prop} {i : Nat} {v : UInt64} (hd : decode (xmC M) pc = .ok (.dload i, 2)) (hl : L[i]? = some (xD v)) (k : X M (pc + 2) L (xD v :: st) h kc ks Q) : X M pc L st h kc ks Q := by
  refine x_of k ?_
  intro p l e R s m args below meth c D dA base ad H locs cells slots QQ ls stv F hL hst go
  obtain ⟨w, hw, rfl⟩ := hL.2.2.2 i _ hl
  exact lv_dload F.1 F.2.1 hd hw (go _ _ hL ⟨_, _, rfl, rfl, hst⟩)
theorem x_dload_n {M : XM} {pc : Nat} {L st : List XV} {h : XH} {kc ks : Nat} {Q : XO → XH → Prop} {n : Fin 4} {v : UInt64} (hd : decode (xmC M) pc = .ok (.dload_n n, 1)) (hl : L[(n : Nat)]? = some (xD v)) (k : X M (pc + 1) L (xD v :: st) h kc ks Q) : X M pc L st h kc ks Q := by
  refine x_of k ?_
  intro p l e R s m args below meth c D dA base ad H locs cells slots QQ ls stv F hL hst go
  obtain ⟨w, hw, rfl⟩ := hL.2.2.2 _ _ hl
  exact lv_dload_n F.1 F.2.1 hd rfl hw (go _ _ hL ⟨_, _, rfl, rfl, hst⟩)
def xSt1 (L : List XV) (i : Nat) (v : XV) : List XV := (if xCat ((none :: L).getD i none) = 2 then L.set (i - 1) none else L).set i v
def xSt2 (L : List XV) (i : Nat) (v : XV) : List XV := ((if xCat ((none :: L).getD i none) = 2 then L.set (i - 1) none else L).set i v).set (i + 1) none
def xAll (ls : Array Slot) : List (Nat × Value) := (List.range ls.size).filterMap fun j => match ls[j]? with
  | some (Slot.val w) => some (j, w)
  | _ => none
theorem xAll_mem {ls : Array Slot} {j : Nat} {w : Value} : (j, w) ∈ xAll ls ↔ ls[j]? = some (.val w) := by
  constructor
  · intro h
    obtain ⟨i, -, hi⟩ := List.mem_filterMap.mp h
    cases hx : ls[i]? with
    | none => rw [hx] at hi; cases hi
    | some sl =>
      rw [hx] at hi
      cases sl with
      | val v => cases hi; exact hx
      | unset => cases hi
      | second => cases hi
  · intro h
    refine List.mem_filterMap.mpr ⟨j, List.mem_range.mpr (lv_lt h), ?_⟩
    rw [h]
theorem xAll_has {ad : XL → Nat} {h : XH} {nL : Nat} {L : List XV} {ls : Array Slot} (q : xLR ad h nL L ls) : lv_has ls nL (xAll ls) := ⟨q.2.1, q.2.2.1, fun x hx => xAll_mem.mp hx⟩
theorem xKill_at {L : List XV} {i j : Nat} {v : XV} (hji : j ≠ i) (h : (if xCat ((none :: L).getD i none) = 2 then L.set (i - 1) none else L)[j]? = some v) (hv : v ≠ none) : L[j]? = some v ∧ (j + 1 = i → ¬ xCat v = 2) := by
  by_cases hj : j + 1 = i
  · subst hj
    rw [List.getD_cons_succ] at h
    by_cases hc : xCat (L.getD j none) = 2
    · rw [if_pos hc, Nat.add_sub_cancel] at h
      by_cases hl : j < L.length
      · rw [List.getElem?_set_self hl] at h
        cases h
        exact absurd rfl hv
      · rw [List.getElem?_set, if_pos rfl, if_neg hl] at h
        cases h
    · rw [if_neg hc] at h
      refine ⟨h, fun _ => ?_⟩
      rw [List.getD_eq_getElem?_getD, h] at hc
      exact hc
  · refine ⟨?_, fun z => absurd z hj⟩
    by_cases hc : xCat ((none :: L).getD i none) = 2
    · rw [if_pos hc] at h
      have hi : i ≠ 0 := by
        rintro rfl
        cases hc
      rw [List.getElem?_set_ne (by omega)] at h
      exact h
    · rw [if_neg hc] at h
      exact h
theorem xSt1_len (L : List XV) (i : Nat) (v : XV) : (xSt1 L i v).length = L.length := by unfold xSt1; split <;> simp
theorem xSt2_len (L : List XV) (i : Nat) (v : XV) : (xSt2 L i v).length = L.length := by unfold xSt2; split <;> simp
theorem xLR.put1 {ad : XL → Nat} {h : XH} {nL : Nat} {L : List XV} {ls ls' : Array Slot} {i : Nat} {v : XV} {w : Value} (q : xLR ad h nL L ls) (hv : xVR ad h v w) (hi : i < nL) (h' : lv_has ls' nL ((i, w) :: (xAll ls).filter (fun q => !(q.1 == i) && !(q.1 + 1 == i && q.2.category == 2)))) : xLR ad h nL (xSt1 L i v) ls' := by
  refine ⟨(xSt1_len L i v).trans q.1, h'.1, h'.2.1, fun j u hj => ?_⟩
  by_cases hji : j = i
  · subst hji
    have : v = some u := by
      unfold xSt1 at hj
      rw [List.getElem?_set_self (by split <;> simp [q.1, hi])] at hj
      exact Option.some.inj hj
    subst this
    exact ⟨w, h'.2.2 _ List.mem_cons_self, hv⟩
  · unfold xSt1 at hj
    rw [List.getElem?_set_ne (Ne.symm hji)] at hj
    obtain ⟨h1, h2⟩ := xKill_at hji hj (by simp)
    obtain ⟨w', h3, h4⟩ := q.2.2.2 j u h1
    refine ⟨w', h'.2.2 (j, w') (List.mem_cons_of_mem _ (List.mem_filter.mpr ⟨xAll_mem.mpr h3, ?_⟩)), h4⟩
    have hc := h4.cat
    simp only [Bool.and_eq_true, Bool.not_eq_true', beq_eq_false_iff_ne, ne_eq, Bool.and_eq_false_iff]
    refine ⟨hji, ?_⟩
    by_cases hj2 : j + 1 = i
    · exact Or.inr (by rw [hc]; exact h2 hj2)
    · exact Or.inl hj2
theorem xLR.put2 {ad : XL → Nat} {h : XH} {nL : Nat} {L : List XV} {ls ls' : Array Slot} {i : Nat} {v : XV} {w : Value} (q : xLR ad h nL L ls) (hv : xVR ad h v w) (hi : i < nL) (h' : lv_has ls' nL ((i, w) :: (xAll ls).filter (fun q => !(q.1 == i) && (!(q.1 == i + 1) && !(q.1 + 1 == i && q.2.category == 2))))) : xLR ad h nL (xSt2 L i v) ls' := by
  refine ⟨(xSt2_len L i v).trans q.1, h'.1, h'.2.1, fun j u hj => ?_⟩
  have hj1 : j ≠ i + 1 := by
    rintro rfl
    unfold xSt2 at hj
    rw [List.getElem?_set, if_pos rfl] at hj
    split at hj <;> simp at hj
  unfold xSt2 at hj
  rw [List.getElem?_set_ne (Ne.symm hj1)] at hj
  by_cases hji : j = i
  · subst hji
    have : v = some u := by
      rw [List.getElem?_set_self (by split <;> simp [q.1, hi])] at hj
      exact Option.some.inj hj
    subst this
    exact ⟨w, h'.2.2 _ List.mem_cons_self, hv⟩
  · rw [List.getElem?_set_ne (Ne.symm hji)] at hj
    obtain ⟨h1, h2⟩ := xKill_at hji hj (by simp)
    obtain ⟨w', h3, h4⟩ := q.2.2.2 j u h1
    refine ⟨w', h'.2.2 (j, w') (List.mem_cons_of_mem _ (List.mem_filter.mpr ⟨xAll_mem.mpr h3, ?_⟩)), h4⟩
    have hc := h4.cat
    simp only [Bool.and_eq_true, Bool.not_eq_true', beq_eq_false_iff_ne, ne_eq, Bool.and_eq_false_iff]
    refine ⟨hji, hj1, ?_⟩
    by_cases hj2 : j + 1 = i
    · exact Or.inr (by rw [hc]; exact h2 hj2)
    · exact Or.inl hj2
theorem x_istore {M : XM} {pc : Nat} {L st : List XV} {h : XH} {kc ks : Nat} {Q : XO → XH → Prop} {L' : List XV} {i : Nat} {v : Int} (hd : decode (xmC M) pc = .ok (.istore i, 2)) (hn : i < xmL M) (hl : xSt1 L i (xI v) = L') (k : X M (pc + 2) L' st h kc ks Q) : X M pc L (xI v :: st) h kc ks Q := by
  subst hl
  refine x_of k ?_
  intro p l e R s m args below meth c D dA base ad H locs cells slots QQ ls stv F hL hst go
  obtain ⟨w0, r0, rfl, e0, hst⟩ := hst
  have e1 := e0
  cases e0
  exact lv_istore F.1 F.2.1 hd (xAll_has hL) hn rfl (fun ls' h' => go ls' _ (hL.put1 e1 (by omega) h') hst)
theorem x_istore_n {M : XM} {pc : Nat} {L st : List XV} {h : XH} {kc ks : Nat} {Q : XO → XH → Prop} {L' : List XV} {n : Fin 4} {v : Int} (hd : decode (xmC M) pc = .ok (.istore_n n, 1)) (hn : (n : Nat) < xmL M) (hl : xSt1 L (n : Nat) (xI v) = L') (k : X M (pc + 1) L' st h kc ks Q) : X M pc L (xI v :: st) h kc ks Q := by
  subst hl
  refine x_of k ?_
  intro p l e R s m args below meth c D dA base ad H locs cells slots QQ ls stv F hL hst go
  obtain ⟨w0, r0, rfl, e0, hst⟩ := hst
  have e1 := e0
  cases e0
  exact lv_istore_n F.1 F.2.1 hd rfl (xAll_has hL) hn rfl (fun ls' h' => go ls' _ (hL.put1 e1 (by omega) h') hst)
theorem x_lstore {M : XM} {pc : Nat} {L st : List XV} {h : XH} {kc ks : Nat} {Q : XO → XH → Prop} {L' : List XV} {i : Nat} {v : Int64} (hd : decode (xmC M) pc = .ok (.lstore i, 2)) (hn : i + 1 < xmL M) (hl : xSt2 L i (xJ v) = L') (k : X M (pc + 2) L' st h kc ks Q) : X M pc L (xJ v :: st) h kc ks Q := by
  subst hl
  refine x_of k ?_
  intro p l e R s m args below meth c D dA base ad H locs cells slots QQ ls stv F hL hst go
  obtain ⟨w0, r0, rfl, e0, hst⟩ := hst
  have e1 := e0
  cases e0
  exact lv_lstore F.1 F.2.1 hd (xAll_has hL) hn rfl (fun ls' h' => go ls' _ (hL.put2 e1 (by omega) h') hst)
theorem x_lstore_n {M : XM} {pc : Nat} {L st : List XV} {h : XH} {kc ks : Nat} {Q : XO → XH → Prop} {L' : List XV} {n : Fin 4} {v : Int64} (hd : decode (xmC M) pc = .ok (.lstore_n n, 1)) (hn : (n : Nat) + 1 < xmL M) (hl : xSt2 L (n : Nat) (xJ v) = L') (k : X M (pc + 1) L' st h kc ks Q) : X M pc L (xJ v :: st) h kc ks Q := by
  subst hl
  refine x_of k ?_
  intro p l e R s m args below meth c D dA base ad H locs cells slots QQ ls stv F hL hst go
  obtain ⟨w0, r0, rfl, e0, hst⟩ := hst
  have e1 := e0
  cases e0
  exact lv_lstore_n F.1 F.2.1 hd rfl (xAll_has hL) hn rfl (fun ls' h' => go ls' _ (hL.put2 e1 (by omega) h') hst)
theorem x_astore {M : XM} {pc : Nat} {L st : List XV} {h : XH} {kc ks : Nat} {Q : XO → XH → Prop} {L' : List XV} {i : Nat} {v : XL} (hd : decode (xmC M) pc = .ok (.astore i, 2)) (hn : i < xmL M) (hl : xSt1 L i (xR v) = L') (k : X M (pc + 2) L' st h kc ks Q) : X M pc L (xR v :: st) h kc ks Q := by
  subst hl
  refine x_of k ?_
  intro p l e R s m args below meth c D dA base ad H locs cells slots QQ ls stv F hL hst go
  obtain ⟨w0, r0, rfl, e0, hst⟩ := hst
  have e1 := e0
  obtain ⟨hx, rfl⟩ := e0
  exact lv_astore F.1 F.2.1 hd (xAll_has hL) hn rfl (fun ls' h' => go ls' _ (hL.put1 e1 (by omega) h') hst)
theorem x_astore_n {M : XM} {pc : Nat} {L st : List XV} {h : XH} {kc ks : Nat} {Q : XO → XH → Prop} {L' : List XV} {n : Fin 4} {v : XL} (hd : decode (xmC M) pc = .ok (.astore_n n, 1)) (hn : (n : Nat) < xmL M) (hl : xSt1 L (n : Nat) (xR v) = L') (k : X M (pc + 1) L' st h kc ks Q) : X M pc L (xR v :: st) h kc ks Q := by
  subst hl
  refine x_of k ?_
  intro p l e R s m args below meth c D dA base ad H locs cells slots QQ ls stv F hL hst go
  obtain ⟨w0, r0, rfl, e0, hst⟩ := hst
  have e1 := e0
  obtain ⟨hx, rfl⟩ := e0
  exact lv_astore_n F.1 F.2.1 hd rfl (xAll_has hL) hn rfl (fun ls' h' => go ls' _ (hL.put1 e1 (by omega) h') hst)
theorem x_fstore {M : XM} {pc : Nat} {L st : List XV} {h : XH} {kc ks : Nat} {Q : XO → XH → Prop} {L' : List XV} {i : Nat} {v : UInt32} (hd : decode (xmC M) pc = .ok (.fstore i, 2)) (hn : i < xmL M) (hl : xSt1 L i (xF v) = L') (k : X M (pc + 2) L' st h kc ks Q) : X M pc L (xF v :: st) h kc ks Q := by
  subst hl
  refine x_of k ?_
  intro p l e R s m args below meth c D dA base ad H locs cells slots QQ ls stv F hL hst go
  obtain ⟨w0, r0, rfl, e0, hst⟩ := hst
  have e1 := e0
  cases e0
  exact lv_fstore F.1 F.2.1 hd (xAll_has hL) hn rfl (fun ls' h' => go ls' _ (hL.put1 e1 (by omega) h') hst)
theorem x_fstore_n {M : XM} {pc : Nat} {L st : List XV} {h : XH} {kc ks : Nat} {Q : XO → XH → Prop} {L' : List XV} {n : Fin 4} {v : UInt32} (hd : decode (xmC M) pc = .ok (.fstore_n n, 1)) (hn : (n : Nat) < xmL M) (hl : xSt1 L (n : Nat) (xF v) = L') (k : X M (pc + 1) L' st h kc ks Q) : X M pc L (xF v :: st) h kc ks Q := by
  subst hl
  refine x_of k ?_
  intro p l e R s m args below meth c D dA base ad H locs cells slots QQ ls stv F hL hst go
  obtain ⟨w0, r0, rfl, e0, hst⟩ := hst
  have e1 := e0
  cases e0
  exact lv_fstore_n F.1 F.2.1 hd rfl (xAll_has hL) hn rfl (fun ls' h' => go ls' _ (hL.put1 e1 (by omega) h') hst)
theorem x_dstore {M : XM} {pc : Nat} {L st : List XV} {h : XH} {kc ks : Nat} {Q : XO → XH → Prop} {L' : List XV} {i : Nat} {v : UInt64} (hd : decode (xmC M) pc = .ok (.dstore i, 2)) (hn : i + 1 < xmL M) (hl : xSt2 L i (xD v) = L') (k : X M (pc + 2) L' st h kc ks Q) : X M pc L (xD v :: st) h kc ks Q := by
  subst hl
  refine x_of k ?_
  intro p l e R s m args below meth c D dA base ad H locs cells slots QQ ls stv F hL hst go
  obtain ⟨w0, r0, rfl, e0, hst⟩ := hst
  have e1 := e0
  cases e0
  exact lv_dstore F.1 F.2.1 hd (xAll_has hL) hn rfl (fun ls' h' => go ls' _ (hL.put2 e1 (by omega) h') hst)
theorem x_dstore_n {M : XM} {pc : Nat} {L st : List XV} {h : XH} {kc ks : Nat} {Q : XO → XH → Prop} {L' : List XV} {n : Fin 4} {v : UInt64} (hd : decode (xmC M) pc = .ok (.dstore_n n, 1)) (hn : (n : Nat) + 1 < xmL M) (hl : xSt2 L (n : Nat) (xD v) = L') (k : X M (pc + 1) L' st h kc ks Q) : X M pc L (xD v :: st) h kc ks Q := by
  subst hl
  refine x_of k ?_
  intro p l e R s m args below meth c D dA base ad H locs cells slots QQ ls stv F hL hst go
  obtain ⟨w0, r0, rfl, e0, hst⟩ := hst
  have e1 := e0
  cases e0
  exact lv_dstore_n F.1 F.2.1 hd rfl (xAll_has hL) hn rfl (fun ls' h' => go ls' _ (hL.put2 e1 (by omega) h') hst)
theorem x_astoreX {M : XM} {pc : Nat} {L st : List XV} {h : XH} {kc ks : Nat} {Q : XO → XH → Prop} {L' : List XV} {i : Nat} (hd : decode (xmC M) pc = .ok (.astore i, 2)) (hn : i < xmL M) (hl : xSt1 L i none = L') (k : X M (pc + 2) L' st h kc ks Q) : X M pc L (none :: st) h kc ks Q := by
  subst hl
  refine x_of k ?_
  intro p l e R s m args below meth c D dA base ad H locs cells slots QQ ls stv F hL hst go
  obtain ⟨w0, r0, rfl, e0, hst⟩ := hst
  have e1 := e0
  obtain ⟨a, rfl⟩ := e0
  exact lv_astore F.1 F.2.1 hd (xAll_has hL) hn rfl (fun ls' h' => go ls' _ (hL.put1 e1 (by omega) h') hst)
theorem x_astoreX_n {M : XM} {pc : Nat} {L st : List XV} {h : XH} {kc ks : Nat} {Q : XO → XH → Prop} {L' : List XV} {n : Fin 4} (hd : decode (xmC M) pc = .ok (.astore_n n, 1)) (hn : (n : Nat) < xmL M) (hl : xSt1 L (n : Nat) none = L') (k : X M (pc + 1) L' st h kc ks Q) : X M pc L (none :: st) h kc ks Q := by
  subst hl
  refine x_of k ?_
  intro p l e R s m args below meth c D dA base ad H locs cells slots QQ ls stv F hL hst go
  obtain ⟨w0, r0, rfl, e0, hst⟩ := hst
  have e1 := e0
  obtain ⟨a, rfl⟩ := e0
  exact lv_astore_n F.1 F.2.1 hd rfl (xAll_has hL) hn rfl (fun ls' h' => go ls' _ (hL.put1 e1 (by omega) h') hst)
theorem x_iinc {M : XM} {pc : Nat} {L st : List XV} {h : XH} {kc ks : Nat} {Q : XO → XH → Prop} {L' : List XV} {i : Nat} {n v : Int} (hd : decode (xmC M) pc = .ok (.iinc i n, 3)) (hv : L[i]? = some (xI v)) (hl : xSt1 L i (xI (v + n)) = L') (k : X M (pc + 3) L' st h kc ks Q) : X M pc L st h kc ks Q := by
  subst hl
  refine x_of k ?_
  intro p l e R s m args below meth c D dA base ad H locs cells slots QQ ls stv F hL hst go
  obtain ⟨w, hw, rfl⟩ := hL.2.2.2 i _ hv
  obtain ⟨j, hj⟩ := List.getElem?_of_mem (xAll_mem.mpr hw)
  have hi : i < xmL M := by have := lv_lt hw; rw [hL.2.1] at this; exact this
  exact lv_iinc F.1 F.2.1 hd (xAll_has hL) hj (zI_add v n) hi rfl (fun ls' h' => go ls' _ (hL.put1 (v := xI (v + n)) rfl hi h') hst)
theorem x_iadd {M : XM} {pc : Nat} {L st : List XV} {h : XH} {kc ks : Nat} {Q : XO → XH → Prop} {a b : Int} (hd : decode (xmC M) pc = .ok (.iadd, 1))  (k : X M (pc + 1) L (xI (a + b) :: st) h kc ks Q) : X M pc L (xI b :: xI a :: st) h kc ks Q := by
  refine x_of k ?_
  intro p l e R s m args below meth c D dA base ad H locs cells slots QQ ls stv F hl hst go
  obtain ⟨w0, r0, rfl, e0, hst⟩ := hst
  obtain ⟨w1, r1, rfl, e1, hst⟩ := hst
  cases e0
  cases e1
  exact lv_iadd F.1 F.2.1 hd (go _ _ hl ⟨_, _, rfl, congrArg Value.int (zI_add a b), hst⟩)
theorem x_isub {M : XM} {pc : Nat} {L st : List XV} {h : XH} {kc ks : Nat} {Q : XO → XH → Prop} {a b : Int} (hd : decode (xmC M) pc = .ok (.isub, 1))  (k : X M (pc + 1) L (xI (a - b) :: st) h kc ks Q) : X M pc L (xI b :: xI a :: st) h kc ks Q := by
  refine x_of k ?_
  intro p l e R s m args below meth c D dA base ad H locs cells slots QQ ls stv F hl hst go
  obtain ⟨w0, r0, rfl, e0, hst⟩ := hst
  obtain ⟨w1, r1, rfl, e1, hst⟩ := hst
  cases e0
  cases e1
  exact lv_isub F.1 F.2.1 hd (go _ _ hl ⟨_, _, rfl, congrArg Value.int (zI_sub a b), hst⟩)
theorem x_imul {M : XM} {pc : Nat} {L st : List XV} {h : XH} {kc ks : Nat} {Q : XO → XH → Prop} {a b : Int} (hd : decode (xmC M) pc = .ok (.imul, 1))  (k : X M (pc + 1) L (xI (a * b) :: st) h kc ks Q) : X M pc L (xI b :: xI a :: st) h kc ks Q := by
  refine x_of k ?_
  intro p l e R s m args below meth c D dA base ad H locs cells slots QQ ls stv F hl hst go
  obtain ⟨w0, r0, rfl, e0, hst⟩ := hst
  obtain ⟨w1, r1, rfl, e1, hst⟩ := hst
  cases e0
  cases e1
  exact lv_imul F.1 F.2.1 hd (go _ _ hl ⟨_, _, rfl, congrArg Value.int (zI_mul a b), hst⟩)
theorem x_idiv {M : XM} {pc : Nat} {L st : List XV} {h : XH} {kc ks : Nat} {Q : XO → XH → Prop} {a b : Int} (hd : decode (xmC M) pc = .ok (.idiv, 1)) (h1 : 0 ≤ a) (h2 : a < 2147483648) (h3 : 0 < b) (h4 : b < 2147483648) (k : X M (pc + 1) L (xI (a / b) :: st) h kc ks Q) : X M pc L (xI b :: xI a :: st) h kc ks Q := by
  refine x_of k ?_
  intro p l e R s m args below meth c D dA base ad H locs cells slots QQ ls stv F hl hst go
  obtain ⟨w0, r0, rfl, e0, hst⟩ := hst
  obtain ⟨w1, r1, rfl, e1, hst⟩ := hst
  cases e0
  cases e1
  exact lv_idiv F.1 F.2.1 hd (fun z => by rw [← zI_0, zI_eq ⟨by omega, by omega⟩ zR_0] at z; omega) (go _ _ hl ⟨_, _, rfl, congrArg Value.int (zI_div h1 h2 h3 h4), hst⟩)
theorem x_irem {M : XM} {pc : Nat} {L st : List XV} {h : XH} {kc ks : Nat} {Q : XO → XH → Prop} {a b : Int} (hd : decode (xmC M) pc = .ok (.irem, 1)) (h1 : 0 ≤ a) (h2 : a < 2147483648) (h3 : 0 < b) (h4 : b < 2147483648) (k : X M (pc + 1) L (xI (a % b) :: st) h kc ks Q) : X M pc L (xI b :: xI a :: st) h kc ks Q := by
  refine x_of k ?_
  intro p l e R s m args below meth c D dA base ad H locs cells slots QQ ls stv F hl hst go
  obtain ⟨w0, r0, rfl, e0, hst⟩ := hst
  obtain ⟨w1, r1, rfl, e1, hst⟩ := hst
  cases e0
  cases e1
  exact lv_irem F.1 F.2.1 hd (fun z => by rw [← zI_0, zI_eq ⟨by omega, by omega⟩ zR_0] at z; omega) (go _ _ hl ⟨_, _, rfl, congrArg Value.int (zI_rem h1 h2 h3 h4), hst⟩)
theorem x_iand {M : XM} {pc : Nat} {L st : List XV} {h : XH} {kc ks : Nat} {Q : XO → XH → Prop} {a b : Int} (hd : decode (xmC M) pc = .ok (.iand, 1))  (k : X M (pc + 1) L (xI (zAnd a b) :: st) h kc ks Q) : X M pc L (xI b :: xI a :: st) h kc ks Q := by
  refine x_of k ?_
  intro p l e R s m args below meth c D dA base ad H locs cells slots QQ ls stv F hl hst go
  obtain ⟨w0, r0, rfl, e0, hst⟩ := hst
  obtain ⟨w1, r1, rfl, e1, hst⟩ := hst
  cases e0
  cases e1
  exact lv_iand F.1 F.2.1 hd (go _ _ hl ⟨_, _, rfl, congrArg Value.int (zI_of _).symm, hst⟩)
theorem x_ior {M : XM} {pc : Nat} {L st : List XV} {h : XH} {kc ks : Nat} {Q : XO → XH → Prop} {a b : Int} (hd : decode (xmC M) pc = .ok (.ior, 1))  (k : X M (pc + 1) L (xI (zOr a b) :: st) h kc ks Q) : X M pc L (xI b :: xI a :: st) h kc ks Q := by
  refine x_of k ?_
  intro p l e R s m args below meth c D dA base ad H locs cells slots QQ ls stv F hl hst go
  obtain ⟨w0, r0, rfl, e0, hst⟩ := hst
  obtain ⟨w1, r1, rfl, e1, hst⟩ := hst
  cases e0
  cases e1
  exact lv_ior F.1 F.2.1 hd (go _ _ hl ⟨_, _, rfl, congrArg Value.int (zI_of _).symm, hst⟩)
theorem x_ixor {M : XM} {pc : Nat} {L st : List XV} {h : XH} {kc ks : Nat} {Q : XO → XH → Prop} {a b : Int} (hd : decode (xmC M) pc = .ok (.ixor, 1))  (k : X M (pc + 1) L (xI (zXor a b) :: st) h kc ks Q) : X M pc L (xI b :: xI a :: st) h kc ks Q := by
  refine x_of k ?_
  intro p l e R s m args below meth c D dA base ad H locs cells slots QQ ls stv F hl hst go
  obtain ⟨w0, r0, rfl, e0, hst⟩ := hst
  obtain ⟨w1, r1, rfl, e1, hst⟩ := hst
  cases e0
  cases e1
  exact lv_ixor F.1 F.2.1 hd (go _ _ hl ⟨_, _, rfl, congrArg Value.int (zI_of _).symm, hst⟩)
theorem x_ishl {M : XM} {pc : Nat} {L st : List XV} {h : XH} {kc ks : Nat} {Q : XO → XH → Prop} {a b : Int} (hd : decode (xmC M) pc = .ok (.ishl, 1))  (k : X M (pc + 1) L (xI (zShl a b) :: st) h kc ks Q) : X M pc L (xI b :: xI a :: st) h kc ks Q := by
  refine x_of k ?_
  intro p l e R s m args below meth c D dA base ad H locs cells slots QQ ls stv F hl hst go
  obtain ⟨w0, r0, rfl, e0, hst⟩ := hst
  obtain ⟨w1, r1, rfl, e1, hst⟩ := hst
  cases e0
  cases e1
  exact lv_ishl F.1 F.2.1 hd (go _ _ hl ⟨_, _, rfl, congrArg Value.int (zI_of _).symm, hst⟩)
theorem x_ishr {M : XM} {pc : Nat} {L st : List XV} {h : XH} {kc ks : Nat} {Q : XO → XH → Prop} {a b : Int} (hd : decode (xmC M) pc = .ok (.ishr, 1))  (k : X M (pc + 1) L (xI (zShr a b) :: st) h kc ks Q) : X M pc L (xI b :: xI a :: st) h kc ks Q := by
  refine x_of k ?_
  intro p l e R s m args below meth c D dA base ad H locs cells slots QQ ls stv F hl hst go
  obtain ⟨w0, r0, rfl, e0, hst⟩ := hst
  obtain ⟨w1, r1, rfl, e1, hst⟩ := hst
  cases e0
  cases e1
  exact lv_ishr F.1 F.2.1 hd (go _ _ hl ⟨_, _, rfl, congrArg Value.int (zI_of _).symm, hst⟩)
theorem x_ineg {M : XM} {pc : Nat} {L st : List XV} {h : XH} {kc ks : Nat} {Q : XO → XH → Prop} {a : Int} (hd : decode (xmC M) pc = .ok (.ineg, 1))  (k : X M (pc + 1) L (xI (-a) :: st) h kc ks Q) : X M pc L (xI a :: st) h kc ks Q := by
  refine x_of k ?_
  intro p l e R s m args below meth c D dA base ad H locs cells slots QQ ls stv F hl hst go
  obtain ⟨w0, r0, rfl, e0, hst⟩ := hst
  cases e0
  exact lv_ineg F.1 F.2.1 hd (go _ _ hl ⟨_, _, rfl, congrArg Value.int (zI_neg a), hst⟩)
theorem x_ladd {M : XM} {pc : Nat} {L st : List XV} {h : XH} {kc ks : Nat} {Q : XO → XH → Prop} {a b : Int64} (hd : decode (xmC M) pc = .ok (.ladd, 1))  (k : X M (pc + 1) L (xJ (a + b) :: st) h kc ks Q) : X M pc L (xJ b :: xJ a :: st) h kc ks Q := by
  refine x_of k ?_
  intro p l e R s m args below meth c D dA base ad H locs cells slots QQ ls stv F hl hst go
  obtain ⟨w0, r0, rfl, e0, hst⟩ := hst
  obtain ⟨w1, r1, rfl, e1, hst⟩ := hst
  cases e0
  cases e1
  exact lv_ladd F.1 F.2.1 hd (go _ _ hl ⟨_, _, rfl, rfl, hst⟩)
theorem x_lsub {M : XM} {pc : Nat} {L st : List XV} {h : XH} {kc ks : Nat} {Q : XO → XH → Prop} {a b : Int64} (hd : decode (xmC M) pc = .ok (.lsub, 1))  (k : X M (pc + 1) L (xJ (a - b) :: st) h kc ks Q) : X M pc L (xJ b :: xJ a :: st) h kc ks Q := by
  refine x_of k ?_
  intro p l e R s m args below meth c D dA base ad H locs cells slots QQ ls stv F hl hst go
  obtain ⟨w0, r0, rfl, e0, hst⟩ := hst
  obtain ⟨w1, r1, rfl, e1, hst⟩ := hst
  cases e0
  cases e1
  exact lv_lsub F.1 F.2.1 hd (go _ _ hl ⟨_, _, rfl, rfl, hst⟩)
theorem x_lmul {M : XM} {pc : Nat} {L st : List XV} {h : XH} {kc ks : Nat} {Q : XO → XH → Prop} {a b : Int64} (hd : decode (xmC M) pc = .ok (.lmul, 1))  (k : X M (pc + 1) L (xJ (a * b) :: st) h kc ks Q) : X M pc L (xJ b :: xJ a :: st) h kc ks Q := by
  refine x_of k ?_
  intro p l e R s m args below meth c D dA base ad H locs cells slots QQ ls stv F hl hst go
  obtain ⟨w0, r0, rfl, e0, hst⟩ := hst
  obtain ⟨w1, r1, rfl, e1, hst⟩ := hst
  cases e0
  cases e1
  exact lv_lmul F.1 F.2.1 hd (go _ _ hl ⟨_, _, rfl, rfl, hst⟩)
theorem x_land {M : XM} {pc : Nat} {L st : List XV} {h : XH} {kc ks : Nat} {Q : XO → XH → Prop} {a b : Int64} (hd : decode (xmC M) pc = .ok (.land, 1))  (k : X M (pc + 1) L (xJ (a &&& b) :: st) h kc ks Q) : X M pc L (xJ b :: xJ a :: st) h kc ks Q := by
  refine x_of k ?_
  intro p l e R s m args below meth c D dA base ad H locs cells slots QQ ls stv F hl hst go
  obtain ⟨w0, r0, rfl, e0, hst⟩ := hst
  obtain ⟨w1, r1, rfl, e1, hst⟩ := hst
  cases e0
  cases e1
  exact lv_land F.1 F.2.1 hd (go _ _ hl ⟨_, _, rfl, rfl, hst⟩)
theorem x_lor {M : XM} {pc : Nat} {L st : List XV} {h : XH} {kc ks : Nat} {Q : XO → XH → Prop} {a b : Int64} (hd : decode (xmC M) pc = .ok (.lor, 1))  (k : X M (pc + 1) L (xJ (a ||| b) :: st) h kc ks Q) : X M pc L (xJ b :: xJ a :: st) h kc ks Q := by
  refine x_of k ?_
  intro p l e R s m args below meth c D dA base ad H locs cells slots QQ ls stv F hl hst go
  obtain ⟨w0, r0, rfl, e0, hst⟩ := hst
  obtain ⟨w1, r1, rfl, e1, hst⟩ := hst
  cases e0
  cases e1
  exact lv_lor F.1 F.2.1 hd (go _ _ hl ⟨_, _, rfl, rfl, hst⟩)
theorem x_lxor {M : XM} {pc : Nat} {L st : List XV} {h : XH} {kc ks : Nat} {Q : XO → XH → Prop} {a b : Int64} (hd : decode (xmC M) pc = .ok (.lxor, 1))  (k : X M (pc + 1) L (xJ (a ^^^ b) :: st) h kc ks Q) : X M pc L (xJ b :: xJ a :: st) h kc ks Q := by
  refine x_of k ?_
  intro p l e R s m args below meth c D dA base ad H locs cells slots QQ ls stv F hl hst go
  obtain ⟨w0, r0, rfl, e0, hst⟩ := hst
  obtain ⟨w1, r1, rfl, e1, hst⟩ := hst
  cases e0
  cases e1
  exact lv_lxor F.1 F.2.1 hd (go _ _ hl ⟨_, _, rfl, rfl, hst⟩)
theorem x_lrem {M : XM} {pc : Nat} {L st : List XV} {h : XH} {kc ks : Nat} {Q : XO → XH → Prop} {a b : Int64} (hd : decode (xmC M) pc = .ok (.lrem, 1)) (h1 : ¬ b = 0) (k : X M (pc + 1) L (xJ (a - a / b * b) :: st) h kc ks Q) : X M pc L (xJ b :: xJ a :: st) h kc ks Q := by
  refine x_of k ?_
  intro p l e R s m args below meth c D dA base ad H locs cells slots QQ ls stv F hl hst go
  obtain ⟨w0, r0, rfl, e0, hst⟩ := hst
  obtain ⟨w1, r1, rfl, e1, hst⟩ := hst
  cases e0
  cases e1
  exact lv_lrem F.1 F.2.1 hd h1 (go _ _ hl ⟨_, _, rfl, rfl, hst⟩)
def jShl (a : Int64) (n : Int) : Int64 := a <<< ((zI n).toInt64 &&& 63)
def jShr (a : Int64) (n : Int) : Int64 := (a.toUInt64 >>> ((zI n).toInt64.toUInt64 &&& Int64.toUInt64 63)).toInt64
theorem x_lshl {M : XM} {pc : Nat} {L st : List XV} {h : XH} {kc ks : Nat} {Q : XO → XH → Prop} {a : Int64} {n : Int} (hd : decode (xmC M) pc = .ok (.lshl, 1))  (k : X M (pc + 1) L (xJ (jShl a n) :: st) h kc ks Q) : X M pc L (xI n :: xJ a :: st) h kc ks Q := by
  refine x_of k ?_
  intro p l e R s m args below meth c D dA base ad H locs cells slots QQ ls stv F hl hst go
  obtain ⟨w0, r0, rfl, e0, hst⟩ := hst
  obtain ⟨w1, r1, rfl, e1, hst⟩ := hst
  cases e0
  cases e1
  exact lv_lshl F.1 F.2.1 hd rfl (go _ _ hl ⟨_, _, rfl, rfl, hst⟩)
theorem x_lushr {M : XM} {pc : Nat} {L st : List XV} {h : XH} {kc ks : Nat} {Q : XO → XH → Prop} {a : Int64} {n : Int} (hd : decode (xmC M) pc = .ok (.lushr, 1))  (k : X M (pc + 1) L (xJ (jShr a n) :: st) h kc ks Q) : X M pc L (xI n :: xJ a :: st) h kc ks Q := by
  refine x_of k ?_
  intro p l e R s m args below meth c D dA base ad H locs cells slots QQ ls stv F hl hst go
  obtain ⟨w0, r0, rfl, e0, hst⟩ := hst
  obtain ⟨w1, r1, rfl, e1, hst⟩ := hst
  cases e0
  cases e1
  exact lv_lushr F.1 F.2.1 hd rfl (go _ _ hl ⟨_, _, rfl, rfl, hst⟩)
def jI (a : Int) : Int64 := (zI a).toInt64
theorem x_i2l {M : XM} {pc : Nat} {L st : List XV} {h : XH} {kc ks : Nat} {Q : XO → XH → Prop} {a : Int} (hd : decode (xmC M) pc = .ok (.i2l, 1))  (k : X M (pc + 1) L (xJ (jI a) :: st) h kc ks Q) : X M pc L (xI a :: st) h kc ks Q := by
  refine x_of k ?_
  intro p l e R s m args below meth c D dA base ad H locs cells slots QQ ls stv F hl hst go
  obtain ⟨w0, r0, rfl, e0, hst⟩ := hst
  cases e0
  exact lv_i2l F.1 F.2.1 hd rfl (go _ _ hl ⟨_, _, rfl, rfl, hst⟩)
theorem x_l2i {M : XM} {pc : Nat} {L st : List XV} {h : XH} {kc ks : Nat} {Q : XO → XH → Prop} {a : Int64} (hd : decode (xmC M) pc = .ok (.l2i, 1))  (k : X M (pc + 1) L (xI a.toInt32.toInt :: st) h kc ks Q) : X M pc L (xJ a :: st) h kc ks Q := by
  refine x_of k ?_
  intro p l e R s m args below meth c D dA base ad H locs cells slots QQ ls stv F hl hst go
  obtain ⟨w0, r0, rfl, e0, hst⟩ := hst
  cases e0
  exact lv_l2i F.1 F.2.1 hd rfl (go _ _ hl ⟨_, _, rfl, congrArg Value.int (zI_of _).symm, hst⟩)
theorem x_i2f {M : XM} {pc : Nat} {L st : List XV} {h : XH} {kc ks : Nat} {Q : XO → XH → Prop} {a : Int} (hd : decode (xmC M) pc = .ok (.i2f, 1))  (k : X M (pc + 1) L (xF (FP.i2f (zI a)) :: st) h kc ks Q) : X M pc L (xI a :: st) h kc ks Q := by
  refine x_of k ?_
  intro p l e R s m args below meth c D dA base ad H locs cells slots QQ ls stv F hl hst go
  obtain ⟨w0, r0, rfl, e0, hst⟩ := hst
  cases e0
  exact lv_i2f F.1 F.2.1 hd (go _ _ hl ⟨_, _, rfl, rfl, hst⟩)
theorem x_i2d {M : XM} {pc : Nat} {L st : List XV} {h : XH} {kc ks : Nat} {Q : XO → XH → Prop} {a : Int} (hd : decode (xmC M) pc = .ok (.i2d, 1))  (k : X M (pc + 1) L (xD (FP.i2d (zI a)) :: st) h kc ks Q) : X M pc L (xI a :: st) h kc ks Q := by
  refine x_of k ?_
  intro p l e R s m args below meth c D dA base ad H locs cells slots QQ ls stv F hl hst go
  obtain ⟨w0, r0, rfl, e0, hst⟩ := hst
  cases e0
  exact lv_i2d F.1 F.2.1 hd (go _ _ hl ⟨_, _, rfl, rfl, hst⟩)
theorem x_f2d {M : XM} {pc : Nat} {L st : List XV} {h : XH} {kc ks : Nat} {Q : XO → XH → Prop} {a : UInt32} (hd : decode (xmC M) pc = .ok (.f2d, 1)) (hn : vf_n64 (FP.f2d a)) (k : X M (pc + 1) L (xD (FP.f2d a) :: st) h kc ks Q) : X M pc L (xF a :: st) h kc ks Q := by
  refine x_of k ?_
  intro p l e R s m args below meth c D dA base ad H locs cells slots QQ ls stv F hl hst go
  obtain ⟨w0, r0, rfl, e0, hst⟩ := hst
  cases e0
  exact lv_f2d F.1 F.2.1 hd hn (go _ _ hl ⟨_, _, rfl, rfl, hst⟩)
theorem x_fdiv {M : XM} {pc : Nat} {L st : List XV} {h : XH} {kc ks : Nat} {Q : XO → XH → Prop} {a b : UInt32} (hd : decode (xmC M) pc = .ok (.fdiv, 1)) (hn : vf_n32 (FP.fdiv a b)) (k : X M (pc + 1) L (xF (FP.fdiv a b) :: st) h kc ks Q) : X M pc L (xF b :: xF a :: st) h kc ks Q := by
  refine x_of k ?_
  intro p l e R s m args below meth c D dA base ad H locs cells slots QQ ls stv F hl hst go
  obtain ⟨w0, r0, rfl, e0, hst⟩ := hst
  obtain ⟨w1, r1, rfl, e1, hst⟩ := hst
  cases e0
  cases e1
  exact lv_fdiv F.1 F.2.1 hd hn (go _ _ hl ⟨_, _, rfl, rfl, hst⟩)
theorem x_ddiv {M : XM} {pc : Nat} {L st : List XV} {h : XH} {kc ks : Nat} {Q : XO → XH → Prop} {a b : UInt64} (hd : decode (xmC M) pc = .ok (.ddiv, 1)) (hn : vf_n64 (FP.ddiv a b)) (k : X M (pc + 1) L (xD (FP.ddiv a b) :: st) h kc ks Q) : X M pc L (xD b :: xD a :: st) h kc ks Q := by
  refine x_of k ?_
  intro p l e R s m args below meth c D dA base ad H locs cells slots QQ ls stv F hl hst go
  obtain ⟨w0, r0, rfl, e0, hst⟩ := hst
  obtain ⟨w1, r1, rfl, e1, hst⟩ := hst
  cases e0
  cases e1
  exact lv_ddiv F.1 F.2.1 hd hn (go _ _ hl ⟨_, _, rfl, rfl, hst⟩)
theorem x_dcmp {M : XM} {pc : Nat} {L st : List XV} {h : XH} {kc ks : Nat} {Q : XO → XH → Prop} {a b : UInt64} {op : CmpOp} (hd : decode (xmC M) pc = .ok (.dcmp op, 1))  (k : X M (pc + 1) L (xI (Op.cmpValue (FP.dcmp a b) op).toInt :: st) h kc ks Q) : X M pc L (xD b :: xD a :: st) h kc ks Q := by
  refine x_of k ?_
  intro p l e R s m args below meth c D dA base ad H locs cells slots QQ ls stv F hl hst go
  obtain ⟨w0, r0, rfl, e0, hst⟩ := hst
  obtain ⟨w1, r1, rfl, e1, hst⟩ := hst
  cases e0
  cases e1
  exact lv_dcmp F.1 F.2.1 hd (go _ _ hl ⟨_, _, rfl, congrArg Value.int (zI_of _).symm, hst⟩)
theorem x_fcmp {M : XM} {pc : Nat} {L st : List XV} {h : XH} {kc ks : Nat} {Q : XO → XH → Prop} {a b : UInt32} {op : CmpOp} (hd : decode (xmC M) pc = .ok (.fcmp op, 1))  (k : X M (pc + 1) L (xI (Op.cmpValue (FP.fcmp a b) op).toInt :: st) h kc ks Q) : X M pc L (xF b :: xF a :: st) h kc ks Q := by
  refine x_of k ?_
  intro p l e R s m args below meth c D dA base ad H locs cells slots QQ ls stv F hl hst go
  obtain ⟨w0, r0, rfl, e0, hst⟩ := hst
  obtain ⟨w1, r1, rfl, e1, hst⟩ := hst
  cases e0
  cases e1
  exact lv_fcmp F.1 F.2.1 hd (go _ _ hl ⟨_, _, rfl, congrArg Value.int (zI_of _).symm, hst⟩)
theorem x_dup {M : XM} {pc : Nat} {L st : List XV} {h : XH} {kc ks : Nat} {Q : XO → XH → Prop} {a : XV} (hd : decode (xmC M) pc = .ok (.dup, 1)) (hc : xCat a = 1) (k : X M (pc + 1) L (a :: a :: st) h kc ks Q) : X M pc L (a :: st) h kc ks Q := by
  refine x_of k ?_
  intro p l e R s m args below meth c D dA base ad H locs cells slots QQ ls stv F hl hst go
  obtain ⟨w0, r0, rfl, e0, hst⟩ := hst
  exact lv_dup F.1 F.2.1 hd (e0.cat.trans hc) (go _ _ hl ⟨_, _, rfl, e0, _, _, rfl, e0, hst⟩)
theorem x_pop {M : XM} {pc : Nat} {L st : List XV} {h : XH} {kc ks : Nat} {Q : XO → XH → Prop} {a : XV} (hd : decode (xmC M) pc = .ok (.pop, 1)) (hc : xCat a = 1) (k : X M (pc + 1) L (st) h kc ks Q) : X M pc L (a :: st) h kc ks Q := by
  refine x_of k ?_
  intro p l e R s m args below meth c D dA base ad H locs cells slots QQ ls stv F hl hst go
  obtain ⟨w0, r0, rfl, e0, hst⟩ := hst
  exact lv_pop F.1 F.2.1 hd (e0.cat.trans hc) (go _ _ hl hst)
theorem x_dup2 {M : XM} {pc : Nat} {L st : List XV} {h : XH} {kc ks : Nat} {Q : XO → XH → Prop} {a b : XV} (hd : decode (xmC M) pc = .ok (.dup2, 1)) (hc : xCat b = 1) (hc2 : xCat a = 1) (k : X M (pc + 1) L (b :: a :: b :: a :: st) h kc ks Q) : X M pc L (b :: a :: st) h kc ks Q := by
  refine x_of k ?_
  intro p l e R s m args below meth c D dA base ad H locs cells slots QQ ls stv F hl hst go
  obtain ⟨w0, r0, rfl, e0, hst⟩ := hst
  obtain ⟨w1, r1, rfl, e1, hst⟩ := hst
  exact lv_dup2_11 F.1 F.2.1 hd (e0.cat.trans hc) (e1.cat.trans hc2) (go _ _ hl ⟨_, _, rfl, e0, _, _, rfl, e1, _, _, rfl, e0, _, _, rfl, e1, hst⟩)
theorem x_dup_x1 {M : XM} {pc : Nat} {L st : List XV} {h : XH} {kc ks : Nat} {Q : XO → XH → Prop} {a b : XV} (hd : decode (xmC M) pc = .ok (.dup_x1, 1)) (hc : xCat b = 1) (hc2 : xCat a = 1) (k : X M (pc + 1) L (b :: a :: b :: st) h kc ks Q) : X M pc L (b :: a :: st) h kc ks Q := by
  refine x_of k ?_
  intro p l e R s m args below meth c D dA base ad H locs cells slots QQ ls stv F hl hst go
  obtain ⟨w0, r0, rfl, e0, hst⟩ := hst
  obtain ⟨w1, r1, rfl, e1, hst⟩ := hst
  exact lv_dup_x1 F.1 F.2.1 hd (e0.cat.trans hc) (e1.cat.trans hc2) (go _ _ hl ⟨_, _, rfl, e0, _, _, rfl, e1, _, _, rfl, e0, hst⟩)
theorem x_dup_x2 {M : XM} {pc : Nat} {L st : List XV} {h : XH} {kc ks : Nat} {Q : XO → XH → Prop} {a b d : XV} (hd : decode (xmC M) pc = .ok (.dup_x2, 1)) (hc : xCat b = 1) (hc2 : xCat a = 1) (hc3 : xCat d = 1) (k : X M (pc + 1) L (b :: a :: d :: b :: st) h kc ks Q) : X M pc L (b :: a :: d :: st) h kc ks Q := by
  refine x_of k ?_
  intro p l e R s m args below meth c D dA base ad H locs cells slots QQ ls stv F hl hst go
  obtain ⟨w0, r0, rfl, e0, hst⟩ := hst
  obtain ⟨w1, r1, rfl, e1, hst⟩ := hst
  obtain ⟨w2, r2, rfl, e2, hst⟩ := hst
  exact lv_dup_x2 F.1 F.2.1 hd (e0.cat.trans hc) (e1.cat.trans hc2) (e2.cat.trans hc3) (go _ _ hl ⟨_, _, rfl, e0, _, _, rfl, e1, _, _, rfl, e2, _, _, rfl, e0, hst⟩)
theorem x_goto {M : XM} {pc : Nat} {L st : List XV} {h : XH} {kc ks : Nat} {Q : XO → XH → Prop} {off : Int} {tgt : Nat} (hd : decode (xmC M) pc = .ok (.goto off, 3)) (ht : (pc : Int) + off = (tgt : Int)) (k : X M tgt L st h kc ks Q) : X M pc L st h kc ks Q := by
  refine x_of k ?_
  intro p l e R s m args below meth c D dA base ad H locs cells slots QQ ls stv F hl hst go
  exact lv_goto F.1 F.2.1 hd ht (go _ _ hl hst)
theorem x_icmp_eq {M : XM} {pc : Nat} {L st : List XV} {h : XH} {kc ks : Nat} {Q : XO → XH → Prop} {a b : Int} {off : Int} {tgt : Nat} (hd : decode (xmC M) pc = .ok (.if_icmp .eq off, 3)) (ht : (pc : Int) + off = (tgt : Int)) (h1 : zR a) (h2 : zR b) (kt : a = b → X M tgt L st h kc ks Q) (kf : a ≠ b → X M (pc + 3) L st h kc ks Q) : X M pc L (xI b :: xI a :: st) h kc ks Q := by
  refine x_of2 (P := a = b) kt (fun z => kf (by omega)) ?_
  intro p l e R s m args below meth c D dA base ad H locs cells slots QQ ls stv F hst gt gf
  obtain ⟨w0, r0, rfl, e0, hst⟩ := hst
  obtain ⟨w1, r1, rfl, e1, hst⟩ := hst
  cases e0
  cases e1
  exact lv_icmp_eq F.1 F.2.1 hd ht (fun z => gt _ hst ((zI_eq h1 h2).mp z)) (fun z => gf _ hst (fun q => z ((zI_eq h1 h2).mpr q)))
theorem x_if_eq {M : XM} {pc : Nat} {L st : List XV} {h : XH} {kc ks : Nat} {Q : XO → XH → Prop} {a : Int} {off : Int} {tgt : Nat} (hd : decode (xmC M) pc = .ok (.ifCond .eq off, 3)) (ht : (pc : Int) + off = (tgt : Int)) (h1 : zR a) (kt : a = 0 → X M tgt L st h kc ks Q) (kf : a ≠ 0 → X M (pc + 3) L st h kc ks Q) : X M pc L (xI a :: st) h kc ks Q := by
  have h2 := zR_0
  refine x_of2 (P := a = 0) kt (fun z => kf (by omega)) ?_
  intro p l e R s m args below meth c D dA base ad H locs cells slots QQ ls stv F hst gt gf
  obtain ⟨w0, r0, rfl, e0, hst⟩ := hst
  cases e0
  exact lv_if_eq F.1 F.2.1 hd ht (fun z => gt _ hst ((zI_eq h1 h2).mp (by rw [zI_0]; exact z))) (fun z => gf _ hst (fun q => z (by have q2 := (zI_eq h1 h2).mpr q; rw [zI_0] at q2; exact q2)))
theorem x_icmp_ne {M : XM} {pc : Nat} {L st : List XV} {h : XH} {kc ks : Nat} {Q : XO → XH → Prop} {a b : Int} {off : Int} {tgt : Nat} (hd : decode (xmC M) pc = .ok (.if_icmp .ne off, 3)) (ht : (pc : Int) + off = (tgt : Int)) (h1 : zR a) (h2 : zR b) (kt : a ≠ b → X M tgt L st h kc ks Q) (kf : a = b → X M (pc + 3) L st h kc ks Q) : X M pc L (xI b :: xI a :: st) h kc ks Q := by
  refine x_of2 (P := ¬ a = b) kt (fun z => kf (by omega)) ?_
  intro p l e R s m args below meth c D dA base ad H locs cells slots QQ ls stv F hst gt gf
  obtain ⟨w0, r0, rfl, e0, hst⟩ := hst
  obtain ⟨w1, r1, rfl, e1, hst⟩ := hst
  cases e0
  cases e1
  exact lv_icmp_ne F.1 F.2.1 hd ht (fun z => gt _ hst ((not_congr (zI_eq h1 h2)).mp z)) (fun z => gf _ hst (fun q => q ((zI_eq h1 h2).mp z)))
theorem x_if_ne {M : XM} {pc : Nat} {L st : List XV} {h : XH} {kc ks : Nat} {Q : XO → XH → Prop} {a : Int} {off : Int} {tgt : Nat} (hd : decode (xmC M) pc = .ok (.ifCond .ne off, 3)) (ht : (pc : Int) + off = (tgt : Int)) (h1 : zR a) (kt : a ≠ 0 → X M tgt L st h kc ks Q) (kf : a = 0 → X M (pc + 3) L st h kc ks Q) : X M pc L (xI a :: st) h kc ks Q := by
  have h2 := zR_0
  refine x_of2 (P := ¬ a = 0) kt (fun z => kf (by omega)) ?_
  intro p l e R s m args below meth c D dA base ad H locs cells slots QQ ls stv F hst gt gf
  obtain ⟨w0, r0, rfl, e0, hst⟩ := hst
  cases e0
  exact lv_if_ne F.1 F.2.1 hd ht (fun z => gt _ hst ((not_congr (zI_eq h1 h2)).mp (by rw [zI_0]; exact z))) (fun z => gf _ hst (fun q => q ((zI_eq h1 h2).mp (by rw [zI_0]; exact z))))
theorem x_icmp_lt {M : XM} {pc : Nat} {L st : List XV} {h : XH} {kc ks : Nat} {Q : XO → XH → Prop} {a b : Int} {off : Int} {tgt : Nat} (hd : decode (xmC M) pc = .ok (.if_icmp .lt off, 3)) (ht : (pc : Int) + off = (tgt : Int)) (h1 : zR a) (h2 : zR b) (kt : a < b → X M tgt L st h kc ks Q) (kf : b ≤ a → X M (pc + 3) L st h kc ks Q) : X M pc L (xI b :: xI a :: st) h kc ks Q := by
  refine x_of2 (P := a < b) kt (fun z => kf (by omega)) ?_
  intro p l e R s m args below meth c D dA base ad H locs cells slots QQ ls stv F hst gt gf
  obtain ⟨w0, r0, rfl, e0, hst⟩ := hst
  obtain ⟨w1, r1, rfl, e1, hst⟩ := hst
  cases e0
  cases e1
  exact lv_icmp_lt F.1 F.2.1 hd ht (fun z => gt _ hst ((zI_lt h1 h2).mp z)) (fun z => gf _ hst (fun q => z ((zI_lt h1 h2).mpr q)))
theorem x_if_lt {M : XM} {pc : Nat} {L st : List XV} {h : XH} {kc ks : Nat} {Q : XO → XH → Prop} {a : Int} {off : Int} {tgt : Nat} (hd : decode (xmC M) pc = .ok (.ifCond .lt off, 3)) (ht : (pc : Int) + off = (tgt : Int)) (h1 : zR a) (kt : a < 0 → X M tgt L st h kc ks Q) (kf : 0 ≤ a → X M (pc + 3) L st h kc ks Q) : X M pc L (xI a :: st) h kc ks Q := by
  have h2 := zR_0
  refine x_of2 (P := a < 0) kt (fun z => kf (by omega)) ?_
  intro p l e R s m args below meth c D dA base ad H locs cells slots QQ ls stv F hst gt gf
  obtain ⟨w0, r0, rfl, e0, hst⟩ := hst
  cases e0
  exact lv_if_lt F.1 F.2.1 hd ht (fun z => gt _ hst ((zI_lt h1 h2).mp (by rw [zI_0]; exact z))) (fun z => gf _ hst (fun q => z (by have q2 := (zI_lt h1 h2).mpr q; rw [zI_0] at q2; exact q2)))
theorem x_icmp_le {M : XM} {pc : Nat} {L st : List XV} {h : XH} {kc ks : Nat} {Q : XO → XH → Prop} {a b : Int} {off : Int} {tgt : Nat} (hd : decode (xmC M) pc = .ok (.if_icmp .le off, 3)) (ht : (pc : Int) + off = (tgt : Int)) (h1 : zR a) (h2 : zR b) (kt : a ≤ b → X M tgt L st h kc ks Q) (kf : b < a → X M (pc + 3) L st h kc ks Q) : X M pc L (xI b :: xI a :: st) h kc ks Q := by
  refine x_of2 (P := a ≤ b) kt (fun z => kf (by omega)) ?_
  intro p l e R s m args below meth c D dA base ad H locs cells slots QQ ls stv F hst gt gf
  obtain ⟨w0, r0, rfl, e0, hst⟩ := hst
  obtain ⟨w1, r1, rfl, e1, hst⟩ := hst
  cases e0
  cases e1
  exact lv_icmp_le F.1 F.2.1 hd ht (fun z => gt _ hst ((zI_le h1 h2).mp z)) (fun z => gf _ hst (fun q => z ((zI_le h1 h2).mpr q)))
theorem x_if_le {M : XM} {pc : Nat} {L st : List XV} {h : XH} {kc ks : Nat} {Q : XO → XH → Prop} {a : Int} {off : Int} {tgt : Nat} (hd : decode (xmC M) pc = .ok (.ifCond .le off, 3)) (ht : (pc : Int) + off = (tgt : Int)) (h1 : zR a) (kt : a ≤ 0 → X M tgt L st h kc ks Q) (kf : 0 < a → X M (pc + 3) L st h kc ks Q) : X M pc L (xI a :: st) h kc ks Q := by
  have h2 := zR_0
  refine x_of2 (P := a ≤ 0) kt (fun z => kf (by omega)) ?_
  intro p l e R s m args below meth c D dA base ad H locs cells slots QQ ls stv F hst gt gf
  obtain ⟨w0, r0, rfl, e0, hst⟩ := hst
  cases e0
  exact lv_if_le F.1 F.2.1 hd ht (fun z => gt _ hst ((zI_le h1 h2).mp (by rw [zI_0]; exact z))) (fun z => gf _ hst (fun q => z (by have q2 := (zI_le h1 h2).mpr q; rw [zI_0] at q2; exact q2)))
theorem x_icmp_ge {M : XM} {pc : Nat} {L st : List XV} {h : XH} {kc ks : Nat} {Q : XO → XH → Prop} {a b : Int} {off : Int} {tgt : Nat} (hd : decode (xmC M) pc = .ok (.if_icmp .ge off, 3)) (ht : (pc : Int) + off = (tgt : Int)) (h1 : zR a) (h2 : zR b) (kt : b ≤ a → X M tgt L st h kc ks Q) (kf : a < b → X M (pc + 3) L st h kc ks Q) : X M pc L (xI b :: xI a :: st) h kc ks Q := by
  refine x_of2 (P := b ≤ a) kt (fun z => kf (by omega)) ?_
  intro p l e R s m args below meth c D dA base ad H locs cells slots QQ ls stv F hst gt gf
  obtain ⟨w0, r0, rfl, e0, hst⟩ := hst
  obtain ⟨w1, r1, rfl, e1, hst⟩ := hst
  cases e0
  cases e1
  exact lv_icmp_ge F.1 F.2.1 hd ht (fun z => gt _ hst ((zI_le h2 h1).mp z)) (fun z => gf _ hst (fun q => z ((zI_le h2 h1).mpr q)))
theorem x_if_ge {M : XM} {pc : Nat} {L st : List XV} {h : XH} {kc ks : Nat} {Q : XO → XH → Prop} {a : Int} {off : Int} {tgt : Nat} (hd : decode (xmC M) pc = .ok (.ifCond .ge off, 3)) (ht : (pc : Int) + off = (tgt : Int)) (h1 : zR a) (kt : 0 ≤ a → X M tgt L st h kc ks Q) (kf : a < 0 → X M (pc + 3) L st h kc ks Q) : X M pc L (xI a :: st) h kc ks Q := by
  have h2 := zR_0
  refine x_of2 (P := 0 ≤ a) kt (fun z => kf (by omega)) ?_
  intro p l e R s m args below meth c D dA base ad H locs cells slots QQ ls stv F hst gt gf
  obtain ⟨w0, r0, rfl, e0, hst⟩ := hst
  cases e0
  exact lv_if_ge F.1 F.2.1 hd ht (fun z => gt _ hst ((zI_le h2 h1).mp (by rw [zI_0]; exact z))) (fun z => gf _ hst (fun q => z (by have q2 := (zI_le h2 h1).mpr q; rw [zI_0] at q2; exact q2)))
theorem x_icmp_gt {M : XM} {pc : Nat} {L st : List XV} {h : XH} {kc ks : Nat} {Q : XO → XH → Prop} {a b : Int} {off : Int} {tgt : Nat} (hd : decode (xmC M) pc = .ok (.if_icmp .gt off, 3)) (ht : (pc : Int) + off = (tgt : Int)) (h1 : zR a) (h2 : zR b) (kt : b < a → X M tgt L st h kc ks Q) (kf : a ≤ b → X M (pc + 3) L st h kc ks Q) : X M pc L (xI b :: xI a :: st) h kc ks Q := by
  refine x_of2 (P := b < a) kt (fun z => kf (by omega)) ?_
  intro p l e R s m args below meth c D dA base ad H locs cells slots QQ ls stv F hst gt gf
  obtain ⟨w0, r0, rfl, e0, hst⟩ := hst
  obtain ⟨w1, r1, rfl, e1, hst⟩ := hst
  cases e0
  cases e1
  exact lv_icmp_gt F.1 F.2.1 hd ht (fun z => gt _ hst ((zI_lt h2 h1).mp z)) (fun z => gf _ hst (fun q => z ((zI_lt h2 h1).mpr q)))
theorem x_if_gt {M : XM} {pc : Nat} {L st : List XV} {h : XH} {kc ks : Nat} {Q : XO → XH → Prop} {a : Int} {off : Int} {tgt : Nat} (hd : decode (xmC M) pc = .ok (.ifCond .gt off, 3)) (ht : (pc : Int) + off = (tgt : Int)) (h1 : zR a) (kt : 0 < a → X M tgt L st h kc ks Q) (kf : a ≤ 0 → X M (pc + 3) L st h kc ks Q) : X M pc L (xI a :: st) h kc ks Q := by
  have h2 := zR_0
  refine x_of2 (P := 0 < a) kt (fun z => kf (by omega)) ?_
  intro p l e R s m args below meth c D dA base ad H locs cells slots QQ ls stv F hst gt gf
  obtain ⟨w0, r0, rfl, e0, hst⟩ := hst
  cases e0
  exact lv_if_gt F.1 F.2.1 hd ht (fun z => gt _ hst ((zI_lt h2 h1).mp (by rw [zI_0]; exact z))) (fun z => gf _ hst (fun q => z (by have q2 := (zI_lt h2 h1).mpr q; rw [zI_0] at q2; exact q2)))
theorem x_table {M : XM} {pc : Nat} {L st : List XV} {h : XH} {kc ks : Nat} {Q : XO → XH → Prop} {a : Int} {dflt lo hi off : Int} {offs : Array Int} {len tgt : Nat} (hd : decode (xmC M) pc = .ok (.tableswitch dflt lo hi offs, len)) (h0 : zR a) (h1 : lo ≤ a) (h2 : a ≤ hi) (ho : offs[(a - lo).toNat]? = some off) (ht : (pc : Int) + off = (tgt : Int)) (k : X M tgt L st h kc ks Q) : X M pc L (xI a :: st) h kc ks Q := by
  refine x_of k ?_
  intro p l e R s m args below meth c D dA base ad H locs cells slots QQ ls stv F hl hst go
  obtain ⟨w0, r0, rfl, e0, hst⟩ := hst
  cases e0
  exact lv_tableIn F.1 F.2.1 hd (by rw [zI_toInt h0]; omega) (by rw [zI_toInt h0]; omega) (by rw [zI_toInt h0]; exact ho) ht (go _ _ hl hst)
theorem x_lcmp {M : XM} {pc : Nat} {L st : List XV} {h : XH} {kc ks : Nat} {Q : XO → XH → Prop} {a b : Int64} (hd : decode (xmC M) pc = .ok (.lcmp, 1)) (k : X M (pc + 1) L (xI (lg_cmp a b).toInt :: st) h kc ks Q) : X M pc L (xJ b :: xJ a :: st) h kc ks Q := by
  refine x_of k ?_
  intro p l e R s m args below meth c D dA base ad H locs cells slots QQ ls stv F hl hst go
  obtain ⟨w0, r0, rfl, e0, hst⟩ := hst
  obtain ⟨w1, r1, rfl, e1, hst⟩ := hst
  cases e0
  cases e1
  exact W.lcmp F.1 F.2.1 hd (go _ _ hl ⟨_, _, rfl, congrArg Value.int (zI_of _).symm, hst⟩)
