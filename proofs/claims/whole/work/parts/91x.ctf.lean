/-! constructors: rows of rows, the reference -/
theorem xo_cell (c : ClassId) (N h0 : Nat) (i : Nat) : Jvm.Free.Multi.outerC c N h0 i = arrV c N (fun j => va_rf (if j < i then some (h0 + 1 + j) else none)) := by
  induction i with
  | zero =>
    show ({ cls := c, slots := Array.replicate N .null, vm := .none } : Cell) = _
    rw [arrV_new]
    congr 1
  | succ i ih =>
    show (Jvm.Free.Multi.outerC c N h0 i).setSlot i (.ref (h0 + 1 + i)) = _
    rw [ih, arrV_store]
    congr 1
    funext j
    by_cases e : j = i
    · subst e
      simp [updV, va_rf]
    · by_cases y : j < i
      · simp [updV, e, y, Nat.lt_succ_of_lt y]
      · have y2 : ¬ j < i + 1 := by omega
        simp [updV, e, y, y2]
/-- 'new int[5][64]': the row of rows has the name (80, 0, 0), the rows (81, b, 0) -/
theorem x_mna {M : XM} {pc i : Nat} {L st : List XV} {h : XH} {kc ks : Nat} {Q : XO → XH → Prop} (hd : decode (xmC M) pc = .ok (.multianewarray i 2, 4)) (hcl : Cond.classLink (xmY M).cls i "[[I" ∈ xW) (har : Cond.arrayClass FieldType.int ∈ xW) (f80 : h (80, 0, 0) = none) (f81 : ∀ b t : Int, h (81, b, t) = none) (h1 : 6 ≤ kc) (h2 : 325 ≤ ks)
    (k : ∀ g : XH, g (80, 0, 0) = some (.inr (11, 5, .inr (.inr (.inr (fun b => some (81, b, 0)))))) → (∀ b : Int, 0 ≤ b → b < 5 → g (81, b, 0) = some (.inr (0, 64, .inl (fun _ => 0)))) → (∀ l : XL, l ≠ (80, 0, 0) → ¬ (l.1 = 81 ∧ 0 ≤ l.2.1 ∧ l.2.1 < 5 ∧ l.2.2 = 0) → g l = h l) → X M (pc + 4) L (xR (80, 0, 0) :: st) g (kc - 6) (ks - 325) Q) : X M pc L (xI 64 :: xI 5 :: st) h kc ks Q := by
  intro p l0 e R s m args below meth c D dA base ad0 h0 ad H locs cells slots ls stv F hE h9 hH hS hL hst hc hs
  obtain ⟨w2, r2, rfl, rfl, hst⟩ := hst
  obtain ⟨w0, r0, rfl, rfl, hst⟩ := hst
  obtain ⟨f1, f2, f3, f4, f5, f6, f7, f8, f9, f10, f11, f12, f13, f14⟩ := id F
  have hK := f13.1
  have hA : s.vm.findClass ("[" ++ (FieldType.array .int).toString) = some (dA 11) := (hK.2 11 _ (xTys_at (by decide))).2
  have hA0 : s.vm.findClass ("[" ++ (FieldType.int).toString) = some (dA 0) := (hK.2 0 _ (xTys_at (by decide))).2
  have es : "[" ++ (FieldType.array FieldType.int).toString = "[[I" := by decide
  intro T hT Xs
  have e5 : (zI 5).toNatClampNeg = 5 := by decide
  have e64 : (zI 64).toNatClampNeg = 64 := by decide
  obtain ⟨vm₁, cA, comp, -, fA, fC, hO, -, X', step⟩ := Xs.multianewarray2F (ty := .int) f1 f5 (by rw [es]; exact f6 _ hcl) (f13.2.2.2.2.2.2.2.1) (f6 _ har) (g := F0 m pc ls (.int (zI 64) :: .int (zI 5) :: r0)) rfl (by rw [f2]; exact hd) rfl (by decide) (by decide) (by decide) (by decide) (by decide) (by decide) (by decide) (by rw [e5]; omega) (by rw [e5, e64]; omega)
  rw [e5, e64] at X' step
  cases hA.symm.trans fA
  have fC' : s.vm.findClass ("[" ++ (FieldType.int).toString) = some comp := fC
  cases hA0.symm.trans fC'
  generalize hF : Jvm.Free.Multi.fill (T.setVm vm₁) (dA 11) (dA 0) 5 64 (defaultValue FieldType.int) 5 = V at X' step
  have hTh : (T.setVm vm₁).heap = H := hT
  obtain ⟨q1, q2, -, -⟩ := Jvm.Free.Multi.fill_facts (T.setVm vm₁) (dA 11) (dA 0) 5 64 (defaultValue FieldType.int) 5
  rw [hF, hTh] at q1 q2
  have hold : ∀ x : Nat, x < H.size → V.heap[x]? = H[x]? := fun x hx => by
    have := Jvm.Free.Multi.fill_old (T.setVm vm₁) (dA 11) (dA 0) 5 64 (defaultValue FieldType.int) (a := x) (by rw [hTh]; exact hx) 5
    rw [hF, hTh] at this
    exact this
  have hrow : ∀ j : Nat, j < 5 → V.heap[H.size + 1 + j]? = some (Jvm.Free.Multi.innerC (dA 0) 64 (defaultValue FieldType.int)) := fun j hj => by
    have := Jvm.Free.Multi.fill_inner (T.setVm vm₁) (dA 11) (dA 0) 5 64 (defaultValue FieldType.int) 5 j hj
    rw [hF, hTh] at this
    exact this
  have hin : Jvm.Free.Multi.innerC (dA 0) 64 (defaultValue FieldType.int) = vp_cell (dA 0) (64, .inl (fun _ => zI 0)) := by
    show ({ cls := dA 0, slots := Array.replicate 64 (.int 0), vm := .none } : Cell) = _
    rw [arrV_new, zI_0]
    rfl
  rw [xo_cell] at q2
  -- the new names
  let ad' : XL → Nat := fun l => if l = (80, 0, 0) then H.size else if l.1 = 81 ∧ 0 ≤ l.2.1 ∧ l.2.1 < 5 ∧ l.2.2 = 0 then H.size + 1 + l.2.1.toNat else ad l
  let g' : XH := fun l => if l = (80, 0, 0) then some (.inr (11, 5, .inr (.inr (.inr (fun b => some (81, b, 0)))))) else if l.1 = 81 ∧ 0 ≤ l.2.1 ∧ l.2.1 < 5 ∧ l.2.2 = 0 then some (.inr (0, 64, .inl (fun _ => 0))) else h l
  have n80 : ∀ l : XL, h l ≠ none → l ≠ (80, 0, 0) := fun l q z => q (by rw [z]; exact f80)
  have n81 : ∀ l : XL, h l ≠ none → ¬ (l.1 = 81 ∧ 0 ≤ l.2.1 ∧ l.2.1 < 5 ∧ l.2.2 = 0) := fun l q z => q (by
    obtain ⟨k, a, b⟩ := l
    have z1 : k = 81 := z.1
    subst z1
    exact f81 a b)
  have hx : xEx ad h ad' g' := by
    refine ⟨fun l q => ⟨?_, ?_⟩, fun l q => ?_⟩
    · show (if l = _ then _ else if _ then _ else _) ≠ none
      rw [if_neg (n80 l q), if_neg (n81 l q)]; exact q
    · show (if l = _ then _ else if _ then _ else _) = ad l
      rw [if_neg (n80 l q), if_neg (n81 l q)]
    · show (if l = _ then _ else if _ then _ else _) = h l
      rw [if_neg (fun z => by rw [z] at q; cases q), if_neg (fun z => by rw [q] at z; exact absurd z.1 (by decide))]
  have g80 : g' (80, 0, 0) = some (.inr (11, 5, .inr (.inr (.inr (fun b => some (81, b, 0)))))) := if_pos rfl
  have g81 : ∀ b : Int, 0 ≤ b → b < 5 → g' (81, b, 0) = some (.inr (0, 64, .inl (fun _ => 0))) := fun b b0 b1 => by
    show (if _ = _ then _ else if _ then _ else _) = _
    rw [if_neg (nK (by decide) _ _ _ _), if_pos ⟨rfl, b0, b1, rfl⟩]
  have go : ∀ l : XL, l ≠ (80, 0, 0) → ¬ (l.1 = 81 ∧ 0 ≤ l.2.1 ∧ l.2.1 < 5 ∧ l.2.2 = 0) → g' l = h l := fun l a b => by
    show (if _ = _ then _ else if _ then _ else _) = _
    rw [if_neg a, if_neg b]
  have a80 : ad' (80, 0, 0) = H.size := if_pos rfl
  have a81 : ∀ b : Int, 0 ≤ b → b < 5 → ad' (81, b, 0) = H.size + 1 + b.toNat := fun b b0 b1 => by
    show (if _ = _ then _ else if _ then _ else _) = _
    rw [if_neg (nK (by decide) _ _ _ _), if_pos ⟨rfl, b0, b1, rfl⟩]
  have ao : ∀ l : XL, l ≠ (80, 0, 0) → ¬ (l.1 = 81 ∧ 0 ≤ l.2.1 ∧ l.2.1 < 5 ∧ l.2.2 = 0) → ad' l = ad l := fun l a b => by
    show (if _ = _ then _ else if _ then _ else _) = _
    rw [if_neg a, if_neg b]
  have hsz : H.size ≤ V.heap.size := by omega
  have three : ∀ l : XL, l = (80, 0, 0) ∨ (∃ b : Int, 0 ≤ b ∧ b < 5 ∧ l = (81, b, 0)) ∨ (l ≠ (80, 0, 0) ∧ ¬ (l.1 = 81 ∧ 0 ≤ l.2.1 ∧ l.2.1 < 5 ∧ l.2.2 = 0)) := fun l => by
    by_cases y1 : l = (80, 0, 0)
    · exact Or.inl y1
    · by_cases y2 : l.1 = 81 ∧ 0 ≤ l.2.1 ∧ l.2.1 < 5 ∧ l.2.2 = 0
      · obtain ⟨k, a, b⟩ := l
        obtain ⟨z1, z2, z3, z4⟩ := y2
        have z1 : k = 81 := z1
        have z4 : b = 0 := z4
        subst z1
        subst z4
        exact Or.inr (Or.inl ⟨a, z2, z3, rfl⟩)
      · exact Or.inr (Or.inr ⟨y1, y2⟩)
  have hHR : xHR D dA base ad' g' V.heap := by
    refine ⟨fun l cc hl hl99 => ?_, fun a b ha hb hab => ?_, fun l hl => ?_⟩
    · rcases three l with rfl | ⟨b, b0, b1, rfl⟩ | ⟨y1, y2⟩
      · rw [g80] at hl
        cases hl
        rw [a80]
        refine ⟨⟨fun j => if j < 5 then some (H.size + 1 + j) else none, fun j hj => ⟨fun z => (by cases z), fun l3 z => ?_⟩, ?_⟩, Nat.le_trans f14 hS.1⟩
        · cases z
          refine ⟨by rw [g81 _ (by omega) (by omega)]; simp, ?_⟩
          rw [a81 _ (by omega) (by omega)]
          exact (if_pos hj).trans (congrArg some (by omega))
        · rw [q2, vp_cell_q]
      · rw [g81 b b0 b1] at hl
        cases hl
        rw [a81 b b0 b1]
        refine ⟨?_, by have := Nat.le_trans f14 hS.1; omega⟩
        show V.heap[_]? = _
        rw [hrow _ (by omega), hin]
      · rw [go l y1 y2] at hl
        rw [ao l y1 y2]
        obtain ⟨a1, a2⟩ := hH.1 l cc hl hl99
        have hlt := hH.2.2 l (by rw [hl]; simp)
        refine ⟨?_, a2⟩
        have a1' : xCR D dA ad h (ad l) cc H := a1
        exact a1'.mono hx (hold _ hlt)
    · have hz : ∀ l : XL, g' l ≠ none → l ≠ (80, 0, 0) → ¬ (l.1 = 81 ∧ 0 ≤ l.2.1 ∧ l.2.1 < 5 ∧ l.2.2 = 0) → h l ≠ none ∧ ad' l = ad l ∧ ad l < H.size := fun l q y1 y2 => by
        rw [go l y1 y2] at q
        exact ⟨q, ao l y1 y2, hH.2.2 l q⟩
      rcases three a with rfl | ⟨x, x0, x1, rfl⟩ | ⟨y1, y2⟩ <;> rcases three b with rfl | ⟨y, u0, u1, rfl⟩ | ⟨w1, w2⟩
      · rfl
      · rw [a80, a81 y u0 u1] at hab; omega
      · obtain ⟨z1, z2, z3⟩ := hz b hb w1 w2
        rw [a80, z2] at hab; omega
      · rw [a80, a81 x x0 x1] at hab; omega
      · rw [a81 x x0 x1, a81 y u0 u1] at hab
        rw [show x = y by omega]
      · obtain ⟨z1, z2, z3⟩ := hz b hb w1 w2
        rw [a81 x x0 x1, z2] at hab; omega
      · obtain ⟨z1, z2, z3⟩ := hz a ha y1 y2
        rw [a80, z2] at hab; omega
      · obtain ⟨z1, z2, z3⟩ := hz a ha y1 y2
        rw [a81 y u0 u1, z2] at hab; omega
      · obtain ⟨z1, z2, z3⟩ := hz a ha y1 y2
        obtain ⟨z4, z5, z6⟩ := hz b hb w1 w2
        rw [z2, z5] at hab
        exact hH.2.1 a b z1 z4 hab
    · rcases three l with rfl | ⟨b, b0, b1, rfl⟩ | ⟨y1, y2⟩
      · rw [a80]; omega
      · rw [a81 b b0 b1]; omega
      · rw [go l y1 y2] at hl
        rw [ao l y1 y2]
        have := hH.2.2 l hl
        omega
  obtain ⟨t', a1, b1⟩ := k g' g80 g81 go p l0 e R s m args below meth c D dA base ad0 h0 ad' V.heap locs (cells + 6) (slots + 325) ls _ F (hE.tr hx) (h9.ex hx) hHR (x_grow hS hsz hold) (hL.mono hx) ⟨_, _, rfl, ⟨by rw [g80]; simp, rfl⟩, hst.mono hx⟩ (by omega) (by omega) V rfl X'
  refine ⟨t', step t' ?_, b1⟩
  rw [a80] at a1
  rw [hT]
  exact a1
theorem wdm : Cond.classLink RX9 73 "[[I" ∈ xW := xw 1099 (by decide +kernel) rfl
def nMd (l : XL) : Prop := ((50 ≤ l.1 ∧ l.1 ≤ 75) ∨ l.1 = 80 ∨ l.1 = 81) ∧ dzz l
theorem dz1 {k : Nat} {a b : Int} (h1 : 51 ≤ k) (h2 : k ≤ 75) (d : dzz (k, a, b)) : a = 0 ∧ b = 0 := by
  have h : k = 51 ∨ k = 52 ∨ k = 53 ∨ k = 54 ∨ k = 55 ∨ k = 56 ∨ k = 57 ∨ k = 58 ∨ k = 59 ∨ k = 60 ∨ k = 61 ∨ k = 62 ∨ k = 63 ∨ k = 64 ∨ k = 65 ∨ k = 66 ∨ k = 67 ∨ k = 68 ∨ k = 69 ∨ k = 70 ∨ k = 71 ∨ k = 72 ∨ k = 73 ∨ k = 74 ∨ k = 75 := by omega
  rcases h with rfl | rfl | rfl | rfl | rfl | rfl | rfl | rfl | rfl | rfl | rfl | rfl | rfl | rfl | rfl | rfl | rfl | rfl | rfl | rfl | rfl | rfl | rfl | rfl | rfl <;> exact d
theorem dz2 {k : Nat} (h1 : 51 ≤ k) (h2 : k ≤ 75) : dzz (k, 0, 0) := by
  have h : k = 51 ∨ k = 52 ∨ k = 53 ∨ k = 54 ∨ k = 55 ∨ k = 56 ∨ k = 57 ∨ k = 58 ∨ k = 59 ∨ k = 60 ∨ k = 61 ∨ k = 62 ∨ k = 63 ∨ k = 64 ∨ k = 65 ∨ k = 66 ∨ k = 67 ∨ k = 68 ∨ k = 69 ∨ k = 70 ∨ k = 71 ∨ k = 72 ∨ k = 73 ∨ k = 74 ∨ k = 75 := by omega
  rcases h with rfl | rfl | rfl | rfl | rfl | rfl | rfl | rfl | rfl | rfl | rfl | rfl | rfl | rfl | rfl | rfl | rfl | rfl | rfl | rfl | rfl | rfl | rfl | rfl | rfl <;> exact ⟨rfl, rfl⟩
/-- the arrays 51 to k are made; m: the rows of changes too -/
def F9 (g0 g : XH) (c : XC) (k : Nat) (m : Bool) : Prop := g (50, 0, 0) = some c ∧ (∀ l : XL, 51 ≤ l.1 → l.1 < k → l.1 ≤ 75 → dzz l → g l = z0 l) ∧ (∀ l : XL, k ≤ l.1 → l.1 ≤ 75 → dzz l → g l = none) ∧ (m = false → g (80, 0, 0) = none ∧ ∀ b t : Int, g (81, b, t) = none) ∧ (m = true → ∀ l : XL, (l.1 = 80 ∨ l.1 = 81) → dzz l → g l = z0 l) ∧ ∀ l : XL, ¬ nMd l → g l = g0 l
theorem F9.ob {g0 g : XH} {c : XC} {k : Nat} {m : Bool} (F : F9 g0 g c k m) : g (50, 0, 0) = some c := F.1
theorem F9.dn {g0 g : XH} {c : XC} {k : Nat} {m : Bool} (F : F9 g0 g c k m) : ∀ l : XL, 51 ≤ l.1 → l.1 < k → l.1 ≤ 75 → dzz l → g l = z0 l := F.2.1
theorem F9.fe {g0 g : XH} {c : XC} {k : Nat} {m : Bool} (F : F9 g0 g c k m) : ∀ l : XL, k ≤ l.1 → l.1 ≤ 75 → dzz l → g l = none := F.2.2.1
theorem F9.r0 {g0 g : XH} {c : XC} {k : Nat} {m : Bool} (F : F9 g0 g c k m) : m = false → g (80, 0, 0) = none ∧ ∀ b t : Int, g (81, b, t) = none := F.2.2.2.1
theorem F9.r1 {g0 g : XH} {c : XC} {k : Nat} {m : Bool} (F : F9 g0 g c k m) : m = true → ∀ l : XL, (l.1 = 80 ∨ l.1 = 81) → dzz l → g l = z0 l := F.2.2.2.2.1
theorem F9.fr {g0 g : XH} {c : XC} {k : Nat} {m : Bool} (F : F9 g0 g c k m) : ∀ l : XL, ¬ nMd l → g l = g0 l := F.2.2.2.2.2
theorem F9.alloc {g0 g : XH} {c ca : XC} {k k2 : Nat} {m : Bool} (F : F9 g0 g c k m) (hz : z0 (k, 0, 0) = some ca) (h1 : 51 ≤ k) (h2 : k ≤ 75) (h3 : k2 = k + 1) : F9 g0 (xUp g (k, 0, 0) ca) c k2 m := by
  refine ⟨?_, ?_, ?_, ?_, ?_, ?_⟩
  · exact (xu_o (nK (by omega) _ _ _ _)).trans F.ob
  · exact fun l a b b2 d => by
        obtain ⟨k', x, y⟩ := l
        by_cases e : k' = k
        · subst e
          obtain ⟨rfl, rfl⟩ := dz1 h1 h2 d
          exact xu_at.trans hz.symm
        · have b : k' < k2 := b
          exact (xu_o (nK e _ _ _ _)).trans (F.dn _ a (show k' < k by omega) b2 d)
  · exact fun l a b d => by
        obtain ⟨k', x, y⟩ := l
        have a : k2 ≤ k' := a
        exact (xu_o (nK (by omega) _ _ _ _)).trans (F.fe _ (show k ≤ k' by omega) b d)
  · exact fun z => ⟨(xu_o (nK (by omega) _ _ _ _)).trans (F.r0 z).1, fun b t => (xu_o (nK (by omega) _ _ _ _)).trans ((F.r0 z).2 b t)⟩
  · exact fun z l hl d => by
        obtain ⟨k', x, y⟩ := l
        have hl2 : k' = 80 ∨ k' = 81 := hl
        exact (xu_o (nK (by omega) _ _ _ _)).trans (F.r1 z _ hl d)
  · exact fun l hl => (xu_o (fun z => hl (by rw [z]; exact ⟨Or.inl (show 50 ≤ k ∧ k ≤ 75 by omega), dz2 h1 h2⟩))).trans (F.fr l hl)
theorem F9.put {g0 g : XH} {c c' : XC} {k : Nat} {m : Bool} (F : F9 g0 g c k m) (h1 : 51 ≤ k) : F9 g0 (xUp g (50, 0, 0) c') c' k m := by
  refine ⟨?_, ?_, ?_, ?_, ?_, ?_⟩
  · exact xu_at
  · exact fun l a b b2 d => (xu_o (fun z => by rw [z] at a; exact absurd a (by decide))).trans (F.dn l a b b2 d)
  · exact fun l a b d => (xu_o (fun z => by rw [z] at a; have a2 : k ≤ 50 := a; omega)).trans (F.fe l a b d)
  · exact fun z => ⟨(xu_o (nK (by decide) _ _ _ _)).trans (F.r0 z).1, fun b t => (xu_o (nK (by decide) _ _ _ _)).trans ((F.r0 z).2 b t)⟩
  · exact fun z l hl d => (xu_o (fun y => by rw [y] at hl; exact absurd hl (by decide))).trans (F.r1 z l hl d)
  · exact fun l hl => (xu_o (fun z => hl (by rw [z]; exact ⟨Or.inl ⟨by decide, by decide⟩, rfl, rfl⟩))).trans (F.fr l hl)
theorem F9.fk {g0 g : XH} {c : XC} {k : Nat} {m : Bool} (F : F9 g0 g c k m) (h1 : 51 ≤ k) (h2 : k ≤ 75) : g (k, 0, 0) = none := F.fe _ (Nat.le_refl _) h2 (dz2 h1 h2)
theorem F9.rows {g0 g g2 : XH} {c : XC} {k : Nat} (F : F9 g0 g c k false) (w80 : g2 (80, 0, 0) = some (.inr (11, 5, .inr (.inr (.inr (fun b => some (81, b, 0))))))) (w81 : ∀ b : Int, 0 ≤ b → b < 5 → g2 (81, b, 0) = some (.inr (0, 64, .inl (fun _ => 0)))) (wo : ∀ l : XL, l ≠ (80, 0, 0) → ¬ (l.1 = 81 ∧ 0 ≤ l.2.1 ∧ l.2.1 < 5 ∧ l.2.2 = 0) → g2 l = g l) : F9 g0 g2 c k true := by
  refine ⟨?_, ?_, ?_, ?_, ?_, ?_⟩
  · exact (wo _ (nK (by decide) _ _ _ _) (fun z => by have z1 : (50 : Nat) = 81 := z.1; omega)).trans F.ob
  · exact fun l a b b2 d => (wo l (fun z => by rw [z] at b2; exact absurd b2 (by decide)) (fun z => by have z1 := z.1; omega)).trans (F.dn l a b b2 d)
  · exact fun l a b d => (wo l (fun z => by rw [z] at b; exact absurd b (by decide)) (fun z => by have z1 := z.1; omega)).trans (F.fe l a b d)
  · exact fun z => by cases z
  · exact fun _ l hl d => by
        obtain ⟨k, a, b⟩ := l
        have hl2 : k = 80 ∨ k = 81 := hl
        rcases hl2 with rfl | rfl
        · obtain ⟨rfl, rfl⟩ : a = 0 ∧ b = 0 := d
          rw [w80]
          exact (hp80 (iS 0 (fun _ => 0))).symm
        · obtain ⟨d1, d2, d3, d4⟩ : 0 ≤ a ∧ a < 5 ∧ 0 ≤ b ∧ b ≤ (0 : Int) := d
          have d5 : b = 0 := by omega
          subst d5
          rw [w81 a d1 d2]
          exact (hp81 (iS 0 (fun _ => 0)) d1 d2 d3 d4).symm
  · exact fun l hl => (wo l (fun z => hl (by rw [z]; exact ⟨Or.inr (Or.inl rfl), rfl, rfl⟩)) (fun z => hl ⟨Or.inr (Or.inr z.1), (by
        obtain ⟨k, a, b⟩ := l
        obtain ⟨z1, z2, z3, z4⟩ := z
        have z1 : k = 81 := z1
        subst z1
        have z4 : b = 0 := z4
        subst z4
        exact (show 0 ≤ a ∧ a < 5 ∧ (0 : Int) ≤ 0 ∧ (0 : Int) ≤ 0 from ⟨z2, z3, by decide, by decide⟩))⟩)).trans (F.fr l hl)
set_option maxHeartbeats 4000000 in
set_option maxRecDepth 100000 in
theorem c_init9 (g0 : XH) (v50 : g0 (50, 0, 0) = some (.inl (9, [xN, xN, xN, xN, xN, xN, xN, xN, xN, xN, xN, xI 0, xI 0, xI 0, xN, xN, xN, xN, xN, xN, xN, xN, xN, xN, xI 0, xI 0, xN, xN, xN, xN, xN]))) (hf : ∀ l : XL, nMd l → l ≠ (50, 0, 0) → g0 l = none) (hf81 : ∀ l : XL, l.1 = 81 → g0 l = none) : X mX9_init 0 (xEnt mX9_init [xR (50, 0, 0)]) [] g0 40 4000 (fun o h' => o = .inl none ∧ (∀ l : XL, nMd l → h' l = z0 l) ∧ ∀ l : XL, ¬ nMd l → h' l = g0 l) := by
  show X mX9_init 0 [xR (50, 0, 0)] [] g0 40 4000 _
  have q0 : F9 g0 g0 (.inl (9, [xN, xN, xN, xN, xN, xN, xN, xN, xN, xN, xN, xI 0, xI 0, xI 0, xN, xN, xN, xN, xN, xN, xN, xN, xN, xN, xI 0, xI 0, xN, xN, xN, xN, xN])) 51 false := by
    refine ⟨v50, fun l a b => absurd b (by omega), fun l a b d => hf l ⟨Or.inl ⟨by omega, b⟩, d⟩ (fun z => by rw [z] at a; exact absurd a (by decide)), fun _ => ⟨hf _ ⟨Or.inr (Or.inl rfl), rfl, rfl⟩ (nK (by decide) _ _ _ _), fun b t => hf81 _ rfl⟩, fun z => (by cases z), fun _ _ => rfl⟩
  refine x_aload_n dX9_init_0 rfl ?_
  refine x_objInit dX9_init_1 wd1098 wd80 wd81 (by decide) (Nat.le_of_ble_eq_true rfl) ?_
  refine x_aload_n dX9_init_4 rfl ?_
  refine x_sipush (v := 240) dX9_init_5 (by decide) ?_
  refine x_newarray (51, 0, 0) (t := 3) (n := 240) (N := 240) dX9_init_8 rfl wd1195 (q0.fk (by decide) (by decide)) (by decide) rfl (by decide) (by decide) (by decide) ?_
  refine x_hg (fun g1 eg => ?_)
  have q1 : F9 g0 g1 (.inl (9, [xN, xN, xN, xN, xN, xN, xN, xN, xN, xN, xN, xI 0, xI 0, xI 0, xN, xN, xN, xN, xN, xN, xN, xN, xN, xN, xI 0, xI 0, xN, xN, xN, xN, xN])) 52 false := by rw [eg]; exact q0.alloc (hp51 (iS 0 (fun _ => 0))) (by decide) (by decide) rfl
  clear eg
  refine x_putF (fs' := [xR (51, 0, 0), xN, xN, xN, xN, xN, xN, xN, xN, xN, xN, xI 0, xI 0, xI 0, xN, xN, xN, xN, xN, xN, xN, xN, xN, xN, xI 0, xI 0, xN, xN, xN, xN, xN]) dX9_init_10 fl_RX9_9 (fun r hr => by cases hr; exact ⟨rfl, rfl⟩) q1.ob xfit_a (Nat.le_of_ble_eq_true rfl) rfl rfl ?_
  refine x_hg (fun g2 eg => ?_)
  have q2 : F9 g0 g2 (.inl (9, [xR (51, 0, 0), xN, xN, xN, xN, xN, xN, xN, xN, xN, xN, xI 0, xI 0, xI 0, xN, xN, xN, xN, xN, xN, xN, xN, xN, xN, xI 0, xI 0, xN, xN, xN, xN, xN])) 52 false := by rw [eg]; exact q1.put (by decide)
  clear eg
  refine x_aload_n dX9_init_13 rfl ?_
  refine x_sipush (v := 240) dX9_init_14 (by decide) ?_
  refine x_newarray (52, 0, 0) (t := 0) (n := 240) (N := 240) dX9_init_17 rfl wd124 (q2.fk (by decide) (by decide)) (by decide) rfl (by decide) (by decide) (by decide) ?_
  refine x_hg (fun g3 eg => ?_)
  have q3 : F9 g0 g3 (.inl (9, [xR (51, 0, 0), xN, xN, xN, xN, xN, xN, xN, xN, xN, xN, xI 0, xI 0, xI 0, xN, xN, xN, xN, xN, xN, xN, xN, xN, xN, xI 0, xI 0, xN, xN, xN, xN, xN])) 53 false := by rw [eg]; exact q2.alloc (hp52 (iS 0 (fun _ => 0))) (by decide) (by decide) rfl
  clear eg
  refine x_putF (fs' := [xR (51, 0, 0), xR (52, 0, 0), xN, xN, xN, xN, xN, xN, xN, xN, xN, xI 0, xI 0, xI 0, xN, xN, xN, xN, xN, xN, xN, xN, xN, xN, xI 0, xI 0, xN, xN, xN, xN, xN]) dX9_init_19 fl_RX9_13 (fun r hr => by cases hr; exact ⟨rfl, rfl⟩) q3.ob xfit_a (Nat.le_of_ble_eq_true rfl) rfl rfl ?_
  refine x_hg (fun g4 eg => ?_)
  have q4 : F9 g0 g4 (.inl (9, [xR (51, 0, 0), xR (52, 0, 0), xN, xN, xN, xN, xN, xN, xN, xN, xN, xI 0, xI 0, xI 0, xN, xN, xN, xN, xN, xN, xN, xN, xN, xN, xI 0, xI 0, xN, xN, xN, xN, xN])) 53 false := by rw [eg]; exact q3.put (by decide)
  clear eg
  refine x_aload_n dX9_init_22 rfl ?_
  refine x_sipush (v := 240) dX9_init_23 (by decide) ?_
  refine x_newarray (53, 0, 0) (t := 0) (n := 240) (N := 240) dX9_init_26 rfl wd124 (q4.fk (by decide) (by decide)) (by decide) rfl (by decide) (by decide) (by decide) ?_
  refine x_hg (fun g5 eg => ?_)
  have q5 : F9 g0 g5 (.inl (9, [xR (51, 0, 0), xR (52, 0, 0), xN, xN, xN, xN, xN, xN, xN, xN, xN, xI 0, xI 0, xI 0, xN, xN, xN, xN, xN, xN, xN, xN, xN, xN, xI 0, xI 0, xN, xN, xN, xN, xN])) 54 false := by rw [eg]; exact q4.alloc (hp53 (iS 0 (fun _ => 0))) (by decide) (by decide) rfl
  clear eg
  refine x_putF (fs' := [xR (51, 0, 0), xR (52, 0, 0), xR (53, 0, 0), xN, xN, xN, xN, xN, xN, xN, xN, xI 0, xI 0, xI 0, xN, xN, xN, xN, xN, xN, xN, xN, xN, xN, xI 0, xI 0, xN, xN, xN, xN, xN]) dX9_init_28 fl_RX9_17 (fun r hr => by cases hr; exact ⟨rfl, rfl⟩) q5.ob xfit_a (Nat.le_of_ble_eq_true rfl) rfl rfl ?_
  refine x_hg (fun g6 eg => ?_)
  have q6 : F9 g0 g6 (.inl (9, [xR (51, 0, 0), xR (52, 0, 0), xR (53, 0, 0), xN, xN, xN, xN, xN, xN, xN, xN, xI 0, xI 0, xI 0, xN, xN, xN, xN, xN, xN, xN, xN, xN, xN, xI 0, xI 0, xN, xN, xN, xN, xN])) 54 false := by rw [eg]; exact q5.put (by decide)
  clear eg
  refine x_aload_n dX9_init_31 rfl ?_
  refine x_sipush (v := 240) dX9_init_32 (by decide) ?_
  refine x_newarray (54, 0, 0) (t := 0) (n := 240) (N := 240) dX9_init_35 rfl wd124 (q6.fk (by decide) (by decide)) (by decide) rfl (by decide) (by decide) (by decide) ?_
  refine x_hg (fun g7 eg => ?_)
  have q7 : F9 g0 g7 (.inl (9, [xR (51, 0, 0), xR (52, 0, 0), xR (53, 0, 0), xN, xN, xN, xN, xN, xN, xN, xN, xI 0, xI 0, xI 0, xN, xN, xN, xN, xN, xN, xN, xN, xN, xN, xI 0, xI 0, xN, xN, xN, xN, xN])) 55 false := by rw [eg]; exact q6.alloc (hp54 (iS 0 (fun _ => 0))) (by decide) (by decide) rfl
  clear eg
  refine x_putF (fs' := [xR (51, 0, 0), xR (52, 0, 0), xR (53, 0, 0), xR (54, 0, 0), xN, xN, xN, xN, xN, xN, xN, xI 0, xI 0, xI 0, xN, xN, xN, xN, xN, xN, xN, xN, xN, xN, xI 0, xI 0, xN, xN, xN, xN, xN]) dX9_init_37 fl_RX9_20 (fun r hr => by cases hr; exact ⟨rfl, rfl⟩) q7.ob xfit_a (Nat.le_of_ble_eq_true rfl) rfl rfl ?_
  refine x_hg (fun g8 eg => ?_)
  have q8 : F9 g0 g8 (.inl (9, [xR (51, 0, 0), xR (52, 0, 0), xR (53, 0, 0), xR (54, 0, 0), xN, xN, xN, xN, xN, xN, xN, xI 0, xI 0, xI 0, xN, xN, xN, xN, xN, xN, xN, xN, xN, xN, xI 0, xI 0, xN, xN, xN, xN, xN])) 55 false := by rw [eg]; exact q7.put (by decide)
  clear eg
  refine x_aload_n dX9_init_40 rfl ?_
  refine x_sipush (v := 240) dX9_init_41 (by decide) ?_
  refine x_newarray (55, 0, 0) (t := 0) (n := 240) (N := 240) dX9_init_44 rfl wd124 (q8.fk (by decide) (by decide)) (by decide) rfl (by decide) (by decide) (by decide) ?_
  refine x_hg (fun g9 eg => ?_)
  have q9 : F9 g0 g9 (.inl (9, [xR (51, 0, 0), xR (52, 0, 0), xR (53, 0, 0), xR (54, 0, 0), xN, xN, xN, xN, xN, xN, xN, xI 0, xI 0, xI 0, xN, xN, xN, xN, xN, xN, xN, xN, xN, xN, xI 0, xI 0, xN, xN, xN, xN, xN])) 56 false := by rw [eg]; exact q8.alloc (hp55 (iS 0 (fun _ => 0))) (by decide) (by decide) rfl
  clear eg
  refine x_putF (fs' := [xR (51, 0, 0), xR (52, 0, 0), xR (53, 0, 0), xR (54, 0, 0), xR (55, 0, 0), xN, xN, xN, xN, xN, xN, xI 0, xI 0, xI 0, xN, xN, xN, xN, xN, xN, xN, xN, xN, xN, xI 0, xI 0, xN, xN, xN, xN, xN]) dX9_init_46 fl_RX9_23 (fun r hr => by cases hr; exact ⟨rfl, rfl⟩) q9.ob xfit_a (Nat.le_of_ble_eq_true rfl) rfl rfl ?_
  refine x_hg (fun g10 eg => ?_)
  have q10 : F9 g0 g10 (.inl (9, [xR (51, 0, 0), xR (52, 0, 0), xR (53, 0, 0), xR (54, 0, 0), xR (55, 0, 0), xN, xN, xN, xN, xN, xN, xI 0, xI 0, xI 0, xN, xN, xN, xN, xN, xN, xN, xN, xN, xN, xI 0, xI 0, xN, xN, xN, xN, xN])) 56 false := by rw [eg]; exact q9.put (by decide)
  clear eg
  refine x_aload_n dX9_init_49 rfl ?_
  refine x_sipush (v := 240) dX9_init_50 (by decide) ?_
  refine x_newarray (56, 0, 0) (t := 2) (n := 240) (N := 240) dX9_init_53 rfl wd123 (q10.fk (by decide) (by decide)) (by decide) rfl (by decide) (by decide) (by decide) ?_
  refine x_hg (fun g11 eg => ?_)
  have q11 : F9 g0 g11 (.inl (9, [xR (51, 0, 0), xR (52, 0, 0), xR (53, 0, 0), xR (54, 0, 0), xR (55, 0, 0), xN, xN, xN, xN, xN, xN, xI 0, xI 0, xI 0, xN, xN, xN, xN, xN, xN, xN, xN, xN, xN, xI 0, xI 0, xN, xN, xN, xN, xN])) 57 false := by rw [eg]; exact q10.alloc (hp56 (iS 0 (fun _ => 0))) (by decide) (by decide) rfl
  clear eg
  refine x_putF (fs' := [xR (51, 0, 0), xR (52, 0, 0), xR (53, 0, 0), xR (54, 0, 0), xR (55, 0, 0), xR (56, 0, 0), xN, xN, xN, xN, xN, xI 0, xI 0, xI 0, xN, xN, xN, xN, xN, xN, xN, xN, xN, xN, xI 0, xI 0, xN, xN, xN, xN, xN]) dX9_init_55 fl_RX9_26 (fun r hr => by cases hr; exact ⟨rfl, rfl⟩) q11.ob xfit_a (Nat.le_of_ble_eq_true rfl) rfl rfl ?_
  refine x_hg (fun g12 eg => ?_)
  have q12 : F9 g0 g12 (.inl (9, [xR (51, 0, 0), xR (52, 0, 0), xR (53, 0, 0), xR (54, 0, 0), xR (55, 0, 0), xR (56, 0, 0), xN, xN, xN, xN, xN, xI 0, xI 0, xI 0, xN, xN, xN, xN, xN, xN, xN, xN, xN, xN, xI 0, xI 0, xN, xN, xN, xN, xN])) 57 false := by rw [eg]; exact q11.put (by decide)
  clear eg
  refine x_aload_n dX9_init_58 rfl ?_
  refine x_bipush (v := 6) dX9_init_59 (by decide) ?_
  refine x_newarray (57, 0, 0) (t := 2) (n := 6) (N := 6) dX9_init_61 rfl wd123 (q12.fk (by decide) (by decide)) (by decide) rfl (by decide) (by decide) (by decide) ?_
  refine x_hg (fun g13 eg => ?_)
  have q13 : F9 g0 g13 (.inl (9, [xR (51, 0, 0), xR (52, 0, 0), xR (53, 0, 0), xR (54, 0, 0), xR (55, 0, 0), xR (56, 0, 0), xN, xN, xN, xN, xN, xI 0, xI 0, xI 0, xN, xN, xN, xN, xN, xN, xN, xN, xN, xN, xI 0, xI 0, xN, xN, xN, xN, xN])) 58 false := by rw [eg]; exact q12.alloc (hp57 (iS 0 (fun _ => 0))) (by decide) (by decide) rfl
  clear eg
  refine x_putF (fs' := [xR (51, 0, 0), xR (52, 0, 0), xR (53, 0, 0), xR (54, 0, 0), xR (55, 0, 0), xR (56, 0, 0), xR (57, 0, 0), xN, xN, xN, xN, xI 0, xI 0, xI 0, xN, xN, xN, xN, xN, xN, xN, xN, xN, xN, xI 0, xI 0, xN, xN, xN, xN, xN]) dX9_init_63 fl_RX9_30 (fun r hr => by cases hr; exact ⟨rfl, rfl⟩) q13.ob xfit_a (Nat.le_of_ble_eq_true rfl) rfl rfl ?_
  refine x_hg (fun g14 eg => ?_)
  have q14 : F9 g0 g14 (.inl (9, [xR (51, 0, 0), xR (52, 0, 0), xR (53, 0, 0), xR (54, 0, 0), xR (55, 0, 0), xR (56, 0, 0), xR (57, 0, 0), xN, xN, xN, xN, xI 0, xI 0, xI 0, xN, xN, xN, xN, xN, xN, xN, xN, xN, xN, xI 0, xI 0, xN, xN, xN, xN, xN])) 58 false := by rw [eg]; exact q13.put (by decide)
  clear eg
  refine x_aload_n dX9_init_66 rfl ?_
  refine x_iconst dX9_init_67 ?_
  refine x_newarray (58, 0, 0) (t := 0) (n := 4) (N := 4) dX9_init_68 rfl wd124 (q14.fk (by decide) (by decide)) (by decide) rfl (by decide) (by decide) (by decide) ?_
  refine x_hg (fun g15 eg => ?_)
  have q15 : F9 g0 g15 (.inl (9, [xR (51, 0, 0), xR (52, 0, 0), xR (53, 0, 0), xR (54, 0, 0), xR (55, 0, 0), xR (56, 0, 0), xR (57, 0, 0), xN, xN, xN, xN, xI 0, xI 0, xI 0, xN, xN, xN, xN, xN, xN, xN, xN, xN, xN, xI 0, xI 0, xN, xN, xN, xN, xN])) 59 false := by rw [eg]; exact q14.alloc (hp58 (iS 0 (fun _ => 0))) (by decide) (by decide) rfl
  clear eg
  refine x_putF (fs' := [xR (51, 0, 0), xR (52, 0, 0), xR (53, 0, 0), xR (54, 0, 0), xR (55, 0, 0), xR (56, 0, 0), xR (57, 0, 0), xR (58, 0, 0), xN, xN, xN, xI 0, xI 0, xI 0, xN, xN, xN, xN, xN, xN, xN, xN, xN, xN, xI 0, xI 0, xN, xN, xN, xN, xN]) dX9_init_70 fl_RX9_33 (fun r hr => by cases hr; exact ⟨rfl, rfl⟩) q15.ob xfit_a (Nat.le_of_ble_eq_true rfl) rfl rfl ?_
  refine x_hg (fun g16 eg => ?_)
  have q16 : F9 g0 g16 (.inl (9, [xR (51, 0, 0), xR (52, 0, 0), xR (53, 0, 0), xR (54, 0, 0), xR (55, 0, 0), xR (56, 0, 0), xR (57, 0, 0), xR (58, 0, 0), xN, xN, xN, xI 0, xI 0, xI 0, xN, xN, xN, xN, xN, xN, xN, xN, xN, xN, xI 0, xI 0, xN, xN, xN, xN, xN])) 59 false := by rw [eg]; exact q15.put (by decide)
  clear eg
  refine x_aload_n dX9_init_73 rfl ?_
  refine x_iconst dX9_init_74 ?_
  refine x_newarray (59, 0, 0) (t := 0) (n := 4) (N := 4) dX9_init_75 rfl wd124 (q16.fk (by decide) (by decide)) (by decide) rfl (by decide) (by decide) (by decide) ?_
  refine x_hg (fun g17 eg => ?_)
  have q17 : F9 g0 g17 (.inl (9, [xR (51, 0, 0), xR (52, 0, 0), xR (53, 0, 0), xR (54, 0, 0), xR (55, 0, 0), xR (56, 0, 0), xR (57, 0, 0), xR (58, 0, 0), xN, xN, xN, xI 0, xI 0, xI 0, xN, xN, xN, xN, xN, xN, xN, xN, xN, xN, xI 0, xI 0, xN, xN, xN, xN, xN])) 60 false := by rw [eg]; exact q16.alloc (hp59 (iS 0 (fun _ => 0))) (by decide) (by decide) rfl
  clear eg
  refine x_putF (fs' := [xR (51, 0, 0), xR (52, 0, 0), xR (53, 0, 0), xR (54, 0, 0), xR (55, 0, 0), xR (56, 0, 0), xR (57, 0, 0), xR (58, 0, 0), xR (59, 0, 0), xN, xN, xI 0, xI 0, xI 0, xN, xN, xN, xN, xN, xN, xN, xN, xN, xN, xI 0, xI 0, xN, xN, xN, xN, xN]) dX9_init_77 fl_RX9_36 (fun r hr => by cases hr; exact ⟨rfl, rfl⟩) q17.ob xfit_a (Nat.le_of_ble_eq_true rfl) rfl rfl ?_
  refine x_hg (fun g18 eg => ?_)
  have q18 : F9 g0 g18 (.inl (9, [xR (51, 0, 0), xR (52, 0, 0), xR (53, 0, 0), xR (54, 0, 0), xR (55, 0, 0), xR (56, 0, 0), xR (57, 0, 0), xR (58, 0, 0), xR (59, 0, 0), xN, xN, xI 0, xI 0, xI 0, xN, xN, xN, xN, xN, xN, xN, xN, xN, xN, xI 0, xI 0, xN, xN, xN, xN, xN])) 60 false := by rw [eg]; exact q17.put (by decide)
  clear eg
  refine x_aload_n dX9_init_80 rfl ?_
  refine x_iconst dX9_init_81 ?_
  refine x_newarray (60, 0, 0) (t := 0) (n := 4) (N := 4) dX9_init_82 rfl wd124 (q18.fk (by decide) (by decide)) (by decide) rfl (by decide) (by decide) (by decide) ?_
  refine x_hg (fun g19 eg => ?_)
  have q19 : F9 g0 g19 (.inl (9, [xR (51, 0, 0), xR (52, 0, 0), xR (53, 0, 0), xR (54, 0, 0), xR (55, 0, 0), xR (56, 0, 0), xR (57, 0, 0), xR (58, 0, 0), xR (59, 0, 0), xN, xN, xI 0, xI 0, xI 0, xN, xN, xN, xN, xN, xN, xN, xN, xN, xN, xI 0, xI 0, xN, xN, xN, xN, xN])) 61 false := by rw [eg]; exact q18.alloc (hp60 (iS 0 (fun _ => 0))) (by decide) (by decide) rfl
  clear eg
  refine x_putF (fs' := [xR (51, 0, 0), xR (52, 0, 0), xR (53, 0, 0), xR (54, 0, 0), xR (55, 0, 0), xR (56, 0, 0), xR (57, 0, 0), xR (58, 0, 0), xR (59, 0, 0), xR (60, 0, 0), xN, xI 0, xI 0, xI 0, xN, xN, xN, xN, xN, xN, xN, xN, xN, xN, xI 0, xI 0, xN, xN, xN, xN, xN]) dX9_init_84 fl_RX9_39 (fun r hr => by cases hr; exact ⟨rfl, rfl⟩) q19.ob xfit_a (Nat.le_of_ble_eq_true rfl) rfl rfl ?_
  refine x_hg (fun g20 eg => ?_)
  have q20 : F9 g0 g20 (.inl (9, [xR (51, 0, 0), xR (52, 0, 0), xR (53, 0, 0), xR (54, 0, 0), xR (55, 0, 0), xR (56, 0, 0), xR (57, 0, 0), xR (58, 0, 0), xR (59, 0, 0), xR (60, 0, 0), xN, xI 0, xI 0, xI 0, xN, xN, xN, xN, xN, xN, xN, xN, xN, xN, xI 0, xI 0, xN, xN, xN, xN, xN])) 61 false := by rw [eg]; exact q19.put (by decide)
  clear eg
  refine x_aload_n dX9_init_87 rfl ?_
  refine x_iconst dX9_init_88 ?_
  refine x_newarray (61, 0, 0) (t := 0) (n := 4) (N := 4) dX9_init_89 rfl wd124 (q20.fk (by decide) (by decide)) (by decide) rfl (by decide) (by decide) (by decide) ?_
  refine x_hg (fun g21 eg => ?_)
  have q21 : F9 g0 g21 (.inl (9, [xR (51, 0, 0), xR (52, 0, 0), xR (53, 0, 0), xR (54, 0, 0), xR (55, 0, 0), xR (56, 0, 0), xR (57, 0, 0), xR (58, 0, 0), xR (59, 0, 0), xR (60, 0, 0), xN, xI 0, xI 0, xI 0, xN, xN, xN, xN, xN, xN, xN, xN, xN, xN, xI 0, xI 0, xN, xN, xN, xN, xN])) 62 false := by rw [eg]; exact q20.alloc (hp61 (iS 0 (fun _ => 0))) (by decide) (by decide) rfl
  clear eg
  refine x_putF (fs' := [xR (51, 0, 0), xR (52, 0, 0), xR (53, 0, 0), xR (54, 0, 0), xR (55, 0, 0), xR (56, 0, 0), xR (57, 0, 0), xR (58, 0, 0), xR (59, 0, 0), xR (60, 0, 0), xR (61, 0, 0), xI 0, xI 0, xI 0, xN, xN, xN, xN, xN, xN, xN, xN, xN, xN, xI 0, xI 0, xN, xN, xN, xN, xN]) dX9_init_91 fl_RX9_42 (fun r hr => by cases hr; exact ⟨rfl, rfl⟩) q21.ob xfit_a (Nat.le_of_ble_eq_true rfl) rfl rfl ?_
  refine x_hg (fun g22 eg => ?_)
  have q22 : F9 g0 g22 (.inl (9, [xR (51, 0, 0), xR (52, 0, 0), xR (53, 0, 0), xR (54, 0, 0), xR (55, 0, 0), xR (56, 0, 0), xR (57, 0, 0), xR (58, 0, 0), xR (59, 0, 0), xR (60, 0, 0), xR (61, 0, 0), xI 0, xI 0, xI 0, xN, xN, xN, xN, xN, xN, xN, xN, xN, xN, xI 0, xI 0, xN, xN, xN, xN, xN])) 62 false := by rw [eg]; exact q21.put (by decide)
  clear eg
  refine x_aload_n dX9_init_94 rfl ?_
  refine x_iconst dX9_init_95 ?_
  refine x_put (fs' := [xR (51, 0, 0), xR (52, 0, 0), xR (53, 0, 0), xR (54, 0, 0), xR (55, 0, 0), xR (56, 0, 0), xR (57, 0, 0), xR (58, 0, 0), xR (59, 0, 0), xR (60, 0, 0), xR (61, 0, 0), xI 1, xI 0, xI 0, xN, xN, xN, xN, xN, xN, xN, xN, xN, xN, xI 0, xI 0, xN, xN, xN, xN, xN]) dX9_init_96 fl_RX9_45 (fun r hr => by cases hr; rfl) q22.ob xfit_i (Nat.le_of_ble_eq_true rfl) rfl ?_
  refine x_hg (fun g23 eg => ?_)
  have q23 : F9 g0 g23 (.inl (9, [xR (51, 0, 0), xR (52, 0, 0), xR (53, 0, 0), xR (54, 0, 0), xR (55, 0, 0), xR (56, 0, 0), xR (57, 0, 0), xR (58, 0, 0), xR (59, 0, 0), xR (60, 0, 0), xR (61, 0, 0), xI 1, xI 0, xI 0, xN, xN, xN, xN, xN, xN, xN, xN, xN, xN, xI 0, xI 0, xN, xN, xN, xN, xN])) 62 false := by rw [eg]; exact q22.put (by decide)
  clear eg
  refine x_aload_n dX9_init_99 rfl ?_
  refine x_bipush (v := 30) dX9_init_100 (by decide) ?_
  refine x_newarray (62, 0, 0) (t := 0) (n := 30) (N := 30) dX9_init_102 rfl wd124 (q23.fk (by decide) (by decide)) (by decide) rfl (by decide) (by decide) (by decide) ?_
  refine x_hg (fun g24 eg => ?_)
  have q24 : F9 g0 g24 (.inl (9, [xR (51, 0, 0), xR (52, 0, 0), xR (53, 0, 0), xR (54, 0, 0), xR (55, 0, 0), xR (56, 0, 0), xR (57, 0, 0), xR (58, 0, 0), xR (59, 0, 0), xR (60, 0, 0), xR (61, 0, 0), xI 1, xI 0, xI 0, xN, xN, xN, xN, xN, xN, xN, xN, xN, xN, xI 0, xI 0, xN, xN, xN, xN, xN])) 63 false := by rw [eg]; exact q23.alloc (hp62 (iS 0 (fun _ => 0))) (by decide) (by decide) rfl
  clear eg
  refine x_putF (fs' := [xR (51, 0, 0), xR (52, 0, 0), xR (53, 0, 0), xR (54, 0, 0), xR (55, 0, 0), xR (56, 0, 0), xR (57, 0, 0), xR (58, 0, 0), xR (59, 0, 0), xR (60, 0, 0), xR (61, 0, 0), xI 1, xI 0, xI 0, xR (62, 0, 0), xN, xN, xN, xN, xN, xN, xN, xN, xN, xI 0, xI 0, xN, xN, xN, xN, xN]) dX9_init_104 fl_RX9_49 (fun r hr => by cases hr; exact ⟨rfl, rfl⟩) q24.ob xfit_a (Nat.le_of_ble_eq_true rfl) rfl rfl ?_
  refine x_hg (fun g25 eg => ?_)
  have q25 : F9 g0 g25 (.inl (9, [xR (51, 0, 0), xR (52, 0, 0), xR (53, 0, 0), xR (54, 0, 0), xR (55, 0, 0), xR (56, 0, 0), xR (57, 0, 0), xR (58, 0, 0), xR (59, 0, 0), xR (60, 0, 0), xR (61, 0, 0), xI 1, xI 0, xI 0, xR (62, 0, 0), xN, xN, xN, xN, xN, xN, xN, xN, xN, xI 0, xI 0, xN, xN, xN, xN, xN])) 63 false := by rw [eg]; exact q24.put (by decide)
  clear eg
  refine x_aload_n dX9_init_107 rfl ?_
  refine x_bipush (v := 90) dX9_init_108 (by decide) ?_
  refine x_newarray (63, 0, 0) (t := 0) (n := 90) (N := 90) dX9_init_110 rfl wd124 (q25.fk (by decide) (by decide)) (by decide) rfl (by decide) (by decide) (by decide) ?_
  refine x_hg (fun g26 eg => ?_)
  have q26 : F9 g0 g26 (.inl (9, [xR (51, 0, 0), xR (52, 0, 0), xR (53, 0, 0), xR (54, 0, 0), xR (55, 0, 0), xR (56, 0, 0), xR (57, 0, 0), xR (58, 0, 0), xR (59, 0, 0), xR (60, 0, 0), xR (61, 0, 0), xI 1, xI 0, xI 0, xR (62, 0, 0), xN, xN, xN, xN, xN, xN, xN, xN, xN, xI 0, xI 0, xN, xN, xN, xN, xN])) 64 false := by rw [eg]; exact q25.alloc (hp63 (iS 0 (fun _ => 0))) (by decide) (by decide) rfl
  clear eg
  refine x_putF (fs' := [xR (51, 0, 0), xR (52, 0, 0), xR (53, 0, 0), xR (54, 0, 0), xR (55, 0, 0), xR (56, 0, 0), xR (57, 0, 0), xR (58, 0, 0), xR (59, 0, 0), xR (60, 0, 0), xR (61, 0, 0), xI 1, xI 0, xI 0, xR (62, 0, 0), xR (63, 0, 0), xN, xN, xN, xN, xN, xN, xN, xN, xI 0, xI 0, xN, xN, xN, xN, xN]) dX9_init_112 fl_RX9_52 (fun r hr => by cases hr; exact ⟨rfl, rfl⟩) q26.ob xfit_a (Nat.le_of_ble_eq_true rfl) rfl rfl ?_
  refine x_hg (fun g27 eg => ?_)
  have q27 : F9 g0 g27 (.inl (9, [xR (51, 0, 0), xR (52, 0, 0), xR (53, 0, 0), xR (54, 0, 0), xR (55, 0, 0), xR (56, 0, 0), xR (57, 0, 0), xR (58, 0, 0), xR (59, 0, 0), xR (60, 0, 0), xR (61, 0, 0), xI 1, xI 0, xI 0, xR (62, 0, 0), xR (63, 0, 0), xN, xN, xN, xN, xN, xN, xN, xN, xI 0, xI 0, xN, xN, xN, xN, xN])) 64 false := by rw [eg]; exact q26.put (by decide)
  clear eg
  refine x_aload_n dX9_init_115 rfl ?_
  refine x_bipush (v := 10) dX9_init_116 (by decide) ?_
  refine x_newarray (64, 0, 0) (t := 0) (n := 10) (N := 10) dX9_init_118 rfl wd124 (q27.fk (by decide) (by decide)) (by decide) rfl (by decide) (by decide) (by decide) ?_
  refine x_hg (fun g28 eg => ?_)
  have q28 : F9 g0 g28 (.inl (9, [xR (51, 0, 0), xR (52, 0, 0), xR (53, 0, 0), xR (54, 0, 0), xR (55, 0, 0), xR (56, 0, 0), xR (57, 0, 0), xR (58, 0, 0), xR (59, 0, 0), xR (60, 0, 0), xR (61, 0, 0), xI 1, xI 0, xI 0, xR (62, 0, 0), xR (63, 0, 0), xN, xN, xN, xN, xN, xN, xN, xN, xI 0, xI 0, xN, xN, xN, xN, xN])) 65 false := by rw [eg]; exact q27.alloc (hp64 (iS 0 (fun _ => 0))) (by decide) (by decide) rfl
  clear eg
  refine x_putF (fs' := [xR (51, 0, 0), xR (52, 0, 0), xR (53, 0, 0), xR (54, 0, 0), xR (55, 0, 0), xR (56, 0, 0), xR (57, 0, 0), xR (58, 0, 0), xR (59, 0, 0), xR (60, 0, 0), xR (61, 0, 0), xI 1, xI 0, xI 0, xR (62, 0, 0), xR (63, 0, 0), xR (64, 0, 0), xN, xN, xN, xN, xN, xN, xN, xI 0, xI 0, xN, xN, xN, xN, xN]) dX9_init_120 fl_RX9_55 (fun r hr => by cases hr; exact ⟨rfl, rfl⟩) q28.ob xfit_a (Nat.le_of_ble_eq_true rfl) rfl rfl ?_
  refine x_hg (fun g29 eg => ?_)
  have q29 : F9 g0 g29 (.inl (9, [xR (51, 0, 0), xR (52, 0, 0), xR (53, 0, 0), xR (54, 0, 0), xR (55, 0, 0), xR (56, 0, 0), xR (57, 0, 0), xR (58, 0, 0), xR (59, 0, 0), xR (60, 0, 0), xR (61, 0, 0), xI 1, xI 0, xI 0, xR (62, 0, 0), xR (63, 0, 0), xR (64, 0, 0), xN, xN, xN, xN, xN, xN, xN, xI 0, xI 0, xN, xN, xN, xN, xN])) 65 false := by rw [eg]; exact q28.put (by decide)
  clear eg
  refine x_aload_n dX9_init_123 rfl ?_
  refine x_bipush (v := 30) dX9_init_124 (by decide) ?_
  refine x_newarray (65, 0, 0) (t := 2) (n := 30) (N := 30) dX9_init_126 rfl wd123 (q29.fk (by decide) (by decide)) (by decide) rfl (by decide) (by decide) (by decide) ?_
  refine x_hg (fun g30 eg => ?_)
  have q30 : F9 g0 g30 (.inl (9, [xR (51, 0, 0), xR (52, 0, 0), xR (53, 0, 0), xR (54, 0, 0), xR (55, 0, 0), xR (56, 0, 0), xR (57, 0, 0), xR (58, 0, 0), xR (59, 0, 0), xR (60, 0, 0), xR (61, 0, 0), xI 1, xI 0, xI 0, xR (62, 0, 0), xR (63, 0, 0), xR (64, 0, 0), xN, xN, xN, xN, xN, xN, xN, xI 0, xI 0, xN, xN, xN, xN, xN])) 66 false := by rw [eg]; exact q29.alloc (hp65 (iS 0 (fun _ => 0))) (by decide) (by decide) rfl
  clear eg
  refine x_putF (fs' := [xR (51, 0, 0), xR (52, 0, 0), xR (53, 0, 0), xR (54, 0, 0), xR (55, 0, 0), xR (56, 0, 0), xR (57, 0, 0), xR (58, 0, 0), xR (59, 0, 0), xR (60, 0, 0), xR (61, 0, 0), xI 1, xI 0, xI 0, xR (62, 0, 0), xR (63, 0, 0), xR (64, 0, 0), xR (65, 0, 0), xN, xN, xN, xN, xN, xN, xI 0, xI 0, xN, xN, xN, xN, xN]) dX9_init_128 fl_RX9_58 (fun r hr => by cases hr; exact ⟨rfl, rfl⟩) q30.ob xfit_a (Nat.le_of_ble_eq_true rfl) rfl rfl ?_
  refine x_hg (fun g31 eg => ?_)
  have q31 : F9 g0 g31 (.inl (9, [xR (51, 0, 0), xR (52, 0, 0), xR (53, 0, 0), xR (54, 0, 0), xR (55, 0, 0), xR (56, 0, 0), xR (57, 0, 0), xR (58, 0, 0), xR (59, 0, 0), xR (60, 0, 0), xR (61, 0, 0), xI 1, xI 0, xI 0, xR (62, 0, 0), xR (63, 0, 0), xR (64, 0, 0), xR (65, 0, 0), xN, xN, xN, xN, xN, xN, xI 0, xI 0, xN, xN, xN, xN, xN])) 66 false := by rw [eg]; exact q30.put (by decide)
  clear eg
  refine x_aload_n dX9_init_131 rfl ?_
  refine x_bipush (v := 10) dX9_init_132 (by decide) ?_
  refine x_newarray (66, 0, 0) (t := 2) (n := 10) (N := 10) dX9_init_134 rfl wd123 (q31.fk (by decide) (by decide)) (by decide) rfl (by decide) (by decide) (by decide) ?_
  refine x_hg (fun g32 eg => ?_)
  have q32 : F9 g0 g32 (.inl (9, [xR (51, 0, 0), xR (52, 0, 0), xR (53, 0, 0), xR (54, 0, 0), xR (55, 0, 0), xR (56, 0, 0), xR (57, 0, 0), xR (58, 0, 0), xR (59, 0, 0), xR (60, 0, 0), xR (61, 0, 0), xI 1, xI 0, xI 0, xR (62, 0, 0), xR (63, 0, 0), xR (64, 0, 0), xR (65, 0, 0), xN, xN, xN, xN, xN, xN, xI 0, xI 0, xN, xN, xN, xN, xN])) 67 false := by rw [eg]; exact q31.alloc (hp66 (iS 0 (fun _ => 0))) (by decide) (by decide) rfl
  clear eg
  refine x_putF (fs' := [xR (51, 0, 0), xR (52, 0, 0), xR (53, 0, 0), xR (54, 0, 0), xR (55, 0, 0), xR (56, 0, 0), xR (57, 0, 0), xR (58, 0, 0), xR (59, 0, 0), xR (60, 0, 0), xR (61, 0, 0), xI 1, xI 0, xI 0, xR (62, 0, 0), xR (63, 0, 0), xR (64, 0, 0), xR (65, 0, 0), xR (66, 0, 0), xN, xN, xN, xN, xN, xI 0, xI 0, xN, xN, xN, xN, xN]) dX9_init_136 fl_RX9_61 (fun r hr => by cases hr; exact ⟨rfl, rfl⟩) q32.ob xfit_a (Nat.le_of_ble_eq_true rfl) rfl rfl ?_
  refine x_hg (fun g33 eg => ?_)
  have q33 : F9 g0 g33 (.inl (9, [xR (51, 0, 0), xR (52, 0, 0), xR (53, 0, 0), xR (54, 0, 0), xR (55, 0, 0), xR (56, 0, 0), xR (57, 0, 0), xR (58, 0, 0), xR (59, 0, 0), xR (60, 0, 0), xR (61, 0, 0), xI 1, xI 0, xI 0, xR (62, 0, 0), xR (63, 0, 0), xR (64, 0, 0), xR (65, 0, 0), xR (66, 0, 0), xN, xN, xN, xN, xN, xI 0, xI 0, xN, xN, xN, xN, xN])) 67 false := by rw [eg]; exact q32.put (by decide)
  clear eg
  refine x_aload_n dX9_init_139 rfl ?_
  refine x_bipush (v := 25) dX9_init_140 (by decide) ?_
  refine x_newarray (67, 0, 0) (t := 0) (n := 25) (N := 25) dX9_init_142 rfl wd124 (q33.fk (by decide) (by decide)) (by decide) rfl (by decide) (by decide) (by decide) ?_
  refine x_hg (fun g34 eg => ?_)
  have q34 : F9 g0 g34 (.inl (9, [xR (51, 0, 0), xR (52, 0, 0), xR (53, 0, 0), xR (54, 0, 0), xR (55, 0, 0), xR (56, 0, 0), xR (57, 0, 0), xR (58, 0, 0), xR (59, 0, 0), xR (60, 0, 0), xR (61, 0, 0), xI 1, xI 0, xI 0, xR (62, 0, 0), xR (63, 0, 0), xR (64, 0, 0), xR (65, 0, 0), xR (66, 0, 0), xN, xN, xN, xN, xN, xI 0, xI 0, xN, xN, xN, xN, xN])) 68 false := by rw [eg]; exact q33.alloc (hp67 (iS 0 (fun _ => 0))) (by decide) (by decide) rfl
  clear eg
  refine x_putF (fs' := [xR (51, 0, 0), xR (52, 0, 0), xR (53, 0, 0), xR (54, 0, 0), xR (55, 0, 0), xR (56, 0, 0), xR (57, 0, 0), xR (58, 0, 0), xR (59, 0, 0), xR (60, 0, 0), xR (61, 0, 0), xI 1, xI 0, xI 0, xR (62, 0, 0), xR (63, 0, 0), xR (64, 0, 0), xR (65, 0, 0), xR (66, 0, 0), xR (67, 0, 0), xN, xN, xN, xN, xI 0, xI 0, xN, xN, xN, xN, xN]) dX9_init_144 fl_RX9_64 (fun r hr => by cases hr; exact ⟨rfl, rfl⟩) q34.ob xfit_a (Nat.le_of_ble_eq_true rfl) rfl rfl ?_
  refine x_hg (fun g35 eg => ?_)
  have q35 : F9 g0 g35 (.inl (9, [xR (51, 0, 0), xR (52, 0, 0), xR (53, 0, 0), xR (54, 0, 0), xR (55, 0, 0), xR (56, 0, 0), xR (57, 0, 0), xR (58, 0, 0), xR (59, 0, 0), xR (60, 0, 0), xR (61, 0, 0), xI 1, xI 0, xI 0, xR (62, 0, 0), xR (63, 0, 0), xR (64, 0, 0), xR (65, 0, 0), xR (66, 0, 0), xR (67, 0, 0), xN, xN, xN, xN, xI 0, xI 0, xN, xN, xN, xN, xN])) 68 false := by rw [eg]; exact q34.put (by decide)
  clear eg
  refine x_aload_n dX9_init_147 rfl ?_
  refine x_iconst dX9_init_148 ?_
  refine x_newarray (68, 0, 0) (t := 0) (n := 5) (N := 5) dX9_init_149 rfl wd124 (q35.fk (by decide) (by decide)) (by decide) rfl (by decide) (by decide) (by decide) ?_
  refine x_hg (fun g36 eg => ?_)
  have q36 : F9 g0 g36 (.inl (9, [xR (51, 0, 0), xR (52, 0, 0), xR (53, 0, 0), xR (54, 0, 0), xR (55, 0, 0), xR (56, 0, 0), xR (57, 0, 0), xR (58, 0, 0), xR (59, 0, 0), xR (60, 0, 0), xR (61, 0, 0), xI 1, xI 0, xI 0, xR (62, 0, 0), xR (63, 0, 0), xR (64, 0, 0), xR (65, 0, 0), xR (66, 0, 0), xR (67, 0, 0), xN, xN, xN, xN, xI 0, xI 0, xN, xN, xN, xN, xN])) 69 false := by rw [eg]; exact q35.alloc (hp68 (iS 0 (fun _ => 0))) (by decide) (by decide) rfl
  clear eg
  refine x_putF (fs' := [xR (51, 0, 0), xR (52, 0, 0), xR (53, 0, 0), xR (54, 0, 0), xR (55, 0, 0), xR (56, 0, 0), xR (57, 0, 0), xR (58, 0, 0), xR (59, 0, 0), xR (60, 0, 0), xR (61, 0, 0), xI 1, xI 0, xI 0, xR (62, 0, 0), xR (63, 0, 0), xR (64, 0, 0), xR (65, 0, 0), xR (66, 0, 0), xR (67, 0, 0), xR (68, 0, 0), xN, xN, xN, xI 0, xI 0, xN, xN, xN, xN, xN]) dX9_init_151 fl_RX9_67 (fun r hr => by cases hr; exact ⟨rfl, rfl⟩) q36.ob xfit_a (Nat.le_of_ble_eq_true rfl) rfl rfl ?_
  refine x_hg (fun g37 eg => ?_)
  have q37 : F9 g0 g37 (.inl (9, [xR (51, 0, 0), xR (52, 0, 0), xR (53, 0, 0), xR (54, 0, 0), xR (55, 0, 0), xR (56, 0, 0), xR (57, 0, 0), xR (58, 0, 0), xR (59, 0, 0), xR (60, 0, 0), xR (61, 0, 0), xI 1, xI 0, xI 0, xR (62, 0, 0), xR (63, 0, 0), xR (64, 0, 0), xR (65, 0, 0), xR (66, 0, 0), xR (67, 0, 0), xR (68, 0, 0), xN, xN, xN, xI 0, xI 0, xN, xN, xN, xN, xN])) 69 false := by rw [eg]; exact q36.put (by decide)
  clear eg
  refine x_aload_n dX9_init_154 rfl ?_
  refine x_iconst dX9_init_155 ?_
  refine x_newarray (69, 0, 0) (t := 0) (n := 5) (N := 5) dX9_init_156 rfl wd124 (q37.fk (by decide) (by decide)) (by decide) rfl (by decide) (by decide) (by decide) ?_
  refine x_hg (fun g38 eg => ?_)
  have q38 : F9 g0 g38 (.inl (9, [xR (51, 0, 0), xR (52, 0, 0), xR (53, 0, 0), xR (54, 0, 0), xR (55, 0, 0), xR (56, 0, 0), xR (57, 0, 0), xR (58, 0, 0), xR (59, 0, 0), xR (60, 0, 0), xR (61, 0, 0), xI 1, xI 0, xI 0, xR (62, 0, 0), xR (63, 0, 0), xR (64, 0, 0), xR (65, 0, 0), xR (66, 0, 0), xR (67, 0, 0), xR (68, 0, 0), xN, xN, xN, xI 0, xI 0, xN, xN, xN, xN, xN])) 70 false := by rw [eg]; exact q37.alloc (hp69 (iS 0 (fun _ => 0))) (by decide) (by decide) rfl
  clear eg
  refine x_putF (fs' := [xR (51, 0, 0), xR (52, 0, 0), xR (53, 0, 0), xR (54, 0, 0), xR (55, 0, 0), xR (56, 0, 0), xR (57, 0, 0), xR (58, 0, 0), xR (59, 0, 0), xR (60, 0, 0), xR (61, 0, 0), xI 1, xI 0, xI 0, xR (62, 0, 0), xR (63, 0, 0), xR (64, 0, 0), xR (65, 0, 0), xR (66, 0, 0), xR (67, 0, 0), xR (68, 0, 0), xR (69, 0, 0), xN, xN, xI 0, xI 0, xN, xN, xN, xN, xN]) dX9_init_158 fl_RX9_70 (fun r hr => by cases hr; exact ⟨rfl, rfl⟩) q38.ob xfit_a (Nat.le_of_ble_eq_true rfl) rfl rfl ?_
  refine x_hg (fun g39 eg => ?_)
  have q39 : F9 g0 g39 (.inl (9, [xR (51, 0, 0), xR (52, 0, 0), xR (53, 0, 0), xR (54, 0, 0), xR (55, 0, 0), xR (56, 0, 0), xR (57, 0, 0), xR (58, 0, 0), xR (59, 0, 0), xR (60, 0, 0), xR (61, 0, 0), xI 1, xI 0, xI 0, xR (62, 0, 0), xR (63, 0, 0), xR (64, 0, 0), xR (65, 0, 0), xR (66, 0, 0), xR (67, 0, 0), xR (68, 0, 0), xR (69, 0, 0), xN, xN, xI 0, xI 0, xN, xN, xN, xN, xN])) 70 false := by rw [eg]; exact q38.put (by decide)
  clear eg
  refine x_aload_n dX9_init_161 rfl ?_
  refine x_iconst dX9_init_162 ?_
  refine x_bipush (v := 64) dX9_init_163 (by decide) ?_
  refine x_mna dX9_init_165 wdm wd124 (q39.r0 rfl).1 (q39.r0 rfl).2 (by decide) (by decide) (fun g40 w80 w81 wo => ?_)
  have q40 : F9 g0 g40 (.inl (9, [xR (51, 0, 0), xR (52, 0, 0), xR (53, 0, 0), xR (54, 0, 0), xR (55, 0, 0), xR (56, 0, 0), xR (57, 0, 0), xR (58, 0, 0), xR (59, 0, 0), xR (60, 0, 0), xR (61, 0, 0), xI 1, xI 0, xI 0, xR (62, 0, 0), xR (63, 0, 0), xR (64, 0, 0), xR (65, 0, 0), xR (66, 0, 0), xR (67, 0, 0), xR (68, 0, 0), xR (69, 0, 0), xN, xN, xI 0, xI 0, xN, xN, xN, xN, xN])) 70 true := q39.rows w80 w81 wo
  clear w80 w81 wo
  refine x_putF (fs' := [xR (51, 0, 0), xR (52, 0, 0), xR (53, 0, 0), xR (54, 0, 0), xR (55, 0, 0), xR (56, 0, 0), xR (57, 0, 0), xR (58, 0, 0), xR (59, 0, 0), xR (60, 0, 0), xR (61, 0, 0), xI 1, xI 0, xI 0, xR (62, 0, 0), xR (63, 0, 0), xR (64, 0, 0), xR (65, 0, 0), xR (66, 0, 0), xR (67, 0, 0), xR (68, 0, 0), xR (69, 0, 0), xR (80, 0, 0), xN, xI 0, xI 0, xN, xN, xN, xN, xN]) dX9_init_169 fl_RX9_75 (fun r hr => by cases hr; exact ⟨rfl, rfl⟩) q40.ob xfit_a (Nat.le_of_ble_eq_true rfl) rfl rfl ?_
  refine x_hg (fun g41 eg => ?_)
  have q41 : F9 g0 g41 (.inl (9, [xR (51, 0, 0), xR (52, 0, 0), xR (53, 0, 0), xR (54, 0, 0), xR (55, 0, 0), xR (56, 0, 0), xR (57, 0, 0), xR (58, 0, 0), xR (59, 0, 0), xR (60, 0, 0), xR (61, 0, 0), xI 1, xI 0, xI 0, xR (62, 0, 0), xR (63, 0, 0), xR (64, 0, 0), xR (65, 0, 0), xR (66, 0, 0), xR (67, 0, 0), xR (68, 0, 0), xR (69, 0, 0), xR (80, 0, 0), xN, xI 0, xI 0, xN, xN, xN, xN, xN])) 70 true := by rw [eg]; exact q40.put (by decide)
  clear eg
  refine x_aload_n dX9_init_172 rfl ?_
  refine x_sipush (v := 320) dX9_init_173 (by decide) ?_
  refine x_newarray (70, 0, 0) (t := 2) (n := 320) (N := 320) dX9_init_176 rfl wd123 (q41.fk (by decide) (by decide)) (by decide) rfl (by decide) (by decide) (by decide) ?_
  refine x_hg (fun g42 eg => ?_)
  have q42 : F9 g0 g42 (.inl (9, [xR (51, 0, 0), xR (52, 0, 0), xR (53, 0, 0), xR (54, 0, 0), xR (55, 0, 0), xR (56, 0, 0), xR (57, 0, 0), xR (58, 0, 0), xR (59, 0, 0), xR (60, 0, 0), xR (61, 0, 0), xI 1, xI 0, xI 0, xR (62, 0, 0), xR (63, 0, 0), xR (64, 0, 0), xR (65, 0, 0), xR (66, 0, 0), xR (67, 0, 0), xR (68, 0, 0), xR (69, 0, 0), xR (80, 0, 0), xN, xI 0, xI 0, xN, xN, xN, xN, xN])) 71 true := by rw [eg]; exact q41.alloc (hp70 (iS 0 (fun _ => 0))) (by decide) (by decide) rfl
  clear eg
  refine x_putF (fs' := [xR (51, 0, 0), xR (52, 0, 0), xR (53, 0, 0), xR (54, 0, 0), xR (55, 0, 0), xR (56, 0, 0), xR (57, 0, 0), xR (58, 0, 0), xR (59, 0, 0), xR (60, 0, 0), xR (61, 0, 0), xI 1, xI 0, xI 0, xR (62, 0, 0), xR (63, 0, 0), xR (64, 0, 0), xR (65, 0, 0), xR (66, 0, 0), xR (67, 0, 0), xR (68, 0, 0), xR (69, 0, 0), xR (80, 0, 0), xR (70, 0, 0), xI 0, xI 0, xN, xN, xN, xN, xN]) dX9_init_178 fl_RX9_78 (fun r hr => by cases hr; exact ⟨rfl, rfl⟩) q42.ob xfit_a (Nat.le_of_ble_eq_true rfl) rfl rfl ?_
  refine x_hg (fun g43 eg => ?_)
  have q43 : F9 g0 g43 (.inl (9, [xR (51, 0, 0), xR (52, 0, 0), xR (53, 0, 0), xR (54, 0, 0), xR (55, 0, 0), xR (56, 0, 0), xR (57, 0, 0), xR (58, 0, 0), xR (59, 0, 0), xR (60, 0, 0), xR (61, 0, 0), xI 1, xI 0, xI 0, xR (62, 0, 0), xR (63, 0, 0), xR (64, 0, 0), xR (65, 0, 0), xR (66, 0, 0), xR (67, 0, 0), xR (68, 0, 0), xR (69, 0, 0), xR (80, 0, 0), xR (70, 0, 0), xI 0, xI 0, xN, xN, xN, xN, xN])) 71 true := by rw [eg]; exact q42.put (by decide)
  clear eg
  refine x_aload_n dX9_init_181 rfl ?_
  refine x_bipush (v := 10) dX9_init_182 (by decide) ?_
  refine x_newarray (71, 0, 0) (t := 2) (n := 10) (N := 10) dX9_init_184 rfl wd123 (q43.fk (by decide) (by decide)) (by decide) rfl (by decide) (by decide) (by decide) ?_
  refine x_hg (fun g44 eg => ?_)
  have q44 : F9 g0 g44 (.inl (9, [xR (51, 0, 0), xR (52, 0, 0), xR (53, 0, 0), xR (54, 0, 0), xR (55, 0, 0), xR (56, 0, 0), xR (57, 0, 0), xR (58, 0, 0), xR (59, 0, 0), xR (60, 0, 0), xR (61, 0, 0), xI 1, xI 0, xI 0, xR (62, 0, 0), xR (63, 0, 0), xR (64, 0, 0), xR (65, 0, 0), xR (66, 0, 0), xR (67, 0, 0), xR (68, 0, 0), xR (69, 0, 0), xR (80, 0, 0), xR (70, 0, 0), xI 0, xI 0, xN, xN, xN, xN, xN])) 72 true := by rw [eg]; exact q43.alloc (hp71 (iS 0 (fun _ => 0))) (by decide) (by decide) rfl
  clear eg
  refine x_putF (fs' := [xR (51, 0, 0), xR (52, 0, 0), xR (53, 0, 0), xR (54, 0, 0), xR (55, 0, 0), xR (56, 0, 0), xR (57, 0, 0), xR (58, 0, 0), xR (59, 0, 0), xR (60, 0, 0), xR (61, 0, 0), xI 1, xI 0, xI 0, xR (62, 0, 0), xR (63, 0, 0), xR (64, 0, 0), xR (65, 0, 0), xR (66, 0, 0), xR (67, 0, 0), xR (68, 0, 0), xR (69, 0, 0), xR (80, 0, 0), xR (70, 0, 0), xI 0, xI 0, xR (71, 0, 0), xN, xN, xN, xN]) dX9_init_186 fl_RX9_81 (fun r hr => by cases hr; exact ⟨rfl, rfl⟩) q44.ob xfit_a (Nat.le_of_ble_eq_true rfl) rfl rfl ?_
  refine x_hg (fun g45 eg => ?_)
  have q45 : F9 g0 g45 (.inl (9, [xR (51, 0, 0), xR (52, 0, 0), xR (53, 0, 0), xR (54, 0, 0), xR (55, 0, 0), xR (56, 0, 0), xR (57, 0, 0), xR (58, 0, 0), xR (59, 0, 0), xR (60, 0, 0), xR (61, 0, 0), xI 1, xI 0, xI 0, xR (62, 0, 0), xR (63, 0, 0), xR (64, 0, 0), xR (65, 0, 0), xR (66, 0, 0), xR (67, 0, 0), xR (68, 0, 0), xR (69, 0, 0), xR (80, 0, 0), xR (70, 0, 0), xI 0, xI 0, xR (71, 0, 0), xN, xN, xN, xN])) 72 true := by rw [eg]; exact q44.put (by decide)
  clear eg
  refine x_aload_n dX9_init_189 rfl ?_
  refine x_bipush (v := 6) dX9_init_190 (by decide) ?_
  refine x_newarray (72, 0, 0) (t := 0) (n := 6) (N := 6) dX9_init_192 rfl wd124 (q45.fk (by decide) (by decide)) (by decide) rfl (by decide) (by decide) (by decide) ?_
  refine x_hg (fun g46 eg => ?_)
  have q46 : F9 g0 g46 (.inl (9, [xR (51, 0, 0), xR (52, 0, 0), xR (53, 0, 0), xR (54, 0, 0), xR (55, 0, 0), xR (56, 0, 0), xR (57, 0, 0), xR (58, 0, 0), xR (59, 0, 0), xR (60, 0, 0), xR (61, 0, 0), xI 1, xI 0, xI 0, xR (62, 0, 0), xR (63, 0, 0), xR (64, 0, 0), xR (65, 0, 0), xR (66, 0, 0), xR (67, 0, 0), xR (68, 0, 0), xR (69, 0, 0), xR (80, 0, 0), xR (70, 0, 0), xI 0, xI 0, xR (71, 0, 0), xN, xN, xN, xN])) 73 true := by rw [eg]; exact q45.alloc (hp72 (iS 0 (fun _ => 0))) (by decide) (by decide) rfl
  clear eg
  refine x_putF (fs' := [xR (51, 0, 0), xR (52, 0, 0), xR (53, 0, 0), xR (54, 0, 0), xR (55, 0, 0), xR (56, 0, 0), xR (57, 0, 0), xR (58, 0, 0), xR (59, 0, 0), xR (60, 0, 0), xR (61, 0, 0), xI 1, xI 0, xI 0, xR (62, 0, 0), xR (63, 0, 0), xR (64, 0, 0), xR (65, 0, 0), xR (66, 0, 0), xR (67, 0, 0), xR (68, 0, 0), xR (69, 0, 0), xR (80, 0, 0), xR (70, 0, 0), xI 0, xI 0, xR (71, 0, 0), xR (72, 0, 0), xN, xN, xN]) dX9_init_194 fl_RX9_84 (fun r hr => by cases hr; exact ⟨rfl, rfl⟩) q46.ob xfit_a (Nat.le_of_ble_eq_true rfl) rfl rfl ?_
  refine x_hg (fun g47 eg => ?_)
  have q47 : F9 g0 g47 (.inl (9, [xR (51, 0, 0), xR (52, 0, 0), xR (53, 0, 0), xR (54, 0, 0), xR (55, 0, 0), xR (56, 0, 0), xR (57, 0, 0), xR (58, 0, 0), xR (59, 0, 0), xR (60, 0, 0), xR (61, 0, 0), xI 1, xI 0, xI 0, xR (62, 0, 0), xR (63, 0, 0), xR (64, 0, 0), xR (65, 0, 0), xR (66, 0, 0), xR (67, 0, 0), xR (68, 0, 0), xR (69, 0, 0), xR (80, 0, 0), xR (70, 0, 0), xI 0, xI 0, xR (71, 0, 0), xR (72, 0, 0), xN, xN, xN])) 73 true := by rw [eg]; exact q46.put (by decide)
  clear eg
  refine x_aload_n dX9_init_197 rfl ?_
  refine x_sipush (v := 384) dX9_init_198 (by decide) ?_
  refine x_newarray (73, 0, 0) (t := 0) (n := 384) (N := 384) dX9_init_201 rfl wd124 (q47.fk (by decide) (by decide)) (by decide) rfl (by decide) (by decide) (by decide) ?_
  refine x_hg (fun g48 eg => ?_)
  have q48 : F9 g0 g48 (.inl (9, [xR (51, 0, 0), xR (52, 0, 0), xR (53, 0, 0), xR (54, 0, 0), xR (55, 0, 0), xR (56, 0, 0), xR (57, 0, 0), xR (58, 0, 0), xR (59, 0, 0), xR (60, 0, 0), xR (61, 0, 0), xI 1, xI 0, xI 0, xR (62, 0, 0), xR (63, 0, 0), xR (64, 0, 0), xR (65, 0, 0), xR (66, 0, 0), xR (67, 0, 0), xR (68, 0, 0), xR (69, 0, 0), xR (80, 0, 0), xR (70, 0, 0), xI 0, xI 0, xR (71, 0, 0), xR (72, 0, 0), xN, xN, xN])) 74 true := by rw [eg]; exact q47.alloc (hp73 (iS 0 (fun _ => 0))) (by decide) (by decide) rfl
  clear eg
  refine x_putF (fs' := [xR (51, 0, 0), xR (52, 0, 0), xR (53, 0, 0), xR (54, 0, 0), xR (55, 0, 0), xR (56, 0, 0), xR (57, 0, 0), xR (58, 0, 0), xR (59, 0, 0), xR (60, 0, 0), xR (61, 0, 0), xI 1, xI 0, xI 0, xR (62, 0, 0), xR (63, 0, 0), xR (64, 0, 0), xR (65, 0, 0), xR (66, 0, 0), xR (67, 0, 0), xR (68, 0, 0), xR (69, 0, 0), xR (80, 0, 0), xR (70, 0, 0), xI 0, xI 0, xR (71, 0, 0), xR (72, 0, 0), xR (73, 0, 0), xN, xN]) dX9_init_203 fl_RX9_87 (fun r hr => by cases hr; exact ⟨rfl, rfl⟩) q48.ob xfit_a (Nat.le_of_ble_eq_true rfl) rfl rfl ?_
  refine x_hg (fun g49 eg => ?_)
  have q49 : F9 g0 g49 (.inl (9, [xR (51, 0, 0), xR (52, 0, 0), xR (53, 0, 0), xR (54, 0, 0), xR (55, 0, 0), xR (56, 0, 0), xR (57, 0, 0), xR (58, 0, 0), xR (59, 0, 0), xR (60, 0, 0), xR (61, 0, 0), xI 1, xI 0, xI 0, xR (62, 0, 0), xR (63, 0, 0), xR (64, 0, 0), xR (65, 0, 0), xR (66, 0, 0), xR (67, 0, 0), xR (68, 0, 0), xR (69, 0, 0), xR (80, 0, 0), xR (70, 0, 0), xI 0, xI 0, xR (71, 0, 0), xR (72, 0, 0), xR (73, 0, 0), xN, xN])) 74 true := by rw [eg]; exact q48.put (by decide)
  clear eg
  refine x_aload_n dX9_init_206 rfl ?_
  refine x_iconst dX9_init_207 ?_
  refine x_newarray (74, 0, 0) (t := 0) (n := 3) (N := 3) dX9_init_208 rfl wd124 (q49.fk (by decide) (by decide)) (by decide) rfl (by decide) (by decide) (by decide) ?_
  refine x_hg (fun g50 eg => ?_)
  have q50 : F9 g0 g50 (.inl (9, [xR (51, 0, 0), xR (52, 0, 0), xR (53, 0, 0), xR (54, 0, 0), xR (55, 0, 0), xR (56, 0, 0), xR (57, 0, 0), xR (58, 0, 0), xR (59, 0, 0), xR (60, 0, 0), xR (61, 0, 0), xI 1, xI 0, xI 0, xR (62, 0, 0), xR (63, 0, 0), xR (64, 0, 0), xR (65, 0, 0), xR (66, 0, 0), xR (67, 0, 0), xR (68, 0, 0), xR (69, 0, 0), xR (80, 0, 0), xR (70, 0, 0), xI 0, xI 0, xR (71, 0, 0), xR (72, 0, 0), xR (73, 0, 0), xN, xN])) 75 true := by rw [eg]; exact q49.alloc (hp74 (iS 0 (fun _ => 0))) (by decide) (by decide) rfl
  clear eg
  refine x_putF (fs' := [xR (51, 0, 0), xR (52, 0, 0), xR (53, 0, 0), xR (54, 0, 0), xR (55, 0, 0), xR (56, 0, 0), xR (57, 0, 0), xR (58, 0, 0), xR (59, 0, 0), xR (60, 0, 0), xR (61, 0, 0), xI 1, xI 0, xI 0, xR (62, 0, 0), xR (63, 0, 0), xR (64, 0, 0), xR (65, 0, 0), xR (66, 0, 0), xR (67, 0, 0), xR (68, 0, 0), xR (69, 0, 0), xR (80, 0, 0), xR (70, 0, 0), xI 0, xI 0, xR (71, 0, 0), xR (72, 0, 0), xR (73, 0, 0), xR (74, 0, 0), xN]) dX9_init_210 fl_RX9_90 (fun r hr => by cases hr; exact ⟨rfl, rfl⟩) q50.ob xfit_a (Nat.le_of_ble_eq_true rfl) rfl rfl ?_
  refine x_hg (fun g51 eg => ?_)
  have q51 : F9 g0 g51 (.inl (9, [xR (51, 0, 0), xR (52, 0, 0), xR (53, 0, 0), xR (54, 0, 0), xR (55, 0, 0), xR (56, 0, 0), xR (57, 0, 0), xR (58, 0, 0), xR (59, 0, 0), xR (60, 0, 0), xR (61, 0, 0), xI 1, xI 0, xI 0, xR (62, 0, 0), xR (63, 0, 0), xR (64, 0, 0), xR (65, 0, 0), xR (66, 0, 0), xR (67, 0, 0), xR (68, 0, 0), xR (69, 0, 0), xR (80, 0, 0), xR (70, 0, 0), xI 0, xI 0, xR (71, 0, 0), xR (72, 0, 0), xR (73, 0, 0), xR (74, 0, 0), xN])) 75 true := by rw [eg]; exact q50.put (by decide)
  clear eg
  refine x_aload_n dX9_init_213 rfl ?_
  refine x_sipush (v := 384) dX9_init_214 (by decide) ?_
  refine x_newarray (75, 0, 0) (t := 2) (n := 384) (N := 384) dX9_init_217 rfl wd123 (q51.fk (by decide) (by decide)) (by decide) rfl (by decide) (by decide) (by decide) ?_
  refine x_hg (fun g52 eg => ?_)
  have q52 : F9 g0 g52 (.inl (9, [xR (51, 0, 0), xR (52, 0, 0), xR (53, 0, 0), xR (54, 0, 0), xR (55, 0, 0), xR (56, 0, 0), xR (57, 0, 0), xR (58, 0, 0), xR (59, 0, 0), xR (60, 0, 0), xR (61, 0, 0), xI 1, xI 0, xI 0, xR (62, 0, 0), xR (63, 0, 0), xR (64, 0, 0), xR (65, 0, 0), xR (66, 0, 0), xR (67, 0, 0), xR (68, 0, 0), xR (69, 0, 0), xR (80, 0, 0), xR (70, 0, 0), xI 0, xI 0, xR (71, 0, 0), xR (72, 0, 0), xR (73, 0, 0), xR (74, 0, 0), xN])) 76 true := by rw [eg]; exact q51.alloc (hp75 (iS 0 (fun _ => 0))) (by decide) (by decide) rfl
  clear eg
  refine x_putF (fs' := [xR (51, 0, 0), xR (52, 0, 0), xR (53, 0, 0), xR (54, 0, 0), xR (55, 0, 0), xR (56, 0, 0), xR (57, 0, 0), xR (58, 0, 0), xR (59, 0, 0), xR (60, 0, 0), xR (61, 0, 0), xI 1, xI 0, xI 0, xR (62, 0, 0), xR (63, 0, 0), xR (64, 0, 0), xR (65, 0, 0), xR (66, 0, 0), xR (67, 0, 0), xR (68, 0, 0), xR (69, 0, 0), xR (80, 0, 0), xR (70, 0, 0), xI 0, xI 0, xR (71, 0, 0), xR (72, 0, 0), xR (73, 0, 0), xR (74, 0, 0), xR (75, 0, 0)]) dX9_init_219 fl_RX9_93 (fun r hr => by cases hr; exact ⟨rfl, rfl⟩) q52.ob xfit_a (Nat.le_of_ble_eq_true rfl) rfl rfl ?_
  refine x_hg (fun g53 eg => ?_)
  have q53 : F9 g0 g53 (.inl (9, [xR (51, 0, 0), xR (52, 0, 0), xR (53, 0, 0), xR (54, 0, 0), xR (55, 0, 0), xR (56, 0, 0), xR (57, 0, 0), xR (58, 0, 0), xR (59, 0, 0), xR (60, 0, 0), xR (61, 0, 0), xI 1, xI 0, xI 0, xR (62, 0, 0), xR (63, 0, 0), xR (64, 0, 0), xR (65, 0, 0), xR (66, 0, 0), xR (67, 0, 0), xR (68, 0, 0), xR (69, 0, 0), xR (80, 0, 0), xR (70, 0, 0), xI 0, xI 0, xR (71, 0, 0), xR (72, 0, 0), xR (73, 0, 0), xR (74, 0, 0), xR (75, 0, 0)])) 76 true := by rw [eg]; exact q52.put (by decide)
  clear eg
  exact x_vret dX9_init_222 rfl ⟨rfl, fun l hl => by
    obtain ⟨k, a, c⟩ := l
    obtain ⟨hk, hd⟩ := hl
    have hk2 : (50 ≤ k ∧ k ≤ 75) ∨ k = 80 ∨ k = 81 := hk
    have hk3 : k = 50 ∨ (51 ≤ k ∧ k ≤ 75) ∨ (k = 80 ∨ k = 81) := by omega
    rcases hk3 with rfl | hk3 | hk3
    · obtain ⟨rfl, rfl⟩ : a = 0 ∧ c = 0 := hd
      rw [q53.ob]
      exact (hp50 (iS 0 (fun _ => 0))).symm
    · exact q53.dn _ hk3.1 (show k < 76 by omega) hk3.2 hd
    · exact q53.r1 rfl _ hk3 hd, q53.fr⟩
