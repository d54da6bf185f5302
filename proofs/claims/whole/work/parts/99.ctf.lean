/-! constructors: rows of rows, the reference -/
theorem xo_cell (c : ClassId) (N h0 : Nat) (i : Nat) : Jvm.Free.Multi.outerC c N h0 i = arrV c N (fun j => va_rf (if j < i then some (h0 + 1 + j) else none)) := by
  induction i with
  | zero =>
    show ({ cls := c, slots := Array.replicate N .null, vm := .none } : Cell) = _
    rw [arrV_new]
    congr 1
    funext j
    rw [if_neg (by omega)]
    rfl
  | succ i ih =>
    show (Jvm.Free.Multi.outerC c N h0 i).setSlot i (.ref (h0 + 1 + i)) = _
    rw [ih, arrV_store]
    congr 1
    funext j
    by_cases e : j = i
    · subst e
      simp [updV, va_rf]
    · by_cases y : j < i
      · simp [updV, e, y, Nat.lt_succ_of_lt y]
      · have y2 : ¬ j < i + 1 := by omega
        simp [updV, e, y, y2]
/-- 'new int[5][64]': the row of rows has the name (80, 0, 0), the rows (81, b, 0) -/
theorem x_mna {M : XM} {pc i : Nat} {L st : List XV} {h : XH} {kc ks : Nat} {Q : XO → XH → Prop} (hd : decode (xmC M) pc = .ok (.multianewarray i 2, 4)) (hcl : Cond.classLink (xmY M).cls i "[[I" ∈ xW) (har : Cond.arrayClass FieldType.int ∈ xW) (f80 : h (80, 0, 0) = none) (f81 : ∀ b t : Int, h (81, b, t) = none) (h1 : 6 ≤ kc) (h2 : 325 ≤ ks)
    (k : ∀ g : XH, g (80, 0, 0) = some (.inr (11, 5, .inr (.inr (.inr (fun b => some (81, b, 0)))))) → (∀ b : Int, 0 ≤ b → b < 5 → g (81, b, 0) = some (.inr (0, 64, .inl (fun _ => 0)))) → (∀ l : XL, l ≠ (80, 0, 0) → ¬ (l.1 = 81 ∧ 0 ≤ l.2.1 ∧ l.2.1 < 5 ∧ l.2.2 = 0) → g l = h l) → X M (pc + 4) L (xR (80, 0, 0) :: st) g (kc - 6) (ks - 325) Q) : X M pc L (xI 64 :: xI 5 :: st) h kc ks Q := by
  intro p l0 e R s m args below meth c D dA base ad0 h0 ad H locs cells slots ls stv F hE h9 hH hS hL hst hc hs
  obtain ⟨w2, r2, rfl, rfl, hst⟩ := hst
  obtain ⟨w0, r0, rfl, rfl, hst⟩ := hst
  obtain ⟨f1, f2, f3, f4, f5, f6, f7, f8, f9, f10, f11, f12, f13, f14⟩ := id F
  have hK := f13.1
  have hA : s.vm.findClass ("[" ++ (FieldType.array .int).toString) = some (dA 11) := (hK.2 11 _ (xTys_at (by decide))).2
  have hA0 : s.vm.findClass ("[" ++ (FieldType.int).toString) = some (dA 0) := (hK.2 0 _ (xTys_at (by decide))).2
  have es : "[" ++ (FieldType.array FieldType.int).toString = "[[I" := by decide
  intro T hT Xs
  have e5 : (zI 5).toNatClampNeg = 5 := by decide
  have e64 : (zI 64).toNatClampNeg = 64 := by decide
  obtain ⟨vm₁, cA, comp, -, fA, fC, hO, -, X', step⟩ := Xs.multianewarray2F (ty := .int) f1 f5 (by rw [es]; exact f6 _ hcl) (f13.2.2.2.2.2.2.2.1) (f6 _ har) (g := F0 m pc ls (.int (zI 64) :: .int (zI 5) :: r0)) rfl (by rw [f2]; exact hd) rfl (by decide) (by decide) (by decide) (by decide) (by decide) (by decide) (by decide) (by rw [e5]; omega) (by rw [e5, e64]; omega)
  rw [e5, e64] at X' step
  cases hA.symm.trans fA
  have fC' : s.vm.findClass ("[" ++ (FieldType.int).toString) = some comp := fC
  cases hA0.symm.trans fC'
  generalize hF : Jvm.Free.Multi.fill (T.setVm vm₁) (dA 11) (dA 0) 5 64 (defaultValue FieldType.int) 5 = V at X' step
  have hTh : (T.setVm vm₁).heap = H := hT
  obtain ⟨q1, q2, -, -⟩ := Jvm.Free.Multi.fill_facts (T.setVm vm₁) (dA 11) (dA 0) 5 64 (defaultValue FieldType.int) 5
  rw [hF, hTh] at q1 q2
  have hold : ∀ x : Nat, x < H.size → V.heap[x]? = H[x]? := fun x hx => by
    have := Jvm.Free.Multi.fill_old (T.setVm vm₁) (dA 11) (dA 0) 5 64 (defaultValue FieldType.int) (a := x) (by rw [hTh]; exact hx) 5
    rw [hF, hTh] at this
    exact this
  have hrow : ∀ j : Nat, j < 5 → V.heap[H.size + 1 + j]? = some (Jvm.Free.Multi.innerC (dA 0) 64 (defaultValue FieldType.int)) := fun j hj => by
    have := Jvm.Free.Multi.fill_inner (T.setVm vm₁) (dA 11) (dA 0) 5 64 (defaultValue FieldType.int) 5 j hj
    rw [hF, hTh] at this
    exact this
  have hin : Jvm.Free.Multi.innerC (dA 0) 64 (defaultValue FieldType.int) = vp_cell (dA 0) (64, .inl (fun _ => zI 0)) := by
    show ({ cls := dA 0, slots := Array.replicate 64 (.int 0), vm := .none } : Cell) = _
    rw [arrV_new, zI_0]
    rfl
  rw [xo_cell] at q2
  -- the new names
  let ad' : XL → Nat := fun l => if l = (80, 0, 0) then H.size else if l.1 = 81 ∧ 0 ≤ l.2.1 ∧ l.2.1 < 5 ∧ l.2.2 = 0 then H.size + 1 + l.2.1.toNat else ad l
  let g' : XH := fun l => if l = (80, 0, 0) then some (.inr (11, 5, .inr (.inr (.inr (fun b => some (81, b, 0)))))) else if l.1 = 81 ∧ 0 ≤ l.2.1 ∧ l.2.1 < 5 ∧ l.2.2 = 0 then some (.inr (0, 64, .inl (fun _ => 0))) else h l
  have n80 : ∀ l : XL, h l ≠ none → l ≠ (80, 0, 0) := fun l q z => q (by rw [z]; exact f80)
  have n81 : ∀ l : XL, h l ≠ none → ¬ (l.1 = 81 ∧ 0 ≤ l.2.1 ∧ l.2.1 < 5 ∧ l.2.2 = 0) := fun l q z => q (by
    obtain ⟨k, a, b⟩ := l
    have z1 : k = 81 := z.1
    subst z1
    exact f81 a b)
  have hx : xEx ad h ad' g' := by
    refine ⟨fun l q => ⟨?_, ?_⟩, fun l q => ?_⟩
    · show (if l = _ then _ else if _ then _ else _) ≠ none
      rw [if_neg (n80 l q), if_neg (n81 l q)]; exact q
    · show (if l = _ then _ else if _ then _ else _) = ad l
      rw [if_neg (n80 l q), if_neg (n81 l q)]
    · show (if l = _ then _ else if _ then _ else _) = h l
      rw [if_neg (fun z => by rw [z] at q; cases q), if_neg (fun z => by rw [q] at z; exact absurd z.1 (by decide))]
  have g80 : g' (80, 0, 0) = some (.inr (11, 5, .inr (.inr (.inr (fun b => some (81, b, 0)))))) := if_pos rfl
  have g81 : ∀ b : Int, 0 ≤ b → b < 5 → g' (81, b, 0) = some (.inr (0, 64, .inl (fun _ => 0))) := fun b b0 b1 => by
    show (if _ = _ then _ else if _ then _ else _) = _
    rw [if_neg (nK (by decide) _ _ _ _), if_pos ⟨rfl, b0, b1, rfl⟩]
  have go : ∀ l : XL, l ≠ (80, 0, 0) → ¬ (l.1 = 81 ∧ 0 ≤ l.2.1 ∧ l.2.1 < 5 ∧ l.2.2 = 0) → g' l = h l := fun l a b => by
    show (if _ = _ then _ else if _ then _ else _) = _
    rw [if_neg a, if_neg b]
  have a80 : ad' (80, 0, 0) = H.size := if_pos rfl
  have a81 : ∀ b : Int, 0 ≤ b → b < 5 → ad' (81, b, 0) = H.size + 1 + b.toNat := fun b b0 b1 => by
    show (if _ = _ then _ else if _ then _ else _) = _
    rw [if_neg (nK (by decide) _ _ _ _), if_pos ⟨rfl, b0, b1, rfl⟩]
  have ao : ∀ l : XL, l ≠ (80, 0, 0) → ¬ (l.1 = 81 ∧ 0 ≤ l.2.1 ∧ l.2.1 < 5 ∧ l.2.2 = 0) → ad' l = ad l := fun l a b => by
    show (if _ = _ then _ else if _ then _ else _) = _
    rw [if_neg a, if_neg b]
  have hsz : H.size ≤ V.heap.size := by omega
  have three : ∀ l : XL, l = (80, 0, 0) ∨ (∃ b : Int, 0 ≤ b ∧ b < 5 ∧ l = (81, b, 0)) ∨ (l ≠ (80, 0, 0) ∧ ¬ (l.1 = 81 ∧ 0 ≤ l.2.1 ∧ l.2.1 < 5 ∧ l.2.2 = 0)) := fun l => by
    by_cases y1 : l = (80, 0, 0)
    · exact Or.inl y1
    · by_cases y2 : l.1 = 81 ∧ 0 ≤ l.2.1 ∧ l.2.1 < 5 ∧ l.2.2 = 0
      · obtain ⟨k, a, b⟩ := l
        obtain ⟨z1, z2, z3, z4⟩ := y2
        have z1 : k = 81 := z1
        have z4 : b = 0 := z4
        subst z1
        subst z4
        exact Or.inr (Or.inl ⟨a, z2, z3, rfl⟩)
      · exact Or.inr (Or.inr ⟨y1, y2⟩)
  have hHR : xHR D dA base ad' g' V.heap := by
    refine ⟨fun l cc hl hl99 => ?_, fun a b ha hb hab => ?_, fun l hl => ?_⟩
    · rcases three l with rfl | ⟨b, b0, b1, rfl⟩ | ⟨y1, y2⟩
      · rw [g80] at hl
        cases hl
        rw [a80]
        refine ⟨⟨fun j => if j < 5 then some (H.size + 1 + j) else none, fun j hj => ⟨fun z => by cases z, fun l3 z => ?_⟩, ?_⟩, Nat.le_trans f14 hS.1⟩
        · cases z
          refine ⟨by rw [g81 _ (by omega) (by omega)]; simp, ?_⟩
          rw [if_pos hj, a81 _ (by omega) (by omega)]
          congr 1
        · rw [q2, vp_cell_q]
      · rw [g81 b b0 b1] at hl
        cases hl
        rw [a81 b b0 b1]
        refine ⟨?_, by have := Nat.le_trans f14 hS.1; omega⟩
        show V.heap[_]? = _
        rw [hrow _ (by omega), hin]
      · rw [go l y1 y2] at hl
        rw [ao l y1 y2]
        obtain ⟨a1, a2⟩ := hH.1 l cc hl hl99
        have hlt := hH.2.2 l (by rw [hl]; simp)
        refine ⟨?_, a2⟩
        have a1' : xCR D dA ad h (ad l) cc H := a1
        exact a1'.mono hx (hold _ hlt)
    · have hz : ∀ l : XL, g' l ≠ none → l ≠ (80, 0, 0) → ¬ (l.1 = 81 ∧ 0 ≤ l.2.1 ∧ l.2.1 < 5 ∧ l.2.2 = 0) → h l ≠ none ∧ ad' l = ad l ∧ ad l < H.size := fun l q y1 y2 => by
        rw [go l y1 y2] at q
        exact ⟨q, ao l y1 y2, hH.2.2 l q⟩
      rcases three a with rfl | ⟨x, x0, x1, rfl⟩ | ⟨y1, y2⟩ <;> rcases three b with rfl | ⟨y, u0, u1, rfl⟩ | ⟨w1, w2⟩
      · rfl
      · rw [a80, a81 y u0 u1] at hab; omega
      · obtain ⟨z1, z2, z3⟩ := hz b hb w1 w2
        rw [a80, z2] at hab; omega
      · rw [a80, a81 x x0 x1] at hab; omega
      · rw [a81 x x0 x1, a81 y u0 u1] at hab
        rw [show x = y by omega]
      · obtain ⟨z1, z2, z3⟩ := hz b hb w1 w2
        rw [a81 x x0 x1, z2] at hab; omega
      · obtain ⟨z1, z2, z3⟩ := hz a ha y1 y2
        rw [a80, z2] at hab; omega
      · obtain ⟨z1, z2, z3⟩ := hz a ha y1 y2
        rw [a81 y u0 u1, z2] at hab; omega
      · obtain ⟨z1, z2, z3⟩ := hz a ha y1 y2
        obtain ⟨z4, z5, z6⟩ := hz b hb w1 w2
        rw [z2, z5] at hab
        exact hH.2.1 a b z1 z4 hab
    · rcases three l with rfl | ⟨b, b0, b1, rfl⟩ | ⟨y1, y2⟩
      · rw [a80]; omega
      · rw [a81 b b0 b1]; omega
      · rw [go l y1 y2] at hl
        rw [ao l y1 y2]
        have := hH.2.2 l hl
        omega
  obtain ⟨t', a1, b1⟩ := k g' g80 g81 go p l0 e R s m args below meth c D dA base ad0 h0 ad' V.heap locs (cells + 6) (slots + 325) ls _ F (hE.tr hx) (h9.ex hx) hHR (x_grow hS hsz hold) (hL.mono hx) ⟨_, _, rfl, ⟨by rw [g80]; simp, rfl⟩, hst.mono hx⟩ (by omega) (by omega) V rfl X'
  refine ⟨t', step t' ?_, b1⟩
  rw [a80] at a1
  rw [hT]
  exact a1
def nMd (l : XL) : Prop := ((50 ≤ l.1 ∧ l.1 ≤ 75) ∨ l.1 = 80 ∨ l.1 = 81) ∧ dzz l
theorem wdm : Cond.classLink RX9 73 "[[I" ∈ xW := xw 1094 (by decide +kernel) rfl
set_option maxHeartbeats 4000000 in
set_option maxRecDepth 100000 in
theorem c_init9 (g0 : XH) (v50 : g0 (50, 0, 0) = some (.inl (9, [xN, xN, xN, xN, xN, xN, xN, xN, xN, xN, xN, xI 0, xI 0, xI 0, xN, xN, xN, xN, xN, xN, xN, xN, xN, xN, xI 0, xI 0, xN, xN, xN, xN, xN]))) (hf : ∀ l : XL, nMd l → l ≠ (50, 0, 0) → g0 l = none) (hf81 : ∀ l : XL, l.1 = 81 → g0 l = none) : X mX9_init 0 (xEnt mX9_init [xR (50, 0, 0)]) [] g0 40 4000 (fun o h' => o = .inl none ∧ (∀ l : XL, nMd l → h' l = z0 l) ∧ ∀ l : XL, ¬ nMd l → h' l = g0 l) := by
  show X mX9_init 0 [xR (50, 0, 0)] [] g0 40 4000 _
  have fr : ∀ l : XL, ¬ (((50 ≤ l.1 ∧ l.1 ≤ 75) ∨ l.1 = 80 ∨ l.1 = 81) ∧ dzz l) → g0 l = g0 l := fun _ _ => rfl
  have f51 : ∀ l : XL, ((l.1 = 51) ∧ dzz l) → g0 l = none := fun l hl => hf l ⟨(by have a1 := hl.1; omega), hl.2⟩ (fun z => by have a1 := hl.1; rw [z] at a1; have a2 : (50 : Nat) = 51 := a1; omega)
  have f52 : ∀ l : XL, ((l.1 = 52) ∧ dzz l) → g0 l = none := fun l hl => hf l ⟨(by have a1 := hl.1; omega), hl.2⟩ (fun z => by have a1 := hl.1; rw [z] at a1; have a2 : (50 : Nat) = 52 := a1; omega)
  have f53 : ∀ l : XL, ((l.1 = 53) ∧ dzz l) → g0 l = none := fun l hl => hf l ⟨(by have a1 := hl.1; omega), hl.2⟩ (fun z => by have a1 := hl.1; rw [z] at a1; have a2 : (50 : Nat) = 53 := a1; omega)
  have f54 : ∀ l : XL, ((l.1 = 54) ∧ dzz l) → g0 l = none := fun l hl => hf l ⟨(by have a1 := hl.1; omega), hl.2⟩ (fun z => by have a1 := hl.1; rw [z] at a1; have a2 : (50 : Nat) = 54 := a1; omega)
  have f55 : ∀ l : XL, ((l.1 = 55) ∧ dzz l) → g0 l = none := fun l hl => hf l ⟨(by have a1 := hl.1; omega), hl.2⟩ (fun z => by have a1 := hl.1; rw [z] at a1; have a2 : (50 : Nat) = 55 := a1; omega)
  have f56 : ∀ l : XL, ((l.1 = 56) ∧ dzz l) → g0 l = none := fun l hl => hf l ⟨(by have a1 := hl.1; omega), hl.2⟩ (fun z => by have a1 := hl.1; rw [z] at a1; have a2 : (50 : Nat) = 56 := a1; omega)
  have f57 : ∀ l : XL, ((l.1 = 57) ∧ dzz l) → g0 l = none := fun l hl => hf l ⟨(by have a1 := hl.1; omega), hl.2⟩ (fun z => by have a1 := hl.1; rw [z] at a1; have a2 : (50 : Nat) = 57 := a1; omega)
  have f58 : ∀ l : XL, ((l.1 = 58) ∧ dzz l) → g0 l = none := fun l hl => hf l ⟨(by have a1 := hl.1; omega), hl.2⟩ (fun z => by have a1 := hl.1; rw [z] at a1; have a2 : (50 : Nat) = 58 := a1; omega)
  have f59 : ∀ l : XL, ((l.1 = 59) ∧ dzz l) → g0 l = none := fun l hl => hf l ⟨(by have a1 := hl.1; omega), hl.2⟩ (fun z => by have a1 := hl.1; rw [z] at a1; have a2 : (50 : Nat) = 59 := a1; omega)
  have f60 : ∀ l : XL, ((l.1 = 60) ∧ dzz l) → g0 l = none := fun l hl => hf l ⟨(by have a1 := hl.1; omega), hl.2⟩ (fun z => by have a1 := hl.1; rw [z] at a1; have a2 : (50 : Nat) = 60 := a1; omega)
  have f61 : ∀ l : XL, ((l.1 = 61) ∧ dzz l) → g0 l = none := fun l hl => hf l ⟨(by have a1 := hl.1; omega), hl.2⟩ (fun z => by have a1 := hl.1; rw [z] at a1; have a2 : (50 : Nat) = 61 := a1; omega)
  have f62 : ∀ l : XL, ((l.1 = 62) ∧ dzz l) → g0 l = none := fun l hl => hf l ⟨(by have a1 := hl.1; omega), hl.2⟩ (fun z => by have a1 := hl.1; rw [z] at a1; have a2 : (50 : Nat) = 62 := a1; omega)
  have f63 : ∀ l : XL, ((l.1 = 63) ∧ dzz l) → g0 l = none := fun l hl => hf l ⟨(by have a1 := hl.1; omega), hl.2⟩ (fun z => by have a1 := hl.1; rw [z] at a1; have a2 : (50 : Nat) = 63 := a1; omega)
  have f64 : ∀ l : XL, ((l.1 = 64) ∧ dzz l) → g0 l = none := fun l hl => hf l ⟨(by have a1 := hl.1; omega), hl.2⟩ (fun z => by have a1 := hl.1; rw [z] at a1; have a2 : (50 : Nat) = 64 := a1; omega)
  have f65 : ∀ l : XL, ((l.1 = 65) ∧ dzz l) → g0 l = none := fun l hl => hf l ⟨(by have a1 := hl.1; omega), hl.2⟩ (fun z => by have a1 := hl.1; rw [z] at a1; have a2 : (50 : Nat) = 65 := a1; omega)
  have f66 : ∀ l : XL, ((l.1 = 66) ∧ dzz l) → g0 l = none := fun l hl => hf l ⟨(by have a1 := hl.1; omega), hl.2⟩ (fun z => by have a1 := hl.1; rw [z] at a1; have a2 : (50 : Nat) = 66 := a1; omega)
  have f67 : ∀ l : XL, ((l.1 = 67) ∧ dzz l) → g0 l = none := fun l hl => hf l ⟨(by have a1 := hl.1; omega), hl.2⟩ (fun z => by have a1 := hl.1; rw [z] at a1; have a2 : (50 : Nat) = 67 := a1; omega)
  have f68 : ∀ l : XL, ((l.1 = 68) ∧ dzz l) → g0 l = none := fun l hl => hf l ⟨(by have a1 := hl.1; omega), hl.2⟩ (fun z => by have a1 := hl.1; rw [z] at a1; have a2 : (50 : Nat) = 68 := a1; omega)
  have f69 : ∀ l : XL, ((l.1 = 69) ∧ dzz l) → g0 l = none := fun l hl => hf l ⟨(by have a1 := hl.1; omega), hl.2⟩ (fun z => by have a1 := hl.1; rw [z] at a1; have a2 : (50 : Nat) = 69 := a1; omega)
  have f80 : ∀ l : XL, ((l.1 = 80) ∧ dzz l) → g0 l = none := fun l hl => hf l ⟨(by have a1 := hl.1; omega), hl.2⟩ (fun z => by have a1 := hl.1; rw [z] at a1; have a2 : (50 : Nat) = 80 := a1; omega)
  have f70 : ∀ l : XL, ((l.1 = 70) ∧ dzz l) → g0 l = none := fun l hl => hf l ⟨(by have a1 := hl.1; omega), hl.2⟩ (fun z => by have a1 := hl.1; rw [z] at a1; have a2 : (50 : Nat) = 70 := a1; omega)
  have f71 : ∀ l : XL, ((l.1 = 71) ∧ dzz l) → g0 l = none := fun l hl => hf l ⟨(by have a1 := hl.1; omega), hl.2⟩ (fun z => by have a1 := hl.1; rw [z] at a1; have a2 : (50 : Nat) = 71 := a1; omega)
  have f72 : ∀ l : XL, ((l.1 = 72) ∧ dzz l) → g0 l = none := fun l hl => hf l ⟨(by have a1 := hl.1; omega), hl.2⟩ (fun z => by have a1 := hl.1; rw [z] at a1; have a2 : (50 : Nat) = 72 := a1; omega)
  have f73 : ∀ l : XL, ((l.1 = 73) ∧ dzz l) → g0 l = none := fun l hl => hf l ⟨(by have a1 := hl.1; omega), hl.2⟩ (fun z => by have a1 := hl.1; rw [z] at a1; have a2 : (50 : Nat) = 73 := a1; omega)
  have f74 : ∀ l : XL, ((l.1 = 74) ∧ dzz l) → g0 l = none := fun l hl => hf l ⟨(by have a1 := hl.1; omega), hl.2⟩ (fun z => by have a1 := hl.1; rw [z] at a1; have a2 : (50 : Nat) = 74 := a1; omega)
  have f75 : ∀ l : XL, ((l.1 = 75) ∧ dzz l) → g0 l = none := fun l hl => hf l ⟨(by have a1 := hl.1; omega), hl.2⟩ (fun z => by have a1 := hl.1; rw [z] at a1; have a2 : (50 : Nat) = 75 := a1; omega)
  have f81 := hf81
  refine x_aload_n dX9_init_0 rfl ?_
  refine x_objInit dX9_init_1 wd1093 wd80 wd81 (by decide) (Nat.le_of_ble_eq_true rfl) ?_
  refine x_aload_n dX9_init_4 rfl ?_
  refine x_sipush (v := 240) dX9_init_5 (by decide) ?_
  refine x_newarray (51, 0, 0) (t := 3) (n := 240) (N := 240) dX9_init_8 rfl wd1190 (f51 _ ⟨(show (51 : Nat) = 51 by omega), (show (0 : Int) = 0 ∧ (0 : Int) = 0 from ⟨rfl, rfl⟩)⟩) (show (51 : Nat) ≠ 99 by decide) rfl (by decide) (by omega) (by omega) ?_
  refine x_hg (fun g1_1 eg1_1 => ?_)
  have v50_g1_1 : g1_1 (50, 0, 0) = some (.inl (9, [xN, xN, xN, xN, xN, xN, xN, xN, xN, xN, xN, xI 0, xI 0, xI 0, xN, xN, xN, xN, xN, xN, xN, xN, xN, xN, xI 0, xI 0, xN, xN, xN, xN, xN])) := by rw [eg1_1]; exact (xu_o (nK (by decide) _ _ _ _)).trans v50
  have f52_g1_1 : ∀ l : XL, ((l.1 = 52) ∧ dzz l) → g1_1 l = none := by rw [eg1_1]; exact fun l hl => (xu_o (fun z => (fun z => by have z0 : (51 : Nat) = 52 := z.1; omega) (by rw [z] at hl; exact hl))).trans (f52 l hl)
  have f53_g1_1 : ∀ l : XL, ((l.1 = 53) ∧ dzz l) → g1_1 l = none := by rw [eg1_1]; exact fun l hl => (xu_o (fun z => (fun z => by have z0 : (51 : Nat) = 53 := z.1; omega) (by rw [z] at hl; exact hl))).trans (f53 l hl)
  have f54_g1_1 : ∀ l : XL, ((l.1 = 54) ∧ dzz l) → g1_1 l = none := by rw [eg1_1]; exact fun l hl => (xu_o (fun z => (fun z => by have z0 : (51 : Nat) = 54 := z.1; omega) (by rw [z] at hl; exact hl))).trans (f54 l hl)
  have f55_g1_1 : ∀ l : XL, ((l.1 = 55) ∧ dzz l) → g1_1 l = none := by rw [eg1_1]; exact fun l hl => (xu_o (fun z => (fun z => by have z0 : (51 : Nat) = 55 := z.1; omega) (by rw [z] at hl; exact hl))).trans (f55 l hl)
  have f56_g1_1 : ∀ l : XL, ((l.1 = 56) ∧ dzz l) → g1_1 l = none := by rw [eg1_1]; exact fun l hl => (xu_o (fun z => (fun z => by have z0 : (51 : Nat) = 56 := z.1; omega) (by rw [z] at hl; exact hl))).trans (f56 l hl)
  have f57_g1_1 : ∀ l : XL, ((l.1 = 57) ∧ dzz l) → g1_1 l = none := by rw [eg1_1]; exact fun l hl => (xu_o (fun z => (fun z => by have z0 : (51 : Nat) = 57 := z.1; omega) (by rw [z] at hl; exact hl))).trans (f57 l hl)
  have f58_g1_1 : ∀ l : XL, ((l.1 = 58) ∧ dzz l) → g1_1 l = none := by rw [eg1_1]; exact fun l hl => (xu_o (fun z => (fun z => by have z0 : (51 : Nat) = 58 := z.1; omega) (by rw [z] at hl; exact hl))).trans (f58 l hl)
  have f59_g1_1 : ∀ l : XL, ((l.1 = 59) ∧ dzz l) → g1_1 l = none := by rw [eg1_1]; exact fun l hl => (xu_o (fun z => (fun z => by have z0 : (51 : Nat) = 59 := z.1; omega) (by rw [z] at hl; exact hl))).trans (f59 l hl)
  have f60_g1_1 : ∀ l : XL, ((l.1 = 60) ∧ dzz l) → g1_1 l = none := by rw [eg1_1]; exact fun l hl => (xu_o (fun z => (fun z => by have z0 : (51 : Nat) = 60 := z.1; omega) (by rw [z] at hl; exact hl))).trans (f60 l hl)
  have f61_g1_1 : ∀ l : XL, ((l.1 = 61) ∧ dzz l) → g1_1 l = none := by rw [eg1_1]; exact fun l hl => (xu_o (fun z => (fun z => by have z0 : (51 : Nat) = 61 := z.1; omega) (by rw [z] at hl; exact hl))).trans (f61 l hl)
  have f62_g1_1 : ∀ l : XL, ((l.1 = 62) ∧ dzz l) → g1_1 l = none := by rw [eg1_1]; exact fun l hl => (xu_o (fun z => (fun z => by have z0 : (51 : Nat) = 62 := z.1; omega) (by rw [z] at hl; exact hl))).trans (f62 l hl)
  have f63_g1_1 : ∀ l : XL, ((l.1 = 63) ∧ dzz l) → g1_1 l = none := by rw [eg1_1]; exact fun l hl => (xu_o (fun z => (fun z => by have z0 : (51 : Nat) = 63 := z.1; omega) (by rw [z] at hl; exact hl))).trans (f63 l hl)
  have f64_g1_1 : ∀ l : XL, ((l.1 = 64) ∧ dzz l) → g1_1 l = none := by rw [eg1_1]; exact fun l hl => (xu_o (fun z => (fun z => by have z0 : (51 : Nat) = 64 := z.1; omega) (by rw [z] at hl; exact hl))).trans (f64 l hl)
  have f65_g1_1 : ∀ l : XL, ((l.1 = 65) ∧ dzz l) → g1_1 l = none := by rw [eg1_1]; exact fun l hl => (xu_o (fun z => (fun z => by have z0 : (51 : Nat) = 65 := z.1; omega) (by rw [z] at hl; exact hl))).trans (f65 l hl)
  have f66_g1_1 : ∀ l : XL, ((l.1 = 66) ∧ dzz l) → g1_1 l = none := by rw [eg1_1]; exact fun l hl => (xu_o (fun z => (fun z => by have z0 : (51 : Nat) = 66 := z.1; omega) (by rw [z] at hl; exact hl))).trans (f66 l hl)
  have f67_g1_1 : ∀ l : XL, ((l.1 = 67) ∧ dzz l) → g1_1 l = none := by rw [eg1_1]; exact fun l hl => (xu_o (fun z => (fun z => by have z0 : (51 : Nat) = 67 := z.1; omega) (by rw [z] at hl; exact hl))).trans (f67 l hl)
  have f68_g1_1 : ∀ l : XL, ((l.1 = 68) ∧ dzz l) → g1_1 l = none := by rw [eg1_1]; exact fun l hl => (xu_o (fun z => (fun z => by have z0 : (51 : Nat) = 68 := z.1; omega) (by rw [z] at hl; exact hl))).trans (f68 l hl)
  have f69_g1_1 : ∀ l : XL, ((l.1 = 69) ∧ dzz l) → g1_1 l = none := by rw [eg1_1]; exact fun l hl => (xu_o (fun z => (fun z => by have z0 : (51 : Nat) = 69 := z.1; omega) (by rw [z] at hl; exact hl))).trans (f69 l hl)
  have f80_g1_1 : ∀ l : XL, ((l.1 = 80) ∧ dzz l) → g1_1 l = none := by rw [eg1_1]; exact fun l hl => (xu_o (fun z => (fun z => by have z0 : (51 : Nat) = 80 := z.1; omega) (by rw [z] at hl; exact hl))).trans (f80 l hl)
  have f70_g1_1 : ∀ l : XL, ((l.1 = 70) ∧ dzz l) → g1_1 l = none := by rw [eg1_1]; exact fun l hl => (xu_o (fun z => (fun z => by have z0 : (51 : Nat) = 70 := z.1; omega) (by rw [z] at hl; exact hl))).trans (f70 l hl)
  have f71_g1_1 : ∀ l : XL, ((l.1 = 71) ∧ dzz l) → g1_1 l = none := by rw [eg1_1]; exact fun l hl => (xu_o (fun z => (fun z => by have z0 : (51 : Nat) = 71 := z.1; omega) (by rw [z] at hl; exact hl))).trans (f71 l hl)
  have f72_g1_1 : ∀ l : XL, ((l.1 = 72) ∧ dzz l) → g1_1 l = none := by rw [eg1_1]; exact fun l hl => (xu_o (fun z => (fun z => by have z0 : (51 : Nat) = 72 := z.1; omega) (by rw [z] at hl; exact hl))).trans (f72 l hl)
  have f73_g1_1 : ∀ l : XL, ((l.1 = 73) ∧ dzz l) → g1_1 l = none := by rw [eg1_1]; exact fun l hl => (xu_o (fun z => (fun z => by have z0 : (51 : Nat) = 73 := z.1; omega) (by rw [z] at hl; exact hl))).trans (f73 l hl)
  have f74_g1_1 : ∀ l : XL, ((l.1 = 74) ∧ dzz l) → g1_1 l = none := by rw [eg1_1]; exact fun l hl => (xu_o (fun z => (fun z => by have z0 : (51 : Nat) = 74 := z.1; omega) (by rw [z] at hl; exact hl))).trans (f74 l hl)
  have f75_g1_1 : ∀ l : XL, ((l.1 = 75) ∧ dzz l) → g1_1 l = none := by rw [eg1_1]; exact fun l hl => (xu_o (fun z => (fun z => by have z0 : (51 : Nat) = 75 := z.1; omega) (by rw [z] at hl; exact hl))).trans (f75 l hl)
  have fr_g1_1 : ∀ l : XL, ¬ (((50 ≤ l.1 ∧ l.1 ≤ 75) ∨ l.1 = 80 ∨ l.1 = 81) ∧ dzz l) → g1_1 l = g0 l := by rw [eg1_1]; exact fun l hl => (xu_o (fun z => hl (by rw [z]; exact ⟨(show (50 ≤ (51 : Nat) ∧ (51 : Nat) ≤ 75) ∨ (51 : Nat) = 80 ∨ (51 : Nat) = 81 by omega), (show (0 : Int) = 0 ∧ (0 : Int) = 0 from ⟨rfl, rfl⟩)⟩))).trans (fr l hl)
  have v51_g1_1 : g1_1 (51, 0, 0) = some (.inr (3, 240, xZero 3)) := by rw [eg1_1]; exact xu_at
  have f81_g1_1 : ∀ l : XL, l.1 = 81 → g1_1 l = none := by rw [eg1_1]; exact fun l hl => (xu_o (fun z => by rw [z] at hl; have a2 : (51 : Nat) = 81 := hl; omega)).trans (f81 l hl)
  refine x_putF dX9_init_10 fl_RX9_9 (fun r hr => by cases hr; exact ⟨rfl, rfl⟩) v50_g1_1 xfit_a (Nat.le_of_ble_eq_true rfl) rfl rfl ?_
  refine x_hg (fun g1_2 eg1_2 => ?_)
  have f52_g1_2 : ∀ l : XL, ((l.1 = 52) ∧ dzz l) → g1_2 l = none := by rw [eg1_2]; exact fun l hl => (xu_o (fun z => (fun z => by have z0 : (50 : Nat) = 52 := z.1; omega) (by rw [z] at hl; exact hl))).trans (f52_g1_1 l hl)
  have f53_g1_2 : ∀ l : XL, ((l.1 = 53) ∧ dzz l) → g1_2 l = none := by rw [eg1_2]; exact fun l hl => (xu_o (fun z => (fun z => by have z0 : (50 : Nat) = 53 := z.1; omega) (by rw [z] at hl; exact hl))).trans (f53_g1_1 l hl)
  have f54_g1_2 : ∀ l : XL, ((l.1 = 54) ∧ dzz l) → g1_2 l = none := by rw [eg1_2]; exact fun l hl => (xu_o (fun z => (fun z => by have z0 : (50 : Nat) = 54 := z.1; omega) (by rw [z] at hl; exact hl))).trans (f54_g1_1 l hl)
  have f55_g1_2 : ∀ l : XL, ((l.1 = 55) ∧ dzz l) → g1_2 l = none := by rw [eg1_2]; exact fun l hl => (xu_o (fun z => (fun z => by have z0 : (50 : Nat) = 55 := z.1; omega) (by rw [z] at hl; exact hl))).trans (f55_g1_1 l hl)
  have f56_g1_2 : ∀ l : XL, ((l.1 = 56) ∧ dzz l) → g1_2 l = none := by rw [eg1_2]; exact fun l hl => (xu_o (fun z => (fun z => by have z0 : (50 : Nat) = 56 := z.1; omega) (by rw [z] at hl; exact hl))).trans (f56_g1_1 l hl)
  have f57_g1_2 : ∀ l : XL, ((l.1 = 57) ∧ dzz l) → g1_2 l = none := by rw [eg1_2]; exact fun l hl => (xu_o (fun z => (fun z => by have z0 : (50 : Nat) = 57 := z.1; omega) (by rw [z] at hl; exact hl))).trans (f57_g1_1 l hl)
  have f58_g1_2 : ∀ l : XL, ((l.1 = 58) ∧ dzz l) → g1_2 l = none := by rw [eg1_2]; exact fun l hl => (xu_o (fun z => (fun z => by have z0 : (50 : Nat) = 58 := z.1; omega) (by rw [z] at hl; exact hl))).trans (f58_g1_1 l hl)
  have f59_g1_2 : ∀ l : XL, ((l.1 = 59) ∧ dzz l) → g1_2 l = none := by rw [eg1_2]; exact fun l hl => (xu_o (fun z => (fun z => by have z0 : (50 : Nat) = 59 := z.1; omega) (by rw [z] at hl; exact hl))).trans (f59_g1_1 l hl)
  have f60_g1_2 : ∀ l : XL, ((l.1 = 60) ∧ dzz l) → g1_2 l = none := by rw [eg1_2]; exact fun l hl => (xu_o (fun z => (fun z => by have z0 : (50 : Nat) = 60 := z.1; omega) (by rw [z] at hl; exact hl))).trans (f60_g1_1 l hl)
  have f61_g1_2 : ∀ l : XL, ((l.1 = 61) ∧ dzz l) → g1_2 l = none := by rw [eg1_2]; exact fun l hl => (xu_o (fun z => (fun z => by have z0 : (50 : Nat) = 61 := z.1; omega) (by rw [z] at hl; exact hl))).trans (f61_g1_1 l hl)
  have f62_g1_2 : ∀ l : XL, ((l.1 = 62) ∧ dzz l) → g1_2 l = none := by rw [eg1_2]; exact fun l hl => (xu_o (fun z => (fun z => by have z0 : (50 : Nat) = 62 := z.1; omega) (by rw [z] at hl; exact hl))).trans (f62_g1_1 l hl)
  have f63_g1_2 : ∀ l : XL, ((l.1 = 63) ∧ dzz l) → g1_2 l = none := by rw [eg1_2]; exact fun l hl => (xu_o (fun z => (fun z => by have z0 : (50 : Nat) = 63 := z.1; omega) (by rw [z] at hl; exact hl))).trans (f63_g1_1 l hl)
  have f64_g1_2 : ∀ l : XL, ((l.1 = 64) ∧ dzz l) → g1_2 l = none := by rw [eg1_2]; exact fun l hl => (xu_o (fun z => (fun z => by have z0 : (50 : Nat) = 64 := z.1; omega) (by rw [z] at hl; exact hl))).trans (f64_g1_1 l hl)
  have f65_g1_2 : ∀ l : XL, ((l.1 = 65) ∧ dzz l) → g1_2 l = none := by rw [eg1_2]; exact fun l hl => (xu_o (fun z => (fun z => by have z0 : (50 : Nat) = 65 := z.1; omega) (by rw [z] at hl; exact hl))).trans (f65_g1_1 l hl)
  have f66_g1_2 : ∀ l : XL, ((l.1 = 66) ∧ dzz l) → g1_2 l = none := by rw [eg1_2]; exact fun l hl => (xu_o (fun z => (fun z => by have z0 : (50 : Nat) = 66 := z.1; omega) (by rw [z] at hl; exact hl))).trans (f66_g1_1 l hl)
  have f67_g1_2 : ∀ l : XL, ((l.1 = 67) ∧ dzz l) → g1_2 l = none := by rw [eg1_2]; exact fun l hl => (xu_o (fun z => (fun z => by have z0 : (50 : Nat) = 67 := z.1; omega) (by rw [z] at hl; exact hl))).trans (f67_g1_1 l hl)
  have f68_g1_2 : ∀ l : XL, ((l.1 = 68) ∧ dzz l) → g1_2 l = none := by rw [eg1_2]; exact fun l hl => (xu_o (fun z => (fun z => by have z0 : (50 : Nat) = 68 := z.1; omega) (by rw [z] at hl; exact hl))).trans (f68_g1_1 l hl)
  have f69_g1_2 : ∀ l : XL, ((l.1 = 69) ∧ dzz l) → g1_2 l = none := by rw [eg1_2]; exact fun l hl => (xu_o (fun z => (fun z => by have z0 : (50 : Nat) = 69 := z.1; omega) (by rw [z] at hl; exact hl))).trans (f69_g1_1 l hl)
  have f80_g1_2 : ∀ l : XL, ((l.1 = 80) ∧ dzz l) → g1_2 l = none := by rw [eg1_2]; exact fun l hl => (xu_o (fun z => (fun z => by have z0 : (50 : Nat) = 80 := z.1; omega) (by rw [z] at hl; exact hl))).trans (f80_g1_1 l hl)
  have f70_g1_2 : ∀ l : XL, ((l.1 = 70) ∧ dzz l) → g1_2 l = none := by rw [eg1_2]; exact fun l hl => (xu_o (fun z => (fun z => by have z0 : (50 : Nat) = 70 := z.1; omega) (by rw [z] at hl; exact hl))).trans (f70_g1_1 l hl)
  have f71_g1_2 : ∀ l : XL, ((l.1 = 71) ∧ dzz l) → g1_2 l = none := by rw [eg1_2]; exact fun l hl => (xu_o (fun z => (fun z => by have z0 : (50 : Nat) = 71 := z.1; omega) (by rw [z] at hl; exact hl))).trans (f71_g1_1 l hl)
  have f72_g1_2 : ∀ l : XL, ((l.1 = 72) ∧ dzz l) → g1_2 l = none := by rw [eg1_2]; exact fun l hl => (xu_o (fun z => (fun z => by have z0 : (50 : Nat) = 72 := z.1; omega) (by rw [z] at hl; exact hl))).trans (f72_g1_1 l hl)
  have f73_g1_2 : ∀ l : XL, ((l.1 = 73) ∧ dzz l) → g1_2 l = none := by rw [eg1_2]; exact fun l hl => (xu_o (fun z => (fun z => by have z0 : (50 : Nat) = 73 := z.1; omega) (by rw [z] at hl; exact hl))).trans (f73_g1_1 l hl)
  have f74_g1_2 : ∀ l : XL, ((l.1 = 74) ∧ dzz l) → g1_2 l = none := by rw [eg1_2]; exact fun l hl => (xu_o (fun z => (fun z => by have z0 : (50 : Nat) = 74 := z.1; omega) (by rw [z] at hl; exact hl))).trans (f74_g1_1 l hl)
  have f75_g1_2 : ∀ l : XL, ((l.1 = 75) ∧ dzz l) → g1_2 l = none := by rw [eg1_2]; exact fun l hl => (xu_o (fun z => (fun z => by have z0 : (50 : Nat) = 75 := z.1; omega) (by rw [z] at hl; exact hl))).trans (f75_g1_1 l hl)
  have fr_g1_2 : ∀ l : XL, ¬ (((50 ≤ l.1 ∧ l.1 ≤ 75) ∨ l.1 = 80 ∨ l.1 = 81) ∧ dzz l) → g1_2 l = g0 l := by rw [eg1_2]; exact fun l hl => (xu_o (fun z => hl (by rw [z]; exact ⟨(show (50 ≤ (50 : Nat) ∧ (50 : Nat) ≤ 75) ∨ (50 : Nat) = 80 ∨ (50 : Nat) = 81 by omega), (show (0 : Int) = 0 ∧ (0 : Int) = 0 from ⟨rfl, rfl⟩)⟩))).trans (fr_g1_1 l hl)
  have v51_g1_2 : g1_2 (51, 0, 0) = some (.inr (3, 240, xZero 3)) := by rw [eg1_2]; exact (xu_o (nK (by decide) _ _ _ _)).trans v51_g1_1
  have v50_g1_2 : g1_2 (50, 0, 0) = some (.inl (9, [xR (51, 0, 0), xN, xN, xN, xN, xN, xN, xN, xN, xN, xN, xI 0, xI 0, xI 0, xN, xN, xN, xN, xN, xN, xN, xN, xN, xN, xI 0, xI 0, xN, xN, xN, xN, xN])) := by rw [eg1_2]; exact xu_at
  have f81_g1_2 : ∀ l : XL, l.1 = 81 → g1_2 l = none := by rw [eg1_2]; exact fun l hl => (xu_o (fun z => by rw [z] at hl; have a2 : (50 : Nat) = 81 := hl; omega)).trans (f81_g1_1 l hl)
  refine x_aload_n dX9_init_13 rfl ?_
  refine x_sipush (v := 240) dX9_init_14 (by decide) ?_
  refine x_newarray (52, 0, 0) (t := 0) (n := 240) (N := 240) dX9_init_17 rfl wd124 (f52_g1_2 _ ⟨(show (52 : Nat) = 52 by omega), (show (0 : Int) = 0 ∧ (0 : Int) = 0 from ⟨rfl, rfl⟩)⟩) (show (52 : Nat) ≠ 99 by decide) rfl (by decide) (by omega) (by omega) ?_
  refine x_hg (fun g1_3 eg1_3 => ?_)
  have f53_g1_3 : ∀ l : XL, ((l.1 = 53) ∧ dzz l) → g1_3 l = none := by rw [eg1_3]; exact fun l hl => (xu_o (fun z => (fun z => by have z0 : (52 : Nat) = 53 := z.1; omega) (by rw [z] at hl; exact hl))).trans (f53_g1_2 l hl)
  have f54_g1_3 : ∀ l : XL, ((l.1 = 54) ∧ dzz l) → g1_3 l = none := by rw [eg1_3]; exact fun l hl => (xu_o (fun z => (fun z => by have z0 : (52 : Nat) = 54 := z.1; omega) (by rw [z] at hl; exact hl))).trans (f54_g1_2 l hl)
  have f55_g1_3 : ∀ l : XL, ((l.1 = 55) ∧ dzz l) → g1_3 l = none := by rw [eg1_3]; exact fun l hl => (xu_o (fun z => (fun z => by have z0 : (52 : Nat) = 55 := z.1; omega) (by rw [z] at hl; exact hl))).trans (f55_g1_2 l hl)
  have f56_g1_3 : ∀ l : XL, ((l.1 = 56) ∧ dzz l) → g1_3 l = none := by rw [eg1_3]; exact fun l hl => (xu_o (fun z => (fun z => by have z0 : (52 : Nat) = 56 := z.1; omega) (by rw [z] at hl; exact hl))).trans (f56_g1_2 l hl)
  have f57_g1_3 : ∀ l : XL, ((l.1 = 57) ∧ dzz l) → g1_3 l = none := by rw [eg1_3]; exact fun l hl => (xu_o (fun z => (fun z => by have z0 : (52 : Nat) = 57 := z.1; omega) (by rw [z] at hl; exact hl))).trans (f57_g1_2 l hl)
  have f58_g1_3 : ∀ l : XL, ((l.1 = 58) ∧ dzz l) → g1_3 l = none := by rw [eg1_3]; exact fun l hl => (xu_o (fun z => (fun z => by have z0 : (52 : Nat) = 58 := z.1; omega) (by rw [z] at hl; exact hl))).trans (f58_g1_2 l hl)
  have f59_g1_3 : ∀ l : XL, ((l.1 = 59) ∧ dzz l) → g1_3 l = none := by rw [eg1_3]; exact fun l hl => (xu_o (fun z => (fun z => by have z0 : (52 : Nat) = 59 := z.1; omega) (by rw [z] at hl; exact hl))).trans (f59_g1_2 l hl)
  have f60_g1_3 : ∀ l : XL, ((l.1 = 60) ∧ dzz l) → g1_3 l = none := by rw [eg1_3]; exact fun l hl => (xu_o (fun z => (fun z => by have z0 : (52 : Nat) = 60 := z.1; omega) (by rw [z] at hl; exact hl))).trans (f60_g1_2 l hl)
  have f61_g1_3 : ∀ l : XL, ((l.1 = 61) ∧ dzz l) → g1_3 l = none := by rw [eg1_3]; exact fun l hl => (xu_o (fun z => (fun z => by have z0 : (52 : Nat) = 61 := z.1; omega) (by rw [z] at hl; exact hl))).trans (f61_g1_2 l hl)
  have f62_g1_3 : ∀ l : XL, ((l.1 = 62) ∧ dzz l) → g1_3 l = none := by rw [eg1_3]; exact fun l hl => (xu_o (fun z => (fun z => by have z0 : (52 : Nat) = 62 := z.1; omega) (by rw [z] at hl; exact hl))).trans (f62_g1_2 l hl)
  have f63_g1_3 : ∀ l : XL, ((l.1 = 63) ∧ dzz l) → g1_3 l = none := by rw [eg1_3]; exact fun l hl => (xu_o (fun z => (fun z => by have z0 : (52 : Nat) = 63 := z.1; omega) (by rw [z] at hl; exact hl))).trans (f63_g1_2 l hl)
  have f64_g1_3 : ∀ l : XL, ((l.1 = 64) ∧ dzz l) → g1_3 l = none := by rw [eg1_3]; exact fun l hl => (xu_o (fun z => (fun z => by have z0 : (52 : Nat) = 64 := z.1; omega) (by rw [z] at hl; exact hl))).trans (f64_g1_2 l hl)
  have f65_g1_3 : ∀ l : XL, ((l.1 = 65) ∧ dzz l) → g1_3 l = none := by rw [eg1_3]; exact fun l hl => (xu_o (fun z => (fun z => by have z0 : (52 : Nat) = 65 := z.1; omega) (by rw [z] at hl; exact hl))).trans (f65_g1_2 l hl)
  have f66_g1_3 : ∀ l : XL, ((l.1 = 66) ∧ dzz l) → g1_3 l = none := by rw [eg1_3]; exact fun l hl => (xu_o (fun z => (fun z => by have z0 : (52 : Nat) = 66 := z.1; omega) (by rw [z] at hl; exact hl))).trans (f66_g1_2 l hl)
  have f67_g1_3 : ∀ l : XL, ((l.1 = 67) ∧ dzz l) → g1_3 l = none := by rw [eg1_3]; exact fun l hl => (xu_o (fun z => (fun z => by have z0 : (52 : Nat) = 67 := z.1; omega) (by rw [z] at hl; exact hl))).trans (f67_g1_2 l hl)
  have f68_g1_3 : ∀ l : XL, ((l.1 = 68) ∧ dzz l) → g1_3 l = none := by rw [eg1_3]; exact fun l hl => (xu_o (fun z => (fun z => by have z0 : (52 : Nat) = 68 := z.1; omega) (by rw [z] at hl; exact hl))).trans (f68_g1_2 l hl)
  have f69_g1_3 : ∀ l : XL, ((l.1 = 69) ∧ dzz l) → g1_3 l = none := by rw [eg1_3]; exact fun l hl => (xu_o (fun z => (fun z => by have z0 : (52 : Nat) = 69 := z.1; omega) (by rw [z] at hl; exact hl))).trans (f69_g1_2 l hl)
  have f80_g1_3 : ∀ l : XL, ((l.1 = 80) ∧ dzz l) → g1_3 l = none := by rw [eg1_3]; exact fun l hl => (xu_o (fun z => (fun z => by have z0 : (52 : Nat) = 80 := z.1; omega) (by rw [z] at hl; exact hl))).trans (f80_g1_2 l hl)
  have f70_g1_3 : ∀ l : XL, ((l.1 = 70) ∧ dzz l) → g1_3 l = none := by rw [eg1_3]; exact fun l hl => (xu_o (fun z => (fun z => by have z0 : (52 : Nat) = 70 := z.1; omega) (by rw [z] at hl; exact hl))).trans (f70_g1_2 l hl)
  have f71_g1_3 : ∀ l : XL, ((l.1 = 71) ∧ dzz l) → g1_3 l = none := by rw [eg1_3]; exact fun l hl => (xu_o (fun z => (fun z => by have z0 : (52 : Nat) = 71 := z.1; omega) (by rw [z] at hl; exact hl))).trans (f71_g1_2 l hl)
  have f72_g1_3 : ∀ l : XL, ((l.1 = 72) ∧ dzz l) → g1_3 l = none := by rw [eg1_3]; exact fun l hl => (xu_o (fun z => (fun z => by have z0 : (52 : Nat) = 72 := z.1; omega) (by rw [z] at hl; exact hl))).trans (f72_g1_2 l hl)
  have f73_g1_3 : ∀ l : XL, ((l.1 = 73) ∧ dzz l) → g1_3 l = none := by rw [eg1_3]; exact fun l hl => (xu_o (fun z => (fun z => by have z0 : (52 : Nat) = 73 := z.1; omega) (by rw [z] at hl; exact hl))).trans (f73_g1_2 l hl)
  have f74_g1_3 : ∀ l : XL, ((l.1 = 74) ∧ dzz l) → g1_3 l = none := by rw [eg1_3]; exact fun l hl => (xu_o (fun z => (fun z => by have z0 : (52 : Nat) = 74 := z.1; omega) (by rw [z] at hl; exact hl))).trans (f74_g1_2 l hl)
  have f75_g1_3 : ∀ l : XL, ((l.1 = 75) ∧ dzz l) → g1_3 l = none := by rw [eg1_3]; exact fun l hl => (xu_o (fun z => (fun z => by have z0 : (52 : Nat) = 75 := z.1; omega) (by rw [z] at hl; exact hl))).trans (f75_g1_2 l hl)
  have fr_g1_3 : ∀ l : XL, ¬ (((50 ≤ l.1 ∧ l.1 ≤ 75) ∨ l.1 = 80 ∨ l.1 = 81) ∧ dzz l) → g1_3 l = g0 l := by rw [eg1_3]; exact fun l hl => (xu_o (fun z => hl (by rw [z]; exact ⟨(show (50 ≤ (52 : Nat) ∧ (52 : Nat) ≤ 75) ∨ (52 : Nat) = 80 ∨ (52 : Nat) = 81 by omega), (show (0 : Int) = 0 ∧ (0 : Int) = 0 from ⟨rfl, rfl⟩)⟩))).trans (fr_g1_2 l hl)
  have v51_g1_3 : g1_3 (51, 0, 0) = some (.inr (3, 240, xZero 3)) := by rw [eg1_3]; exact (xu_o (nK (by decide) _ _ _ _)).trans v51_g1_2
  have v50_g1_3 : g1_3 (50, 0, 0) = some (.inl (9, [xR (51, 0, 0), xN, xN, xN, xN, xN, xN, xN, xN, xN, xN, xI 0, xI 0, xI 0, xN, xN, xN, xN, xN, xN, xN, xN, xN, xN, xI 0, xI 0, xN, xN, xN, xN, xN])) := by rw [eg1_3]; exact (xu_o (nK (by decide) _ _ _ _)).trans v50_g1_2
  have v52_g1_3 : g1_3 (52, 0, 0) = some (.inr (0, 240, xZero 0)) := by rw [eg1_3]; exact xu_at
  have f81_g1_3 : ∀ l : XL, l.1 = 81 → g1_3 l = none := by rw [eg1_3]; exact fun l hl => (xu_o (fun z => by rw [z] at hl; have a2 : (52 : Nat) = 81 := hl; omega)).trans (f81_g1_2 l hl)
  refine x_putF dX9_init_19 fl_RX9_13 (fun r hr => by cases hr; exact ⟨rfl, rfl⟩) v50_g1_3 xfit_a (Nat.le_of_ble_eq_true rfl) rfl rfl ?_
  refine x_hg (fun g1_4 eg1_4 => ?_)
  have f53_g1_4 : ∀ l : XL, ((l.1 = 53) ∧ dzz l) → g1_4 l = none := by rw [eg1_4]; exact fun l hl => (xu_o (fun z => (fun z => by have z0 : (50 : Nat) = 53 := z.1; omega) (by rw [z] at hl; exact hl))).trans (f53_g1_3 l hl)
  have f54_g1_4 : ∀ l : XL, ((l.1 = 54) ∧ dzz l) → g1_4 l = none := by rw [eg1_4]; exact fun l hl => (xu_o (fun z => (fun z => by have z0 : (50 : Nat) = 54 := z.1; omega) (by rw [z] at hl; exact hl))).trans (f54_g1_3 l hl)
  have f55_g1_4 : ∀ l : XL, ((l.1 = 55) ∧ dzz l) → g1_4 l = none := by rw [eg1_4]; exact fun l hl => (xu_o (fun z => (fun z => by have z0 : (50 : Nat) = 55 := z.1; omega) (by rw [z] at hl; exact hl))).trans (f55_g1_3 l hl)
  have f56_g1_4 : ∀ l : XL, ((l.1 = 56) ∧ dzz l) → g1_4 l = none := by rw [eg1_4]; exact fun l hl => (xu_o (fun z => (fun z => by have z0 : (50 : Nat) = 56 := z.1; omega) (by rw [z] at hl; exact hl))).trans (f56_g1_3 l hl)
  have f57_g1_4 : ∀ l : XL, ((l.1 = 57) ∧ dzz l) → g1_4 l = none := by rw [eg1_4]; exact fun l hl => (xu_o (fun z => (fun z => by have z0 : (50 : Nat) = 57 := z.1; omega) (by rw [z] at hl; exact hl))).trans (f57_g1_3 l hl)
  have f58_g1_4 : ∀ l : XL, ((l.1 = 58) ∧ dzz l) → g1_4 l = none := by rw [eg1_4]; exact fun l hl => (xu_o (fun z => (fun z => by have z0 : (50 : Nat) = 58 := z.1; omega) (by rw [z] at hl; exact hl))).trans (f58_g1_3 l hl)
  have f59_g1_4 : ∀ l : XL, ((l.1 = 59) ∧ dzz l) → g1_4 l = none := by rw [eg1_4]; exact fun l hl => (xu_o (fun z => (fun z => by have z0 : (50 : Nat) = 59 := z.1; omega) (by rw [z] at hl; exact hl))).trans (f59_g1_3 l hl)
  have f60_g1_4 : ∀ l : XL, ((l.1 = 60) ∧ dzz l) → g1_4 l = none := by rw [eg1_4]; exact fun l hl => (xu_o (fun z => (fun z => by have z0 : (50 : Nat) = 60 := z.1; omega) (by rw [z] at hl; exact hl))).trans (f60_g1_3 l hl)
  have f61_g1_4 : ∀ l : XL, ((l.1 = 61) ∧ dzz l) → g1_4 l = none := by rw [eg1_4]; exact fun l hl => (xu_o (fun z => (fun z => by have z0 : (50 : Nat) = 61 := z.1; omega) (by rw [z] at hl; exact hl))).trans (f61_g1_3 l hl)
  have f62_g1_4 : ∀ l : XL, ((l.1 = 62) ∧ dzz l) → g1_4 l = none := by rw [eg1_4]; exact fun l hl => (xu_o (fun z => (fun z => by have z0 : (50 : Nat) = 62 := z.1; omega) (by rw [z] at hl; exact hl))).trans (f62_g1_3 l hl)
  have f63_g1_4 : ∀ l : XL, ((l.1 = 63) ∧ dzz l) → g1_4 l = none := by rw [eg1_4]; exact fun l hl => (xu_o (fun z => (fun z => by have z0 : (50 : Nat) = 63 := z.1; omega) (by rw [z] at hl; exact hl))).trans (f63_g1_3 l hl)
  have f64_g1_4 : ∀ l : XL, ((l.1 = 64) ∧ dzz l) → g1_4 l = none := by rw [eg1_4]; exact fun l hl => (xu_o (fun z => (fun z => by have z0 : (50 : Nat) = 64 := z.1; omega) (by rw [z] at hl; exact hl))).trans (f64_g1_3 l hl)
  have f65_g1_4 : ∀ l : XL, ((l.1 = 65) ∧ dzz l) → g1_4 l = none := by rw [eg1_4]; exact fun l hl => (xu_o (fun z => (fun z => by have z0 : (50 : Nat) = 65 := z.1; omega) (by rw [z] at hl; exact hl))).trans (f65_g1_3 l hl)
  have f66_g1_4 : ∀ l : XL, ((l.1 = 66) ∧ dzz l) → g1_4 l = none := by rw [eg1_4]; exact fun l hl => (xu_o (fun z => (fun z => by have z0 : (50 : Nat) = 66 := z.1; omega) (by rw [z] at hl; exact hl))).trans (f66_g1_3 l hl)
  have f67_g1_4 : ∀ l : XL, ((l.1 = 67) ∧ dzz l) → g1_4 l = none := by rw [eg1_4]; exact fun l hl => (xu_o (fun z => (fun z => by have z0 : (50 : Nat) = 67 := z.1; omega) (by rw [z] at hl; exact hl))).trans (f67_g1_3 l hl)
  have f68_g1_4 : ∀ l : XL, ((l.1 = 68) ∧ dzz l) → g1_4 l = none := by rw [eg1_4]; exact fun l hl => (xu_o (fun z => (fun z => by have z0 : (50 : Nat) = 68 := z.1; omega) (by rw [z] at hl; exact hl))).trans (f68_g1_3 l hl)
  have f69_g1_4 : ∀ l : XL, ((l.1 = 69) ∧ dzz l) → g1_4 l = none := by rw [eg1_4]; exact fun l hl => (xu_o (fun z => (fun z => by have z0 : (50 : Nat) = 69 := z.1; omega) (by rw [z] at hl; exact hl))).trans (f69_g1_3 l hl)
  have f80_g1_4 : ∀ l : XL, ((l.1 = 80) ∧ dzz l) → g1_4 l = none := by rw [eg1_4]; exact fun l hl => (xu_o (fun z => (fun z => by have z0 : (50 : Nat) = 80 := z.1; omega) (by rw [z] at hl; exact hl))).trans (f80_g1_3 l hl)
  have f70_g1_4 : ∀ l : XL, ((l.1 = 70) ∧ dzz l) → g1_4 l = none := by rw [eg1_4]; exact fun l hl => (xu_o (fun z => (fun z => by have z0 : (50 : Nat) = 70 := z.1; omega) (by rw [z] at hl; exact hl))).trans (f70_g1_3 l hl)
  have f71_g1_4 : ∀ l : XL, ((l.1 = 71) ∧ dzz l) → g1_4 l = none := by rw [eg1_4]; exact fun l hl => (xu_o (fun z => (fun z => by have z0 : (50 : Nat) = 71 := z.1; omega) (by rw [z] at hl; exact hl))).trans (f71_g1_3 l hl)
  have f72_g1_4 : ∀ l : XL, ((l.1 = 72) ∧ dzz l) → g1_4 l = none := by rw [eg1_4]; exact fun l hl => (xu_o (fun z => (fun z => by have z0 : (50 : Nat) = 72 := z.1; omega) (by rw [z] at hl; exact hl))).trans (f72_g1_3 l hl)
  have f73_g1_4 : ∀ l : XL, ((l.1 = 73) ∧ dzz l) → g1_4 l = none := by rw [eg1_4]; exact fun l hl => (xu_o (fun z => (fun z => by have z0 : (50 : Nat) = 73 := z.1; omega) (by rw [z] at hl; exact hl))).trans (f73_g1_3 l hl)
  have f74_g1_4 : ∀ l : XL, ((l.1 = 74) ∧ dzz l) → g1_4 l = none := by rw [eg1_4]; exact fun l hl => (xu_o (fun z => (fun z => by have z0 : (50 : Nat) = 74 := z.1; omega) (by rw [z] at hl; exact hl))).trans (f74_g1_3 l hl)
  have f75_g1_4 : ∀ l : XL, ((l.1 = 75) ∧ dzz l) → g1_4 l = none := by rw [eg1_4]; exact fun l hl => (xu_o (fun z => (fun z => by have z0 : (50 : Nat) = 75 := z.1; omega) (by rw [z] at hl; exact hl))).trans (f75_g1_3 l hl)
  have fr_g1_4 : ∀ l : XL, ¬ (((50 ≤ l.1 ∧ l.1 ≤ 75) ∨ l.1 = 80 ∨ l.1 = 81) ∧ dzz l) → g1_4 l = g0 l := by rw [eg1_4]; exact fun l hl => (xu_o (fun z => hl (by rw [z]; exact ⟨(show (50 ≤ (50 : Nat) ∧ (50 : Nat) ≤ 75) ∨ (50 : Nat) = 80 ∨ (50 : Nat) = 81 by omega), (show (0 : Int) = 0 ∧ (0 : Int) = 0 from ⟨rfl, rfl⟩)⟩))).trans (fr_g1_3 l hl)
  have v51_g1_4 : g1_4 (51, 0, 0) = some (.inr (3, 240, xZero 3)) := by rw [eg1_4]; exact (xu_o (nK (by decide) _ _ _ _)).trans v51_g1_3
  have v52_g1_4 : g1_4 (52, 0, 0) = some (.inr (0, 240, xZero 0)) := by rw [eg1_4]; exact (xu_o (nK (by decide) _ _ _ _)).trans v52_g1_3
  have v50_g1_4 : g1_4 (50, 0, 0) = some (.inl (9, [xR (51, 0, 0), xR (52, 0, 0), xN, xN, xN, xN, xN, xN, xN, xN, xN, xI 0, xI 0, xI 0, xN, xN, xN, xN, xN, xN, xN, xN, xN, xN, xI 0, xI 0, xN, xN, xN, xN, xN])) := by rw [eg1_4]; exact xu_at
  have f81_g1_4 : ∀ l : XL, l.1 = 81 → g1_4 l = none := by rw [eg1_4]; exact fun l hl => (xu_o (fun z => by rw [z] at hl; have a2 : (50 : Nat) = 81 := hl; omega)).trans (f81_g1_3 l hl)
  refine x_aload_n dX9_init_22 rfl ?_
  refine x_sipush (v := 240) dX9_init_23 (by decide) ?_
  refine x_newarray (53, 0, 0) (t := 0) (n := 240) (N := 240) dX9_init_26 rfl wd124 (f53_g1_4 _ ⟨(show (53 : Nat) = 53 by omega), (show (0 : Int) = 0 ∧ (0 : Int) = 0 from ⟨rfl, rfl⟩)⟩) (show (53 : Nat) ≠ 99 by decide) rfl (by decide) (by omega) (by omega) ?_
  refine x_hg (fun g1_5 eg1_5 => ?_)
  have f54_g1_5 : ∀ l : XL, ((l.1 = 54) ∧ dzz l) → g1_5 l = none := by rw [eg1_5]; exact fun l hl => (xu_o (fun z => (fun z => by have z0 : (53 : Nat) = 54 := z.1; omega) (by rw [z] at hl; exact hl))).trans (f54_g1_4 l hl)
  have f55_g1_5 : ∀ l : XL, ((l.1 = 55) ∧ dzz l) → g1_5 l = none := by rw [eg1_5]; exact fun l hl => (xu_o (fun z => (fun z => by have z0 : (53 : Nat) = 55 := z.1; omega) (by rw [z] at hl; exact hl))).trans (f55_g1_4 l hl)
  have f56_g1_5 : ∀ l : XL, ((l.1 = 56) ∧ dzz l) → g1_5 l = none := by rw [eg1_5]; exact fun l hl => (xu_o (fun z => (fun z => by have z0 : (53 : Nat) = 56 := z.1; omega) (by rw [z] at hl; exact hl))).trans (f56_g1_4 l hl)
  have f57_g1_5 : ∀ l : XL, ((l.1 = 57) ∧ dzz l) → g1_5 l = none := by rw [eg1_5]; exact fun l hl => (xu_o (fun z => (fun z => by have z0 : (53 : Nat) = 57 := z.1; omega) (by rw [z] at hl; exact hl))).trans (f57_g1_4 l hl)
  have f58_g1_5 : ∀ l : XL, ((l.1 = 58) ∧ dzz l) → g1_5 l = none := by rw [eg1_5]; exact fun l hl => (xu_o (fun z => (fun z => by have z0 : (53 : Nat) = 58 := z.1; omega) (by rw [z] at hl; exact hl))).trans (f58_g1_4 l hl)
  have f59_g1_5 : ∀ l : XL, ((l.1 = 59) ∧ dzz l) → g1_5 l = none := by rw [eg1_5]; exact fun l hl => (xu_o (fun z => (fun z => by have z0 : (53 : Nat) = 59 := z.1; omega) (by rw [z] at hl; exact hl))).trans (f59_g1_4 l hl)
  have f60_g1_5 : ∀ l : XL, ((l.1 = 60) ∧ dzz l) → g1_5 l = none := by rw [eg1_5]; exact fun l hl => (xu_o (fun z => (fun z => by have z0 : (53 : Nat) = 60 := z.1; omega) (by rw [z] at hl; exact hl))).trans (f60_g1_4 l hl)
  have f61_g1_5 : ∀ l : XL, ((l.1 = 61) ∧ dzz l) → g1_5 l = none := by rw [eg1_5]; exact fun l hl => (xu_o (fun z => (fun z => by have z0 : (53 : Nat) = 61 := z.1; omega) (by rw [z] at hl; exact hl))).trans (f61_g1_4 l hl)
  have f62_g1_5 : ∀ l : XL, ((l.1 = 62) ∧ dzz l) → g1_5 l = none := by rw [eg1_5]; exact fun l hl => (xu_o (fun z => (fun z => by have z0 : (53 : Nat) = 62 := z.1; omega) (by rw [z] at hl; exact hl))).trans (f62_g1_4 l hl)
  have f63_g1_5 : ∀ l : XL, ((l.1 = 63) ∧ dzz l) → g1_5 l = none := by rw [eg1_5]; exact fun l hl => (xu_o (fun z => (fun z => by have z0 : (53 : Nat) = 63 := z.1; omega) (by rw [z] at hl; exact hl))).trans (f63_g1_4 l hl)
  have f64_g1_5 : ∀ l : XL, ((l.1 = 64) ∧ dzz l) → g1_5 l = none := by rw [eg1_5]; exact fun l hl => (xu_o (fun z => (fun z => by have z0 : (53 : Nat) = 64 := z.1; omega) (by rw [z] at hl; exact hl))).trans (f64_g1_4 l hl)
  have f65_g1_5 : ∀ l : XL, ((l.1 = 65) ∧ dzz l) → g1_5 l = none := by rw [eg1_5]; exact fun l hl => (xu_o (fun z => (fun z => by have z0 : (53 : Nat) = 65 := z.1; omega) (by rw [z] at hl; exact hl))).trans (f65_g1_4 l hl)
  have f66_g1_5 : ∀ l : XL, ((l.1 = 66) ∧ dzz l) → g1_5 l = none := by rw [eg1_5]; exact fun l hl => (xu_o (fun z => (fun z => by have z0 : (53 : Nat) = 66 := z.1; omega) (by rw [z] at hl; exact hl))).trans (f66_g1_4 l hl)
  have f67_g1_5 : ∀ l : XL, ((l.1 = 67) ∧ dzz l) → g1_5 l = none := by rw [eg1_5]; exact fun l hl => (xu_o (fun z => (fun z => by have z0 : (53 : Nat) = 67 := z.1; omega) (by rw [z] at hl; exact hl))).trans (f67_g1_4 l hl)
  have f68_g1_5 : ∀ l : XL, ((l.1 = 68) ∧ dzz l) → g1_5 l = none := by rw [eg1_5]; exact fun l hl => (xu_o (fun z => (fun z => by have z0 : (53 : Nat) = 68 := z.1; omega) (by rw [z] at hl; exact hl))).trans (f68_g1_4 l hl)
  have f69_g1_5 : ∀ l : XL, ((l.1 = 69) ∧ dzz l) → g1_5 l = none := by rw [eg1_5]; exact fun l hl => (xu_o (fun z => (fun z => by have z0 : (53 : Nat) = 69 := z.1; omega) (by rw [z] at hl; exact hl))).trans (f69_g1_4 l hl)
  have f80_g1_5 : ∀ l : XL, ((l.1 = 80) ∧ dzz l) → g1_5 l = none := by rw [eg1_5]; exact fun l hl => (xu_o (fun z => (fun z => by have z0 : (53 : Nat) = 80 := z.1; omega) (by rw [z] at hl; exact hl))).trans (f80_g1_4 l hl)
  have f70_g1_5 : ∀ l : XL, ((l.1 = 70) ∧ dzz l) → g1_5 l = none := by rw [eg1_5]; exact fun l hl => (xu_o (fun z => (fun z => by have z0 : (53 : Nat) = 70 := z.1; omega) (by rw [z] at hl; exact hl))).trans (f70_g1_4 l hl)
  have f71_g1_5 : ∀ l : XL, ((l.1 = 71) ∧ dzz l) → g1_5 l = none := by rw [eg1_5]; exact fun l hl => (xu_o (fun z => (fun z => by have z0 : (53 : Nat) = 71 := z.1; omega) (by rw [z] at hl; exact hl))).trans (f71_g1_4 l hl)
  have f72_g1_5 : ∀ l : XL, ((l.1 = 72) ∧ dzz l) → g1_5 l = none := by rw [eg1_5]; exact fun l hl => (xu_o (fun z => (fun z => by have z0 : (53 : Nat) = 72 := z.1; omega) (by rw [z] at hl; exact hl))).trans (f72_g1_4 l hl)
  have f73_g1_5 : ∀ l : XL, ((l.1 = 73) ∧ dzz l) → g1_5 l = none := by rw [eg1_5]; exact fun l hl => (xu_o (fun z => (fun z => by have z0 : (53 : Nat) = 73 := z.1; omega) (by rw [z] at hl; exact hl))).trans (f73_g1_4 l hl)
  have f74_g1_5 : ∀ l : XL, ((l.1 = 74) ∧ dzz l) → g1_5 l = none := by rw [eg1_5]; exact fun l hl => (xu_o (fun z => (fun z => by have z0 : (53 : Nat) = 74 := z.1; omega) (by rw [z] at hl; exact hl))).trans (f74_g1_4 l hl)
  have f75_g1_5 : ∀ l : XL, ((l.1 = 75) ∧ dzz l) → g1_5 l = none := by rw [eg1_5]; exact fun l hl => (xu_o (fun z => (fun z => by have z0 : (53 : Nat) = 75 := z.1; omega) (by rw [z] at hl; exact hl))).trans (f75_g1_4 l hl)
  have fr_g1_5 : ∀ l : XL, ¬ (((50 ≤ l.1 ∧ l.1 ≤ 75) ∨ l.1 = 80 ∨ l.1 = 81) ∧ dzz l) → g1_5 l = g0 l := by rw [eg1_5]; exact fun l hl => (xu_o (fun z => hl (by rw [z]; exact ⟨(show (50 ≤ (53 : Nat) ∧ (53 : Nat) ≤ 75) ∨ (53 : Nat) = 80 ∨ (53 : Nat) = 81 by omega), (show (0 : Int) = 0 ∧ (0 : Int) = 0 from ⟨rfl, rfl⟩)⟩))).trans (fr_g1_4 l hl)
  have v51_g1_5 : g1_5 (51, 0, 0) = some (.inr (3, 240, xZero 3)) := by rw [eg1_5]; exact (xu_o (nK (by decide) _ _ _ _)).trans v51_g1_4
  have v52_g1_5 : g1_5 (52, 0, 0) = some (.inr (0, 240, xZero 0)) := by rw [eg1_5]; exact (xu_o (nK (by decide) _ _ _ _)).trans v52_g1_4
  have v50_g1_5 : g1_5 (50, 0, 0) = some (.inl (9, [xR (51, 0, 0), xR (52, 0, 0), xN, xN, xN, xN, xN, xN, xN, xN, xN, xI 0, xI 0, xI 0, xN, xN, xN, xN, xN, xN, xN, xN, xN, xN, xI 0, xI 0, xN, xN, xN, xN, xN])) := by rw [eg1_5]; exact (xu_o (nK (by decide) _ _ _ _)).trans v50_g1_4
  have v53_g1_5 : g1_5 (53, 0, 0) = some (.inr (0, 240, xZero 0)) := by rw [eg1_5]; exact xu_at
  have f81_g1_5 : ∀ l : XL, l.1 = 81 → g1_5 l = none := by rw [eg1_5]; exact fun l hl => (xu_o (fun z => by rw [z] at hl; have a2 : (53 : Nat) = 81 := hl; omega)).trans (f81_g1_4 l hl)
  refine x_putF dX9_init_28 fl_RX9_17 (fun r hr => by cases hr; exact ⟨rfl, rfl⟩) v50_g1_5 xfit_a (Nat.le_of_ble_eq_true rfl) rfl rfl ?_
  refine x_hg (fun g1_6 eg1_6 => ?_)
  have f54_g1_6 : ∀ l : XL, ((l.1 = 54) ∧ dzz l) → g1_6 l = none := by rw [eg1_6]; exact fun l hl => (xu_o (fun z => (fun z => by have z0 : (50 : Nat) = 54 := z.1; omega) (by rw [z] at hl; exact hl))).trans (f54_g1_5 l hl)
  have f55_g1_6 : ∀ l : XL, ((l.1 = 55) ∧ dzz l) → g1_6 l = none := by rw [eg1_6]; exact fun l hl => (xu_o (fun z => (fun z => by have z0 : (50 : Nat) = 55 := z.1; omega) (by rw [z] at hl; exact hl))).trans (f55_g1_5 l hl)
  have f56_g1_6 : ∀ l : XL, ((l.1 = 56) ∧ dzz l) → g1_6 l = none := by rw [eg1_6]; exact fun l hl => (xu_o (fun z => (fun z => by have z0 : (50 : Nat) = 56 := z.1; omega) (by rw [z] at hl; exact hl))).trans (f56_g1_5 l hl)
  have f57_g1_6 : ∀ l : XL, ((l.1 = 57) ∧ dzz l) → g1_6 l = none := by rw [eg1_6]; exact fun l hl => (xu_o (fun z => (fun z => by have z0 : (50 : Nat) = 57 := z.1; omega) (by rw [z] at hl; exact hl))).trans (f57_g1_5 l hl)
  have f58_g1_6 : ∀ l : XL, ((l.1 = 58) ∧ dzz l) → g1_6 l = none := by rw [eg1_6]; exact fun l hl => (xu_o (fun z => (fun z => by have z0 : (50 : Nat) = 58 := z.1; omega) (by rw [z] at hl; exact hl))).trans (f58_g1_5 l hl)
  have f59_g1_6 : ∀ l : XL, ((l.1 = 59) ∧ dzz l) → g1_6 l = none := by rw [eg1_6]; exact fun l hl => (xu_o (fun z => (fun z => by have z0 : (50 : Nat) = 59 := z.1; omega) (by rw [z] at hl; exact hl))).trans (f59_g1_5 l hl)
  have f60_g1_6 : ∀ l : XL, ((l.1 = 60) ∧ dzz l) → g1_6 l = none := by rw [eg1_6]; exact fun l hl => (xu_o (fun z => (fun z => by have z0 : (50 : Nat) = 60 := z.1; omega) (by rw [z] at hl; exact hl))).trans (f60_g1_5 l hl)
  have f61_g1_6 : ∀ l : XL, ((l.1 = 61) ∧ dzz l) → g1_6 l = none := by rw [eg1_6]; exact fun l hl => (xu_o (fun z => (fun z => by have z0 : (50 : Nat) = 61 := z.1; omega) (by rw [z] at hl; exact hl))).trans (f61_g1_5 l hl)
  have f62_g1_6 : ∀ l : XL, ((l.1 = 62) ∧ dzz l) → g1_6 l = none := by rw [eg1_6]; exact fun l hl => (xu_o (fun z => (fun z => by have z0 : (50 : Nat) = 62 := z.1; omega) (by rw [z] at hl; exact hl))).trans (f62_g1_5 l hl)
  have f63_g1_6 : ∀ l : XL, ((l.1 = 63) ∧ dzz l) → g1_6 l = none := by rw [eg1_6]; exact fun l hl => (xu_o (fun z => (fun z => by have z0 : (50 : Nat) = 63 := z.1; omega) (by rw [z] at hl; exact hl))).trans (f63_g1_5 l hl)
  have f64_g1_6 : ∀ l : XL, ((l.1 = 64) ∧ dzz l) → g1_6 l = none := by rw [eg1_6]; exact fun l hl => (xu_o (fun z => (fun z => by have z0 : (50 : Nat) = 64 := z.1; omega) (by rw [z] at hl; exact hl))).trans (f64_g1_5 l hl)
  have f65_g1_6 : ∀ l : XL, ((l.1 = 65) ∧ dzz l) → g1_6 l = none := by rw [eg1_6]; exact fun l hl => (xu_o (fun z => (fun z => by have z0 : (50 : Nat) = 65 := z.1; omega) (by rw [z] at hl; exact hl))).trans (f65_g1_5 l hl)
  have f66_g1_6 : ∀ l : XL, ((l.1 = 66) ∧ dzz l) → g1_6 l = none := by rw [eg1_6]; exact fun l hl => (xu_o (fun z => (fun z => by have z0 : (50 : Nat) = 66 := z.1; omega) (by rw [z] at hl; exact hl))).trans (f66_g1_5 l hl)
  have f67_g1_6 : ∀ l : XL, ((l.1 = 67) ∧ dzz l) → g1_6 l = none := by rw [eg1_6]; exact fun l hl => (xu_o (fun z => (fun z => by have z0 : (50 : Nat) = 67 := z.1; omega) (by rw [z] at hl; exact hl))).trans (f67_g1_5 l hl)
  have f68_g1_6 : ∀ l : XL, ((l.1 = 68) ∧ dzz l) → g1_6 l = none := by rw [eg1_6]; exact fun l hl => (xu_o (fun z => (fun z => by have z0 : (50 : Nat) = 68 := z.1; omega) (by rw [z] at hl; exact hl))).trans (f68_g1_5 l hl)
  have f69_g1_6 : ∀ l : XL, ((l.1 = 69) ∧ dzz l) → g1_6 l = none := by rw [eg1_6]; exact fun l hl => (xu_o (fun z => (fun z => by have z0 : (50 : Nat) = 69 := z.1; omega) (by rw [z] at hl; exact hl))).trans (f69_g1_5 l hl)
  have f80_g1_6 : ∀ l : XL, ((l.1 = 80) ∧ dzz l) → g1_6 l = none := by rw [eg1_6]; exact fun l hl => (xu_o (fun z => (fun z => by have z0 : (50 : Nat) = 80 := z.1; omega) (by rw [z] at hl; exact hl))).trans (f80_g1_5 l hl)
  have f70_g1_6 : ∀ l : XL, ((l.1 = 70) ∧ dzz l) → g1_6 l = none := by rw [eg1_6]; exact fun l hl => (xu_o (fun z => (fun z => by have z0 : (50 : Nat) = 70 := z.1; omega) (by rw [z] at hl; exact hl))).trans (f70_g1_5 l hl)
  have f71_g1_6 : ∀ l : XL, ((l.1 = 71) ∧ dzz l) → g1_6 l = none := by rw [eg1_6]; exact fun l hl => (xu_o (fun z => (fun z => by have z0 : (50 : Nat) = 71 := z.1; omega) (by rw [z] at hl; exact hl))).trans (f71_g1_5 l hl)
  have f72_g1_6 : ∀ l : XL, ((l.1 = 72) ∧ dzz l) → g1_6 l = none := by rw [eg1_6]; exact fun l hl => (xu_o (fun z => (fun z => by have z0 : (50 : Nat) = 72 := z.1; omega) (by rw [z] at hl; exact hl))).trans (f72_g1_5 l hl)
  have f73_g1_6 : ∀ l : XL, ((l.1 = 73) ∧ dzz l) → g1_6 l = none := by rw [eg1_6]; exact fun l hl => (xu_o (fun z => (fun z => by have z0 : (50 : Nat) = 73 := z.1; omega) (by rw [z] at hl; exact hl))).trans (f73_g1_5 l hl)
  have f74_g1_6 : ∀ l : XL, ((l.1 = 74) ∧ dzz l) → g1_6 l = none := by rw [eg1_6]; exact fun l hl => (xu_o (fun z => (fun z => by have z0 : (50 : Nat) = 74 := z.1; omega) (by rw [z] at hl; exact hl))).trans (f74_g1_5 l hl)
  have f75_g1_6 : ∀ l : XL, ((l.1 = 75) ∧ dzz l) → g1_6 l = none := by rw [eg1_6]; exact fun l hl => (xu_o (fun z => (fun z => by have z0 : (50 : Nat) = 75 := z.1; omega) (by rw [z] at hl; exact hl))).trans (f75_g1_5 l hl)
  have fr_g1_6 : ∀ l : XL, ¬ (((50 ≤ l.1 ∧ l.1 ≤ 75) ∨ l.1 = 80 ∨ l.1 = 81) ∧ dzz l) → g1_6 l = g0 l := by rw [eg1_6]; exact fun l hl => (xu_o (fun z => hl (by rw [z]; exact ⟨(show (50 ≤ (50 : Nat) ∧ (50 : Nat) ≤ 75) ∨ (50 : Nat) = 80 ∨ (50 : Nat) = 81 by omega), (show (0 : Int) = 0 ∧ (0 : Int) = 0 from ⟨rfl, rfl⟩)⟩))).trans (fr_g1_5 l hl)
  have v51_g1_6 : g1_6 (51, 0, 0) = some (.inr (3, 240, xZero 3)) := by rw [eg1_6]; exact (xu_o (nK (by decide) _ _ _ _)).trans v51_g1_5
  have v52_g1_6 : g1_6 (52, 0, 0) = some (.inr (0, 240, xZero 0)) := by rw [eg1_6]; exact (xu_o (nK (by decide) _ _ _ _)).trans v52_g1_5
  have v53_g1_6 : g1_6 (53, 0, 0) = some (.inr (0, 240, xZero 0)) := by rw [eg1_6]; exact (xu_o (nK (by decide) _ _ _ _)).trans v53_g1_5
  have v50_g1_6 : g1_6 (50, 0, 0) = some (.inl (9, [xR (51, 0, 0), xR (52, 0, 0), xR (53, 0, 0), xN, xN, xN, xN, xN, xN, xN, xN, xI 0, xI 0, xI 0, xN, xN, xN, xN, xN, xN, xN, xN, xN, xN, xI 0, xI 0, xN, xN, xN, xN, xN])) := by rw [eg1_6]; exact xu_at
  have f81_g1_6 : ∀ l : XL, l.1 = 81 → g1_6 l = none := by rw [eg1_6]; exact fun l hl => (xu_o (fun z => by rw [z] at hl; have a2 : (50 : Nat) = 81 := hl; omega)).trans (f81_g1_5 l hl)
  refine x_aload_n dX9_init_31 rfl ?_
  refine x_sipush (v := 240) dX9_init_32 (by decide) ?_
  refine x_newarray (54, 0, 0) (t := 0) (n := 240) (N := 240) dX9_init_35 rfl wd124 (f54_g1_6 _ ⟨(show (54 : Nat) = 54 by omega), (show (0 : Int) = 0 ∧ (0 : Int) = 0 from ⟨rfl, rfl⟩)⟩) (show (54 : Nat) ≠ 99 by decide) rfl (by decide) (by omega) (by omega) ?_
  refine x_hg (fun g1_7 eg1_7 => ?_)
  have f55_g1_7 : ∀ l : XL, ((l.1 = 55) ∧ dzz l) → g1_7 l = none := by rw [eg1_7]; exact fun l hl => (xu_o (fun z => (fun z => by have z0 : (54 : Nat) = 55 := z.1; omega) (by rw [z] at hl; exact hl))).trans (f55_g1_6 l hl)
  have f56_g1_7 : ∀ l : XL, ((l.1 = 56) ∧ dzz l) → g1_7 l = none := by rw [eg1_7]; exact fun l hl => (xu_o (fun z => (fun z => by have z0 : (54 : Nat) = 56 := z.1; omega) (by rw [z] at hl; exact hl))).trans (f56_g1_6 l hl)
  have f57_g1_7 : ∀ l : XL, ((l.1 = 57) ∧ dzz l) → g1_7 l = none := by rw [eg1_7]; exact fun l hl => (xu_o (fun z => (fun z => by have z0 : (54 : Nat) = 57 := z.1; omega) (by rw [z] at hl; exact hl))).trans (f57_g1_6 l hl)
  have f58_g1_7 : ∀ l : XL, ((l.1 = 58) ∧ dzz l) → g1_7 l = none := by rw [eg1_7]; exact fun l hl => (xu_o (fun z => (fun z => by have z0 : (54 : Nat) = 58 := z.1; omega) (by rw [z] at hl; exact hl))).trans (f58_g1_6 l hl)
  have f59_g1_7 : ∀ l : XL, ((l.1 = 59) ∧ dzz l) → g1_7 l = none := by rw [eg1_7]; exact fun l hl => (xu_o (fun z => (fun z => by have z0 : (54 : Nat) = 59 := z.1; omega) (by rw [z] at hl; exact hl))).trans (f59_g1_6 l hl)
  have f60_g1_7 : ∀ l : XL, ((l.1 = 60) ∧ dzz l) → g1_7 l = none := by rw [eg1_7]; exact fun l hl => (xu_o (fun z => (fun z => by have z0 : (54 : Nat) = 60 := z.1; omega) (by rw [z] at hl; exact hl))).trans (f60_g1_6 l hl)
  have f61_g1_7 : ∀ l : XL, ((l.1 = 61) ∧ dzz l) → g1_7 l = none := by rw [eg1_7]; exact fun l hl => (xu_o (fun z => (fun z => by have z0 : (54 : Nat) = 61 := z.1; omega) (by rw [z] at hl; exact hl))).trans (f61_g1_6 l hl)
  have f62_g1_7 : ∀ l : XL, ((l.1 = 62) ∧ dzz l) → g1_7 l = none := by rw [eg1_7]; exact fun l hl => (xu_o (fun z => (fun z => by have z0 : (54 : Nat) = 62 := z.1; omega) (by rw [z] at hl; exact hl))).trans (f62_g1_6 l hl)
  have f63_g1_7 : ∀ l : XL, ((l.1 = 63) ∧ dzz l) → g1_7 l = none := by rw [eg1_7]; exact fun l hl => (xu_o (fun z => (fun z => by have z0 : (54 : Nat) = 63 := z.1; omega) (by rw [z] at hl; exact hl))).trans (f63_g1_6 l hl)
  have f64_g1_7 : ∀ l : XL, ((l.1 = 64) ∧ dzz l) → g1_7 l = none := by rw [eg1_7]; exact fun l hl => (xu_o (fun z => (fun z => by have z0 : (54 : Nat) = 64 := z.1; omega) (by rw [z] at hl; exact hl))).trans (f64_g1_6 l hl)
  have f65_g1_7 : ∀ l : XL, ((l.1 = 65) ∧ dzz l) → g1_7 l = none := by rw [eg1_7]; exact fun l hl => (xu_o (fun z => (fun z => by have z0 : (54 : Nat) = 65 := z.1; omega) (by rw [z] at hl; exact hl))).trans (f65_g1_6 l hl)
  have f66_g1_7 : ∀ l : XL, ((l.1 = 66) ∧ dzz l) → g1_7 l = none := by rw [eg1_7]; exact fun l hl => (xu_o (fun z => (fun z => by have z0 : (54 : Nat) = 66 := z.1; omega) (by rw [z] at hl; exact hl))).trans (f66_g1_6 l hl)
  have f67_g1_7 : ∀ l : XL, ((l.1 = 67) ∧ dzz l) → g1_7 l = none := by rw [eg1_7]; exact fun l hl => (xu_o (fun z => (fun z => by have z0 : (54 : Nat) = 67 := z.1; omega) (by rw [z] at hl; exact hl))).trans (f67_g1_6 l hl)
  have f68_g1_7 : ∀ l : XL, ((l.1 = 68) ∧ dzz l) → g1_7 l = none := by rw [eg1_7]; exact fun l hl => (xu_o (fun z => (fun z => by have z0 : (54 : Nat) = 68 := z.1; omega) (by rw [z] at hl; exact hl))).trans (f68_g1_6 l hl)
  have f69_g1_7 : ∀ l : XL, ((l.1 = 69) ∧ dzz l) → g1_7 l = none := by rw [eg1_7]; exact fun l hl => (xu_o (fun z => (fun z => by have z0 : (54 : Nat) = 69 := z.1; omega) (by rw [z] at hl; exact hl))).trans (f69_g1_6 l hl)
  have f80_g1_7 : ∀ l : XL, ((l.1 = 80) ∧ dzz l) → g1_7 l = none := by rw [eg1_7]; exact fun l hl => (xu_o (fun z => (fun z => by have z0 : (54 : Nat) = 80 := z.1; omega) (by rw [z] at hl; exact hl))).trans (f80_g1_6 l hl)
  have f70_g1_7 : ∀ l : XL, ((l.1 = 70) ∧ dzz l) → g1_7 l = none := by rw [eg1_7]; exact fun l hl => (xu_o (fun z => (fun z => by have z0 : (54 : Nat) = 70 := z.1; omega) (by rw [z] at hl; exact hl))).trans (f70_g1_6 l hl)
  have f71_g1_7 : ∀ l : XL, ((l.1 = 71) ∧ dzz l) → g1_7 l = none := by rw [eg1_7]; exact fun l hl => (xu_o (fun z => (fun z => by have z0 : (54 : Nat) = 71 := z.1; omega) (by rw [z] at hl; exact hl))).trans (f71_g1_6 l hl)
  have f72_g1_7 : ∀ l : XL, ((l.1 = 72) ∧ dzz l) → g1_7 l = none := by rw [eg1_7]; exact fun l hl => (xu_o (fun z => (fun z => by have z0 : (54 : Nat) = 72 := z.1; omega) (by rw [z] at hl; exact hl))).trans (f72_g1_6 l hl)
  have f73_g1_7 : ∀ l : XL, ((l.1 = 73) ∧ dzz l) → g1_7 l = none := by rw [eg1_7]; exact fun l hl => (xu_o (fun z => (fun z => by have z0 : (54 : Nat) = 73 := z.1; omega) (by rw [z] at hl; exact hl))).trans (f73_g1_6 l hl)
  have f74_g1_7 : ∀ l : XL, ((l.1 = 74) ∧ dzz l) → g1_7 l = none := by rw [eg1_7]; exact fun l hl => (xu_o (fun z => (fun z => by have z0 : (54 : Nat) = 74 := z.1; omega) (by rw [z] at hl; exact hl))).trans (f74_g1_6 l hl)
  have f75_g1_7 : ∀ l : XL, ((l.1 = 75) ∧ dzz l) → g1_7 l = none := by rw [eg1_7]; exact fun l hl => (xu_o (fun z => (fun z => by have z0 : (54 : Nat) = 75 := z.1; omega) (by rw [z] at hl; exact hl))).trans (f75_g1_6 l hl)
  have fr_g1_7 : ∀ l : XL, ¬ (((50 ≤ l.1 ∧ l.1 ≤ 75) ∨ l.1 = 80 ∨ l.1 = 81) ∧ dzz l) → g1_7 l = g0 l := by rw [eg1_7]; exact fun l hl => (xu_o (fun z => hl (by rw [z]; exact ⟨(show (50 ≤ (54 : Nat) ∧ (54 : Nat) ≤ 75) ∨ (54 : Nat) = 80 ∨ (54 : Nat) = 81 by omega), (show (0 : Int) = 0 ∧ (0 : Int) = 0 from ⟨rfl, rfl⟩)⟩))).trans (fr_g1_6 l hl)
  have v51_g1_7 : g1_7 (51, 0, 0) = some (.inr (3, 240, xZero 3)) := by rw [eg1_7]; exact (xu_o (nK (by decide) _ _ _ _)).trans v51_g1_6
  have v52_g1_7 : g1_7 (52, 0, 0) = some (.inr (0, 240, xZero 0)) := by rw [eg1_7]; exact (xu_o (nK (by decide) _ _ _ _)).trans v52_g1_6
  have v53_g1_7 : g1_7 (53, 0, 0) = some (.inr (0, 240, xZero 0)) := by rw [eg1_7]; exact (xu_o (nK (by decide) _ _ _ _)).trans v53_g1_6
  have v50_g1_7 : g1_7 (50, 0, 0) = some (.inl (9, [xR (51, 0, 0), xR (52, 0, 0), xR (53, 0, 0), xN, xN, xN, xN, xN, xN, xN, xN, xI 0, xI 0, xI 0, xN, xN, xN, xN, xN, xN, xN, xN, xN, xN, xI 0, xI 0, xN, xN, xN, xN, xN])) := by rw [eg1_7]; exact (xu_o (nK (by decide) _ _ _ _)).trans v50_g1_6
  have v54_g1_7 : g1_7 (54, 0, 0) = some (.inr (0, 240, xZero 0)) := by rw [eg1_7]; exact xu_at
  have f81_g1_7 : ∀ l : XL, l.1 = 81 → g1_7 l = none := by rw [eg1_7]; exact fun l hl => (xu_o (fun z => by rw [z] at hl; have a2 : (54 : Nat) = 81 := hl; omega)).trans (f81_g1_6 l hl)
  refine x_putF dX9_init_37 fl_RX9_20 (fun r hr => by cases hr; exact ⟨rfl, rfl⟩) v50_g1_7 xfit_a (Nat.le_of_ble_eq_true rfl) rfl rfl ?_
  refine x_hg (fun g1_8 eg1_8 => ?_)
  have f55_g1_8 : ∀ l : XL, ((l.1 = 55) ∧ dzz l) → g1_8 l = none := by rw [eg1_8]; exact fun l hl => (xu_o (fun z => (fun z => by have z0 : (50 : Nat) = 55 := z.1; omega) (by rw [z] at hl; exact hl))).trans (f55_g1_7 l hl)
  have f56_g1_8 : ∀ l : XL, ((l.1 = 56) ∧ dzz l) → g1_8 l = none := by rw [eg1_8]; exact fun l hl => (xu_o (fun z => (fun z => by have z0 : (50 : Nat) = 56 := z.1; omega) (by rw [z] at hl; exact hl))).trans (f56_g1_7 l hl)
  have f57_g1_8 : ∀ l : XL, ((l.1 = 57) ∧ dzz l) → g1_8 l = none := by rw [eg1_8]; exact fun l hl => (xu_o (fun z => (fun z => by have z0 : (50 : Nat) = 57 := z.1; omega) (by rw [z] at hl; exact hl))).trans (f57_g1_7 l hl)
  have f58_g1_8 : ∀ l : XL, ((l.1 = 58) ∧ dzz l) → g1_8 l = none := by rw [eg1_8]; exact fun l hl => (xu_o (fun z => (fun z => by have z0 : (50 : Nat) = 58 := z.1; omega) (by rw [z] at hl; exact hl))).trans (f58_g1_7 l hl)
  have f59_g1_8 : ∀ l : XL, ((l.1 = 59) ∧ dzz l) → g1_8 l = none := by rw [eg1_8]; exact fun l hl => (xu_o (fun z => (fun z => by have z0 : (50 : Nat) = 59 := z.1; omega) (by rw [z] at hl; exact hl))).trans (f59_g1_7 l hl)
  have f60_g1_8 : ∀ l : XL, ((l.1 = 60) ∧ dzz l) → g1_8 l = none := by rw [eg1_8]; exact fun l hl => (xu_o (fun z => (fun z => by have z0 : (50 : Nat) = 60 := z.1; omega) (by rw [z] at hl; exact hl))).trans (f60_g1_7 l hl)
  have f61_g1_8 : ∀ l : XL, ((l.1 = 61) ∧ dzz l) → g1_8 l = none := by rw [eg1_8]; exact fun l hl => (xu_o (fun z => (fun z => by have z0 : (50 : Nat) = 61 := z.1; omega) (by rw [z] at hl; exact hl))).trans (f61_g1_7 l hl)
  have f62_g1_8 : ∀ l : XL, ((l.1 = 62) ∧ dzz l) → g1_8 l = none := by rw [eg1_8]; exact fun l hl => (xu_o (fun z => (fun z => by have z0 : (50 : Nat) = 62 := z.1; omega) (by rw [z] at hl; exact hl))).trans (f62_g1_7 l hl)
  have f63_g1_8 : ∀ l : XL, ((l.1 = 63) ∧ dzz l) → g1_8 l = none := by rw [eg1_8]; exact fun l hl => (xu_o (fun z => (fun z => by have z0 : (50 : Nat) = 63 := z.1; omega) (by rw [z] at hl; exact hl))).trans (f63_g1_7 l hl)
  have f64_g1_8 : ∀ l : XL, ((l.1 = 64) ∧ dzz l) → g1_8 l = none := by rw [eg1_8]; exact fun l hl => (xu_o (fun z => (fun z => by have z0 : (50 : Nat) = 64 := z.1; omega) (by rw [z] at hl; exact hl))).trans (f64_g1_7 l hl)
  have f65_g1_8 : ∀ l : XL, ((l.1 = 65) ∧ dzz l) → g1_8 l = none := by rw [eg1_8]; exact fun l hl => (xu_o (fun z => (fun z => by have z0 : (50 : Nat) = 65 := z.1; omega) (by rw [z] at hl; exact hl))).trans (f65_g1_7 l hl)
  have f66_g1_8 : ∀ l : XL, ((l.1 = 66) ∧ dzz l) → g1_8 l = none := by rw [eg1_8]; exact fun l hl => (xu_o (fun z => (fun z => by have z0 : (50 : Nat) = 66 := z.1; omega) (by rw [z] at hl; exact hl))).trans (f66_g1_7 l hl)
  have f67_g1_8 : ∀ l : XL, ((l.1 = 67) ∧ dzz l) → g1_8 l = none := by rw [eg1_8]; exact fun l hl => (xu_o (fun z => (fun z => by have z0 : (50 : Nat) = 67 := z.1; omega) (by rw [z] at hl; exact hl))).trans (f67_g1_7 l hl)
  have f68_g1_8 : ∀ l : XL, ((l.1 = 68) ∧ dzz l) → g1_8 l = none := by rw [eg1_8]; exact fun l hl => (xu_o (fun z => (fun z => by have z0 : (50 : Nat) = 68 := z.1; omega) (by rw [z] at hl; exact hl))).trans (f68_g1_7 l hl)
  have f69_g1_8 : ∀ l : XL, ((l.1 = 69) ∧ dzz l) → g1_8 l = none := by rw [eg1_8]; exact fun l hl => (xu_o (fun z => (fun z => by have z0 : (50 : Nat) = 69 := z.1; omega) (by rw [z] at hl; exact hl))).trans (f69_g1_7 l hl)
  have f80_g1_8 : ∀ l : XL, ((l.1 = 80) ∧ dzz l) → g1_8 l = none := by rw [eg1_8]; exact fun l hl => (xu_o (fun z => (fun z => by have z0 : (50 : Nat) = 80 := z.1; omega) (by rw [z] at hl; exact hl))).trans (f80_g1_7 l hl)
  have f70_g1_8 : ∀ l : XL, ((l.1 = 70) ∧ dzz l) → g1_8 l = none := by rw [eg1_8]; exact fun l hl => (xu_o (fun z => (fun z => by have z0 : (50 : Nat) = 70 := z.1; omega) (by rw [z] at hl; exact hl))).trans (f70_g1_7 l hl)
  have f71_g1_8 : ∀ l : XL, ((l.1 = 71) ∧ dzz l) → g1_8 l = none := by rw [eg1_8]; exact fun l hl => (xu_o (fun z => (fun z => by have z0 : (50 : Nat) = 71 := z.1; omega) (by rw [z] at hl; exact hl))).trans (f71_g1_7 l hl)
  have f72_g1_8 : ∀ l : XL, ((l.1 = 72) ∧ dzz l) → g1_8 l = none := by rw [eg1_8]; exact fun l hl => (xu_o (fun z => (fun z => by have z0 : (50 : Nat) = 72 := z.1; omega) (by rw [z] at hl; exact hl))).trans (f72_g1_7 l hl)
  have f73_g1_8 : ∀ l : XL, ((l.1 = 73) ∧ dzz l) → g1_8 l = none := by rw [eg1_8]; exact fun l hl => (xu_o (fun z => (fun z => by have z0 : (50 : Nat) = 73 := z.1; omega) (by rw [z] at hl; exact hl))).trans (f73_g1_7 l hl)
  have f74_g1_8 : ∀ l : XL, ((l.1 = 74) ∧ dzz l) → g1_8 l = none := by rw [eg1_8]; exact fun l hl => (xu_o (fun z => (fun z => by have z0 : (50 : Nat) = 74 := z.1; omega) (by rw [z] at hl; exact hl))).trans (f74_g1_7 l hl)
  have f75_g1_8 : ∀ l : XL, ((l.1 = 75) ∧ dzz l) → g1_8 l = none := by rw [eg1_8]; exact fun l hl => (xu_o (fun z => (fun z => by have z0 : (50 : Nat) = 75 := z.1; omega) (by rw [z] at hl; exact hl))).trans (f75_g1_7 l hl)
  have fr_g1_8 : ∀ l : XL, ¬ (((50 ≤ l.1 ∧ l.1 ≤ 75) ∨ l.1 = 80 ∨ l.1 = 81) ∧ dzz l) → g1_8 l = g0 l := by rw [eg1_8]; exact fun l hl => (xu_o (fun z => hl (by rw [z]; exact ⟨(show (50 ≤ (50 : Nat) ∧ (50 : Nat) ≤ 75) ∨ (50 : Nat) = 80 ∨ (50 : Nat) = 81 by omega), (show (0 : Int) = 0 ∧ (0 : Int) = 0 from ⟨rfl, rfl⟩)⟩))).trans (fr_g1_7 l hl)
  have v51_g1_8 : g1_8 (51, 0, 0) = some (.inr (3, 240, xZero 3)) := by rw [eg1_8]; exact (xu_o (nK (by decide) _ _ _ _)).trans v51_g1_7
  have v52_g1_8 : g1_8 (52, 0, 0) = some (.inr (0, 240, xZero 0)) := by rw [eg1_8]; exact (xu_o (nK (by decide) _ _ _ _)).trans v52_g1_7
  have v53_g1_8 : g1_8 (53, 0, 0) = some (.inr (0, 240, xZero 0)) := by rw [eg1_8]; exact (xu_o (nK (by decide) _ _ _ _)).trans v53_g1_7
  have v54_g1_8 : g1_8 (54, 0, 0) = some (.inr (0, 240, xZero 0)) := by rw [eg1_8]; exact (xu_o (nK (by decide) _ _ _ _)).trans v54_g1_7
  have v50_g1_8 : g1_8 (50, 0, 0) = some (.inl (9, [xR (51, 0, 0), xR (52, 0, 0), xR (53, 0, 0), xR (54, 0, 0), xN, xN, xN, xN, xN, xN, xN, xI 0, xI 0, xI 0, xN, xN, xN, xN, xN, xN, xN, xN, xN, xN, xI 0, xI 0, xN, xN, xN, xN, xN])) := by rw [eg1_8]; exact xu_at
  have f81_g1_8 : ∀ l : XL, l.1 = 81 → g1_8 l = none := by rw [eg1_8]; exact fun l hl => (xu_o (fun z => by rw [z] at hl; have a2 : (50 : Nat) = 81 := hl; omega)).trans (f81_g1_7 l hl)
  refine x_aload_n dX9_init_40 rfl ?_
  refine x_sipush (v := 240) dX9_init_41 (by decide) ?_
  refine x_newarray (55, 0, 0) (t := 0) (n := 240) (N := 240) dX9_init_44 rfl wd124 (f55_g1_8 _ ⟨(show (55 : Nat) = 55 by omega), (show (0 : Int) = 0 ∧ (0 : Int) = 0 from ⟨rfl, rfl⟩)⟩) (show (55 : Nat) ≠ 99 by decide) rfl (by decide) (by omega) (by omega) ?_
  refine x_hg (fun g1_9 eg1_9 => ?_)
  have f56_g1_9 : ∀ l : XL, ((l.1 = 56) ∧ dzz l) → g1_9 l = none := by rw [eg1_9]; exact fun l hl => (xu_o (fun z => (fun z => by have z0 : (55 : Nat) = 56 := z.1; omega) (by rw [z] at hl; exact hl))).trans (f56_g1_8 l hl)
  have f57_g1_9 : ∀ l : XL, ((l.1 = 57) ∧ dzz l) → g1_9 l = none := by rw [eg1_9]; exact fun l hl => (xu_o (fun z => (fun z => by have z0 : (55 : Nat) = 57 := z.1; omega) (by rw [z] at hl; exact hl))).trans (f57_g1_8 l hl)
  have f58_g1_9 : ∀ l : XL, ((l.1 = 58) ∧ dzz l) → g1_9 l = none := by rw [eg1_9]; exact fun l hl => (xu_o (fun z => (fun z => by have z0 : (55 : Nat) = 58 := z.1; omega) (by rw [z] at hl; exact hl))).trans (f58_g1_8 l hl)
  have f59_g1_9 : ∀ l : XL, ((l.1 = 59) ∧ dzz l) → g1_9 l = none := by rw [eg1_9]; exact fun l hl => (xu_o (fun z => (fun z => by have z0 : (55 : Nat) = 59 := z.1; omega) (by rw [z] at hl; exact hl))).trans (f59_g1_8 l hl)
  have f60_g1_9 : ∀ l : XL, ((l.1 = 60) ∧ dzz l) → g1_9 l = none := by rw [eg1_9]; exact fun l hl => (xu_o (fun z => (fun z => by have z0 : (55 : Nat) = 60 := z.1; omega) (by rw [z] at hl; exact hl))).trans (f60_g1_8 l hl)
  have f61_g1_9 : ∀ l : XL, ((l.1 = 61) ∧ dzz l) → g1_9 l = none := by rw [eg1_9]; exact fun l hl => (xu_o (fun z => (fun z => by have z0 : (55 : Nat) = 61 := z.1; omega) (by rw [z] at hl; exact hl))).trans (f61_g1_8 l hl)
  have f62_g1_9 : ∀ l : XL, ((l.1 = 62) ∧ dzz l) → g1_9 l = none := by rw [eg1_9]; exact fun l hl => (xu_o (fun z => (fun z => by have z0 : (55 : Nat) = 62 := z.1; omega) (by rw [z] at hl; exact hl))).trans (f62_g1_8 l hl)
  have f63_g1_9 : ∀ l : XL, ((l.1 = 63) ∧ dzz l) → g1_9 l = none := by rw [eg1_9]; exact fun l hl => (xu_o (fun z => (fun z => by have z0 : (55 : Nat) = 63 := z.1; omega) (by rw [z] at hl; exact hl))).trans (f63_g1_8 l hl)
  have f64_g1_9 : ∀ l : XL, ((l.1 = 64) ∧ dzz l) → g1_9 l = none := by rw [eg1_9]; exact fun l hl => (xu_o (fun z => (fun z => by have z0 : (55 : Nat) = 64 := z.1; omega) (by rw [z] at hl; exact hl))).trans (f64_g1_8 l hl)
  have f65_g1_9 : ∀ l : XL, ((l.1 = 65) ∧ dzz l) → g1_9 l = none := by rw [eg1_9]; exact fun l hl => (xu_o (fun z => (fun z => by have z0 : (55 : Nat) = 65 := z.1; omega) (by rw [z] at hl; exact hl))).trans (f65_g1_8 l hl)
  have f66_g1_9 : ∀ l : XL, ((l.1 = 66) ∧ dzz l) → g1_9 l = none := by rw [eg1_9]; exact fun l hl => (xu_o (fun z => (fun z => by have z0 : (55 : Nat) = 66 := z.1; omega) (by rw [z] at hl; exact hl))).trans (f66_g1_8 l hl)
  have f67_g1_9 : ∀ l : XL, ((l.1 = 67) ∧ dzz l) → g1_9 l = none := by rw [eg1_9]; exact fun l hl => (xu_o (fun z => (fun z => by have z0 : (55 : Nat) = 67 := z.1; omega) (by rw [z] at hl; exact hl))).trans (f67_g1_8 l hl)
  have f68_g1_9 : ∀ l : XL, ((l.1 = 68) ∧ dzz l) → g1_9 l = none := by rw [eg1_9]; exact fun l hl => (xu_o (fun z => (fun z => by have z0 : (55 : Nat) = 68 := z.1; omega) (by rw [z] at hl; exact hl))).trans (f68_g1_8 l hl)
  have f69_g1_9 : ∀ l : XL, ((l.1 = 69) ∧ dzz l) → g1_9 l = none := by rw [eg1_9]; exact fun l hl => (xu_o (fun z => (fun z => by have z0 : (55 : Nat) = 69 := z.1; omega) (by rw [z] at hl; exact hl))).trans (f69_g1_8 l hl)
  have f80_g1_9 : ∀ l : XL, ((l.1 = 80) ∧ dzz l) → g1_9 l = none := by rw [eg1_9]; exact fun l hl => (xu_o (fun z => (fun z => by have z0 : (55 : Nat) = 80 := z.1; omega) (by rw [z] at hl; exact hl))).trans (f80_g1_8 l hl)
  have f70_g1_9 : ∀ l : XL, ((l.1 = 70) ∧ dzz l) → g1_9 l = none := by rw [eg1_9]; exact fun l hl => (xu_o (fun z => (fun z => by have z0 : (55 : Nat) = 70 := z.1; omega) (by rw [z] at hl; exact hl))).trans (f70_g1_8 l hl)
  have f71_g1_9 : ∀ l : XL, ((l.1 = 71) ∧ dzz l) → g1_9 l = none := by rw [eg1_9]; exact fun l hl => (xu_o (fun z => (fun z => by have z0 : (55 : Nat) = 71 := z.1; omega) (by rw [z] at hl; exact hl))).trans (f71_g1_8 l hl)
  have f72_g1_9 : ∀ l : XL, ((l.1 = 72) ∧ dzz l) → g1_9 l = none := by rw [eg1_9]; exact fun l hl => (xu_o (fun z => (fun z => by have z0 : (55 : Nat) = 72 := z.1; omega) (by rw [z] at hl; exact hl))).trans (f72_g1_8 l hl)
  have f73_g1_9 : ∀ l : XL, ((l.1 = 73) ∧ dzz l) → g1_9 l = none := by rw [eg1_9]; exact fun l hl => (xu_o (fun z => (fun z => by have z0 : (55 : Nat) = 73 := z.1; omega) (by rw [z] at hl; exact hl))).trans (f73_g1_8 l hl)
  have f74_g1_9 : ∀ l : XL, ((l.1 = 74) ∧ dzz l) → g1_9 l = none := by rw [eg1_9]; exact fun l hl => (xu_o (fun z => (fun z => by have z0 : (55 : Nat) = 74 := z.1; omega) (by rw [z] at hl; exact hl))).trans (f74_g1_8 l hl)
  have f75_g1_9 : ∀ l : XL, ((l.1 = 75) ∧ dzz l) → g1_9 l = none := by rw [eg1_9]; exact fun l hl => (xu_o (fun z => (fun z => by have z0 : (55 : Nat) = 75 := z.1; omega) (by rw [z] at hl; exact hl))).trans (f75_g1_8 l hl)
  have fr_g1_9 : ∀ l : XL, ¬ (((50 ≤ l.1 ∧ l.1 ≤ 75) ∨ l.1 = 80 ∨ l.1 = 81) ∧ dzz l) → g1_9 l = g0 l := by rw [eg1_9]; exact fun l hl => (xu_o (fun z => hl (by rw [z]; exact ⟨(show (50 ≤ (55 : Nat) ∧ (55 : Nat) ≤ 75) ∨ (55 : Nat) = 80 ∨ (55 : Nat) = 81 by omega), (show (0 : Int) = 0 ∧ (0 : Int) = 0 from ⟨rfl, rfl⟩)⟩))).trans (fr_g1_8 l hl)
  have v51_g1_9 : g1_9 (51, 0, 0) = some (.inr (3, 240, xZero 3)) := by rw [eg1_9]; exact (xu_o (nK (by decide) _ _ _ _)).trans v51_g1_8
  have v52_g1_9 : g1_9 (52, 0, 0) = some (.inr (0, 240, xZero 0)) := by rw [eg1_9]; exact (xu_o (nK (by decide) _ _ _ _)).trans v52_g1_8
  have v53_g1_9 : g1_9 (53, 0, 0) = some (.inr (0, 240, xZero 0)) := by rw [eg1_9]; exact (xu_o (nK (by decide) _ _ _ _)).trans v53_g1_8
  have v54_g1_9 : g1_9 (54, 0, 0) = some (.inr (0, 240, xZero 0)) := by rw [eg1_9]; exact (xu_o (nK (by decide) _ _ _ _)).trans v54_g1_8
  have v50_g1_9 : g1_9 (50, 0, 0) = some (.inl (9, [xR (51, 0, 0), xR (52, 0, 0), xR (53, 0, 0), xR (54, 0, 0), xN, xN, xN, xN, xN, xN, xN, xI 0, xI 0, xI 0, xN, xN, xN, xN, xN, xN, xN, xN, xN, xN, xI 0, xI 0, xN, xN, xN, xN, xN])) := by rw [eg1_9]; exact (xu_o (nK (by decide) _ _ _ _)).trans v50_g1_8
  have v55_g1_9 : g1_9 (55, 0, 0) = some (.inr (0, 240, xZero 0)) := by rw [eg1_9]; exact xu_at
  have f81_g1_9 : ∀ l : XL, l.1 = 81 → g1_9 l = none := by rw [eg1_9]; exact fun l hl => (xu_o (fun z => by rw [z] at hl; have a2 : (55 : Nat) = 81 := hl; omega)).trans (f81_g1_8 l hl)
  refine x_putF dX9_init_46 fl_RX9_23 (fun r hr => by cases hr; exact ⟨rfl, rfl⟩) v50_g1_9 xfit_a (Nat.le_of_ble_eq_true rfl) rfl rfl ?_
  refine x_hg (fun g1_10 eg1_10 => ?_)
  have f56_g1_10 : ∀ l : XL, ((l.1 = 56) ∧ dzz l) → g1_10 l = none := by rw [eg1_10]; exact fun l hl => (xu_o (fun z => (fun z => by have z0 : (50 : Nat) = 56 := z.1; omega) (by rw [z] at hl; exact hl))).trans (f56_g1_9 l hl)
  have f57_g1_10 : ∀ l : XL, ((l.1 = 57) ∧ dzz l) → g1_10 l = none := by rw [eg1_10]; exact fun l hl => (xu_o (fun z => (fun z => by have z0 : (50 : Nat) = 57 := z.1; omega) (by rw [z] at hl; exact hl))).trans (f57_g1_9 l hl)
  have f58_g1_10 : ∀ l : XL, ((l.1 = 58) ∧ dzz l) → g1_10 l = none := by rw [eg1_10]; exact fun l hl => (xu_o (fun z => (fun z => by have z0 : (50 : Nat) = 58 := z.1; omega) (by rw [z] at hl; exact hl))).trans (f58_g1_9 l hl)
  have f59_g1_10 : ∀ l : XL, ((l.1 = 59) ∧ dzz l) → g1_10 l = none := by rw [eg1_10]; exact fun l hl => (xu_o (fun z => (fun z => by have z0 : (50 : Nat) = 59 := z.1; omega) (by rw [z] at hl; exact hl))).trans (f59_g1_9 l hl)
  have f60_g1_10 : ∀ l : XL, ((l.1 = 60) ∧ dzz l) → g1_10 l = none := by rw [eg1_10]; exact fun l hl => (xu_o (fun z => (fun z => by have z0 : (50 : Nat) = 60 := z.1; omega) (by rw [z] at hl; exact hl))).trans (f60_g1_9 l hl)
  have f61_g1_10 : ∀ l : XL, ((l.1 = 61) ∧ dzz l) → g1_10 l = none := by rw [eg1_10]; exact fun l hl => (xu_o (fun z => (fun z => by have z0 : (50 : Nat) = 61 := z.1; omega) (by rw [z] at hl; exact hl))).trans (f61_g1_9 l hl)
  have f62_g1_10 : ∀ l : XL, ((l.1 = 62) ∧ dzz l) → g1_10 l = none := by rw [eg1_10]; exact fun l hl => (xu_o (fun z => (fun z => by have z0 : (50 : Nat) = 62 := z.1; omega) (by rw [z] at hl; exact hl))).trans (f62_g1_9 l hl)
  have f63_g1_10 : ∀ l : XL, ((l.1 = 63) ∧ dzz l) → g1_10 l = none := by rw [eg1_10]; exact fun l hl => (xu_o (fun z => (fun z => by have z0 : (50 : Nat) = 63 := z.1; omega) (by rw [z] at hl; exact hl))).trans (f63_g1_9 l hl)
  have f64_g1_10 : ∀ l : XL, ((l.1 = 64) ∧ dzz l) → g1_10 l = none := by rw [eg1_10]; exact fun l hl => (xu_o (fun z => (fun z => by have z0 : (50 : Nat) = 64 := z.1; omega) (by rw [z] at hl; exact hl))).trans (f64_g1_9 l hl)
  have f65_g1_10 : ∀ l : XL, ((l.1 = 65) ∧ dzz l) → g1_10 l = none := by rw [eg1_10]; exact fun l hl => (xu_o (fun z => (fun z => by have z0 : (50 : Nat) = 65 := z.1; omega) (by rw [z] at hl; exact hl))).trans (f65_g1_9 l hl)
  have f66_g1_10 : ∀ l : XL, ((l.1 = 66) ∧ dzz l) → g1_10 l = none := by rw [eg1_10]; exact fun l hl => (xu_o (fun z => (fun z => by have z0 : (50 : Nat) = 66 := z.1; omega) (by rw [z] at hl; exact hl))).trans (f66_g1_9 l hl)
  have f67_g1_10 : ∀ l : XL, ((l.1 = 67) ∧ dzz l) → g1_10 l = none := by rw [eg1_10]; exact fun l hl => (xu_o (fun z => (fun z => by have z0 : (50 : Nat) = 67 := z.1; omega) (by rw [z] at hl; exact hl))).trans (f67_g1_9 l hl)
  have f68_g1_10 : ∀ l : XL, ((l.1 = 68) ∧ dzz l) → g1_10 l = none := by rw [eg1_10]; exact fun l hl => (xu_o (fun z => (fun z => by have z0 : (50 : Nat) = 68 := z.1; omega) (by rw [z] at hl; exact hl))).trans (f68_g1_9 l hl)
  have f69_g1_10 : ∀ l : XL, ((l.1 = 69) ∧ dzz l) → g1_10 l = none := by rw [eg1_10]; exact fun l hl => (xu_o (fun z => (fun z => by have z0 : (50 : Nat) = 69 := z.1; omega) (by rw [z] at hl; exact hl))).trans (f69_g1_9 l hl)
  have f80_g1_10 : ∀ l : XL, ((l.1 = 80) ∧ dzz l) → g1_10 l = none := by rw [eg1_10]; exact fun l hl => (xu_o (fun z => (fun z => by have z0 : (50 : Nat) = 80 := z.1; omega) (by rw [z] at hl; exact hl))).trans (f80_g1_9 l hl)
  have f70_g1_10 : ∀ l : XL, ((l.1 = 70) ∧ dzz l) → g1_10 l = none := by rw [eg1_10]; exact fun l hl => (xu_o (fun z => (fun z => by have z0 : (50 : Nat) = 70 := z.1; omega) (by rw [z] at hl; exact hl))).trans (f70_g1_9 l hl)
  have f71_g1_10 : ∀ l : XL, ((l.1 = 71) ∧ dzz l) → g1_10 l = none := by rw [eg1_10]; exact fun l hl => (xu_o (fun z => (fun z => by have z0 : (50 : Nat) = 71 := z.1; omega) (by rw [z] at hl; exact hl))).trans (f71_g1_9 l hl)
  have f72_g1_10 : ∀ l : XL, ((l.1 = 72) ∧ dzz l) → g1_10 l = none := by rw [eg1_10]; exact fun l hl => (xu_o (fun z => (fun z => by have z0 : (50 : Nat) = 72 := z.1; omega) (by rw [z] at hl; exact hl))).trans (f72_g1_9 l hl)
  have f73_g1_10 : ∀ l : XL, ((l.1 = 73) ∧ dzz l) → g1_10 l = none := by rw [eg1_10]; exact fun l hl => (xu_o (fun z => (fun z => by have z0 : (50 : Nat) = 73 := z.1; omega) (by rw [z] at hl; exact hl))).trans (f73_g1_9 l hl)
  have f74_g1_10 : ∀ l : XL, ((l.1 = 74) ∧ dzz l) → g1_10 l = none := by rw [eg1_10]; exact fun l hl => (xu_o (fun z => (fun z => by have z0 : (50 : Nat) = 74 := z.1; omega) (by rw [z] at hl; exact hl))).trans (f74_g1_9 l hl)
  have f75_g1_10 : ∀ l : XL, ((l.1 = 75) ∧ dzz l) → g1_10 l = none := by rw [eg1_10]; exact fun l hl => (xu_o (fun z => (fun z => by have z0 : (50 : Nat) = 75 := z.1; omega) (by rw [z] at hl; exact hl))).trans (f75_g1_9 l hl)
  have fr_g1_10 : ∀ l : XL, ¬ (((50 ≤ l.1 ∧ l.1 ≤ 75) ∨ l.1 = 80 ∨ l.1 = 81) ∧ dzz l) → g1_10 l = g0 l := by rw [eg1_10]; exact fun l hl => (xu_o (fun z => hl (by rw [z]; exact ⟨(show (50 ≤ (50 : Nat) ∧ (50 : Nat) ≤ 75) ∨ (50 : Nat) = 80 ∨ (50 : Nat) = 81 by omega), (show (0 : Int) = 0 ∧ (0 : Int) = 0 from ⟨rfl, rfl⟩)⟩))).trans (fr_g1_9 l hl)
  have v51_g1_10 : g1_10 (51, 0, 0) = some (.inr (3, 240, xZero 3)) := by rw [eg1_10]; exact (xu_o (nK (by decide) _ _ _ _)).trans v51_g1_9
  have v52_g1_10 : g1_10 (52, 0, 0) = some (.inr (0, 240, xZero 0)) := by rw [eg1_10]; exact (xu_o (nK (by decide) _ _ _ _)).trans v52_g1_9
  have v53_g1_10 : g1_10 (53, 0, 0) = some (.inr (0, 240, xZero 0)) := by rw [eg1_10]; exact (xu_o (nK (by decide) _ _ _ _)).trans v53_g1_9
  have v54_g1_10 : g1_10 (54, 0, 0) = some (.inr (0, 240, xZero 0)) := by rw [eg1_10]; exact (xu_o (nK (by decide) _ _ _ _)).trans v54_g1_9
  have v55_g1_10 : g1_10 (55, 0, 0) = some (.inr (0, 240, xZero 0)) := by rw [eg1_10]; exact (xu_o (nK (by decide) _ _ _ _)).trans v55_g1_9
  have v50_g1_10 : g1_10 (50, 0, 0) = some (.inl (9, [xR (51, 0, 0), xR (52, 0, 0), xR (53, 0, 0), xR (54, 0, 0), xR (55, 0, 0), xN, xN, xN, xN, xN, xN, xI 0, xI 0, xI 0, xN, xN, xN, xN, xN, xN, xN, xN, xN, xN, xI 0, xI 0, xN, xN, xN, xN, xN])) := by rw [eg1_10]; exact xu_at
  have f81_g1_10 : ∀ l : XL, l.1 = 81 → g1_10 l = none := by rw [eg1_10]; exact fun l hl => (xu_o (fun z => by rw [z] at hl; have a2 : (50 : Nat) = 81 := hl; omega)).trans (f81_g1_9 l hl)
  refine x_aload_n dX9_init_49 rfl ?_
  refine x_sipush (v := 240) dX9_init_50 (by decide) ?_
  refine x_newarray (56, 0, 0) (t := 2) (n := 240) (N := 240) dX9_init_53 rfl wd123 (f56_g1_10 _ ⟨(show (56 : Nat) = 56 by omega), (show (0 : Int) = 0 ∧ (0 : Int) = 0 from ⟨rfl, rfl⟩)⟩) (show (56 : Nat) ≠ 99 by decide) rfl (by decide) (by omega) (by omega) ?_
  refine x_hg (fun g1_11 eg1_11 => ?_)
  have f57_g1_11 : ∀ l : XL, ((l.1 = 57) ∧ dzz l) → g1_11 l = none := by rw [eg1_11]; exact fun l hl => (xu_o (fun z => (fun z => by have z0 : (56 : Nat) = 57 := z.1; omega) (by rw [z] at hl; exact hl))).trans (f57_g1_10 l hl)
  have f58_g1_11 : ∀ l : XL, ((l.1 = 58) ∧ dzz l) → g1_11 l = none := by rw [eg1_11]; exact fun l hl => (xu_o (fun z => (fun z => by have z0 : (56 : Nat) = 58 := z.1; omega) (by rw [z] at hl; exact hl))).trans (f58_g1_10 l hl)
  have f59_g1_11 : ∀ l : XL, ((l.1 = 59) ∧ dzz l) → g1_11 l = none := by rw [eg1_11]; exact fun l hl => (xu_o (fun z => (fun z => by have z0 : (56 : Nat) = 59 := z.1; omega) (by rw [z] at hl; exact hl))).trans (f59_g1_10 l hl)
  have f60_g1_11 : ∀ l : XL, ((l.1 = 60) ∧ dzz l) → g1_11 l = none := by rw [eg1_11]; exact fun l hl => (xu_o (fun z => (fun z => by have z0 : (56 : Nat) = 60 := z.1; omega) (by rw [z] at hl; exact hl))).trans (f60_g1_10 l hl)
  have f61_g1_11 : ∀ l : XL, ((l.1 = 61) ∧ dzz l) → g1_11 l = none := by rw [eg1_11]; exact fun l hl => (xu_o (fun z => (fun z => by have z0 : (56 : Nat) = 61 := z.1; omega) (by rw [z] at hl; exact hl))).trans (f61_g1_10 l hl)
  have f62_g1_11 : ∀ l : XL, ((l.1 = 62) ∧ dzz l) → g1_11 l = none := by rw [eg1_11]; exact fun l hl => (xu_o (fun z => (fun z => by have z0 : (56 : Nat) = 62 := z.1; omega) (by rw [z] at hl; exact hl))).trans (f62_g1_10 l hl)
  have f63_g1_11 : ∀ l : XL, ((l.1 = 63) ∧ dzz l) → g1_11 l = none := by rw [eg1_11]; exact fun l hl => (xu_o (fun z => (fun z => by have z0 : (56 : Nat) = 63 := z.1; omega) (by rw [z] at hl; exact hl))).trans (f63_g1_10 l hl)
  have f64_g1_11 : ∀ l : XL, ((l.1 = 64) ∧ dzz l) → g1_11 l = none := by rw [eg1_11]; exact fun l hl => (xu_o (fun z => (fun z => by have z0 : (56 : Nat) = 64 := z.1; omega) (by rw [z] at hl; exact hl))).trans (f64_g1_10 l hl)
  have f65_g1_11 : ∀ l : XL, ((l.1 = 65) ∧ dzz l) → g1_11 l = none := by rw [eg1_11]; exact fun l hl => (xu_o (fun z => (fun z => by have z0 : (56 : Nat) = 65 := z.1; omega) (by rw [z] at hl; exact hl))).trans (f65_g1_10 l hl)
  have f66_g1_11 : ∀ l : XL, ((l.1 = 66) ∧ dzz l) → g1_11 l = none := by rw [eg1_11]; exact fun l hl => (xu_o (fun z => (fun z => by have z0 : (56 : Nat) = 66 := z.1; omega) (by rw [z] at hl; exact hl))).trans (f66_g1_10 l hl)
  have f67_g1_11 : ∀ l : XL, ((l.1 = 67) ∧ dzz l) → g1_11 l = none := by rw [eg1_11]; exact fun l hl => (xu_o (fun z => (fun z => by have z0 : (56 : Nat) = 67 := z.1; omega) (by rw [z] at hl; exact hl))).trans (f67_g1_10 l hl)
  have f68_g1_11 : ∀ l : XL, ((l.1 = 68) ∧ dzz l) → g1_11 l = none := by rw [eg1_11]; exact fun l hl => (xu_o (fun z => (fun z => by have z0 : (56 : Nat) = 68 := z.1; omega) (by rw [z] at hl; exact hl))).trans (f68_g1_10 l hl)
  have f69_g1_11 : ∀ l : XL, ((l.1 = 69) ∧ dzz l) → g1_11 l = none := by rw [eg1_11]; exact fun l hl => (xu_o (fun z => (fun z => by have z0 : (56 : Nat) = 69 := z.1; omega) (by rw [z] at hl; exact hl))).trans (f69_g1_10 l hl)
  have f80_g1_11 : ∀ l : XL, ((l.1 = 80) ∧ dzz l) → g1_11 l = none := by rw [eg1_11]; exact fun l hl => (xu_o (fun z => (fun z => by have z0 : (56 : Nat) = 80 := z.1; omega) (by rw [z] at hl; exact hl))).trans (f80_g1_10 l hl)
  have f70_g1_11 : ∀ l : XL, ((l.1 = 70) ∧ dzz l) → g1_11 l = none := by rw [eg1_11]; exact fun l hl => (xu_o (fun z => (fun z => by have z0 : (56 : Nat) = 70 := z.1; omega) (by rw [z] at hl; exact hl))).trans (f70_g1_10 l hl)
  have f71_g1_11 : ∀ l : XL, ((l.1 = 71) ∧ dzz l) → g1_11 l = none := by rw [eg1_11]; exact fun l hl => (xu_o (fun z => (fun z => by have z0 : (56 : Nat) = 71 := z.1; omega) (by rw [z] at hl; exact hl))).trans (f71_g1_10 l hl)
  have f72_g1_11 : ∀ l : XL, ((l.1 = 72) ∧ dzz l) → g1_11 l = none := by rw [eg1_11]; exact fun l hl => (xu_o (fun z => (fun z => by have z0 : (56 : Nat) = 72 := z.1; omega) (by rw [z] at hl; exact hl))).trans (f72_g1_10 l hl)
  have f73_g1_11 : ∀ l : XL, ((l.1 = 73) ∧ dzz l) → g1_11 l = none := by rw [eg1_11]; exact fun l hl => (xu_o (fun z => (fun z => by have z0 : (56 : Nat) = 73 := z.1; omega) (by rw [z] at hl; exact hl))).trans (f73_g1_10 l hl)
  have f74_g1_11 : ∀ l : XL, ((l.1 = 74) ∧ dzz l) → g1_11 l = none := by rw [eg1_11]; exact fun l hl => (xu_o (fun z => (fun z => by have z0 : (56 : Nat) = 74 := z.1; omega) (by rw [z] at hl; exact hl))).trans (f74_g1_10 l hl)
  have f75_g1_11 : ∀ l : XL, ((l.1 = 75) ∧ dzz l) → g1_11 l = none := by rw [eg1_11]; exact fun l hl => (xu_o (fun z => (fun z => by have z0 : (56 : Nat) = 75 := z.1; omega) (by rw [z] at hl; exact hl))).trans (f75_g1_10 l hl)
  have fr_g1_11 : ∀ l : XL, ¬ (((50 ≤ l.1 ∧ l.1 ≤ 75) ∨ l.1 = 80 ∨ l.1 = 81) ∧ dzz l) → g1_11 l = g0 l := by rw [eg1_11]; exact fun l hl => (xu_o (fun z => hl (by rw [z]; exact ⟨(show (50 ≤ (56 : Nat) ∧ (56 : Nat) ≤ 75) ∨ (56 : Nat) = 80 ∨ (56 : Nat) = 81 by omega), (show (0 : Int) = 0 ∧ (0 : Int) = 0 from ⟨rfl, rfl⟩)⟩))).trans (fr_g1_10 l hl)
  have v51_g1_11 : g1_11 (51, 0, 0) = some (.inr (3, 240, xZero 3)) := by rw [eg1_11]; exact (xu_o (nK (by decide) _ _ _ _)).trans v51_g1_10
  have v52_g1_11 : g1_11 (52, 0, 0) = some (.inr (0, 240, xZero 0)) := by rw [eg1_11]; exact (xu_o (nK (by decide) _ _ _ _)).trans v52_g1_10
  have v53_g1_11 : g1_11 (53, 0, 0) = some (.inr (0, 240, xZero 0)) := by rw [eg1_11]; exact (xu_o (nK (by decide) _ _ _ _)).trans v53_g1_10
  have v54_g1_11 : g1_11 (54, 0, 0) = some (.inr (0, 240, xZero 0)) := by rw [eg1_11]; exact (xu_o (nK (by decide) _ _ _ _)).trans v54_g1_10
  have v55_g1_11 : g1_11 (55, 0, 0) = some (.inr (0, 240, xZero 0)) := by rw [eg1_11]; exact (xu_o (nK (by decide) _ _ _ _)).trans v55_g1_10
  have v50_g1_11 : g1_11 (50, 0, 0) = some (.inl (9, [xR (51, 0, 0), xR (52, 0, 0), xR (53, 0, 0), xR (54, 0, 0), xR (55, 0, 0), xN, xN, xN, xN, xN, xN, xI 0, xI 0, xI 0, xN, xN, xN, xN, xN, xN, xN, xN, xN, xN, xI 0, xI 0, xN, xN, xN, xN, xN])) := by rw [eg1_11]; exact (xu_o (nK (by decide) _ _ _ _)).trans v50_g1_10
  have v56_g1_11 : g1_11 (56, 0, 0) = some (.inr (2, 240, xZero 2)) := by rw [eg1_11]; exact xu_at
  have f81_g1_11 : ∀ l : XL, l.1 = 81 → g1_11 l = none := by rw [eg1_11]; exact fun l hl => (xu_o (fun z => by rw [z] at hl; have a2 : (56 : Nat) = 81 := hl; omega)).trans (f81_g1_10 l hl)
  refine x_putF dX9_init_55 fl_RX9_26 (fun r hr => by cases hr; exact ⟨rfl, rfl⟩) v50_g1_11 xfit_a (Nat.le_of_ble_eq_true rfl) rfl rfl ?_
  refine x_hg (fun g1_12 eg1_12 => ?_)
  have f57_g1_12 : ∀ l : XL, ((l.1 = 57) ∧ dzz l) → g1_12 l = none := by rw [eg1_12]; exact fun l hl => (xu_o (fun z => (fun z => by have z0 : (50 : Nat) = 57 := z.1; omega) (by rw [z] at hl; exact hl))).trans (f57_g1_11 l hl)
  have f58_g1_12 : ∀ l : XL, ((l.1 = 58) ∧ dzz l) → g1_12 l = none := by rw [eg1_12]; exact fun l hl => (xu_o (fun z => (fun z => by have z0 : (50 : Nat) = 58 := z.1; omega) (by rw [z] at hl; exact hl))).trans (f58_g1_11 l hl)
  have f59_g1_12 : ∀ l : XL, ((l.1 = 59) ∧ dzz l) → g1_12 l = none := by rw [eg1_12]; exact fun l hl => (xu_o (fun z => (fun z => by have z0 : (50 : Nat) = 59 := z.1; omega) (by rw [z] at hl; exact hl))).trans (f59_g1_11 l hl)
  have f60_g1_12 : ∀ l : XL, ((l.1 = 60) ∧ dzz l) → g1_12 l = none := by rw [eg1_12]; exact fun l hl => (xu_o (fun z => (fun z => by have z0 : (50 : Nat) = 60 := z.1; omega) (by rw [z] at hl; exact hl))).trans (f60_g1_11 l hl)
  have f61_g1_12 : ∀ l : XL, ((l.1 = 61) ∧ dzz l) → g1_12 l = none := by rw [eg1_12]; exact fun l hl => (xu_o (fun z => (fun z => by have z0 : (50 : Nat) = 61 := z.1; omega) (by rw [z] at hl; exact hl))).trans (f61_g1_11 l hl)
  have f62_g1_12 : ∀ l : XL, ((l.1 = 62) ∧ dzz l) → g1_12 l = none := by rw [eg1_12]; exact fun l hl => (xu_o (fun z => (fun z => by have z0 : (50 : Nat) = 62 := z.1; omega) (by rw [z] at hl; exact hl))).trans (f62_g1_11 l hl)
  have f63_g1_12 : ∀ l : XL, ((l.1 = 63) ∧ dzz l) → g1_12 l = none := by rw [eg1_12]; exact fun l hl => (xu_o (fun z => (fun z => by have z0 : (50 : Nat) = 63 := z.1; omega) (by rw [z] at hl; exact hl))).trans (f63_g1_11 l hl)
  have f64_g1_12 : ∀ l : XL, ((l.1 = 64) ∧ dzz l) → g1_12 l = none := by rw [eg1_12]; exact fun l hl => (xu_o (fun z => (fun z => by have z0 : (50 : Nat) = 64 := z.1; omega) (by rw [z] at hl; exact hl))).trans (f64_g1_11 l hl)
  have f65_g1_12 : ∀ l : XL, ((l.1 = 65) ∧ dzz l) → g1_12 l = none := by rw [eg1_12]; exact fun l hl => (xu_o (fun z => (fun z => by have z0 : (50 : Nat) = 65 := z.1; omega) (by rw [z] at hl; exact hl))).trans (f65_g1_11 l hl)
  have f66_g1_12 : ∀ l : XL, ((l.1 = 66) ∧ dzz l) → g1_12 l = none := by rw [eg1_12]; exact fun l hl => (xu_o (fun z => (fun z => by have z0 : (50 : Nat) = 66 := z.1; omega) (by rw [z] at hl; exact hl))).trans (f66_g1_11 l hl)
  have f67_g1_12 : ∀ l : XL, ((l.1 = 67) ∧ dzz l) → g1_12 l = none := by rw [eg1_12]; exact fun l hl => (xu_o (fun z => (fun z => by have z0 : (50 : Nat) = 67 := z.1; omega) (by rw [z] at hl; exact hl))).trans (f67_g1_11 l hl)
  have f68_g1_12 : ∀ l : XL, ((l.1 = 68) ∧ dzz l) → g1_12 l = none := by rw [eg1_12]; exact fun l hl => (xu_o (fun z => (fun z => by have z0 : (50 : Nat) = 68 := z.1; omega) (by rw [z] at hl; exact hl))).trans (f68_g1_11 l hl)
  have f69_g1_12 : ∀ l : XL, ((l.1 = 69) ∧ dzz l) → g1_12 l = none := by rw [eg1_12]; exact fun l hl => (xu_o (fun z => (fun z => by have z0 : (50 : Nat) = 69 := z.1; omega) (by rw [z] at hl; exact hl))).trans (f69_g1_11 l hl)
  have f80_g1_12 : ∀ l : XL, ((l.1 = 80) ∧ dzz l) → g1_12 l = none := by rw [eg1_12]; exact fun l hl => (xu_o (fun z => (fun z => by have z0 : (50 : Nat) = 80 := z.1; omega) (by rw [z] at hl; exact hl))).trans (f80_g1_11 l hl)
  have f70_g1_12 : ∀ l : XL, ((l.1 = 70) ∧ dzz l) → g1_12 l = none := by rw [eg1_12]; exact fun l hl => (xu_o (fun z => (fun z => by have z0 : (50 : Nat) = 70 := z.1; omega) (by rw [z] at hl; exact hl))).trans (f70_g1_11 l hl)
  have f71_g1_12 : ∀ l : XL, ((l.1 = 71) ∧ dzz l) → g1_12 l = none := by rw [eg1_12]; exact fun l hl => (xu_o (fun z => (fun z => by have z0 : (50 : Nat) = 71 := z.1; omega) (by rw [z] at hl; exact hl))).trans (f71_g1_11 l hl)
  have f72_g1_12 : ∀ l : XL, ((l.1 = 72) ∧ dzz l) → g1_12 l = none := by rw [eg1_12]; exact fun l hl => (xu_o (fun z => (fun z => by have z0 : (50 : Nat) = 72 := z.1; omega) (by rw [z] at hl; exact hl))).trans (f72_g1_11 l hl)
  have f73_g1_12 : ∀ l : XL, ((l.1 = 73) ∧ dzz l) → g1_12 l = none := by rw [eg1_12]; exact fun l hl => (xu_o (fun z => (fun z => by have z0 : (50 : Nat) = 73 := z.1; omega) (by rw [z] at hl; exact hl))).trans (f73_g1_11 l hl)
  have f74_g1_12 : ∀ l : XL, ((l.1 = 74) ∧ dzz l) → g1_12 l = none := by rw [eg1_12]; exact fun l hl => (xu_o (fun z => (fun z => by have z0 : (50 : Nat) = 74 := z.1; omega) (by rw [z] at hl; exact hl))).trans (f74_g1_11 l hl)
  have f75_g1_12 : ∀ l : XL, ((l.1 = 75) ∧ dzz l) → g1_12 l = none := by rw [eg1_12]; exact fun l hl => (xu_o (fun z => (fun z => by have z0 : (50 : Nat) = 75 := z.1; omega) (by rw [z] at hl; exact hl))).trans (f75_g1_11 l hl)
  have fr_g1_12 : ∀ l : XL, ¬ (((50 ≤ l.1 ∧ l.1 ≤ 75) ∨ l.1 = 80 ∨ l.1 = 81) ∧ dzz l) → g1_12 l = g0 l := by rw [eg1_12]; exact fun l hl => (xu_o (fun z => hl (by rw [z]; exact ⟨(show (50 ≤ (50 : Nat) ∧ (50 : Nat) ≤ 75) ∨ (50 : Nat) = 80 ∨ (50 : Nat) = 81 by omega), (show (0 : Int) = 0 ∧ (0 : Int) = 0 from ⟨rfl, rfl⟩)⟩))).trans (fr_g1_11 l hl)
  have v51_g1_12 : g1_12 (51, 0, 0) = some (.inr (3, 240, xZero 3)) := by rw [eg1_12]; exact (xu_o (nK (by decide) _ _ _ _)).trans v51_g1_11
  have v52_g1_12 : g1_12 (52, 0, 0) = some (.inr (0, 240, xZero 0)) := by rw [eg1_12]; exact (xu_o (nK (by decide) _ _ _ _)).trans v52_g1_11
  have v53_g1_12 : g1_12 (53, 0, 0) = some (.inr (0, 240, xZero 0)) := by rw [eg1_12]; exact (xu_o (nK (by decide) _ _ _ _)).trans v53_g1_11
  have v54_g1_12 : g1_12 (54, 0, 0) = some (.inr (0, 240, xZero 0)) := by rw [eg1_12]; exact (xu_o (nK (by decide) _ _ _ _)).trans v54_g1_11
  have v55_g1_12 : g1_12 (55, 0, 0) = some (.inr (0, 240, xZero 0)) := by rw [eg1_12]; exact (xu_o (nK (by decide) _ _ _ _)).trans v55_g1_11
  have v56_g1_12 : g1_12 (56, 0, 0) = some (.inr (2, 240, xZero 2)) := by rw [eg1_12]; exact (xu_o (nK (by decide) _ _ _ _)).trans v56_g1_11
  have v50_g1_12 : g1_12 (50, 0, 0) = some (.inl (9, [xR (51, 0, 0), xR (52, 0, 0), xR (53, 0, 0), xR (54, 0, 0), xR (55, 0, 0), xR (56, 0, 0), xN, xN, xN, xN, xN, xI 0, xI 0, xI 0, xN, xN, xN, xN, xN, xN, xN, xN, xN, xN, xI 0, xI 0, xN, xN, xN, xN, xN])) := by rw [eg1_12]; exact xu_at
  have f81_g1_12 : ∀ l : XL, l.1 = 81 → g1_12 l = none := by rw [eg1_12]; exact fun l hl => (xu_o (fun z => by rw [z] at hl; have a2 : (50 : Nat) = 81 := hl; omega)).trans (f81_g1_11 l hl)
  refine x_aload_n dX9_init_58 rfl ?_
  refine x_bipush (v := 6) dX9_init_59 (by decide) ?_
  refine x_newarray (57, 0, 0) (t := 2) (n := 6) (N := 6) dX9_init_61 rfl wd123 (f57_g1_12 _ ⟨(show (57 : Nat) = 57 by omega), (show (0 : Int) = 0 ∧ (0 : Int) = 0 from ⟨rfl, rfl⟩)⟩) (show (57 : Nat) ≠ 99 by decide) rfl (by decide) (by omega) (by omega) ?_
  refine x_hg (fun g1_13 eg1_13 => ?_)
  have f58_g1_13 : ∀ l : XL, ((l.1 = 58) ∧ dzz l) → g1_13 l = none := by rw [eg1_13]; exact fun l hl => (xu_o (fun z => (fun z => by have z0 : (57 : Nat) = 58 := z.1; omega) (by rw [z] at hl; exact hl))).trans (f58_g1_12 l hl)
  have f59_g1_13 : ∀ l : XL, ((l.1 = 59) ∧ dzz l) → g1_13 l = none := by rw [eg1_13]; exact fun l hl => (xu_o (fun z => (fun z => by have z0 : (57 : Nat) = 59 := z.1; omega) (by rw [z] at hl; exact hl))).trans (f59_g1_12 l hl)
  have f60_g1_13 : ∀ l : XL, ((l.1 = 60) ∧ dzz l) → g1_13 l = none := by rw [eg1_13]; exact fun l hl => (xu_o (fun z => (fun z => by have z0 : (57 : Nat) = 60 := z.1; omega) (by rw [z] at hl; exact hl))).trans (f60_g1_12 l hl)
  have f61_g1_13 : ∀ l : XL, ((l.1 = 61) ∧ dzz l) → g1_13 l = none := by rw [eg1_13]; exact fun l hl => (xu_o (fun z => (fun z => by have z0 : (57 : Nat) = 61 := z.1; omega) (by rw [z] at hl; exact hl))).trans (f61_g1_12 l hl)
  have f62_g1_13 : ∀ l : XL, ((l.1 = 62) ∧ dzz l) → g1_13 l = none := by rw [eg1_13]; exact fun l hl => (xu_o (fun z => (fun z => by have z0 : (57 : Nat) = 62 := z.1; omega) (by rw [z] at hl; exact hl))).trans (f62_g1_12 l hl)
  have f63_g1_13 : ∀ l : XL, ((l.1 = 63) ∧ dzz l) → g1_13 l = none := by rw [eg1_13]; exact fun l hl => (xu_o (fun z => (fun z => by have z0 : (57 : Nat) = 63 := z.1; omega) (by rw [z] at hl; exact hl))).trans (f63_g1_12 l hl)
  have f64_g1_13 : ∀ l : XL, ((l.1 = 64) ∧ dzz l) → g1_13 l = none := by rw [eg1_13]; exact fun l hl => (xu_o (fun z => (fun z => by have z0 : (57 : Nat) = 64 := z.1; omega) (by rw [z] at hl; exact hl))).trans (f64_g1_12 l hl)
  have f65_g1_13 : ∀ l : XL, ((l.1 = 65) ∧ dzz l) → g1_13 l = none := by rw [eg1_13]; exact fun l hl => (xu_o (fun z => (fun z => by have z0 : (57 : Nat) = 65 := z.1; omega) (by rw [z] at hl; exact hl))).trans (f65_g1_12 l hl)
  have f66_g1_13 : ∀ l : XL, ((l.1 = 66) ∧ dzz l) → g1_13 l = none := by rw [eg1_13]; exact fun l hl => (xu_o (fun z => (fun z => by have z0 : (57 : Nat) = 66 := z.1; omega) (by rw [z] at hl; exact hl))).trans (f66_g1_12 l hl)
  have f67_g1_13 : ∀ l : XL, ((l.1 = 67) ∧ dzz l) → g1_13 l = none := by rw [eg1_13]; exact fun l hl => (xu_o (fun z => (fun z => by have z0 : (57 : Nat) = 67 := z.1; omega) (by rw [z] at hl; exact hl))).trans (f67_g1_12 l hl)
  have f68_g1_13 : ∀ l : XL, ((l.1 = 68) ∧ dzz l) → g1_13 l = none := by rw [eg1_13]; exact fun l hl => (xu_o (fun z => (fun z => by have z0 : (57 : Nat) = 68 := z.1; omega) (by rw [z] at hl; exact hl))).trans (f68_g1_12 l hl)
  have f69_g1_13 : ∀ l : XL, ((l.1 = 69) ∧ dzz l) → g1_13 l = none := by rw [eg1_13]; exact fun l hl => (xu_o (fun z => (fun z => by have z0 : (57 : Nat) = 69 := z.1; omega) (by rw [z] at hl; exact hl))).trans (f69_g1_12 l hl)
  have f80_g1_13 : ∀ l : XL, ((l.1 = 80) ∧ dzz l) → g1_13 l = none := by rw [eg1_13]; exact fun l hl => (xu_o (fun z => (fun z => by have z0 : (57 : Nat) = 80 := z.1; omega) (by rw [z] at hl; exact hl))).trans (f80_g1_12 l hl)
  have f70_g1_13 : ∀ l : XL, ((l.1 = 70) ∧ dzz l) → g1_13 l = none := by rw [eg1_13]; exact fun l hl => (xu_o (fun z => (fun z => by have z0 : (57 : Nat) = 70 := z.1; omega) (by rw [z] at hl; exact hl))).trans (f70_g1_12 l hl)
  have f71_g1_13 : ∀ l : XL, ((l.1 = 71) ∧ dzz l) → g1_13 l = none := by rw [eg1_13]; exact fun l hl => (xu_o (fun z => (fun z => by have z0 : (57 : Nat) = 71 := z.1; omega) (by rw [z] at hl; exact hl))).trans (f71_g1_12 l hl)
  have f72_g1_13 : ∀ l : XL, ((l.1 = 72) ∧ dzz l) → g1_13 l = none := by rw [eg1_13]; exact fun l hl => (xu_o (fun z => (fun z => by have z0 : (57 : Nat) = 72 := z.1; omega) (by rw [z] at hl; exact hl))).trans (f72_g1_12 l hl)
  have f73_g1_13 : ∀ l : XL, ((l.1 = 73) ∧ dzz l) → g1_13 l = none := by rw [eg1_13]; exact fun l hl => (xu_o (fun z => (fun z => by have z0 : (57 : Nat) = 73 := z.1; omega) (by rw [z] at hl; exact hl))).trans (f73_g1_12 l hl)
  have f74_g1_13 : ∀ l : XL, ((l.1 = 74) ∧ dzz l) → g1_13 l = none := by rw [eg1_13]; exact fun l hl => (xu_o (fun z => (fun z => by have z0 : (57 : Nat) = 74 := z.1; omega) (by rw [z] at hl; exact hl))).trans (f74_g1_12 l hl)
  have f75_g1_13 : ∀ l : XL, ((l.1 = 75) ∧ dzz l) → g1_13 l = none := by rw [eg1_13]; exact fun l hl => (xu_o (fun z => (fun z => by have z0 : (57 : Nat) = 75 := z.1; omega) (by rw [z] at hl; exact hl))).trans (f75_g1_12 l hl)
  have fr_g1_13 : ∀ l : XL, ¬ (((50 ≤ l.1 ∧ l.1 ≤ 75) ∨ l.1 = 80 ∨ l.1 = 81) ∧ dzz l) → g1_13 l = g0 l := by rw [eg1_13]; exact fun l hl => (xu_o (fun z => hl (by rw [z]; exact ⟨(show (50 ≤ (57 : Nat) ∧ (57 : Nat) ≤ 75) ∨ (57 : Nat) = 80 ∨ (57 : Nat) = 81 by omega), (show (0 : Int) = 0 ∧ (0 : Int) = 0 from ⟨rfl, rfl⟩)⟩))).trans (fr_g1_12 l hl)
  have v51_g1_13 : g1_13 (51, 0, 0) = some (.inr (3, 240, xZero 3)) := by rw [eg1_13]; exact (xu_o (nK (by decide) _ _ _ _)).trans v51_g1_12
  have v52_g1_13 : g1_13 (52, 0, 0) = some (.inr (0, 240, xZero 0)) := by rw [eg1_13]; exact (xu_o (nK (by decide) _ _ _ _)).trans v52_g1_12
  have v53_g1_13 : g1_13 (53, 0, 0) = some (.inr (0, 240, xZero 0)) := by rw [eg1_13]; exact (xu_o (nK (by decide) _ _ _ _)).trans v53_g1_12
  have v54_g1_13 : g1_13 (54, 0, 0) = some (.inr (0, 240, xZero 0)) := by rw [eg1_13]; exact (xu_o (nK (by decide) _ _ _ _)).trans v54_g1_12
  have v55_g1_13 : g1_13 (55, 0, 0) = some (.inr (0, 240, xZero 0)) := by rw [eg1_13]; exact (xu_o (nK (by decide) _ _ _ _)).trans v55_g1_12
  have v56_g1_13 : g1_13 (56, 0, 0) = some (.inr (2, 240, xZero 2)) := by rw [eg1_13]; exact (xu_o (nK (by decide) _ _ _ _)).trans v56_g1_12
  have v50_g1_13 : g1_13 (50, 0, 0) = some (.inl (9, [xR (51, 0, 0), xR (52, 0, 0), xR (53, 0, 0), xR (54, 0, 0), xR (55, 0, 0), xR (56, 0, 0), xN, xN, xN, xN, xN, xI 0, xI 0, xI 0, xN, xN, xN, xN, xN, xN, xN, xN, xN, xN, xI 0, xI 0, xN, xN, xN, xN, xN])) := by rw [eg1_13]; exact (xu_o (nK (by decide) _ _ _ _)).trans v50_g1_12
  have v57_g1_13 : g1_13 (57, 0, 0) = some (.inr (2, 6, xZero 2)) := by rw [eg1_13]; exact xu_at
  have f81_g1_13 : ∀ l : XL, l.1 = 81 → g1_13 l = none := by rw [eg1_13]; exact fun l hl => (xu_o (fun z => by rw [z] at hl; have a2 : (57 : Nat) = 81 := hl; omega)).trans (f81_g1_12 l hl)
  refine x_putF dX9_init_63 fl_RX9_30 (fun r hr => by cases hr; exact ⟨rfl, rfl⟩) v50_g1_13 xfit_a (Nat.le_of_ble_eq_true rfl) rfl rfl ?_
  refine x_hg (fun g1_14 eg1_14 => ?_)
  have f58_g1_14 : ∀ l : XL, ((l.1 = 58) ∧ dzz l) → g1_14 l = none := by rw [eg1_14]; exact fun l hl => (xu_o (fun z => (fun z => by have z0 : (50 : Nat) = 58 := z.1; omega) (by rw [z] at hl; exact hl))).trans (f58_g1_13 l hl)
  have f59_g1_14 : ∀ l : XL, ((l.1 = 59) ∧ dzz l) → g1_14 l = none := by rw [eg1_14]; exact fun l hl => (xu_o (fun z => (fun z => by have z0 : (50 : Nat) = 59 := z.1; omega) (by rw [z] at hl; exact hl))).trans (f59_g1_13 l hl)
  have f60_g1_14 : ∀ l : XL, ((l.1 = 60) ∧ dzz l) → g1_14 l = none := by rw [eg1_14]; exact fun l hl => (xu_o (fun z => (fun z => by have z0 : (50 : Nat) = 60 := z.1; omega) (by rw [z] at hl; exact hl))).trans (f60_g1_13 l hl)
  have f61_g1_14 : ∀ l : XL, ((l.1 = 61) ∧ dzz l) → g1_14 l = none := by rw [eg1_14]; exact fun l hl => (xu_o (fun z => (fun z => by have z0 : (50 : Nat) = 61 := z.1; omega) (by rw [z] at hl; exact hl))).trans (f61_g1_13 l hl)
  have f62_g1_14 : ∀ l : XL, ((l.1 = 62) ∧ dzz l) → g1_14 l = none := by rw [eg1_14]; exact fun l hl => (xu_o (fun z => (fun z => by have z0 : (50 : Nat) = 62 := z.1; omega) (by rw [z] at hl; exact hl))).trans (f62_g1_13 l hl)
  have f63_g1_14 : ∀ l : XL, ((l.1 = 63) ∧ dzz l) → g1_14 l = none := by rw [eg1_14]; exact fun l hl => (xu_o (fun z => (fun z => by have z0 : (50 : Nat) = 63 := z.1; omega) (by rw [z] at hl; exact hl))).trans (f63_g1_13 l hl)
  have f64_g1_14 : ∀ l : XL, ((l.1 = 64) ∧ dzz l) → g1_14 l = none := by rw [eg1_14]; exact fun l hl => (xu_o (fun z => (fun z => by have z0 : (50 : Nat) = 64 := z.1; omega) (by rw [z] at hl; exact hl))).trans (f64_g1_13 l hl)
  have f65_g1_14 : ∀ l : XL, ((l.1 = 65) ∧ dzz l) → g1_14 l = none := by rw [eg1_14]; exact fun l hl => (xu_o (fun z => (fun z => by have z0 : (50 : Nat) = 65 := z.1; omega) (by rw [z] at hl; exact hl))).trans (f65_g1_13 l hl)
  have f66_g1_14 : ∀ l : XL, ((l.1 = 66) ∧ dzz l) → g1_14 l = none := by rw [eg1_14]; exact fun l hl => (xu_o (fun z => (fun z => by have z0 : (50 : Nat) = 66 := z.1; omega) (by rw [z] at hl; exact hl))).trans (f66_g1_13 l hl)
  have f67_g1_14 : ∀ l : XL, ((l.1 = 67) ∧ dzz l) → g1_14 l = none := by rw [eg1_14]; exact fun l hl => (xu_o (fun z => (fun z => by have z0 : (50 : Nat) = 67 := z.1; omega) (by rw [z] at hl; exact hl))).trans (f67_g1_13 l hl)
  have f68_g1_14 : ∀ l : XL, ((l.1 = 68) ∧ dzz l) → g1_14 l = none := by rw [eg1_14]; exact fun l hl => (xu_o (fun z => (fun z => by have z0 : (50 : Nat) = 68 := z.1; omega) (by rw [z] at hl; exact hl))).trans (f68_g1_13 l hl)
  have f69_g1_14 : ∀ l : XL, ((l.1 = 69) ∧ dzz l) → g1_14 l = none := by rw [eg1_14]; exact fun l hl => (xu_o (fun z => (fun z => by have z0 : (50 : Nat) = 69 := z.1; omega) (by rw [z] at hl; exact hl))).trans (f69_g1_13 l hl)
  have f80_g1_14 : ∀ l : XL, ((l.1 = 80) ∧ dzz l) → g1_14 l = none := by rw [eg1_14]; exact fun l hl => (xu_o (fun z => (fun z => by have z0 : (50 : Nat) = 80 := z.1; omega) (by rw [z] at hl; exact hl))).trans (f80_g1_13 l hl)
  have f70_g1_14 : ∀ l : XL, ((l.1 = 70) ∧ dzz l) → g1_14 l = none := by rw [eg1_14]; exact fun l hl => (xu_o (fun z => (fun z => by have z0 : (50 : Nat) = 70 := z.1; omega) (by rw [z] at hl; exact hl))).trans (f70_g1_13 l hl)
  have f71_g1_14 : ∀ l : XL, ((l.1 = 71) ∧ dzz l) → g1_14 l = none := by rw [eg1_14]; exact fun l hl => (xu_o (fun z => (fun z => by have z0 : (50 : Nat) = 71 := z.1; omega) (by rw [z] at hl; exact hl))).trans (f71_g1_13 l hl)
  have f72_g1_14 : ∀ l : XL, ((l.1 = 72) ∧ dzz l) → g1_14 l = none := by rw [eg1_14]; exact fun l hl => (xu_o (fun z => (fun z => by have z0 : (50 : Nat) = 72 := z.1; omega) (by rw [z] at hl; exact hl))).trans (f72_g1_13 l hl)
  have f73_g1_14 : ∀ l : XL, ((l.1 = 73) ∧ dzz l) → g1_14 l = none := by rw [eg1_14]; exact fun l hl => (xu_o (fun z => (fun z => by have z0 : (50 : Nat) = 73 := z.1; omega) (by rw [z] at hl; exact hl))).trans (f73_g1_13 l hl)
  have f74_g1_14 : ∀ l : XL, ((l.1 = 74) ∧ dzz l) → g1_14 l = none := by rw [eg1_14]; exact fun l hl => (xu_o (fun z => (fun z => by have z0 : (50 : Nat) = 74 := z.1; omega) (by rw [z] at hl; exact hl))).trans (f74_g1_13 l hl)
  have f75_g1_14 : ∀ l : XL, ((l.1 = 75) ∧ dzz l) → g1_14 l = none := by rw [eg1_14]; exact fun l hl => (xu_o (fun z => (fun z => by have z0 : (50 : Nat) = 75 := z.1; omega) (by rw [z] at hl; exact hl))).trans (f75_g1_13 l hl)
  have fr_g1_14 : ∀ l : XL, ¬ (((50 ≤ l.1 ∧ l.1 ≤ 75) ∨ l.1 = 80 ∨ l.1 = 81) ∧ dzz l) → g1_14 l = g0 l := by rw [eg1_14]; exact fun l hl => (xu_o (fun z => hl (by rw [z]; exact ⟨(show (50 ≤ (50 : Nat) ∧ (50 : Nat) ≤ 75) ∨ (50 : Nat) = 80 ∨ (50 : Nat) = 81 by omega), (show (0 : Int) = 0 ∧ (0 : Int) = 0 from ⟨rfl, rfl⟩)⟩))).trans (fr_g1_13 l hl)
  have v51_g1_14 : g1_14 (51, 0, 0) = some (.inr (3, 240, xZero 3)) := by rw [eg1_14]; exact (xu_o (nK (by decide) _ _ _ _)).trans v51_g1_13
  have v52_g1_14 : g1_14 (52, 0, 0) = some (.inr (0, 240, xZero 0)) := by rw [eg1_14]; exact (xu_o (nK (by decide) _ _ _ _)).trans v52_g1_13
  have v53_g1_14 : g1_14 (53, 0, 0) = some (.inr (0, 240, xZero 0)) := by rw [eg1_14]; exact (xu_o (nK (by decide) _ _ _ _)).trans v53_g1_13
  have v54_g1_14 : g1_14 (54, 0, 0) = some (.inr (0, 240, xZero 0)) := by rw [eg1_14]; exact (xu_o (nK (by decide) _ _ _ _)).trans v54_g1_13
  have v55_g1_14 : g1_14 (55, 0, 0) = some (.inr (0, 240, xZero 0)) := by rw [eg1_14]; exact (xu_o (nK (by decide) _ _ _ _)).trans v55_g1_13
  have v56_g1_14 : g1_14 (56, 0, 0) = some (.inr (2, 240, xZero 2)) := by rw [eg1_14]; exact (xu_o (nK (by decide) _ _ _ _)).trans v56_g1_13
  have v57_g1_14 : g1_14 (57, 0, 0) = some (.inr (2, 6, xZero 2)) := by rw [eg1_14]; exact (xu_o (nK (by decide) _ _ _ _)).trans v57_g1_13
  have v50_g1_14 : g1_14 (50, 0, 0) = some (.inl (9, [xR (51, 0, 0), xR (52, 0, 0), xR (53, 0, 0), xR (54, 0, 0), xR (55, 0, 0), xR (56, 0, 0), xR (57, 0, 0), xN, xN, xN, xN, xI 0, xI 0, xI 0, xN, xN, xN, xN, xN, xN, xN, xN, xN, xN, xI 0, xI 0, xN, xN, xN, xN, xN])) := by rw [eg1_14]; exact xu_at
  have f81_g1_14 : ∀ l : XL, l.1 = 81 → g1_14 l = none := by rw [eg1_14]; exact fun l hl => (xu_o (fun z => by rw [z] at hl; have a2 : (50 : Nat) = 81 := hl; omega)).trans (f81_g1_13 l hl)
  refine x_aload_n dX9_init_66 rfl ?_
  refine x_iconst dX9_init_67 ?_
  refine x_newarray (58, 0, 0) (t := 0) (n := 4) (N := 4) dX9_init_68 rfl wd124 (f58_g1_14 _ ⟨(show (58 : Nat) = 58 by omega), (show (0 : Int) = 0 ∧ (0 : Int) = 0 from ⟨rfl, rfl⟩)⟩) (show (58 : Nat) ≠ 99 by decide) rfl (by decide) (by omega) (by omega) ?_
  refine x_hg (fun g1_15 eg1_15 => ?_)
  have f59_g1_15 : ∀ l : XL, ((l.1 = 59) ∧ dzz l) → g1_15 l = none := by rw [eg1_15]; exact fun l hl => (xu_o (fun z => (fun z => by have z0 : (58 : Nat) = 59 := z.1; omega) (by rw [z] at hl; exact hl))).trans (f59_g1_14 l hl)
  have f60_g1_15 : ∀ l : XL, ((l.1 = 60) ∧ dzz l) → g1_15 l = none := by rw [eg1_15]; exact fun l hl => (xu_o (fun z => (fun z => by have z0 : (58 : Nat) = 60 := z.1; omega) (by rw [z] at hl; exact hl))).trans (f60_g1_14 l hl)
  have f61_g1_15 : ∀ l : XL, ((l.1 = 61) ∧ dzz l) → g1_15 l = none := by rw [eg1_15]; exact fun l hl => (xu_o (fun z => (fun z => by have z0 : (58 : Nat) = 61 := z.1; omega) (by rw [z] at hl; exact hl))).trans (f61_g1_14 l hl)
  have f62_g1_15 : ∀ l : XL, ((l.1 = 62) ∧ dzz l) → g1_15 l = none := by rw [eg1_15]; exact fun l hl => (xu_o (fun z => (fun z => by have z0 : (58 : Nat) = 62 := z.1; omega) (by rw [z] at hl; exact hl))).trans (f62_g1_14 l hl)
  have f63_g1_15 : ∀ l : XL, ((l.1 = 63) ∧ dzz l) → g1_15 l = none := by rw [eg1_15]; exact fun l hl => (xu_o (fun z => (fun z => by have z0 : (58 : Nat) = 63 := z.1; omega) (by rw [z] at hl; exact hl))).trans (f63_g1_14 l hl)
  have f64_g1_15 : ∀ l : XL, ((l.1 = 64) ∧ dzz l) → g1_15 l = none := by rw [eg1_15]; exact fun l hl => (xu_o (fun z => (fun z => by have z0 : (58 : Nat) = 64 := z.1; omega) (by rw [z] at hl; exact hl))).trans (f64_g1_14 l hl)
  have f65_g1_15 : ∀ l : XL, ((l.1 = 65) ∧ dzz l) → g1_15 l = none := by rw [eg1_15]; exact fun l hl => (xu_o (fun z => (fun z => by have z0 : (58 : Nat) = 65 := z.1; omega) (by rw [z] at hl; exact hl))).trans (f65_g1_14 l hl)
  have f66_g1_15 : ∀ l : XL, ((l.1 = 66) ∧ dzz l) → g1_15 l = none := by rw [eg1_15]; exact fun l hl => (xu_o (fun z => (fun z => by have z0 : (58 : Nat) = 66 := z.1; omega) (by rw [z] at hl; exact hl))).trans (f66_g1_14 l hl)
  have f67_g1_15 : ∀ l : XL, ((l.1 = 67) ∧ dzz l) → g1_15 l = none := by rw [eg1_15]; exact fun l hl => (xu_o (fun z => (fun z => by have z0 : (58 : Nat) = 67 := z.1; omega) (by rw [z] at hl; exact hl))).trans (f67_g1_14 l hl)
  have f68_g1_15 : ∀ l : XL, ((l.1 = 68) ∧ dzz l) → g1_15 l = none := by rw [eg1_15]; exact fun l hl => (xu_o (fun z => (fun z => by have z0 : (58 : Nat) = 68 := z.1; omega) (by rw [z] at hl; exact hl))).trans (f68_g1_14 l hl)
  have f69_g1_15 : ∀ l : XL, ((l.1 = 69) ∧ dzz l) → g1_15 l = none := by rw [eg1_15]; exact fun l hl => (xu_o (fun z => (fun z => by have z0 : (58 : Nat) = 69 := z.1; omega) (by rw [z] at hl; exact hl))).trans (f69_g1_14 l hl)
  have f80_g1_15 : ∀ l : XL, ((l.1 = 80) ∧ dzz l) → g1_15 l = none := by rw [eg1_15]; exact fun l hl => (xu_o (fun z => (fun z => by have z0 : (58 : Nat) = 80 := z.1; omega) (by rw [z] at hl; exact hl))).trans (f80_g1_14 l hl)
  have f70_g1_15 : ∀ l : XL, ((l.1 = 70) ∧ dzz l) → g1_15 l = none := by rw [eg1_15]; exact fun l hl => (xu_o (fun z => (fun z => by have z0 : (58 : Nat) = 70 := z.1; omega) (by rw [z] at hl; exact hl))).trans (f70_g1_14 l hl)
  have f71_g1_15 : ∀ l : XL, ((l.1 = 71) ∧ dzz l) → g1_15 l = none := by rw [eg1_15]; exact fun l hl => (xu_o (fun z => (fun z => by have z0 : (58 : Nat) = 71 := z.1; omega) (by rw [z] at hl; exact hl))).trans (f71_g1_14 l hl)
  have f72_g1_15 : ∀ l : XL, ((l.1 = 72) ∧ dzz l) → g1_15 l = none := by rw [eg1_15]; exact fun l hl => (xu_o (fun z => (fun z => by have z0 : (58 : Nat) = 72 := z.1; omega) (by rw [z] at hl; exact hl))).trans (f72_g1_14 l hl)
  have f73_g1_15 : ∀ l : XL, ((l.1 = 73) ∧ dzz l) → g1_15 l = none := by rw [eg1_15]; exact fun l hl => (xu_o (fun z => (fun z => by have z0 : (58 : Nat) = 73 := z.1; omega) (by rw [z] at hl; exact hl))).trans (f73_g1_14 l hl)
  have f74_g1_15 : ∀ l : XL, ((l.1 = 74) ∧ dzz l) → g1_15 l = none := by rw [eg1_15]; exact fun l hl => (xu_o (fun z => (fun z => by have z0 : (58 : Nat) = 74 := z.1; omega) (by rw [z] at hl; exact hl))).trans (f74_g1_14 l hl)
  have f75_g1_15 : ∀ l : XL, ((l.1 = 75) ∧ dzz l) → g1_15 l = none := by rw [eg1_15]; exact fun l hl => (xu_o (fun z => (fun z => by have z0 : (58 : Nat) = 75 := z.1; omega) (by rw [z] at hl; exact hl))).trans (f75_g1_14 l hl)
  have fr_g1_15 : ∀ l : XL, ¬ (((50 ≤ l.1 ∧ l.1 ≤ 75) ∨ l.1 = 80 ∨ l.1 = 81) ∧ dzz l) → g1_15 l = g0 l := by rw [eg1_15]; exact fun l hl => (xu_o (fun z => hl (by rw [z]; exact ⟨(show (50 ≤ (58 : Nat) ∧ (58 : Nat) ≤ 75) ∨ (58 : Nat) = 80 ∨ (58 : Nat) = 81 by omega), (show (0 : Int) = 0 ∧ (0 : Int) = 0 from ⟨rfl, rfl⟩)⟩))).trans (fr_g1_14 l hl)
  have v51_g1_15 : g1_15 (51, 0, 0) = some (.inr (3, 240, xZero 3)) := by rw [eg1_15]; exact (xu_o (nK (by decide) _ _ _ _)).trans v51_g1_14
  have v52_g1_15 : g1_15 (52, 0, 0) = some (.inr (0, 240, xZero 0)) := by rw [eg1_15]; exact (xu_o (nK (by decide) _ _ _ _)).trans v52_g1_14
  have v53_g1_15 : g1_15 (53, 0, 0) = some (.inr (0, 240, xZero 0)) := by rw [eg1_15]; exact (xu_o (nK (by decide) _ _ _ _)).trans v53_g1_14
  have v54_g1_15 : g1_15 (54, 0, 0) = some (.inr (0, 240, xZero 0)) := by rw [eg1_15]; exact (xu_o (nK (by decide) _ _ _ _)).trans v54_g1_14
  have v55_g1_15 : g1_15 (55, 0, 0) = some (.inr (0, 240, xZero 0)) := by rw [eg1_15]; exact (xu_o (nK (by decide) _ _ _ _)).trans v55_g1_14
  have v56_g1_15 : g1_15 (56, 0, 0) = some (.inr (2, 240, xZero 2)) := by rw [eg1_15]; exact (xu_o (nK (by decide) _ _ _ _)).trans v56_g1_14
  have v57_g1_15 : g1_15 (57, 0, 0) = some (.inr (2, 6, xZero 2)) := by rw [eg1_15]; exact (xu_o (nK (by decide) _ _ _ _)).trans v57_g1_14
  have v50_g1_15 : g1_15 (50, 0, 0) = some (.inl (9, [xR (51, 0, 0), xR (52, 0, 0), xR (53, 0, 0), xR (54, 0, 0), xR (55, 0, 0), xR (56, 0, 0), xR (57, 0, 0), xN, xN, xN, xN, xI 0, xI 0, xI 0, xN, xN, xN, xN, xN, xN, xN, xN, xN, xN, xI 0, xI 0, xN, xN, xN, xN, xN])) := by rw [eg1_15]; exact (xu_o (nK (by decide) _ _ _ _)).trans v50_g1_14
  have v58_g1_15 : g1_15 (58, 0, 0) = some (.inr (0, 4, xZero 0)) := by rw [eg1_15]; exact xu_at
  have f81_g1_15 : ∀ l : XL, l.1 = 81 → g1_15 l = none := by rw [eg1_15]; exact fun l hl => (xu_o (fun z => by rw [z] at hl; have a2 : (58 : Nat) = 81 := hl; omega)).trans (f81_g1_14 l hl)
  refine x_putF dX9_init_70 fl_RX9_33 (fun r hr => by cases hr; exact ⟨rfl, rfl⟩) v50_g1_15 xfit_a (Nat.le_of_ble_eq_true rfl) rfl rfl ?_
  refine x_hg (fun g1_16 eg1_16 => ?_)
  have f59_g1_16 : ∀ l : XL, ((l.1 = 59) ∧ dzz l) → g1_16 l = none := by rw [eg1_16]; exact fun l hl => (xu_o (fun z => (fun z => by have z0 : (50 : Nat) = 59 := z.1; omega) (by rw [z] at hl; exact hl))).trans (f59_g1_15 l hl)
  have f60_g1_16 : ∀ l : XL, ((l.1 = 60) ∧ dzz l) → g1_16 l = none := by rw [eg1_16]; exact fun l hl => (xu_o (fun z => (fun z => by have z0 : (50 : Nat) = 60 := z.1; omega) (by rw [z] at hl; exact hl))).trans (f60_g1_15 l hl)
  have f61_g1_16 : ∀ l : XL, ((l.1 = 61) ∧ dzz l) → g1_16 l = none := by rw [eg1_16]; exact fun l hl => (xu_o (fun z => (fun z => by have z0 : (50 : Nat) = 61 := z.1; omega) (by rw [z] at hl; exact hl))).trans (f61_g1_15 l hl)
  have f62_g1_16 : ∀ l : XL, ((l.1 = 62) ∧ dzz l) → g1_16 l = none := by rw [eg1_16]; exact fun l hl => (xu_o (fun z => (fun z => by have z0 : (50 : Nat) = 62 := z.1; omega) (by rw [z] at hl; exact hl))).trans (f62_g1_15 l hl)
  have f63_g1_16 : ∀ l : XL, ((l.1 = 63) ∧ dzz l) → g1_16 l = none := by rw [eg1_16]; exact fun l hl => (xu_o (fun z => (fun z => by have z0 : (50 : Nat) = 63 := z.1; omega) (by rw [z] at hl; exact hl))).trans (f63_g1_15 l hl)
  have f64_g1_16 : ∀ l : XL, ((l.1 = 64) ∧ dzz l) → g1_16 l = none := by rw [eg1_16]; exact fun l hl => (xu_o (fun z => (fun z => by have z0 : (50 : Nat) = 64 := z.1; omega) (by rw [z] at hl; exact hl))).trans (f64_g1_15 l hl)
  have f65_g1_16 : ∀ l : XL, ((l.1 = 65) ∧ dzz l) → g1_16 l = none := by rw [eg1_16]; exact fun l hl => (xu_o (fun z => (fun z => by have z0 : (50 : Nat) = 65 := z.1; omega) (by rw [z] at hl; exact hl))).trans (f65_g1_15 l hl)
  have f66_g1_16 : ∀ l : XL, ((l.1 = 66) ∧ dzz l) → g1_16 l = none := by rw [eg1_16]; exact fun l hl => (xu_o (fun z => (fun z => by have z0 : (50 : Nat) = 66 := z.1; omega) (by rw [z] at hl; exact hl))).trans (f66_g1_15 l hl)
  have f67_g1_16 : ∀ l : XL, ((l.1 = 67) ∧ dzz l) → g1_16 l = none := by rw [eg1_16]; exact fun l hl => (xu_o (fun z => (fun z => by have z0 : (50 : Nat) = 67 := z.1; omega) (by rw [z] at hl; exact hl))).trans (f67_g1_15 l hl)
  have f68_g1_16 : ∀ l : XL, ((l.1 = 68) ∧ dzz l) → g1_16 l = none := by rw [eg1_16]; exact fun l hl => (xu_o (fun z => (fun z => by have z0 : (50 : Nat) = 68 := z.1; omega) (by rw [z] at hl; exact hl))).trans (f68_g1_15 l hl)
  have f69_g1_16 : ∀ l : XL, ((l.1 = 69) ∧ dzz l) → g1_16 l = none := by rw [eg1_16]; exact fun l hl => (xu_o (fun z => (fun z => by have z0 : (50 : Nat) = 69 := z.1; omega) (by rw [z] at hl; exact hl))).trans (f69_g1_15 l hl)
  have f80_g1_16 : ∀ l : XL, ((l.1 = 80) ∧ dzz l) → g1_16 l = none := by rw [eg1_16]; exact fun l hl => (xu_o (fun z => (fun z => by have z0 : (50 : Nat) = 80 := z.1; omega) (by rw [z] at hl; exact hl))).trans (f80_g1_15 l hl)
  have f70_g1_16 : ∀ l : XL, ((l.1 = 70) ∧ dzz l) → g1_16 l = none := by rw [eg1_16]; exact fun l hl => (xu_o (fun z => (fun z => by have z0 : (50 : Nat) = 70 := z.1; omega) (by rw [z] at hl; exact hl))).trans (f70_g1_15 l hl)
  have f71_g1_16 : ∀ l : XL, ((l.1 = 71) ∧ dzz l) → g1_16 l = none := by rw [eg1_16]; exact fun l hl => (xu_o (fun z => (fun z => by have z0 : (50 : Nat) = 71 := z.1; omega) (by rw [z] at hl; exact hl))).trans (f71_g1_15 l hl)
  have f72_g1_16 : ∀ l : XL, ((l.1 = 72) ∧ dzz l) → g1_16 l = none := by rw [eg1_16]; exact fun l hl => (xu_o (fun z => (fun z => by have z0 : (50 : Nat) = 72 := z.1; omega) (by rw [z] at hl; exact hl))).trans (f72_g1_15 l hl)
  have f73_g1_16 : ∀ l : XL, ((l.1 = 73) ∧ dzz l) → g1_16 l = none := by rw [eg1_16]; exact fun l hl => (xu_o (fun z => (fun z => by have z0 : (50 : Nat) = 73 := z.1; omega) (by rw [z] at hl; exact hl))).trans (f73_g1_15 l hl)
  have f74_g1_16 : ∀ l : XL, ((l.1 = 74) ∧ dzz l) → g1_16 l = none := by rw [eg1_16]; exact fun l hl => (xu_o (fun z => (fun z => by have z0 : (50 : Nat) = 74 := z.1; omega) (by rw [z] at hl; exact hl))).trans (f74_g1_15 l hl)
  have f75_g1_16 : ∀ l : XL, ((l.1 = 75) ∧ dzz l) → g1_16 l = none := by rw [eg1_16]; exact fun l hl => (xu_o (fun z => (fun z => by have z0 : (50 : Nat) = 75 := z.1; omega) (by rw [z] at hl; exact hl))).trans (f75_g1_15 l hl)
  have fr_g1_16 : ∀ l : XL, ¬ (((50 ≤ l.1 ∧ l.1 ≤ 75) ∨ l.1 = 80 ∨ l.1 = 81) ∧ dzz l) → g1_16 l = g0 l := by rw [eg1_16]; exact fun l hl => (xu_o (fun z => hl (by rw [z]; exact ⟨(show (50 ≤ (50 : Nat) ∧ (50 : Nat) ≤ 75) ∨ (50 : Nat) = 80 ∨ (50 : Nat) = 81 by omega), (show (0 : Int) = 0 ∧ (0 : Int) = 0 from ⟨rfl, rfl⟩)⟩))).trans (fr_g1_15 l hl)
  have v51_g1_16 : g1_16 (51, 0, 0) = some (.inr (3, 240, xZero 3)) := by rw [eg1_16]; exact (xu_o (nK (by decide) _ _ _ _)).trans v51_g1_15
  have v52_g1_16 : g1_16 (52, 0, 0) = some (.inr (0, 240, xZero 0)) := by rw [eg1_16]; exact (xu_o (nK (by decide) _ _ _ _)).trans v52_g1_15
  have v53_g1_16 : g1_16 (53, 0, 0) = some (.inr (0, 240, xZero 0)) := by rw [eg1_16]; exact (xu_o (nK (by decide) _ _ _ _)).trans v53_g1_15
  have v54_g1_16 : g1_16 (54, 0, 0) = some (.inr (0, 240, xZero 0)) := by rw [eg1_16]; exact (xu_o (nK (by decide) _ _ _ _)).trans v54_g1_15
  have v55_g1_16 : g1_16 (55, 0, 0) = some (.inr (0, 240, xZero 0)) := by rw [eg1_16]; exact (xu_o (nK (by decide) _ _ _ _)).trans v55_g1_15
  have v56_g1_16 : g1_16 (56, 0, 0) = some (.inr (2, 240, xZero 2)) := by rw [eg1_16]; exact (xu_o (nK (by decide) _ _ _ _)).trans v56_g1_15
  have v57_g1_16 : g1_16 (57, 0, 0) = some (.inr (2, 6, xZero 2)) := by rw [eg1_16]; exact (xu_o (nK (by decide) _ _ _ _)).trans v57_g1_15
  have v58_g1_16 : g1_16 (58, 0, 0) = some (.inr (0, 4, xZero 0)) := by rw [eg1_16]; exact (xu_o (nK (by decide) _ _ _ _)).trans v58_g1_15
  have v50_g1_16 : g1_16 (50, 0, 0) = some (.inl (9, [xR (51, 0, 0), xR (52, 0, 0), xR (53, 0, 0), xR (54, 0, 0), xR (55, 0, 0), xR (56, 0, 0), xR (57, 0, 0), xR (58, 0, 0), xN, xN, xN, xI 0, xI 0, xI 0, xN, xN, xN, xN, xN, xN, xN, xN, xN, xN, xI 0, xI 0, xN, xN, xN, xN, xN])) := by rw [eg1_16]; exact xu_at
  have f81_g1_16 : ∀ l : XL, l.1 = 81 → g1_16 l = none := by rw [eg1_16]; exact fun l hl => (xu_o (fun z => by rw [z] at hl; have a2 : (50 : Nat) = 81 := hl; omega)).trans (f81_g1_15 l hl)
  refine x_aload_n dX9_init_73 rfl ?_
  refine x_iconst dX9_init_74 ?_
  refine x_newarray (59, 0, 0) (t := 0) (n := 4) (N := 4) dX9_init_75 rfl wd124 (f59_g1_16 _ ⟨(show (59 : Nat) = 59 by omega), (show (0 : Int) = 0 ∧ (0 : Int) = 0 from ⟨rfl, rfl⟩)⟩) (show (59 : Nat) ≠ 99 by decide) rfl (by decide) (by omega) (by omega) ?_
  refine x_hg (fun g1_17 eg1_17 => ?_)
  have f60_g1_17 : ∀ l : XL, ((l.1 = 60) ∧ dzz l) → g1_17 l = none := by rw [eg1_17]; exact fun l hl => (xu_o (fun z => (fun z => by have z0 : (59 : Nat) = 60 := z.1; omega) (by rw [z] at hl; exact hl))).trans (f60_g1_16 l hl)
  have f61_g1_17 : ∀ l : XL, ((l.1 = 61) ∧ dzz l) → g1_17 l = none := by rw [eg1_17]; exact fun l hl => (xu_o (fun z => (fun z => by have z0 : (59 : Nat) = 61 := z.1; omega) (by rw [z] at hl; exact hl))).trans (f61_g1_16 l hl)
  have f62_g1_17 : ∀ l : XL, ((l.1 = 62) ∧ dzz l) → g1_17 l = none := by rw [eg1_17]; exact fun l hl => (xu_o (fun z => (fun z => by have z0 : (59 : Nat) = 62 := z.1; omega) (by rw [z] at hl; exact hl))).trans (f62_g1_16 l hl)
  have f63_g1_17 : ∀ l : XL, ((l.1 = 63) ∧ dzz l) → g1_17 l = none := by rw [eg1_17]; exact fun l hl => (xu_o (fun z => (fun z => by have z0 : (59 : Nat) = 63 := z.1; omega) (by rw [z] at hl; exact hl))).trans (f63_g1_16 l hl)
  have f64_g1_17 : ∀ l : XL, ((l.1 = 64) ∧ dzz l) → g1_17 l = none := by rw [eg1_17]; exact fun l hl => (xu_o (fun z => (fun z => by have z0 : (59 : Nat) = 64 := z.1; omega) (by rw [z] at hl; exact hl))).trans (f64_g1_16 l hl)
  have f65_g1_17 : ∀ l : XL, ((l.1 = 65) ∧ dzz l) → g1_17 l = none := by rw [eg1_17]; exact fun l hl => (xu_o (fun z => (fun z => by have z0 : (59 : Nat) = 65 := z.1; omega) (by rw [z] at hl; exact hl))).trans (f65_g1_16 l hl)
  have f66_g1_17 : ∀ l : XL, ((l.1 = 66) ∧ dzz l) → g1_17 l = none := by rw [eg1_17]; exact fun l hl => (xu_o (fun z => (fun z => by have z0 : (59 : Nat) = 66 := z.1; omega) (by rw [z] at hl; exact hl))).trans (f66_g1_16 l hl)
  have f67_g1_17 : ∀ l : XL, ((l.1 = 67) ∧ dzz l) → g1_17 l = none := by rw [eg1_17]; exact fun l hl => (xu_o (fun z => (fun z => by have z0 : (59 : Nat) = 67 := z.1; omega) (by rw [z] at hl; exact hl))).trans (f67_g1_16 l hl)
  have f68_g1_17 : ∀ l : XL, ((l.1 = 68) ∧ dzz l) → g1_17 l = none := by rw [eg1_17]; exact fun l hl => (xu_o (fun z => (fun z => by have z0 : (59 : Nat) = 68 := z.1; omega) (by rw [z] at hl; exact hl))).trans (f68_g1_16 l hl)
  have f69_g1_17 : ∀ l : XL, ((l.1 = 69) ∧ dzz l) → g1_17 l = none := by rw [eg1_17]; exact fun l hl => (xu_o (fun z => (fun z => by have z0 : (59 : Nat) = 69 := z.1; omega) (by rw [z] at hl; exact hl))).trans (f69_g1_16 l hl)
  have f80_g1_17 : ∀ l : XL, ((l.1 = 80) ∧ dzz l) → g1_17 l = none := by rw [eg1_17]; exact fun l hl => (xu_o (fun z => (fun z => by have z0 : (59 : Nat) = 80 := z.1; omega) (by rw [z] at hl; exact hl))).trans (f80_g1_16 l hl)
  have f70_g1_17 : ∀ l : XL, ((l.1 = 70) ∧ dzz l) → g1_17 l = none := by rw [eg1_17]; exact fun l hl => (xu_o (fun z => (fun z => by have z0 : (59 : Nat) = 70 := z.1; omega) (by rw [z] at hl; exact hl))).trans (f70_g1_16 l hl)
  have f71_g1_17 : ∀ l : XL, ((l.1 = 71) ∧ dzz l) → g1_17 l = none := by rw [eg1_17]; exact fun l hl => (xu_o (fun z => (fun z => by have z0 : (59 : Nat) = 71 := z.1; omega) (by rw [z] at hl; exact hl))).trans (f71_g1_16 l hl)
  have f72_g1_17 : ∀ l : XL, ((l.1 = 72) ∧ dzz l) → g1_17 l = none := by rw [eg1_17]; exact fun l hl => (xu_o (fun z => (fun z => by have z0 : (59 : Nat) = 72 := z.1; omega) (by rw [z] at hl; exact hl))).trans (f72_g1_16 l hl)
  have f73_g1_17 : ∀ l : XL, ((l.1 = 73) ∧ dzz l) → g1_17 l = none := by rw [eg1_17]; exact fun l hl => (xu_o (fun z => (fun z => by have z0 : (59 : Nat) = 73 := z.1; omega) (by rw [z] at hl; exact hl))).trans (f73_g1_16 l hl)
  have f74_g1_17 : ∀ l : XL, ((l.1 = 74) ∧ dzz l) → g1_17 l = none := by rw [eg1_17]; exact fun l hl => (xu_o (fun z => (fun z => by have z0 : (59 : Nat) = 74 := z.1; omega) (by rw [z] at hl; exact hl))).trans (f74_g1_16 l hl)
  have f75_g1_17 : ∀ l : XL, ((l.1 = 75) ∧ dzz l) → g1_17 l = none := by rw [eg1_17]; exact fun l hl => (xu_o (fun z => (fun z => by have z0 : (59 : Nat) = 75 := z.1; omega) (by rw [z] at hl; exact hl))).trans (f75_g1_16 l hl)
  have fr_g1_17 : ∀ l : XL, ¬ (((50 ≤ l.1 ∧ l.1 ≤ 75) ∨ l.1 = 80 ∨ l.1 = 81) ∧ dzz l) → g1_17 l = g0 l := by rw [eg1_17]; exact fun l hl => (xu_o (fun z => hl (by rw [z]; exact ⟨(show (50 ≤ (59 : Nat) ∧ (59 : Nat) ≤ 75) ∨ (59 : Nat) = 80 ∨ (59 : Nat) = 81 by omega), (show (0 : Int) = 0 ∧ (0 : Int) = 0 from ⟨rfl, rfl⟩)⟩))).trans (fr_g1_16 l hl)
  have v51_g1_17 : g1_17 (51, 0, 0) = some (.inr (3, 240, xZero 3)) := by rw [eg1_17]; exact (xu_o (nK (by decide) _ _ _ _)).trans v51_g1_16
  have v52_g1_17 : g1_17 (52, 0, 0) = some (.inr (0, 240, xZero 0)) := by rw [eg1_17]; exact (xu_o (nK (by decide) _ _ _ _)).trans v52_g1_16
  have v53_g1_17 : g1_17 (53, 0, 0) = some (.inr (0, 240, xZero 0)) := by rw [eg1_17]; exact (xu_o (nK (by decide) _ _ _ _)).trans v53_g1_16
  have v54_g1_17 : g1_17 (54, 0, 0) = some (.inr (0, 240, xZero 0)) := by rw [eg1_17]; exact (xu_o (nK (by decide) _ _ _ _)).trans v54_g1_16
  have v55_g1_17 : g1_17 (55, 0, 0) = some (.inr (0, 240, xZero 0)) := by rw [eg1_17]; exact (xu_o (nK (by decide) _ _ _ _)).trans v55_g1_16
  have v56_g1_17 : g1_17 (56, 0, 0) = some (.inr (2, 240, xZero 2)) := by rw [eg1_17]; exact (xu_o (nK (by decide) _ _ _ _)).trans v56_g1_16
  have v57_g1_17 : g1_17 (57, 0, 0) = some (.inr (2, 6, xZero 2)) := by rw [eg1_17]; exact (xu_o (nK (by decide) _ _ _ _)).trans v57_g1_16
  have v58_g1_17 : g1_17 (58, 0, 0) = some (.inr (0, 4, xZero 0)) := by rw [eg1_17]; exact (xu_o (nK (by decide) _ _ _ _)).trans v58_g1_16
  have v50_g1_17 : g1_17 (50, 0, 0) = some (.inl (9, [xR (51, 0, 0), xR (52, 0, 0), xR (53, 0, 0), xR (54, 0, 0), xR (55, 0, 0), xR (56, 0, 0), xR (57, 0, 0), xR (58, 0, 0), xN, xN, xN, xI 0, xI 0, xI 0, xN, xN, xN, xN, xN, xN, xN, xN, xN, xN, xI 0, xI 0, xN, xN, xN, xN, xN])) := by rw [eg1_17]; exact (xu_o (nK (by decide) _ _ _ _)).trans v50_g1_16
  have v59_g1_17 : g1_17 (59, 0, 0) = some (.inr (0, 4, xZero 0)) := by rw [eg1_17]; exact xu_at
  have f81_g1_17 : ∀ l : XL, l.1 = 81 → g1_17 l = none := by rw [eg1_17]; exact fun l hl => (xu_o (fun z => by rw [z] at hl; have a2 : (59 : Nat) = 81 := hl; omega)).trans (f81_g1_16 l hl)
  refine x_putF dX9_init_77 fl_RX9_36 (fun r hr => by cases hr; exact ⟨rfl, rfl⟩) v50_g1_17 xfit_a (Nat.le_of_ble_eq_true rfl) rfl rfl ?_
  refine x_hg (fun g1_18 eg1_18 => ?_)
  have f60_g1_18 : ∀ l : XL, ((l.1 = 60) ∧ dzz l) → g1_18 l = none := by rw [eg1_18]; exact fun l hl => (xu_o (fun z => (fun z => by have z0 : (50 : Nat) = 60 := z.1; omega) (by rw [z] at hl; exact hl))).trans (f60_g1_17 l hl)
  have f61_g1_18 : ∀ l : XL, ((l.1 = 61) ∧ dzz l) → g1_18 l = none := by rw [eg1_18]; exact fun l hl => (xu_o (fun z => (fun z => by have z0 : (50 : Nat) = 61 := z.1; omega) (by rw [z] at hl; exact hl))).trans (f61_g1_17 l hl)
  have f62_g1_18 : ∀ l : XL, ((l.1 = 62) ∧ dzz l) → g1_18 l = none := by rw [eg1_18]; exact fun l hl => (xu_o (fun z => (fun z => by have z0 : (50 : Nat) = 62 := z.1; omega) (by rw [z] at hl; exact hl))).trans (f62_g1_17 l hl)
  have f63_g1_18 : ∀ l : XL, ((l.1 = 63) ∧ dzz l) → g1_18 l = none := by rw [eg1_18]; exact fun l hl => (xu_o (fun z => (fun z => by have z0 : (50 : Nat) = 63 := z.1; omega) (by rw [z] at hl; exact hl))).trans (f63_g1_17 l hl)
  have f64_g1_18 : ∀ l : XL, ((l.1 = 64) ∧ dzz l) → g1_18 l = none := by rw [eg1_18]; exact fun l hl => (xu_o (fun z => (fun z => by have z0 : (50 : Nat) = 64 := z.1; omega) (by rw [z] at hl; exact hl))).trans (f64_g1_17 l hl)
  have f65_g1_18 : ∀ l : XL, ((l.1 = 65) ∧ dzz l) → g1_18 l = none := by rw [eg1_18]; exact fun l hl => (xu_o (fun z => (fun z => by have z0 : (50 : Nat) = 65 := z.1; omega) (by rw [z] at hl; exact hl))).trans (f65_g1_17 l hl)
  have f66_g1_18 : ∀ l : XL, ((l.1 = 66) ∧ dzz l) → g1_18 l = none := by rw [eg1_18]; exact fun l hl => (xu_o (fun z => (fun z => by have z0 : (50 : Nat) = 66 := z.1; omega) (by rw [z] at hl; exact hl))).trans (f66_g1_17 l hl)
  have f67_g1_18 : ∀ l : XL, ((l.1 = 67) ∧ dzz l) → g1_18 l = none := by rw [eg1_18]; exact fun l hl => (xu_o (fun z => (fun z => by have z0 : (50 : Nat) = 67 := z.1; omega) (by rw [z] at hl; exact hl))).trans (f67_g1_17 l hl)
  have f68_g1_18 : ∀ l : XL, ((l.1 = 68) ∧ dzz l) → g1_18 l = none := by rw [eg1_18]; exact fun l hl => (xu_o (fun z => (fun z => by have z0 : (50 : Nat) = 68 := z.1; omega) (by rw [z] at hl; exact hl))).trans (f68_g1_17 l hl)
  have f69_g1_18 : ∀ l : XL, ((l.1 = 69) ∧ dzz l) → g1_18 l = none := by rw [eg1_18]; exact fun l hl => (xu_o (fun z => (fun z => by have z0 : (50 : Nat) = 69 := z.1; omega) (by rw [z] at hl; exact hl))).trans (f69_g1_17 l hl)
  have f80_g1_18 : ∀ l : XL, ((l.1 = 80) ∧ dzz l) → g1_18 l = none := by rw [eg1_18]; exact fun l hl => (xu_o (fun z => (fun z => by have z0 : (50 : Nat) = 80 := z.1; omega) (by rw [z] at hl; exact hl))).trans (f80_g1_17 l hl)
  have f70_g1_18 : ∀ l : XL, ((l.1 = 70) ∧ dzz l) → g1_18 l = none := by rw [eg1_18]; exact fun l hl => (xu_o (fun z => (fun z => by have z0 : (50 : Nat) = 70 := z.1; omega) (by rw [z] at hl; exact hl))).trans (f70_g1_17 l hl)
  have f71_g1_18 : ∀ l : XL, ((l.1 = 71) ∧ dzz l) → g1_18 l = none := by rw [eg1_18]; exact fun l hl => (xu_o (fun z => (fun z => by have z0 : (50 : Nat) = 71 := z.1; omega) (by rw [z] at hl; exact hl))).trans (f71_g1_17 l hl)
  have f72_g1_18 : ∀ l : XL, ((l.1 = 72) ∧ dzz l) → g1_18 l = none := by rw [eg1_18]; exact fun l hl => (xu_o (fun z => (fun z => by have z0 : (50 : Nat) = 72 := z.1; omega) (by rw [z] at hl; exact hl))).trans (f72_g1_17 l hl)
  have f73_g1_18 : ∀ l : XL, ((l.1 = 73) ∧ dzz l) → g1_18 l = none := by rw [eg1_18]; exact fun l hl => (xu_o (fun z => (fun z => by have z0 : (50 : Nat) = 73 := z.1; omega) (by rw [z] at hl; exact hl))).trans (f73_g1_17 l hl)
  have f74_g1_18 : ∀ l : XL, ((l.1 = 74) ∧ dzz l) → g1_18 l = none := by rw [eg1_18]; exact fun l hl => (xu_o (fun z => (fun z => by have z0 : (50 : Nat) = 74 := z.1; omega) (by rw [z] at hl; exact hl))).trans (f74_g1_17 l hl)
  have f75_g1_18 : ∀ l : XL, ((l.1 = 75) ∧ dzz l) → g1_18 l = none := by rw [eg1_18]; exact fun l hl => (xu_o (fun z => (fun z => by have z0 : (50 : Nat) = 75 := z.1; omega) (by rw [z] at hl; exact hl))).trans (f75_g1_17 l hl)
  have fr_g1_18 : ∀ l : XL, ¬ (((50 ≤ l.1 ∧ l.1 ≤ 75) ∨ l.1 = 80 ∨ l.1 = 81) ∧ dzz l) → g1_18 l = g0 l := by rw [eg1_18]; exact fun l hl => (xu_o (fun z => hl (by rw [z]; exact ⟨(show (50 ≤ (50 : Nat) ∧ (50 : Nat) ≤ 75) ∨ (50 : Nat) = 80 ∨ (50 : Nat) = 81 by omega), (show (0 : Int) = 0 ∧ (0 : Int) = 0 from ⟨rfl, rfl⟩)⟩))).trans (fr_g1_17 l hl)
  have v51_g1_18 : g1_18 (51, 0, 0) = some (.inr (3, 240, xZero 3)) := by rw [eg1_18]; exact (xu_o (nK (by decide) _ _ _ _)).trans v51_g1_17
  have v52_g1_18 : g1_18 (52, 0, 0) = some (.inr (0, 240, xZero 0)) := by rw [eg1_18]; exact (xu_o (nK (by decide) _ _ _ _)).trans v52_g1_17
  have v53_g1_18 : g1_18 (53, 0, 0) = some (.inr (0, 240, xZero 0)) := by rw [eg1_18]; exact (xu_o (nK (by decide) _ _ _ _)).trans v53_g1_17
  have v54_g1_18 : g1_18 (54, 0, 0) = some (.inr (0, 240, xZero 0)) := by rw [eg1_18]; exact (xu_o (nK (by decide) _ _ _ _)).trans v54_g1_17
  have v55_g1_18 : g1_18 (55, 0, 0) = some (.inr (0, 240, xZero 0)) := by rw [eg1_18]; exact (xu_o (nK (by decide) _ _ _ _)).trans v55_g1_17
  have v56_g1_18 : g1_18 (56, 0, 0) = some (.inr (2, 240, xZero 2)) := by rw [eg1_18]; exact (xu_o (nK (by decide) _ _ _ _)).trans v56_g1_17
  have v57_g1_18 : g1_18 (57, 0, 0) = some (.inr (2, 6, xZero 2)) := by rw [eg1_18]; exact (xu_o (nK (by decide) _ _ _ _)).trans v57_g1_17
  have v58_g1_18 : g1_18 (58, 0, 0) = some (.inr (0, 4, xZero 0)) := by rw [eg1_18]; exact (xu_o (nK (by decide) _ _ _ _)).trans v58_g1_17
  have v59_g1_18 : g1_18 (59, 0, 0) = some (.inr (0, 4, xZero 0)) := by rw [eg1_18]; exact (xu_o (nK (by decide) _ _ _ _)).trans v59_g1_17
  have v50_g1_18 : g1_18 (50, 0, 0) = some (.inl (9, [xR (51, 0, 0), xR (52, 0, 0), xR (53, 0, 0), xR (54, 0, 0), xR (55, 0, 0), xR (56, 0, 0), xR (57, 0, 0), xR (58, 0, 0), xR (59, 0, 0), xN, xN, xI 0, xI 0, xI 0, xN, xN, xN, xN, xN, xN, xN, xN, xN, xN, xI 0, xI 0, xN, xN, xN, xN, xN])) := by rw [eg1_18]; exact xu_at
  have f81_g1_18 : ∀ l : XL, l.1 = 81 → g1_18 l = none := by rw [eg1_18]; exact fun l hl => (xu_o (fun z => by rw [z] at hl; have a2 : (50 : Nat) = 81 := hl; omega)).trans (f81_g1_17 l hl)
  refine x_aload_n dX9_init_80 rfl ?_
  refine x_iconst dX9_init_81 ?_
  refine x_newarray (60, 0, 0) (t := 0) (n := 4) (N := 4) dX9_init_82 rfl wd124 (f60_g1_18 _ ⟨(show (60 : Nat) = 60 by omega), (show (0 : Int) = 0 ∧ (0 : Int) = 0 from ⟨rfl, rfl⟩)⟩) (show (60 : Nat) ≠ 99 by decide) rfl (by decide) (by omega) (by omega) ?_
  refine x_hg (fun g1_19 eg1_19 => ?_)
  have f61_g1_19 : ∀ l : XL, ((l.1 = 61) ∧ dzz l) → g1_19 l = none := by rw [eg1_19]; exact fun l hl => (xu_o (fun z => (fun z => by have z0 : (60 : Nat) = 61 := z.1; omega) (by rw [z] at hl; exact hl))).trans (f61_g1_18 l hl)
  have f62_g1_19 : ∀ l : XL, ((l.1 = 62) ∧ dzz l) → g1_19 l = none := by rw [eg1_19]; exact fun l hl => (xu_o (fun z => (fun z => by have z0 : (60 : Nat) = 62 := z.1; omega) (by rw [z] at hl; exact hl))).trans (f62_g1_18 l hl)
  have f63_g1_19 : ∀ l : XL, ((l.1 = 63) ∧ dzz l) → g1_19 l = none := by rw [eg1_19]; exact fun l hl => (xu_o (fun z => (fun z => by have z0 : (60 : Nat) = 63 := z.1; omega) (by rw [z] at hl; exact hl))).trans (f63_g1_18 l hl)
  have f64_g1_19 : ∀ l : XL, ((l.1 = 64) ∧ dzz l) → g1_19 l = none := by rw [eg1_19]; exact fun l hl => (xu_o (fun z => (fun z => by have z0 : (60 : Nat) = 64 := z.1; omega) (by rw [z] at hl; exact hl))).trans (f64_g1_18 l hl)
  have f65_g1_19 : ∀ l : XL, ((l.1 = 65) ∧ dzz l) → g1_19 l = none := by rw [eg1_19]; exact fun l hl => (xu_o (fun z => (fun z => by have z0 : (60 : Nat) = 65 := z.1; omega) (by rw [z] at hl; exact hl))).trans (f65_g1_18 l hl)
  have f66_g1_19 : ∀ l : XL, ((l.1 = 66) ∧ dzz l) → g1_19 l = none := by rw [eg1_19]; exact fun l hl => (xu_o (fun z => (fun z => by have z0 : (60 : Nat) = 66 := z.1; omega) (by rw [z] at hl; exact hl))).trans (f66_g1_18 l hl)
  have f67_g1_19 : ∀ l : XL, ((l.1 = 67) ∧ dzz l) → g1_19 l = none := by rw [eg1_19]; exact fun l hl => (xu_o (fun z => (fun z => by have z0 : (60 : Nat) = 67 := z.1; omega) (by rw [z] at hl; exact hl))).trans (f67_g1_18 l hl)
  have f68_g1_19 : ∀ l : XL, ((l.1 = 68) ∧ dzz l) → g1_19 l = none := by rw [eg1_19]; exact fun l hl => (xu_o (fun z => (fun z => by have z0 : (60 : Nat) = 68 := z.1; omega) (by rw [z] at hl; exact hl))).trans (f68_g1_18 l hl)
  have f69_g1_19 : ∀ l : XL, ((l.1 = 69) ∧ dzz l) → g1_19 l = none := by rw [eg1_19]; exact fun l hl => (xu_o (fun z => (fun z => by have z0 : (60 : Nat) = 69 := z.1; omega) (by rw [z] at hl; exact hl))).trans (f69_g1_18 l hl)
  have f80_g1_19 : ∀ l : XL, ((l.1 = 80) ∧ dzz l) → g1_19 l = none := by rw [eg1_19]; exact fun l hl => (xu_o (fun z => (fun z => by have z0 : (60 : Nat) = 80 := z.1; omega) (by rw [z] at hl; exact hl))).trans (f80_g1_18 l hl)
  have f70_g1_19 : ∀ l : XL, ((l.1 = 70) ∧ dzz l) → g1_19 l = none := by rw [eg1_19]; exact fun l hl => (xu_o (fun z => (fun z => by have z0 : (60 : Nat) = 70 := z.1; omega) (by rw [z] at hl; exact hl))).trans (f70_g1_18 l hl)
  have f71_g1_19 : ∀ l : XL, ((l.1 = 71) ∧ dzz l) → g1_19 l = none := by rw [eg1_19]; exact fun l hl => (xu_o (fun z => (fun z => by have z0 : (60 : Nat) = 71 := z.1; omega) (by rw [z] at hl; exact hl))).trans (f71_g1_18 l hl)
  have f72_g1_19 : ∀ l : XL, ((l.1 = 72) ∧ dzz l) → g1_19 l = none := by rw [eg1_19]; exact fun l hl => (xu_o (fun z => (fun z => by have z0 : (60 : Nat) = 72 := z.1; omega) (by rw [z] at hl; exact hl))).trans (f72_g1_18 l hl)
  have f73_g1_19 : ∀ l : XL, ((l.1 = 73) ∧ dzz l) → g1_19 l = none := by rw [eg1_19]; exact fun l hl => (xu_o (fun z => (fun z => by have z0 : (60 : Nat) = 73 := z.1; omega) (by rw [z] at hl; exact hl))).trans (f73_g1_18 l hl)
  have f74_g1_19 : ∀ l : XL, ((l.1 = 74) ∧ dzz l) → g1_19 l = none := by rw [eg1_19]; exact fun l hl => (xu_o (fun z => (fun z => by have z0 : (60 : Nat) = 74 := z.1; omega) (by rw [z] at hl; exact hl))).trans (f74_g1_18 l hl)
  have f75_g1_19 : ∀ l : XL, ((l.1 = 75) ∧ dzz l) → g1_19 l = none := by rw [eg1_19]; exact fun l hl => (xu_o (fun z => (fun z => by have z0 : (60 : Nat) = 75 := z.1; omega) (by rw [z] at hl; exact hl))).trans (f75_g1_18 l hl)
  have fr_g1_19 : ∀ l : XL, ¬ (((50 ≤ l.1 ∧ l.1 ≤ 75) ∨ l.1 = 80 ∨ l.1 = 81) ∧ dzz l) → g1_19 l = g0 l := by rw [eg1_19]; exact fun l hl => (xu_o (fun z => hl (by rw [z]; exact ⟨(show (50 ≤ (60 : Nat) ∧ (60 : Nat) ≤ 75) ∨ (60 : Nat) = 80 ∨ (60 : Nat) = 81 by omega), (show (0 : Int) = 0 ∧ (0 : Int) = 0 from ⟨rfl, rfl⟩)⟩))).trans (fr_g1_18 l hl)
  have v51_g1_19 : g1_19 (51, 0, 0) = some (.inr (3, 240, xZero 3)) := by rw [eg1_19]; exact (xu_o (nK (by decide) _ _ _ _)).trans v51_g1_18
  have v52_g1_19 : g1_19 (52, 0, 0) = some (.inr (0, 240, xZero 0)) := by rw [eg1_19]; exact (xu_o (nK (by decide) _ _ _ _)).trans v52_g1_18
  have v53_g1_19 : g1_19 (53, 0, 0) = some (.inr (0, 240, xZero 0)) := by rw [eg1_19]; exact (xu_o (nK (by decide) _ _ _ _)).trans v53_g1_18
  have v54_g1_19 : g1_19 (54, 0, 0) = some (.inr (0, 240, xZero 0)) := by rw [eg1_19]; exact (xu_o (nK (by decide) _ _ _ _)).trans v54_g1_18
  have v55_g1_19 : g1_19 (55, 0, 0) = some (.inr (0, 240, xZero 0)) := by rw [eg1_19]; exact (xu_o (nK (by decide) _ _ _ _)).trans v55_g1_18
  have v56_g1_19 : g1_19 (56, 0, 0) = some (.inr (2, 240, xZero 2)) := by rw [eg1_19]; exact (xu_o (nK (by decide) _ _ _ _)).trans v56_g1_18
  have v57_g1_19 : g1_19 (57, 0, 0) = some (.inr (2, 6, xZero 2)) := by rw [eg1_19]; exact (xu_o (nK (by decide) _ _ _ _)).trans v57_g1_18
  have v58_g1_19 : g1_19 (58, 0, 0) = some (.inr (0, 4, xZero 0)) := by rw [eg1_19]; exact (xu_o (nK (by decide) _ _ _ _)).trans v58_g1_18
  have v59_g1_19 : g1_19 (59, 0, 0) = some (.inr (0, 4, xZero 0)) := by rw [eg1_19]; exact (xu_o (nK (by decide) _ _ _ _)).trans v59_g1_18
  have v50_g1_19 : g1_19 (50, 0, 0) = some (.inl (9, [xR (51, 0, 0), xR (52, 0, 0), xR (53, 0, 0), xR (54, 0, 0), xR (55, 0, 0), xR (56, 0, 0), xR (57, 0, 0), xR (58, 0, 0), xR (59, 0, 0), xN, xN, xI 0, xI 0, xI 0, xN, xN, xN, xN, xN, xN, xN, xN, xN, xN, xI 0, xI 0, xN, xN, xN, xN, xN])) := by rw [eg1_19]; exact (xu_o (nK (by decide) _ _ _ _)).trans v50_g1_18
  have v60_g1_19 : g1_19 (60, 0, 0) = some (.inr (0, 4, xZero 0)) := by rw [eg1_19]; exact xu_at
  have f81_g1_19 : ∀ l : XL, l.1 = 81 → g1_19 l = none := by rw [eg1_19]; exact fun l hl => (xu_o (fun z => by rw [z] at hl; have a2 : (60 : Nat) = 81 := hl; omega)).trans (f81_g1_18 l hl)
  refine x_putF dX9_init_84 fl_RX9_39 (fun r hr => by cases hr; exact ⟨rfl, rfl⟩) v50_g1_19 xfit_a (Nat.le_of_ble_eq_true rfl) rfl rfl ?_
  refine x_hg (fun g1_20 eg1_20 => ?_)
  have f61_g1_20 : ∀ l : XL, ((l.1 = 61) ∧ dzz l) → g1_20 l = none := by rw [eg1_20]; exact fun l hl => (xu_o (fun z => (fun z => by have z0 : (50 : Nat) = 61 := z.1; omega) (by rw [z] at hl; exact hl))).trans (f61_g1_19 l hl)
  have f62_g1_20 : ∀ l : XL, ((l.1 = 62) ∧ dzz l) → g1_20 l = none := by rw [eg1_20]; exact fun l hl => (xu_o (fun z => (fun z => by have z0 : (50 : Nat) = 62 := z.1; omega) (by rw [z] at hl; exact hl))).trans (f62_g1_19 l hl)
  have f63_g1_20 : ∀ l : XL, ((l.1 = 63) ∧ dzz l) → g1_20 l = none := by rw [eg1_20]; exact fun l hl => (xu_o (fun z => (fun z => by have z0 : (50 : Nat) = 63 := z.1; omega) (by rw [z] at hl; exact hl))).trans (f63_g1_19 l hl)
  have f64_g1_20 : ∀ l : XL, ((l.1 = 64) ∧ dzz l) → g1_20 l = none := by rw [eg1_20]; exact fun l hl => (xu_o (fun z => (fun z => by have z0 : (50 : Nat) = 64 := z.1; omega) (by rw [z] at hl; exact hl))).trans (f64_g1_19 l hl)
  have f65_g1_20 : ∀ l : XL, ((l.1 = 65) ∧ dzz l) → g1_20 l = none := by rw [eg1_20]; exact fun l hl => (xu_o (fun z => (fun z => by have z0 : (50 : Nat) = 65 := z.1; omega) (by rw [z] at hl; exact hl))).trans (f65_g1_19 l hl)
  have f66_g1_20 : ∀ l : XL, ((l.1 = 66) ∧ dzz l) → g1_20 l = none := by rw [eg1_20]; exact fun l hl => (xu_o (fun z => (fun z => by have z0 : (50 : Nat) = 66 := z.1; omega) (by rw [z] at hl; exact hl))).trans (f66_g1_19 l hl)
  have f67_g1_20 : ∀ l : XL, ((l.1 = 67) ∧ dzz l) → g1_20 l = none := by rw [eg1_20]; exact fun l hl => (xu_o (fun z => (fun z => by have z0 : (50 : Nat) = 67 := z.1; omega) (by rw [z] at hl; exact hl))).trans (f67_g1_19 l hl)
  have f68_g1_20 : ∀ l : XL, ((l.1 = 68) ∧ dzz l) → g1_20 l = none := by rw [eg1_20]; exact fun l hl => (xu_o (fun z => (fun z => by have z0 : (50 : Nat) = 68 := z.1; omega) (by rw [z] at hl; exact hl))).trans (f68_g1_19 l hl)
  have f69_g1_20 : ∀ l : XL, ((l.1 = 69) ∧ dzz l) → g1_20 l = none := by rw [eg1_20]; exact fun l hl => (xu_o (fun z => (fun z => by have z0 : (50 : Nat) = 69 := z.1; omega) (by rw [z] at hl; exact hl))).trans (f69_g1_19 l hl)
  have f80_g1_20 : ∀ l : XL, ((l.1 = 80) ∧ dzz l) → g1_20 l = none := by rw [eg1_20]; exact fun l hl => (xu_o (fun z => (fun z => by have z0 : (50 : Nat) = 80 := z.1; omega) (by rw [z] at hl; exact hl))).trans (f80_g1_19 l hl)
  have f70_g1_20 : ∀ l : XL, ((l.1 = 70) ∧ dzz l) → g1_20 l = none := by rw [eg1_20]; exact fun l hl => (xu_o (fun z => (fun z => by have z0 : (50 : Nat) = 70 := z.1; omega) (by rw [z] at hl; exact hl))).trans (f70_g1_19 l hl)
  have f71_g1_20 : ∀ l : XL, ((l.1 = 71) ∧ dzz l) → g1_20 l = none := by rw [eg1_20]; exact fun l hl => (xu_o (fun z => (fun z => by have z0 : (50 : Nat) = 71 := z.1; omega) (by rw [z] at hl; exact hl))).trans (f71_g1_19 l hl)
  have f72_g1_20 : ∀ l : XL, ((l.1 = 72) ∧ dzz l) → g1_20 l = none := by rw [eg1_20]; exact fun l hl => (xu_o (fun z => (fun z => by have z0 : (50 : Nat) = 72 := z.1; omega) (by rw [z] at hl; exact hl))).trans (f72_g1_19 l hl)
  have f73_g1_20 : ∀ l : XL, ((l.1 = 73) ∧ dzz l) → g1_20 l = none := by rw [eg1_20]; exact fun l hl => (xu_o (fun z => (fun z => by have z0 : (50 : Nat) = 73 := z.1; omega) (by rw [z] at hl; exact hl))).trans (f73_g1_19 l hl)
  have f74_g1_20 : ∀ l : XL, ((l.1 = 74) ∧ dzz l) → g1_20 l = none := by rw [eg1_20]; exact fun l hl => (xu_o (fun z => (fun z => by have z0 : (50 : Nat) = 74 := z.1; omega) (by rw [z] at hl; exact hl))).trans (f74_g1_19 l hl)
  have f75_g1_20 : ∀ l : XL, ((l.1 = 75) ∧ dzz l) → g1_20 l = none := by rw [eg1_20]; exact fun l hl => (xu_o (fun z => (fun z => by have z0 : (50 : Nat) = 75 := z.1; omega) (by rw [z] at hl; exact hl))).trans (f75_g1_19 l hl)
  have fr_g1_20 : ∀ l : XL, ¬ (((50 ≤ l.1 ∧ l.1 ≤ 75) ∨ l.1 = 80 ∨ l.1 = 81) ∧ dzz l) → g1_20 l = g0 l := by rw [eg1_20]; exact fun l hl => (xu_o (fun z => hl (by rw [z]; exact ⟨(show (50 ≤ (50 : Nat) ∧ (50 : Nat) ≤ 75) ∨ (50 : Nat) = 80 ∨ (50 : Nat) = 81 by omega), (show (0 : Int) = 0 ∧ (0 : Int) = 0 from ⟨rfl, rfl⟩)⟩))).trans (fr_g1_19 l hl)
  have v51_g1_20 : g1_20 (51, 0, 0) = some (.inr (3, 240, xZero 3)) := by rw [eg1_20]; exact (xu_o (nK (by decide) _ _ _ _)).trans v51_g1_19
  have v52_g1_20 : g1_20 (52, 0, 0) = some (.inr (0, 240, xZero 0)) := by rw [eg1_20]; exact (xu_o (nK (by decide) _ _ _ _)).trans v52_g1_19
  have v53_g1_20 : g1_20 (53, 0, 0) = some (.inr (0, 240, xZero 0)) := by rw [eg1_20]; exact (xu_o (nK (by decide) _ _ _ _)).trans v53_g1_19
  have v54_g1_20 : g1_20 (54, 0, 0) = some (.inr (0, 240, xZero 0)) := by rw [eg1_20]; exact (xu_o (nK (by decide) _ _ _ _)).trans v54_g1_19
  have v55_g1_20 : g1_20 (55, 0, 0) = some (.inr (0, 240, xZero 0)) := by rw [eg1_20]; exact (xu_o (nK (by decide) _ _ _ _)).trans v55_g1_19
  have v56_g1_20 : g1_20 (56, 0, 0) = some (.inr (2, 240, xZero 2)) := by rw [eg1_20]; exact (xu_o (nK (by decide) _ _ _ _)).trans v56_g1_19
  have v57_g1_20 : g1_20 (57, 0, 0) = some (.inr (2, 6, xZero 2)) := by rw [eg1_20]; exact (xu_o (nK (by decide) _ _ _ _)).trans v57_g1_19
  have v58_g1_20 : g1_20 (58, 0, 0) = some (.inr (0, 4, xZero 0)) := by rw [eg1_20]; exact (xu_o (nK (by decide) _ _ _ _)).trans v58_g1_19
  have v59_g1_20 : g1_20 (59, 0, 0) = some (.inr (0, 4, xZero 0)) := by rw [eg1_20]; exact (xu_o (nK (by decide) _ _ _ _)).trans v59_g1_19
  have v60_g1_20 : g1_20 (60, 0, 0) = some (.inr (0, 4, xZero 0)) := by rw [eg1_20]; exact (xu_o (nK (by decide) _ _ _ _)).trans v60_g1_19
  have v50_g1_20 : g1_20 (50, 0, 0) = some (.inl (9, [xR (51, 0, 0), xR (52, 0, 0), xR (53, 0, 0), xR (54, 0, 0), xR (55, 0, 0), xR (56, 0, 0), xR (57, 0, 0), xR (58, 0, 0), xR (59, 0, 0), xR (60, 0, 0), xN, xI 0, xI 0, xI 0, xN, xN, xN, xN, xN, xN, xN, xN, xN, xN, xI 0, xI 0, xN, xN, xN, xN, xN])) := by rw [eg1_20]; exact xu_at
  have f81_g1_20 : ∀ l : XL, l.1 = 81 → g1_20 l = none := by rw [eg1_20]; exact fun l hl => (xu_o (fun z => by rw [z] at hl; have a2 : (50 : Nat) = 81 := hl; omega)).trans (f81_g1_19 l hl)
  refine x_aload_n dX9_init_87 rfl ?_
  refine x_iconst dX9_init_88 ?_
  refine x_newarray (61, 0, 0) (t := 0) (n := 4) (N := 4) dX9_init_89 rfl wd124 (f61_g1_20 _ ⟨(show (61 : Nat) = 61 by omega), (show (0 : Int) = 0 ∧ (0 : Int) = 0 from ⟨rfl, rfl⟩)⟩) (show (61 : Nat) ≠ 99 by decide) rfl (by decide) (by omega) (by omega) ?_
  refine x_hg (fun g1_21 eg1_21 => ?_)
  have f62_g1_21 : ∀ l : XL, ((l.1 = 62) ∧ dzz l) → g1_21 l = none := by rw [eg1_21]; exact fun l hl => (xu_o (fun z => (fun z => by have z0 : (61 : Nat) = 62 := z.1; omega) (by rw [z] at hl; exact hl))).trans (f62_g1_20 l hl)
  have f63_g1_21 : ∀ l : XL, ((l.1 = 63) ∧ dzz l) → g1_21 l = none := by rw [eg1_21]; exact fun l hl => (xu_o (fun z => (fun z => by have z0 : (61 : Nat) = 63 := z.1; omega) (by rw [z] at hl; exact hl))).trans (f63_g1_20 l hl)
  have f64_g1_21 : ∀ l : XL, ((l.1 = 64) ∧ dzz l) → g1_21 l = none := by rw [eg1_21]; exact fun l hl => (xu_o (fun z => (fun z => by have z0 : (61 : Nat) = 64 := z.1; omega) (by rw [z] at hl; exact hl))).trans (f64_g1_20 l hl)
  have f65_g1_21 : ∀ l : XL, ((l.1 = 65) ∧ dzz l) → g1_21 l = none := by rw [eg1_21]; exact fun l hl => (xu_o (fun z => (fun z => by have z0 : (61 : Nat) = 65 := z.1; omega) (by rw [z] at hl; exact hl))).trans (f65_g1_20 l hl)
  have f66_g1_21 : ∀ l : XL, ((l.1 = 66) ∧ dzz l) → g1_21 l = none := by rw [eg1_21]; exact fun l hl => (xu_o (fun z => (fun z => by have z0 : (61 : Nat) = 66 := z.1; omega) (by rw [z] at hl; exact hl))).trans (f66_g1_20 l hl)
  have f67_g1_21 : ∀ l : XL, ((l.1 = 67) ∧ dzz l) → g1_21 l = none := by rw [eg1_21]; exact fun l hl => (xu_o (fun z => (fun z => by have z0 : (61 : Nat) = 67 := z.1; omega) (by rw [z] at hl; exact hl))).trans (f67_g1_20 l hl)
  have f68_g1_21 : ∀ l : XL, ((l.1 = 68) ∧ dzz l) → g1_21 l = none := by rw [eg1_21]; exact fun l hl => (xu_o (fun z => (fun z => by have z0 : (61 : Nat) = 68 := z.1; omega) (by rw [z] at hl; exact hl))).trans (f68_g1_20 l hl)
  have f69_g1_21 : ∀ l : XL, ((l.1 = 69) ∧ dzz l) → g1_21 l = none := by rw [eg1_21]; exact fun l hl => (xu_o (fun z => (fun z => by have z0 : (61 : Nat) = 69 := z.1; omega) (by rw [z] at hl; exact hl))).trans (f69_g1_20 l hl)
  have f80_g1_21 : ∀ l : XL, ((l.1 = 80) ∧ dzz l) → g1_21 l = none := by rw [eg1_21]; exact fun l hl => (xu_o (fun z => (fun z => by have z0 : (61 : Nat) = 80 := z.1; omega) (by rw [z] at hl; exact hl))).trans (f80_g1_20 l hl)
  have f70_g1_21 : ∀ l : XL, ((l.1 = 70) ∧ dzz l) → g1_21 l = none := by rw [eg1_21]; exact fun l hl => (xu_o (fun z => (fun z => by have z0 : (61 : Nat) = 70 := z.1; omega) (by rw [z] at hl; exact hl))).trans (f70_g1_20 l hl)
  have f71_g1_21 : ∀ l : XL, ((l.1 = 71) ∧ dzz l) → g1_21 l = none := by rw [eg1_21]; exact fun l hl => (xu_o (fun z => (fun z => by have z0 : (61 : Nat) = 71 := z.1; omega) (by rw [z] at hl; exact hl))).trans (f71_g1_20 l hl)
  have f72_g1_21 : ∀ l : XL, ((l.1 = 72) ∧ dzz l) → g1_21 l = none := by rw [eg1_21]; exact fun l hl => (xu_o (fun z => (fun z => by have z0 : (61 : Nat) = 72 := z.1; omega) (by rw [z] at hl; exact hl))).trans (f72_g1_20 l hl)
  have f73_g1_21 : ∀ l : XL, ((l.1 = 73) ∧ dzz l) → g1_21 l = none := by rw [eg1_21]; exact fun l hl => (xu_o (fun z => (fun z => by have z0 : (61 : Nat) = 73 := z.1; omega) (by rw [z] at hl; exact hl))).trans (f73_g1_20 l hl)
  have f74_g1_21 : ∀ l : XL, ((l.1 = 74) ∧ dzz l) → g1_21 l = none := by rw [eg1_21]; exact fun l hl => (xu_o (fun z => (fun z => by have z0 : (61 : Nat) = 74 := z.1; omega) (by rw [z] at hl; exact hl))).trans (f74_g1_20 l hl)
  have f75_g1_21 : ∀ l : XL, ((l.1 = 75) ∧ dzz l) → g1_21 l = none := by rw [eg1_21]; exact fun l hl => (xu_o (fun z => (fun z => by have z0 : (61 : Nat) = 75 := z.1; omega) (by rw [z] at hl; exact hl))).trans (f75_g1_20 l hl)
  have fr_g1_21 : ∀ l : XL, ¬ (((50 ≤ l.1 ∧ l.1 ≤ 75) ∨ l.1 = 80 ∨ l.1 = 81) ∧ dzz l) → g1_21 l = g0 l := by rw [eg1_21]; exact fun l hl => (xu_o (fun z => hl (by rw [z]; exact ⟨(show (50 ≤ (61 : Nat) ∧ (61 : Nat) ≤ 75) ∨ (61 : Nat) = 80 ∨ (61 : Nat) = 81 by omega), (show (0 : Int) = 0 ∧ (0 : Int) = 0 from ⟨rfl, rfl⟩)⟩))).trans (fr_g1_20 l hl)
  have v51_g1_21 : g1_21 (51, 0, 0) = some (.inr (3, 240, xZero 3)) := by rw [eg1_21]; exact (xu_o (nK (by decide) _ _ _ _)).trans v51_g1_20
  have v52_g1_21 : g1_21 (52, 0, 0) = some (.inr (0, 240, xZero 0)) := by rw [eg1_21]; exact (xu_o (nK (by decide) _ _ _ _)).trans v52_g1_20
  have v53_g1_21 : g1_21 (53, 0, 0) = some (.inr (0, 240, xZero 0)) := by rw [eg1_21]; exact (xu_o (nK (by decide) _ _ _ _)).trans v53_g1_20
  have v54_g1_21 : g1_21 (54, 0, 0) = some (.inr (0, 240, xZero 0)) := by rw [eg1_21]; exact (xu_o (nK (by decide) _ _ _ _)).trans v54_g1_20
  have v55_g1_21 : g1_21 (55, 0, 0) = some (.inr (0, 240, xZero 0)) := by rw [eg1_21]; exact (xu_o (nK (by decide) _ _ _ _)).trans v55_g1_20
  have v56_g1_21 : g1_21 (56, 0, 0) = some (.inr (2, 240, xZero 2)) := by rw [eg1_21]; exact (xu_o (nK (by decide) _ _ _ _)).trans v56_g1_20
  have v57_g1_21 : g1_21 (57, 0, 0) = some (.inr (2, 6, xZero 2)) := by rw [eg1_21]; exact (xu_o (nK (by decide) _ _ _ _)).trans v57_g1_20
  have v58_g1_21 : g1_21 (58, 0, 0) = some (.inr (0, 4, xZero 0)) := by rw [eg1_21]; exact (xu_o (nK (by decide) _ _ _ _)).trans v58_g1_20
  have v59_g1_21 : g1_21 (59, 0, 0) = some (.inr (0, 4, xZero 0)) := by rw [eg1_21]; exact (xu_o (nK (by decide) _ _ _ _)).trans v59_g1_20
  have v60_g1_21 : g1_21 (60, 0, 0) = some (.inr (0, 4, xZero 0)) := by rw [eg1_21]; exact (xu_o (nK (by decide) _ _ _ _)).trans v60_g1_20
  have v50_g1_21 : g1_21 (50, 0, 0) = some (.inl (9, [xR (51, 0, 0), xR (52, 0, 0), xR (53, 0, 0), xR (54, 0, 0), xR (55, 0, 0), xR (56, 0, 0), xR (57, 0, 0), xR (58, 0, 0), xR (59, 0, 0), xR (60, 0, 0), xN, xI 0, xI 0, xI 0, xN, xN, xN, xN, xN, xN, xN, xN, xN, xN, xI 0, xI 0, xN, xN, xN, xN, xN])) := by rw [eg1_21]; exact (xu_o (nK (by decide) _ _ _ _)).trans v50_g1_20
  have v61_g1_21 : g1_21 (61, 0, 0) = some (.inr (0, 4, xZero 0)) := by rw [eg1_21]; exact xu_at
  have f81_g1_21 : ∀ l : XL, l.1 = 81 → g1_21 l = none := by rw [eg1_21]; exact fun l hl => (xu_o (fun z => by rw [z] at hl; have a2 : (61 : Nat) = 81 := hl; omega)).trans (f81_g1_20 l hl)
  refine x_putF dX9_init_91 fl_RX9_42 (fun r hr => by cases hr; exact ⟨rfl, rfl⟩) v50_g1_21 xfit_a (Nat.le_of_ble_eq_true rfl) rfl rfl ?_
  refine x_hg (fun g1_22 eg1_22 => ?_)
  have f62_g1_22 : ∀ l : XL, ((l.1 = 62) ∧ dzz l) → g1_22 l = none := by rw [eg1_22]; exact fun l hl => (xu_o (fun z => (fun z => by have z0 : (50 : Nat) = 62 := z.1; omega) (by rw [z] at hl; exact hl))).trans (f62_g1_21 l hl)
  have f63_g1_22 : ∀ l : XL, ((l.1 = 63) ∧ dzz l) → g1_22 l = none := by rw [eg1_22]; exact fun l hl => (xu_o (fun z => (fun z => by have z0 : (50 : Nat) = 63 := z.1; omega) (by rw [z] at hl; exact hl))).trans (f63_g1_21 l hl)
  have f64_g1_22 : ∀ l : XL, ((l.1 = 64) ∧ dzz l) → g1_22 l = none := by rw [eg1_22]; exact fun l hl => (xu_o (fun z => (fun z => by have z0 : (50 : Nat) = 64 := z.1; omega) (by rw [z] at hl; exact hl))).trans (f64_g1_21 l hl)
  have f65_g1_22 : ∀ l : XL, ((l.1 = 65) ∧ dzz l) → g1_22 l = none := by rw [eg1_22]; exact fun l hl => (xu_o (fun z => (fun z => by have z0 : (50 : Nat) = 65 := z.1; omega) (by rw [z] at hl; exact hl))).trans (f65_g1_21 l hl)
  have f66_g1_22 : ∀ l : XL, ((l.1 = 66) ∧ dzz l) → g1_22 l = none := by rw [eg1_22]; exact fun l hl => (xu_o (fun z => (fun z => by have z0 : (50 : Nat) = 66 := z.1; omega) (by rw [z] at hl; exact hl))).trans (f66_g1_21 l hl)
  have f67_g1_22 : ∀ l : XL, ((l.1 = 67) ∧ dzz l) → g1_22 l = none := by rw [eg1_22]; exact fun l hl => (xu_o (fun z => (fun z => by have z0 : (50 : Nat) = 67 := z.1; omega) (by rw [z] at hl; exact hl))).trans (f67_g1_21 l hl)
  have f68_g1_22 : ∀ l : XL, ((l.1 = 68) ∧ dzz l) → g1_22 l = none := by rw [eg1_22]; exact fun l hl => (xu_o (fun z => (fun z => by have z0 : (50 : Nat) = 68 := z.1; omega) (by rw [z] at hl; exact hl))).trans (f68_g1_21 l hl)
  have f69_g1_22 : ∀ l : XL, ((l.1 = 69) ∧ dzz l) → g1_22 l = none := by rw [eg1_22]; exact fun l hl => (xu_o (fun z => (fun z => by have z0 : (50 : Nat) = 69 := z.1; omega) (by rw [z] at hl; exact hl))).trans (f69_g1_21 l hl)
  have f80_g1_22 : ∀ l : XL, ((l.1 = 80) ∧ dzz l) → g1_22 l = none := by rw [eg1_22]; exact fun l hl => (xu_o (fun z => (fun z => by have z0 : (50 : Nat) = 80 := z.1; omega) (by rw [z] at hl; exact hl))).trans (f80_g1_21 l hl)
  have f70_g1_22 : ∀ l : XL, ((l.1 = 70) ∧ dzz l) → g1_22 l = none := by rw [eg1_22]; exact fun l hl => (xu_o (fun z => (fun z => by have z0 : (50 : Nat) = 70 := z.1; omega) (by rw [z] at hl; exact hl))).trans (f70_g1_21 l hl)
  have f71_g1_22 : ∀ l : XL, ((l.1 = 71) ∧ dzz l) → g1_22 l = none := by rw [eg1_22]; exact fun l hl => (xu_o (fun z => (fun z => by have z0 : (50 : Nat) = 71 := z.1; omega) (by rw [z] at hl; exact hl))).trans (f71_g1_21 l hl)
  have f72_g1_22 : ∀ l : XL, ((l.1 = 72) ∧ dzz l) → g1_22 l = none := by rw [eg1_22]; exact fun l hl => (xu_o (fun z => (fun z => by have z0 : (50 : Nat) = 72 := z.1; omega) (by rw [z] at hl; exact hl))).trans (f72_g1_21 l hl)
  have f73_g1_22 : ∀ l : XL, ((l.1 = 73) ∧ dzz l) → g1_22 l = none := by rw [eg1_22]; exact fun l hl => (xu_o (fun z => (fun z => by have z0 : (50 : Nat) = 73 := z.1; omega) (by rw [z] at hl; exact hl))).trans (f73_g1_21 l hl)
  have f74_g1_22 : ∀ l : XL, ((l.1 = 74) ∧ dzz l) → g1_22 l = none := by rw [eg1_22]; exact fun l hl => (xu_o (fun z => (fun z => by have z0 : (50 : Nat) = 74 := z.1; omega) (by rw [z] at hl; exact hl))).trans (f74_g1_21 l hl)
  have f75_g1_22 : ∀ l : XL, ((l.1 = 75) ∧ dzz l) → g1_22 l = none := by rw [eg1_22]; exact fun l hl => (xu_o (fun z => (fun z => by have z0 : (50 : Nat) = 75 := z.1; omega) (by rw [z] at hl; exact hl))).trans (f75_g1_21 l hl)
  have fr_g1_22 : ∀ l : XL, ¬ (((50 ≤ l.1 ∧ l.1 ≤ 75) ∨ l.1 = 80 ∨ l.1 = 81) ∧ dzz l) → g1_22 l = g0 l := by rw [eg1_22]; exact fun l hl => (xu_o (fun z => hl (by rw [z]; exact ⟨(show (50 ≤ (50 : Nat) ∧ (50 : Nat) ≤ 75) ∨ (50 : Nat) = 80 ∨ (50 : Nat) = 81 by omega), (show (0 : Int) = 0 ∧ (0 : Int) = 0 from ⟨rfl, rfl⟩)⟩))).trans (fr_g1_21 l hl)
  have v51_g1_22 : g1_22 (51, 0, 0) = some (.inr (3, 240, xZero 3)) := by rw [eg1_22]; exact (xu_o (nK (by decide) _ _ _ _)).trans v51_g1_21
  have v52_g1_22 : g1_22 (52, 0, 0) = some (.inr (0, 240, xZero 0)) := by rw [eg1_22]; exact (xu_o (nK (by decide) _ _ _ _)).trans v52_g1_21
  have v53_g1_22 : g1_22 (53, 0, 0) = some (.inr (0, 240, xZero 0)) := by rw [eg1_22]; exact (xu_o (nK (by decide) _ _ _ _)).trans v53_g1_21
  have v54_g1_22 : g1_22 (54, 0, 0) = some (.inr (0, 240, xZero 0)) := by rw [eg1_22]; exact (xu_o (nK (by decide) _ _ _ _)).trans v54_g1_21
  have v55_g1_22 : g1_22 (55, 0, 0) = some (.inr (0, 240, xZero 0)) := by rw [eg1_22]; exact (xu_o (nK (by decide) _ _ _ _)).trans v55_g1_21
  have v56_g1_22 : g1_22 (56, 0, 0) = some (.inr (2, 240, xZero 2)) := by rw [eg1_22]; exact (xu_o (nK (by decide) _ _ _ _)).trans v56_g1_21
  have v57_g1_22 : g1_22 (57, 0, 0) = some (.inr (2, 6, xZero 2)) := by rw [eg1_22]; exact (xu_o (nK (by decide) _ _ _ _)).trans v57_g1_21
  have v58_g1_22 : g1_22 (58, 0, 0) = some (.inr (0, 4, xZero 0)) := by rw [eg1_22]; exact (xu_o (nK (by decide) _ _ _ _)).trans v58_g1_21
  have v59_g1_22 : g1_22 (59, 0, 0) = some (.inr (0, 4, xZero 0)) := by rw [eg1_22]; exact (xu_o (nK (by decide) _ _ _ _)).trans v59_g1_21
  have v60_g1_22 : g1_22 (60, 0, 0) = some (.inr (0, 4, xZero 0)) := by rw [eg1_22]; exact (xu_o (nK (by decide) _ _ _ _)).trans v60_g1_21
  have v61_g1_22 : g1_22 (61, 0, 0) = some (.inr (0, 4, xZero 0)) := by rw [eg1_22]; exact (xu_o (nK (by decide) _ _ _ _)).trans v61_g1_21
  have v50_g1_22 : g1_22 (50, 0, 0) = some (.inl (9, [xR (51, 0, 0), xR (52, 0, 0), xR (53, 0, 0), xR (54, 0, 0), xR (55, 0, 0), xR (56, 0, 0), xR (57, 0, 0), xR (58, 0, 0), xR (59, 0, 0), xR (60, 0, 0), xR (61, 0, 0), xI 0, xI 0, xI 0, xN, xN, xN, xN, xN, xN, xN, xN, xN, xN, xI 0, xI 0, xN, xN, xN, xN, xN])) := by rw [eg1_22]; exact xu_at
  have f81_g1_22 : ∀ l : XL, l.1 = 81 → g1_22 l = none := by rw [eg1_22]; exact fun l hl => (xu_o (fun z => by rw [z] at hl; have a2 : (50 : Nat) = 81 := hl; omega)).trans (f81_g1_21 l hl)
  refine x_aload_n dX9_init_94 rfl ?_
  refine x_iconst dX9_init_95 ?_
  refine x_put dX9_init_96 fl_RX9_45 (fun r hr => by cases hr; rfl) v50_g1_22 xfit_i (Nat.le_of_ble_eq_true rfl) rfl ?_
  refine x_hg (fun g1_23 eg1_23 => ?_)
  have f62_g1_23 : ∀ l : XL, ((l.1 = 62) ∧ dzz l) → g1_23 l = none := by rw [eg1_23]; exact fun l hl => (xu_o (fun z => (fun z => by have z0 : (50 : Nat) = 62 := z.1; omega) (by rw [z] at hl; exact hl))).trans (f62_g1_22 l hl)
  have f63_g1_23 : ∀ l : XL, ((l.1 = 63) ∧ dzz l) → g1_23 l = none := by rw [eg1_23]; exact fun l hl => (xu_o (fun z => (fun z => by have z0 : (50 : Nat) = 63 := z.1; omega) (by rw [z] at hl; exact hl))).trans (f63_g1_22 l hl)
  have f64_g1_23 : ∀ l : XL, ((l.1 = 64) ∧ dzz l) → g1_23 l = none := by rw [eg1_23]; exact fun l hl => (xu_o (fun z => (fun z => by have z0 : (50 : Nat) = 64 := z.1; omega) (by rw [z] at hl; exact hl))).trans (f64_g1_22 l hl)
  have f65_g1_23 : ∀ l : XL, ((l.1 = 65) ∧ dzz l) → g1_23 l = none := by rw [eg1_23]; exact fun l hl => (xu_o (fun z => (fun z => by have z0 : (50 : Nat) = 65 := z.1; omega) (by rw [z] at hl; exact hl))).trans (f65_g1_22 l hl)
  have f66_g1_23 : ∀ l : XL, ((l.1 = 66) ∧ dzz l) → g1_23 l = none := by rw [eg1_23]; exact fun l hl => (xu_o (fun z => (fun z => by have z0 : (50 : Nat) = 66 := z.1; omega) (by rw [z] at hl; exact hl))).trans (f66_g1_22 l hl)
  have f67_g1_23 : ∀ l : XL, ((l.1 = 67) ∧ dzz l) → g1_23 l = none := by rw [eg1_23]; exact fun l hl => (xu_o (fun z => (fun z => by have z0 : (50 : Nat) = 67 := z.1; omega) (by rw [z] at hl; exact hl))).trans (f67_g1_22 l hl)
  have f68_g1_23 : ∀ l : XL, ((l.1 = 68) ∧ dzz l) → g1_23 l = none := by rw [eg1_23]; exact fun l hl => (xu_o (fun z => (fun z => by have z0 : (50 : Nat) = 68 := z.1; omega) (by rw [z] at hl; exact hl))).trans (f68_g1_22 l hl)
  have f69_g1_23 : ∀ l : XL, ((l.1 = 69) ∧ dzz l) → g1_23 l = none := by rw [eg1_23]; exact fun l hl => (xu_o (fun z => (fun z => by have z0 : (50 : Nat) = 69 := z.1; omega) (by rw [z] at hl; exact hl))).trans (f69_g1_22 l hl)
  have f80_g1_23 : ∀ l : XL, ((l.1 = 80) ∧ dzz l) → g1_23 l = none := by rw [eg1_23]; exact fun l hl => (xu_o (fun z => (fun z => by have z0 : (50 : Nat) = 80 := z.1; omega) (by rw [z] at hl; exact hl))).trans (f80_g1_22 l hl)
  have f70_g1_23 : ∀ l : XL, ((l.1 = 70) ∧ dzz l) → g1_23 l = none := by rw [eg1_23]; exact fun l hl => (xu_o (fun z => (fun z => by have z0 : (50 : Nat) = 70 := z.1; omega) (by rw [z] at hl; exact hl))).trans (f70_g1_22 l hl)
  have f71_g1_23 : ∀ l : XL, ((l.1 = 71) ∧ dzz l) → g1_23 l = none := by rw [eg1_23]; exact fun l hl => (xu_o (fun z => (fun z => by have z0 : (50 : Nat) = 71 := z.1; omega) (by rw [z] at hl; exact hl))).trans (f71_g1_22 l hl)
  have f72_g1_23 : ∀ l : XL, ((l.1 = 72) ∧ dzz l) → g1_23 l = none := by rw [eg1_23]; exact fun l hl => (xu_o (fun z => (fun z => by have z0 : (50 : Nat) = 72 := z.1; omega) (by rw [z] at hl; exact hl))).trans (f72_g1_22 l hl)
  have f73_g1_23 : ∀ l : XL, ((l.1 = 73) ∧ dzz l) → g1_23 l = none := by rw [eg1_23]; exact fun l hl => (xu_o (fun z => (fun z => by have z0 : (50 : Nat) = 73 := z.1; omega) (by rw [z] at hl; exact hl))).trans (f73_g1_22 l hl)
  have f74_g1_23 : ∀ l : XL, ((l.1 = 74) ∧ dzz l) → g1_23 l = none := by rw [eg1_23]; exact fun l hl => (xu_o (fun z => (fun z => by have z0 : (50 : Nat) = 74 := z.1; omega) (by rw [z] at hl; exact hl))).trans (f74_g1_22 l hl)
  have f75_g1_23 : ∀ l : XL, ((l.1 = 75) ∧ dzz l) → g1_23 l = none := by rw [eg1_23]; exact fun l hl => (xu_o (fun z => (fun z => by have z0 : (50 : Nat) = 75 := z.1; omega) (by rw [z] at hl; exact hl))).trans (f75_g1_22 l hl)
  have fr_g1_23 : ∀ l : XL, ¬ (((50 ≤ l.1 ∧ l.1 ≤ 75) ∨ l.1 = 80 ∨ l.1 = 81) ∧ dzz l) → g1_23 l = g0 l := by rw [eg1_23]; exact fun l hl => (xu_o (fun z => hl (by rw [z]; exact ⟨(show (50 ≤ (50 : Nat) ∧ (50 : Nat) ≤ 75) ∨ (50 : Nat) = 80 ∨ (50 : Nat) = 81 by omega), (show (0 : Int) = 0 ∧ (0 : Int) = 0 from ⟨rfl, rfl⟩)⟩))).trans (fr_g1_22 l hl)
  have v51_g1_23 : g1_23 (51, 0, 0) = some (.inr (3, 240, xZero 3)) := by rw [eg1_23]; exact (xu_o (nK (by decide) _ _ _ _)).trans v51_g1_22
  have v52_g1_23 : g1_23 (52, 0, 0) = some (.inr (0, 240, xZero 0)) := by rw [eg1_23]; exact (xu_o (nK (by decide) _ _ _ _)).trans v52_g1_22
  have v53_g1_23 : g1_23 (53, 0, 0) = some (.inr (0, 240, xZero 0)) := by rw [eg1_23]; exact (xu_o (nK (by decide) _ _ _ _)).trans v53_g1_22
  have v54_g1_23 : g1_23 (54, 0, 0) = some (.inr (0, 240, xZero 0)) := by rw [eg1_23]; exact (xu_o (nK (by decide) _ _ _ _)).trans v54_g1_22
  have v55_g1_23 : g1_23 (55, 0, 0) = some (.inr (0, 240, xZero 0)) := by rw [eg1_23]; exact (xu_o (nK (by decide) _ _ _ _)).trans v55_g1_22
  have v56_g1_23 : g1_23 (56, 0, 0) = some (.inr (2, 240, xZero 2)) := by rw [eg1_23]; exact (xu_o (nK (by decide) _ _ _ _)).trans v56_g1_22
  have v57_g1_23 : g1_23 (57, 0, 0) = some (.inr (2, 6, xZero 2)) := by rw [eg1_23]; exact (xu_o (nK (by decide) _ _ _ _)).trans v57_g1_22
  have v58_g1_23 : g1_23 (58, 0, 0) = some (.inr (0, 4, xZero 0)) := by rw [eg1_23]; exact (xu_o (nK (by decide) _ _ _ _)).trans v58_g1_22
  have v59_g1_23 : g1_23 (59, 0, 0) = some (.inr (0, 4, xZero 0)) := by rw [eg1_23]; exact (xu_o (nK (by decide) _ _ _ _)).trans v59_g1_22
  have v60_g1_23 : g1_23 (60, 0, 0) = some (.inr (0, 4, xZero 0)) := by rw [eg1_23]; exact (xu_o (nK (by decide) _ _ _ _)).trans v60_g1_22
  have v61_g1_23 : g1_23 (61, 0, 0) = some (.inr (0, 4, xZero 0)) := by rw [eg1_23]; exact (xu_o (nK (by decide) _ _ _ _)).trans v61_g1_22
  have v50_g1_23 : g1_23 (50, 0, 0) = some (.inl (9, [xR (51, 0, 0), xR (52, 0, 0), xR (53, 0, 0), xR (54, 0, 0), xR (55, 0, 0), xR (56, 0, 0), xR (57, 0, 0), xR (58, 0, 0), xR (59, 0, 0), xR (60, 0, 0), xR (61, 0, 0), xI 1, xI 0, xI 0, xN, xN, xN, xN, xN, xN, xN, xN, xN, xN, xI 0, xI 0, xN, xN, xN, xN, xN])) := by rw [eg1_23]; exact xu_at
  have f81_g1_23 : ∀ l : XL, l.1 = 81 → g1_23 l = none := by rw [eg1_23]; exact fun l hl => (xu_o (fun z => by rw [z] at hl; have a2 : (50 : Nat) = 81 := hl; omega)).trans (f81_g1_22 l hl)
  refine x_aload_n dX9_init_99 rfl ?_
  refine x_bipush (v := 30) dX9_init_100 (by decide) ?_
  refine x_newarray (62, 0, 0) (t := 0) (n := 30) (N := 30) dX9_init_102 rfl wd124 (f62_g1_23 _ ⟨(show (62 : Nat) = 62 by omega), (show (0 : Int) = 0 ∧ (0 : Int) = 0 from ⟨rfl, rfl⟩)⟩) (show (62 : Nat) ≠ 99 by decide) rfl (by decide) (by omega) (by omega) ?_
  refine x_hg (fun g1_24 eg1_24 => ?_)
  have f63_g1_24 : ∀ l : XL, ((l.1 = 63) ∧ dzz l) → g1_24 l = none := by rw [eg1_24]; exact fun l hl => (xu_o (fun z => (fun z => by have z0 : (62 : Nat) = 63 := z.1; omega) (by rw [z] at hl; exact hl))).trans (f63_g1_23 l hl)
  have f64_g1_24 : ∀ l : XL, ((l.1 = 64) ∧ dzz l) → g1_24 l = none := by rw [eg1_24]; exact fun l hl => (xu_o (fun z => (fun z => by have z0 : (62 : Nat) = 64 := z.1; omega) (by rw [z] at hl; exact hl))).trans (f64_g1_23 l hl)
  have f65_g1_24 : ∀ l : XL, ((l.1 = 65) ∧ dzz l) → g1_24 l = none := by rw [eg1_24]; exact fun l hl => (xu_o (fun z => (fun z => by have z0 : (62 : Nat) = 65 := z.1; omega) (by rw [z] at hl; exact hl))).trans (f65_g1_23 l hl)
  have f66_g1_24 : ∀ l : XL, ((l.1 = 66) ∧ dzz l) → g1_24 l = none := by rw [eg1_24]; exact fun l hl => (xu_o (fun z => (fun z => by have z0 : (62 : Nat) = 66 := z.1; omega) (by rw [z] at hl; exact hl))).trans (f66_g1_23 l hl)
  have f67_g1_24 : ∀ l : XL, ((l.1 = 67) ∧ dzz l) → g1_24 l = none := by rw [eg1_24]; exact fun l hl => (xu_o (fun z => (fun z => by have z0 : (62 : Nat) = 67 := z.1; omega) (by rw [z] at hl; exact hl))).trans (f67_g1_23 l hl)
  have f68_g1_24 : ∀ l : XL, ((l.1 = 68) ∧ dzz l) → g1_24 l = none := by rw [eg1_24]; exact fun l hl => (xu_o (fun z => (fun z => by have z0 : (62 : Nat) = 68 := z.1; omega) (by rw [z] at hl; exact hl))).trans (f68_g1_23 l hl)
  have f69_g1_24 : ∀ l : XL, ((l.1 = 69) ∧ dzz l) → g1_24 l = none := by rw [eg1_24]; exact fun l hl => (xu_o (fun z => (fun z => by have z0 : (62 : Nat) = 69 := z.1; omega) (by rw [z] at hl; exact hl))).trans (f69_g1_23 l hl)
  have f80_g1_24 : ∀ l : XL, ((l.1 = 80) ∧ dzz l) → g1_24 l = none := by rw [eg1_24]; exact fun l hl => (xu_o (fun z => (fun z => by have z0 : (62 : Nat) = 80 := z.1; omega) (by rw [z] at hl; exact hl))).trans (f80_g1_23 l hl)
  have f70_g1_24 : ∀ l : XL, ((l.1 = 70) ∧ dzz l) → g1_24 l = none := by rw [eg1_24]; exact fun l hl => (xu_o (fun z => (fun z => by have z0 : (62 : Nat) = 70 := z.1; omega) (by rw [z] at hl; exact hl))).trans (f70_g1_23 l hl)
  have f71_g1_24 : ∀ l : XL, ((l.1 = 71) ∧ dzz l) → g1_24 l = none := by rw [eg1_24]; exact fun l hl => (xu_o (fun z => (fun z => by have z0 : (62 : Nat) = 71 := z.1; omega) (by rw [z] at hl; exact hl))).trans (f71_g1_23 l hl)
  have f72_g1_24 : ∀ l : XL, ((l.1 = 72) ∧ dzz l) → g1_24 l = none := by rw [eg1_24]; exact fun l hl => (xu_o (fun z => (fun z => by have z0 : (62 : Nat) = 72 := z.1; omega) (by rw [z] at hl; exact hl))).trans (f72_g1_23 l hl)
  have f73_g1_24 : ∀ l : XL, ((l.1 = 73) ∧ dzz l) → g1_24 l = none := by rw [eg1_24]; exact fun l hl => (xu_o (fun z => (fun z => by have z0 : (62 : Nat) = 73 := z.1; omega) (by rw [z] at hl; exact hl))).trans (f73_g1_23 l hl)
  have f74_g1_24 : ∀ l : XL, ((l.1 = 74) ∧ dzz l) → g1_24 l = none := by rw [eg1_24]; exact fun l hl => (xu_o (fun z => (fun z => by have z0 : (62 : Nat) = 74 := z.1; omega) (by rw [z] at hl; exact hl))).trans (f74_g1_23 l hl)
  have f75_g1_24 : ∀ l : XL, ((l.1 = 75) ∧ dzz l) → g1_24 l = none := by rw [eg1_24]; exact fun l hl => (xu_o (fun z => (fun z => by have z0 : (62 : Nat) = 75 := z.1; omega) (by rw [z] at hl; exact hl))).trans (f75_g1_23 l hl)
  have fr_g1_24 : ∀ l : XL, ¬ (((50 ≤ l.1 ∧ l.1 ≤ 75) ∨ l.1 = 80 ∨ l.1 = 81) ∧ dzz l) → g1_24 l = g0 l := by rw [eg1_24]; exact fun l hl => (xu_o (fun z => hl (by rw [z]; exact ⟨(show (50 ≤ (62 : Nat) ∧ (62 : Nat) ≤ 75) ∨ (62 : Nat) = 80 ∨ (62 : Nat) = 81 by omega), (show (0 : Int) = 0 ∧ (0 : Int) = 0 from ⟨rfl, rfl⟩)⟩))).trans (fr_g1_23 l hl)
  have v51_g1_24 : g1_24 (51, 0, 0) = some (.inr (3, 240, xZero 3)) := by rw [eg1_24]; exact (xu_o (nK (by decide) _ _ _ _)).trans v51_g1_23
  have v52_g1_24 : g1_24 (52, 0, 0) = some (.inr (0, 240, xZero 0)) := by rw [eg1_24]; exact (xu_o (nK (by decide) _ _ _ _)).trans v52_g1_23
  have v53_g1_24 : g1_24 (53, 0, 0) = some (.inr (0, 240, xZero 0)) := by rw [eg1_24]; exact (xu_o (nK (by decide) _ _ _ _)).trans v53_g1_23
  have v54_g1_24 : g1_24 (54, 0, 0) = some (.inr (0, 240, xZero 0)) := by rw [eg1_24]; exact (xu_o (nK (by decide) _ _ _ _)).trans v54_g1_23
  have v55_g1_24 : g1_24 (55, 0, 0) = some (.inr (0, 240, xZero 0)) := by rw [eg1_24]; exact (xu_o (nK (by decide) _ _ _ _)).trans v55_g1_23
  have v56_g1_24 : g1_24 (56, 0, 0) = some (.inr (2, 240, xZero 2)) := by rw [eg1_24]; exact (xu_o (nK (by decide) _ _ _ _)).trans v56_g1_23
  have v57_g1_24 : g1_24 (57, 0, 0) = some (.inr (2, 6, xZero 2)) := by rw [eg1_24]; exact (xu_o (nK (by decide) _ _ _ _)).trans v57_g1_23
  have v58_g1_24 : g1_24 (58, 0, 0) = some (.inr (0, 4, xZero 0)) := by rw [eg1_24]; exact (xu_o (nK (by decide) _ _ _ _)).trans v58_g1_23
  have v59_g1_24 : g1_24 (59, 0, 0) = some (.inr (0, 4, xZero 0)) := by rw [eg1_24]; exact (xu_o (nK (by decide) _ _ _ _)).trans v59_g1_23
  have v60_g1_24 : g1_24 (60, 0, 0) = some (.inr (0, 4, xZero 0)) := by rw [eg1_24]; exact (xu_o (nK (by decide) _ _ _ _)).trans v60_g1_23
  have v61_g1_24 : g1_24 (61, 0, 0) = some (.inr (0, 4, xZero 0)) := by rw [eg1_24]; exact (xu_o (nK (by decide) _ _ _ _)).trans v61_g1_23
  have v50_g1_24 : g1_24 (50, 0, 0) = some (.inl (9, [xR (51, 0, 0), xR (52, 0, 0), xR (53, 0, 0), xR (54, 0, 0), xR (55, 0, 0), xR (56, 0, 0), xR (57, 0, 0), xR (58, 0, 0), xR (59, 0, 0), xR (60, 0, 0), xR (61, 0, 0), xI 1, xI 0, xI 0, xN, xN, xN, xN, xN, xN, xN, xN, xN, xN, xI 0, xI 0, xN, xN, xN, xN, xN])) := by rw [eg1_24]; exact (xu_o (nK (by decide) _ _ _ _)).trans v50_g1_23
  have v62_g1_24 : g1_24 (62, 0, 0) = some (.inr (0, 30, xZero 0)) := by rw [eg1_24]; exact xu_at
  have f81_g1_24 : ∀ l : XL, l.1 = 81 → g1_24 l = none := by rw [eg1_24]; exact fun l hl => (xu_o (fun z => by rw [z] at hl; have a2 : (62 : Nat) = 81 := hl; omega)).trans (f81_g1_23 l hl)
  refine x_putF dX9_init_104 fl_RX9_49 (fun r hr => by cases hr; exact ⟨rfl, rfl⟩) v50_g1_24 xfit_a (Nat.le_of_ble_eq_true rfl) rfl rfl ?_
  refine x_hg (fun g1_25 eg1_25 => ?_)
  have f63_g1_25 : ∀ l : XL, ((l.1 = 63) ∧ dzz l) → g1_25 l = none := by rw [eg1_25]; exact fun l hl => (xu_o (fun z => (fun z => by have z0 : (50 : Nat) = 63 := z.1; omega) (by rw [z] at hl; exact hl))).trans (f63_g1_24 l hl)
  have f64_g1_25 : ∀ l : XL, ((l.1 = 64) ∧ dzz l) → g1_25 l = none := by rw [eg1_25]; exact fun l hl => (xu_o (fun z => (fun z => by have z0 : (50 : Nat) = 64 := z.1; omega) (by rw [z] at hl; exact hl))).trans (f64_g1_24 l hl)
  have f65_g1_25 : ∀ l : XL, ((l.1 = 65) ∧ dzz l) → g1_25 l = none := by rw [eg1_25]; exact fun l hl => (xu_o (fun z => (fun z => by have z0 : (50 : Nat) = 65 := z.1; omega) (by rw [z] at hl; exact hl))).trans (f65_g1_24 l hl)
  have f66_g1_25 : ∀ l : XL, ((l.1 = 66) ∧ dzz l) → g1_25 l = none := by rw [eg1_25]; exact fun l hl => (xu_o (fun z => (fun z => by have z0 : (50 : Nat) = 66 := z.1; omega) (by rw [z] at hl; exact hl))).trans (f66_g1_24 l hl)
  have f67_g1_25 : ∀ l : XL, ((l.1 = 67) ∧ dzz l) → g1_25 l = none := by rw [eg1_25]; exact fun l hl => (xu_o (fun z => (fun z => by have z0 : (50 : Nat) = 67 := z.1; omega) (by rw [z] at hl; exact hl))).trans (f67_g1_24 l hl)
  have f68_g1_25 : ∀ l : XL, ((l.1 = 68) ∧ dzz l) → g1_25 l = none := by rw [eg1_25]; exact fun l hl => (xu_o (fun z => (fun z => by have z0 : (50 : Nat) = 68 := z.1; omega) (by rw [z] at hl; exact hl))).trans (f68_g1_24 l hl)
  have f69_g1_25 : ∀ l : XL, ((l.1 = 69) ∧ dzz l) → g1_25 l = none := by rw [eg1_25]; exact fun l hl => (xu_o (fun z => (fun z => by have z0 : (50 : Nat) = 69 := z.1; omega) (by rw [z] at hl; exact hl))).trans (f69_g1_24 l hl)
  have f80_g1_25 : ∀ l : XL, ((l.1 = 80) ∧ dzz l) → g1_25 l = none := by rw [eg1_25]; exact fun l hl => (xu_o (fun z => (fun z => by have z0 : (50 : Nat) = 80 := z.1; omega) (by rw [z] at hl; exact hl))).trans (f80_g1_24 l hl)
  have f70_g1_25 : ∀ l : XL, ((l.1 = 70) ∧ dzz l) → g1_25 l = none := by rw [eg1_25]; exact fun l hl => (xu_o (fun z => (fun z => by have z0 : (50 : Nat) = 70 := z.1; omega) (by rw [z] at hl; exact hl))).trans (f70_g1_24 l hl)
  have f71_g1_25 : ∀ l : XL, ((l.1 = 71) ∧ dzz l) → g1_25 l = none := by rw [eg1_25]; exact fun l hl => (xu_o (fun z => (fun z => by have z0 : (50 : Nat) = 71 := z.1; omega) (by rw [z] at hl; exact hl))).trans (f71_g1_24 l hl)
  have f72_g1_25 : ∀ l : XL, ((l.1 = 72) ∧ dzz l) → g1_25 l = none := by rw [eg1_25]; exact fun l hl => (xu_o (fun z => (fun z => by have z0 : (50 : Nat) = 72 := z.1; omega) (by rw [z] at hl; exact hl))).trans (f72_g1_24 l hl)
  have f73_g1_25 : ∀ l : XL, ((l.1 = 73) ∧ dzz l) → g1_25 l = none := by rw [eg1_25]; exact fun l hl => (xu_o (fun z => (fun z => by have z0 : (50 : Nat) = 73 := z.1; omega) (by rw [z] at hl; exact hl))).trans (f73_g1_24 l hl)
  have f74_g1_25 : ∀ l : XL, ((l.1 = 74) ∧ dzz l) → g1_25 l = none := by rw [eg1_25]; exact fun l hl => (xu_o (fun z => (fun z => by have z0 : (50 : Nat) = 74 := z.1; omega) (by rw [z] at hl; exact hl))).trans (f74_g1_24 l hl)
  have f75_g1_25 : ∀ l : XL, ((l.1 = 75) ∧ dzz l) → g1_25 l = none := by rw [eg1_25]; exact fun l hl => (xu_o (fun z => (fun z => by have z0 : (50 : Nat) = 75 := z.1; omega) (by rw [z] at hl; exact hl))).trans (f75_g1_24 l hl)
  have fr_g1_25 : ∀ l : XL, ¬ (((50 ≤ l.1 ∧ l.1 ≤ 75) ∨ l.1 = 80 ∨ l.1 = 81) ∧ dzz l) → g1_25 l = g0 l := by rw [eg1_25]; exact fun l hl => (xu_o (fun z => hl (by rw [z]; exact ⟨(show (50 ≤ (50 : Nat) ∧ (50 : Nat) ≤ 75) ∨ (50 : Nat) = 80 ∨ (50 : Nat) = 81 by omega), (show (0 : Int) = 0 ∧ (0 : Int) = 0 from ⟨rfl, rfl⟩)⟩))).trans (fr_g1_24 l hl)
  have v51_g1_25 : g1_25 (51, 0, 0) = some (.inr (3, 240, xZero 3)) := by rw [eg1_25]; exact (xu_o (nK (by decide) _ _ _ _)).trans v51_g1_24
  have v52_g1_25 : g1_25 (52, 0, 0) = some (.inr (0, 240, xZero 0)) := by rw [eg1_25]; exact (xu_o (nK (by decide) _ _ _ _)).trans v52_g1_24
  have v53_g1_25 : g1_25 (53, 0, 0) = some (.inr (0, 240, xZero 0)) := by rw [eg1_25]; exact (xu_o (nK (by decide) _ _ _ _)).trans v53_g1_24
  have v54_g1_25 : g1_25 (54, 0, 0) = some (.inr (0, 240, xZero 0)) := by rw [eg1_25]; exact (xu_o (nK (by decide) _ _ _ _)).trans v54_g1_24
  have v55_g1_25 : g1_25 (55, 0, 0) = some (.inr (0, 240, xZero 0)) := by rw [eg1_25]; exact (xu_o (nK (by decide) _ _ _ _)).trans v55_g1_24
  have v56_g1_25 : g1_25 (56, 0, 0) = some (.inr (2, 240, xZero 2)) := by rw [eg1_25]; exact (xu_o (nK (by decide) _ _ _ _)).trans v56_g1_24
  have v57_g1_25 : g1_25 (57, 0, 0) = some (.inr (2, 6, xZero 2)) := by rw [eg1_25]; exact (xu_o (nK (by decide) _ _ _ _)).trans v57_g1_24
  have v58_g1_25 : g1_25 (58, 0, 0) = some (.inr (0, 4, xZero 0)) := by rw [eg1_25]; exact (xu_o (nK (by decide) _ _ _ _)).trans v58_g1_24
  have v59_g1_25 : g1_25 (59, 0, 0) = some (.inr (0, 4, xZero 0)) := by rw [eg1_25]; exact (xu_o (nK (by decide) _ _ _ _)).trans v59_g1_24
  have v60_g1_25 : g1_25 (60, 0, 0) = some (.inr (0, 4, xZero 0)) := by rw [eg1_25]; exact (xu_o (nK (by decide) _ _ _ _)).trans v60_g1_24
  have v61_g1_25 : g1_25 (61, 0, 0) = some (.inr (0, 4, xZero 0)) := by rw [eg1_25]; exact (xu_o (nK (by decide) _ _ _ _)).trans v61_g1_24
  have v62_g1_25 : g1_25 (62, 0, 0) = some (.inr (0, 30, xZero 0)) := by rw [eg1_25]; exact (xu_o (nK (by decide) _ _ _ _)).trans v62_g1_24
  have v50_g1_25 : g1_25 (50, 0, 0) = some (.inl (9, [xR (51, 0, 0), xR (52, 0, 0), xR (53, 0, 0), xR (54, 0, 0), xR (55, 0, 0), xR (56, 0, 0), xR (57, 0, 0), xR (58, 0, 0), xR (59, 0, 0), xR (60, 0, 0), xR (61, 0, 0), xI 1, xI 0, xI 0, xR (62, 0, 0), xN, xN, xN, xN, xN, xN, xN, xN, xN, xI 0, xI 0, xN, xN, xN, xN, xN])) := by rw [eg1_25]; exact xu_at
  have f81_g1_25 : ∀ l : XL, l.1 = 81 → g1_25 l = none := by rw [eg1_25]; exact fun l hl => (xu_o (fun z => by rw [z] at hl; have a2 : (50 : Nat) = 81 := hl; omega)).trans (f81_g1_24 l hl)
  refine x_aload_n dX9_init_107 rfl ?_
  refine x_bipush (v := 90) dX9_init_108 (by decide) ?_
  refine x_newarray (63, 0, 0) (t := 0) (n := 90) (N := 90) dX9_init_110 rfl wd124 (f63_g1_25 _ ⟨(show (63 : Nat) = 63 by omega), (show (0 : Int) = 0 ∧ (0 : Int) = 0 from ⟨rfl, rfl⟩)⟩) (show (63 : Nat) ≠ 99 by decide) rfl (by decide) (by omega) (by omega) ?_
  refine x_hg (fun g1_26 eg1_26 => ?_)
  have f64_g1_26 : ∀ l : XL, ((l.1 = 64) ∧ dzz l) → g1_26 l = none := by rw [eg1_26]; exact fun l hl => (xu_o (fun z => (fun z => by have z0 : (63 : Nat) = 64 := z.1; omega) (by rw [z] at hl; exact hl))).trans (f64_g1_25 l hl)
  have f65_g1_26 : ∀ l : XL, ((l.1 = 65) ∧ dzz l) → g1_26 l = none := by rw [eg1_26]; exact fun l hl => (xu_o (fun z => (fun z => by have z0 : (63 : Nat) = 65 := z.1; omega) (by rw [z] at hl; exact hl))).trans (f65_g1_25 l hl)
  have f66_g1_26 : ∀ l : XL, ((l.1 = 66) ∧ dzz l) → g1_26 l = none := by rw [eg1_26]; exact fun l hl => (xu_o (fun z => (fun z => by have z0 : (63 : Nat) = 66 := z.1; omega) (by rw [z] at hl; exact hl))).trans (f66_g1_25 l hl)
  have f67_g1_26 : ∀ l : XL, ((l.1 = 67) ∧ dzz l) → g1_26 l = none := by rw [eg1_26]; exact fun l hl => (xu_o (fun z => (fun z => by have z0 : (63 : Nat) = 67 := z.1; omega) (by rw [z] at hl; exact hl))).trans (f67_g1_25 l hl)
  have f68_g1_26 : ∀ l : XL, ((l.1 = 68) ∧ dzz l) → g1_26 l = none := by rw [eg1_26]; exact fun l hl => (xu_o (fun z => (fun z => by have z0 : (63 : Nat) = 68 := z.1; omega) (by rw [z] at hl; exact hl))).trans (f68_g1_25 l hl)
  have f69_g1_26 : ∀ l : XL, ((l.1 = 69) ∧ dzz l) → g1_26 l = none := by rw [eg1_26]; exact fun l hl => (xu_o (fun z => (fun z => by have z0 : (63 : Nat) = 69 := z.1; omega) (by rw [z] at hl; exact hl))).trans (f69_g1_25 l hl)
  have f80_g1_26 : ∀ l : XL, ((l.1 = 80) ∧ dzz l) → g1_26 l = none := by rw [eg1_26]; exact fun l hl => (xu_o (fun z => (fun z => by have z0 : (63 : Nat) = 80 := z.1; omega) (by rw [z] at hl; exact hl))).trans (f80_g1_25 l hl)
  have f70_g1_26 : ∀ l : XL, ((l.1 = 70) ∧ dzz l) → g1_26 l = none := by rw [eg1_26]; exact fun l hl => (xu_o (fun z => (fun z => by have z0 : (63 : Nat) = 70 := z.1; omega) (by rw [z] at hl; exact hl))).trans (f70_g1_25 l hl)
  have f71_g1_26 : ∀ l : XL, ((l.1 = 71) ∧ dzz l) → g1_26 l = none := by rw [eg1_26]; exact fun l hl => (xu_o (fun z => (fun z => by have z0 : (63 : Nat) = 71 := z.1; omega) (by rw [z] at hl; exact hl))).trans (f71_g1_25 l hl)
  have f72_g1_26 : ∀ l : XL, ((l.1 = 72) ∧ dzz l) → g1_26 l = none := by rw [eg1_26]; exact fun l hl => (xu_o (fun z => (fun z => by have z0 : (63 : Nat) = 72 := z.1; omega) (by rw [z] at hl; exact hl))).trans (f72_g1_25 l hl)
  have f73_g1_26 : ∀ l : XL, ((l.1 = 73) ∧ dzz l) → g1_26 l = none := by rw [eg1_26]; exact fun l hl => (xu_o (fun z => (fun z => by have z0 : (63 : Nat) = 73 := z.1; omega) (by rw [z] at hl; exact hl))).trans (f73_g1_25 l hl)
  have f74_g1_26 : ∀ l : XL, ((l.1 = 74) ∧ dzz l) → g1_26 l = none := by rw [eg1_26]; exact fun l hl => (xu_o (fun z => (fun z => by have z0 : (63 : Nat) = 74 := z.1; omega) (by rw [z] at hl; exact hl))).trans (f74_g1_25 l hl)
  have f75_g1_26 : ∀ l : XL, ((l.1 = 75) ∧ dzz l) → g1_26 l = none := by rw [eg1_26]; exact fun l hl => (xu_o (fun z => (fun z => by have z0 : (63 : Nat) = 75 := z.1; omega) (by rw [z] at hl; exact hl))).trans (f75_g1_25 l hl)
  have fr_g1_26 : ∀ l : XL, ¬ (((50 ≤ l.1 ∧ l.1 ≤ 75) ∨ l.1 = 80 ∨ l.1 = 81) ∧ dzz l) → g1_26 l = g0 l := by rw [eg1_26]; exact fun l hl => (xu_o (fun z => hl (by rw [z]; exact ⟨(show (50 ≤ (63 : Nat) ∧ (63 : Nat) ≤ 75) ∨ (63 : Nat) = 80 ∨ (63 : Nat) = 81 by omega), (show (0 : Int) = 0 ∧ (0 : Int) = 0 from ⟨rfl, rfl⟩)⟩))).trans (fr_g1_25 l hl)
  have v51_g1_26 : g1_26 (51, 0, 0) = some (.inr (3, 240, xZero 3)) := by rw [eg1_26]; exact (xu_o (nK (by decide) _ _ _ _)).trans v51_g1_25
  have v52_g1_26 : g1_26 (52, 0, 0) = some (.inr (0, 240, xZero 0)) := by rw [eg1_26]; exact (xu_o (nK (by decide) _ _ _ _)).trans v52_g1_25
  have v53_g1_26 : g1_26 (53, 0, 0) = some (.inr (0, 240, xZero 0)) := by rw [eg1_26]; exact (xu_o (nK (by decide) _ _ _ _)).trans v53_g1_25
  have v54_g1_26 : g1_26 (54, 0, 0) = some (.inr (0, 240, xZero 0)) := by rw [eg1_26]; exact (xu_o (nK (by decide) _ _ _ _)).trans v54_g1_25
  have v55_g1_26 : g1_26 (55, 0, 0) = some (.inr (0, 240, xZero 0)) := by rw [eg1_26]; exact (xu_o (nK (by decide) _ _ _ _)).trans v55_g1_25
  have v56_g1_26 : g1_26 (56, 0, 0) = some (.inr (2, 240, xZero 2)) := by rw [eg1_26]; exact (xu_o (nK (by decide) _ _ _ _)).trans v56_g1_25
  have v57_g1_26 : g1_26 (57, 0, 0) = some (.inr (2, 6, xZero 2)) := by rw [eg1_26]; exact (xu_o (nK (by decide) _ _ _ _)).trans v57_g1_25
  have v58_g1_26 : g1_26 (58, 0, 0) = some (.inr (0, 4, xZero 0)) := by rw [eg1_26]; exact (xu_o (nK (by decide) _ _ _ _)).trans v58_g1_25
  have v59_g1_26 : g1_26 (59, 0, 0) = some (.inr (0, 4, xZero 0)) := by rw [eg1_26]; exact (xu_o (nK (by decide) _ _ _ _)).trans v59_g1_25
  have v60_g1_26 : g1_26 (60, 0, 0) = some (.inr (0, 4, xZero 0)) := by rw [eg1_26]; exact (xu_o (nK (by decide) _ _ _ _)).trans v60_g1_25
  have v61_g1_26 : g1_26 (61, 0, 0) = some (.inr (0, 4, xZero 0)) := by rw [eg1_26]; exact (xu_o (nK (by decide) _ _ _ _)).trans v61_g1_25
  have v62_g1_26 : g1_26 (62, 0, 0) = some (.inr (0, 30, xZero 0)) := by rw [eg1_26]; exact (xu_o (nK (by decide) _ _ _ _)).trans v62_g1_25
  have v50_g1_26 : g1_26 (50, 0, 0) = some (.inl (9, [xR (51, 0, 0), xR (52, 0, 0), xR (53, 0, 0), xR (54, 0, 0), xR (55, 0, 0), xR (56, 0, 0), xR (57, 0, 0), xR (58, 0, 0), xR (59, 0, 0), xR (60, 0, 0), xR (61, 0, 0), xI 1, xI 0, xI 0, xR (62, 0, 0), xN, xN, xN, xN, xN, xN, xN, xN, xN, xI 0, xI 0, xN, xN, xN, xN, xN])) := by rw [eg1_26]; exact (xu_o (nK (by decide) _ _ _ _)).trans v50_g1_25
  have v63_g1_26 : g1_26 (63, 0, 0) = some (.inr (0, 90, xZero 0)) := by rw [eg1_26]; exact xu_at
  have f81_g1_26 : ∀ l : XL, l.1 = 81 → g1_26 l = none := by rw [eg1_26]; exact fun l hl => (xu_o (fun z => by rw [z] at hl; have a2 : (63 : Nat) = 81 := hl; omega)).trans (f81_g1_25 l hl)
  refine x_putF dX9_init_112 fl_RX9_52 (fun r hr => by cases hr; exact ⟨rfl, rfl⟩) v50_g1_26 xfit_a (Nat.le_of_ble_eq_true rfl) rfl rfl ?_
  refine x_hg (fun g1_27 eg1_27 => ?_)
  have f64_g1_27 : ∀ l : XL, ((l.1 = 64) ∧ dzz l) → g1_27 l = none := by rw [eg1_27]; exact fun l hl => (xu_o (fun z => (fun z => by have z0 : (50 : Nat) = 64 := z.1; omega) (by rw [z] at hl; exact hl))).trans (f64_g1_26 l hl)
  have f65_g1_27 : ∀ l : XL, ((l.1 = 65) ∧ dzz l) → g1_27 l = none := by rw [eg1_27]; exact fun l hl => (xu_o (fun z => (fun z => by have z0 : (50 : Nat) = 65 := z.1; omega) (by rw [z] at hl; exact hl))).trans (f65_g1_26 l hl)
  have f66_g1_27 : ∀ l : XL, ((l.1 = 66) ∧ dzz l) → g1_27 l = none := by rw [eg1_27]; exact fun l hl => (xu_o (fun z => (fun z => by have z0 : (50 : Nat) = 66 := z.1; omega) (by rw [z] at hl; exact hl))).trans (f66_g1_26 l hl)
  have f67_g1_27 : ∀ l : XL, ((l.1 = 67) ∧ dzz l) → g1_27 l = none := by rw [eg1_27]; exact fun l hl => (xu_o (fun z => (fun z => by have z0 : (50 : Nat) = 67 := z.1; omega) (by rw [z] at hl; exact hl))).trans (f67_g1_26 l hl)
  have f68_g1_27 : ∀ l : XL, ((l.1 = 68) ∧ dzz l) → g1_27 l = none := by rw [eg1_27]; exact fun l hl => (xu_o (fun z => (fun z => by have z0 : (50 : Nat) = 68 := z.1; omega) (by rw [z] at hl; exact hl))).trans (f68_g1_26 l hl)
  have f69_g1_27 : ∀ l : XL, ((l.1 = 69) ∧ dzz l) → g1_27 l = none := by rw [eg1_27]; exact fun l hl => (xu_o (fun z => (fun z => by have z0 : (50 : Nat) = 69 := z.1; omega) (by rw [z] at hl; exact hl))).trans (f69_g1_26 l hl)
  have f80_g1_27 : ∀ l : XL, ((l.1 = 80) ∧ dzz l) → g1_27 l = none := by rw [eg1_27]; exact fun l hl => (xu_o (fun z => (fun z => by have z0 : (50 : Nat) = 80 := z.1; omega) (by rw [z] at hl; exact hl))).trans (f80_g1_26 l hl)
  have f70_g1_27 : ∀ l : XL, ((l.1 = 70) ∧ dzz l) → g1_27 l = none := by rw [eg1_27]; exact fun l hl => (xu_o (fun z => (fun z => by have z0 : (50 : Nat) = 70 := z.1; omega) (by rw [z] at hl; exact hl))).trans (f70_g1_26 l hl)
  have f71_g1_27 : ∀ l : XL, ((l.1 = 71) ∧ dzz l) → g1_27 l = none := by rw [eg1_27]; exact fun l hl => (xu_o (fun z => (fun z => by have z0 : (50 : Nat) = 71 := z.1; omega) (by rw [z] at hl; exact hl))).trans (f71_g1_26 l hl)
  have f72_g1_27 : ∀ l : XL, ((l.1 = 72) ∧ dzz l) → g1_27 l = none := by rw [eg1_27]; exact fun l hl => (xu_o (fun z => (fun z => by have z0 : (50 : Nat) = 72 := z.1; omega) (by rw [z] at hl; exact hl))).trans (f72_g1_26 l hl)
  have f73_g1_27 : ∀ l : XL, ((l.1 = 73) ∧ dzz l) → g1_27 l = none := by rw [eg1_27]; exact fun l hl => (xu_o (fun z => (fun z => by have z0 : (50 : Nat) = 73 := z.1; omega) (by rw [z] at hl; exact hl))).trans (f73_g1_26 l hl)
  have f74_g1_27 : ∀ l : XL, ((l.1 = 74) ∧ dzz l) → g1_27 l = none := by rw [eg1_27]; exact fun l hl => (xu_o (fun z => (fun z => by have z0 : (50 : Nat) = 74 := z.1; omega) (by rw [z] at hl; exact hl))).trans (f74_g1_26 l hl)
  have f75_g1_27 : ∀ l : XL, ((l.1 = 75) ∧ dzz l) → g1_27 l = none := by rw [eg1_27]; exact fun l hl => (xu_o (fun z => (fun z => by have z0 : (50 : Nat) = 75 := z.1; omega) (by rw [z] at hl; exact hl))).trans (f75_g1_26 l hl)
  have fr_g1_27 : ∀ l : XL, ¬ (((50 ≤ l.1 ∧ l.1 ≤ 75) ∨ l.1 = 80 ∨ l.1 = 81) ∧ dzz l) → g1_27 l = g0 l := by rw [eg1_27]; exact fun l hl => (xu_o (fun z => hl (by rw [z]; exact ⟨(show (50 ≤ (50 : Nat) ∧ (50 : Nat) ≤ 75) ∨ (50 : Nat) = 80 ∨ (50 : Nat) = 81 by omega), (show (0 : Int) = 0 ∧ (0 : Int) = 0 from ⟨rfl, rfl⟩)⟩))).trans (fr_g1_26 l hl)
  have v51_g1_27 : g1_27 (51, 0, 0) = some (.inr (3, 240, xZero 3)) := by rw [eg1_27]; exact (xu_o (nK (by decide) _ _ _ _)).trans v51_g1_26
  have v52_g1_27 : g1_27 (52, 0, 0) = some (.inr (0, 240, xZero 0)) := by rw [eg1_27]; exact (xu_o (nK (by decide) _ _ _ _)).trans v52_g1_26
  have v53_g1_27 : g1_27 (53, 0, 0) = some (.inr (0, 240, xZero 0)) := by rw [eg1_27]; exact (xu_o (nK (by decide) _ _ _ _)).trans v53_g1_26
  have v54_g1_27 : g1_27 (54, 0, 0) = some (.inr (0, 240, xZero 0)) := by rw [eg1_27]; exact (xu_o (nK (by decide) _ _ _ _)).trans v54_g1_26
  have v55_g1_27 : g1_27 (55, 0, 0) = some (.inr (0, 240, xZero 0)) := by rw [eg1_27]; exact (xu_o (nK (by decide) _ _ _ _)).trans v55_g1_26
  have v56_g1_27 : g1_27 (56, 0, 0) = some (.inr (2, 240, xZero 2)) := by rw [eg1_27]; exact (xu_o (nK (by decide) _ _ _ _)).trans v56_g1_26
  have v57_g1_27 : g1_27 (57, 0, 0) = some (.inr (2, 6, xZero 2)) := by rw [eg1_27]; exact (xu_o (nK (by decide) _ _ _ _)).trans v57_g1_26
  have v58_g1_27 : g1_27 (58, 0, 0) = some (.inr (0, 4, xZero 0)) := by rw [eg1_27]; exact (xu_o (nK (by decide) _ _ _ _)).trans v58_g1_26
  have v59_g1_27 : g1_27 (59, 0, 0) = some (.inr (0, 4, xZero 0)) := by rw [eg1_27]; exact (xu_o (nK (by decide) _ _ _ _)).trans v59_g1_26
  have v60_g1_27 : g1_27 (60, 0, 0) = some (.inr (0, 4, xZero 0)) := by rw [eg1_27]; exact (xu_o (nK (by decide) _ _ _ _)).trans v60_g1_26
  have v61_g1_27 : g1_27 (61, 0, 0) = some (.inr (0, 4, xZero 0)) := by rw [eg1_27]; exact (xu_o (nK (by decide) _ _ _ _)).trans v61_g1_26
  have v62_g1_27 : g1_27 (62, 0, 0) = some (.inr (0, 30, xZero 0)) := by rw [eg1_27]; exact (xu_o (nK (by decide) _ _ _ _)).trans v62_g1_26
  have v63_g1_27 : g1_27 (63, 0, 0) = some (.inr (0, 90, xZero 0)) := by rw [eg1_27]; exact (xu_o (nK (by decide) _ _ _ _)).trans v63_g1_26
  have v50_g1_27 : g1_27 (50, 0, 0) = some (.inl (9, [xR (51, 0, 0), xR (52, 0, 0), xR (53, 0, 0), xR (54, 0, 0), xR (55, 0, 0), xR (56, 0, 0), xR (57, 0, 0), xR (58, 0, 0), xR (59, 0, 0), xR (60, 0, 0), xR (61, 0, 0), xI 1, xI 0, xI 0, xR (62, 0, 0), xR (63, 0, 0), xN, xN, xN, xN, xN, xN, xN, xN, xI 0, xI 0, xN, xN, xN, xN, xN])) := by rw [eg1_27]; exact xu_at
  have f81_g1_27 : ∀ l : XL, l.1 = 81 → g1_27 l = none := by rw [eg1_27]; exact fun l hl => (xu_o (fun z => by rw [z] at hl; have a2 : (50 : Nat) = 81 := hl; omega)).trans (f81_g1_26 l hl)
  refine x_aload_n dX9_init_115 rfl ?_
  refine x_bipush (v := 10) dX9_init_116 (by decide) ?_
  refine x_newarray (64, 0, 0) (t := 0) (n := 10) (N := 10) dX9_init_118 rfl wd124 (f64_g1_27 _ ⟨(show (64 : Nat) = 64 by omega), (show (0 : Int) = 0 ∧ (0 : Int) = 0 from ⟨rfl, rfl⟩)⟩) (show (64 : Nat) ≠ 99 by decide) rfl (by decide) (by omega) (by omega) ?_
  refine x_hg (fun g1_28 eg1_28 => ?_)
  have f65_g1_28 : ∀ l : XL, ((l.1 = 65) ∧ dzz l) → g1_28 l = none := by rw [eg1_28]; exact fun l hl => (xu_o (fun z => (fun z => by have z0 : (64 : Nat) = 65 := z.1; omega) (by rw [z] at hl; exact hl))).trans (f65_g1_27 l hl)
  have f66_g1_28 : ∀ l : XL, ((l.1 = 66) ∧ dzz l) → g1_28 l = none := by rw [eg1_28]; exact fun l hl => (xu_o (fun z => (fun z => by have z0 : (64 : Nat) = 66 := z.1; omega) (by rw [z] at hl; exact hl))).trans (f66_g1_27 l hl)
  have f67_g1_28 : ∀ l : XL, ((l.1 = 67) ∧ dzz l) → g1_28 l = none := by rw [eg1_28]; exact fun l hl => (xu_o (fun z => (fun z => by have z0 : (64 : Nat) = 67 := z.1; omega) (by rw [z] at hl; exact hl))).trans (f67_g1_27 l hl)
  have f68_g1_28 : ∀ l : XL, ((l.1 = 68) ∧ dzz l) → g1_28 l = none := by rw [eg1_28]; exact fun l hl => (xu_o (fun z => (fun z => by have z0 : (64 : Nat) = 68 := z.1; omega) (by rw [z] at hl; exact hl))).trans (f68_g1_27 l hl)
  have f69_g1_28 : ∀ l : XL, ((l.1 = 69) ∧ dzz l) → g1_28 l = none := by rw [eg1_28]; exact fun l hl => (xu_o (fun z => (fun z => by have z0 : (64 : Nat) = 69 := z.1; omega) (by rw [z] at hl; exact hl))).trans (f69_g1_27 l hl)
  have f80_g1_28 : ∀ l : XL, ((l.1 = 80) ∧ dzz l) → g1_28 l = none := by rw [eg1_28]; exact fun l hl => (xu_o (fun z => (fun z => by have z0 : (64 : Nat) = 80 := z.1; omega) (by rw [z] at hl; exact hl))).trans (f80_g1_27 l hl)
  have f70_g1_28 : ∀ l : XL, ((l.1 = 70) ∧ dzz l) → g1_28 l = none := by rw [eg1_28]; exact fun l hl => (xu_o (fun z => (fun z => by have z0 : (64 : Nat) = 70 := z.1; omega) (by rw [z] at hl; exact hl))).trans (f70_g1_27 l hl)
  have f71_g1_28 : ∀ l : XL, ((l.1 = 71) ∧ dzz l) → g1_28 l = none := by rw [eg1_28]; exact fun l hl => (xu_o (fun z => (fun z => by have z0 : (64 : Nat) = 71 := z.1; omega) (by rw [z] at hl; exact hl))).trans (f71_g1_27 l hl)
  have f72_g1_28 : ∀ l : XL, ((l.1 = 72) ∧ dzz l) → g1_28 l = none := by rw [eg1_28]; exact fun l hl => (xu_o (fun z => (fun z => by have z0 : (64 : Nat) = 72 := z.1; omega) (by rw [z] at hl; exact hl))).trans (f72_g1_27 l hl)
  have f73_g1_28 : ∀ l : XL, ((l.1 = 73) ∧ dzz l) → g1_28 l = none := by rw [eg1_28]; exact fun l hl => (xu_o (fun z => (fun z => by have z0 : (64 : Nat) = 73 := z.1; omega) (by rw [z] at hl; exact hl))).trans (f73_g1_27 l hl)
  have f74_g1_28 : ∀ l : XL, ((l.1 = 74) ∧ dzz l) → g1_28 l = none := by rw [eg1_28]; exact fun l hl => (xu_o (fun z => (fun z => by have z0 : (64 : Nat) = 74 := z.1; omega) (by rw [z] at hl; exact hl))).trans (f74_g1_27 l hl)
  have f75_g1_28 : ∀ l : XL, ((l.1 = 75) ∧ dzz l) → g1_28 l = none := by rw [eg1_28]; exact fun l hl => (xu_o (fun z => (fun z => by have z0 : (64 : Nat) = 75 := z.1; omega) (by rw [z] at hl; exact hl))).trans (f75_g1_27 l hl)
  have fr_g1_28 : ∀ l : XL, ¬ (((50 ≤ l.1 ∧ l.1 ≤ 75) ∨ l.1 = 80 ∨ l.1 = 81) ∧ dzz l) → g1_28 l = g0 l := by rw [eg1_28]; exact fun l hl => (xu_o (fun z => hl (by rw [z]; exact ⟨(show (50 ≤ (64 : Nat) ∧ (64 : Nat) ≤ 75) ∨ (64 : Nat) = 80 ∨ (64 : Nat) = 81 by omega), (show (0 : Int) = 0 ∧ (0 : Int) = 0 from ⟨rfl, rfl⟩)⟩))).trans (fr_g1_27 l hl)
  have v51_g1_28 : g1_28 (51, 0, 0) = some (.inr (3, 240, xZero 3)) := by rw [eg1_28]; exact (xu_o (nK (by decide) _ _ _ _)).trans v51_g1_27
  have v52_g1_28 : g1_28 (52, 0, 0) = some (.inr (0, 240, xZero 0)) := by rw [eg1_28]; exact (xu_o (nK (by decide) _ _ _ _)).trans v52_g1_27
  have v53_g1_28 : g1_28 (53, 0, 0) = some (.inr (0, 240, xZero 0)) := by rw [eg1_28]; exact (xu_o (nK (by decide) _ _ _ _)).trans v53_g1_27
  have v54_g1_28 : g1_28 (54, 0, 0) = some (.inr (0, 240, xZero 0)) := by rw [eg1_28]; exact (xu_o (nK (by decide) _ _ _ _)).trans v54_g1_27
  have v55_g1_28 : g1_28 (55, 0, 0) = some (.inr (0, 240, xZero 0)) := by rw [eg1_28]; exact (xu_o (nK (by decide) _ _ _ _)).trans v55_g1_27
  have v56_g1_28 : g1_28 (56, 0, 0) = some (.inr (2, 240, xZero 2)) := by rw [eg1_28]; exact (xu_o (nK (by decide) _ _ _ _)).trans v56_g1_27
  have v57_g1_28 : g1_28 (57, 0, 0) = some (.inr (2, 6, xZero 2)) := by rw [eg1_28]; exact (xu_o (nK (by decide) _ _ _ _)).trans v57_g1_27
  have v58_g1_28 : g1_28 (58, 0, 0) = some (.inr (0, 4, xZero 0)) := by rw [eg1_28]; exact (xu_o (nK (by decide) _ _ _ _)).trans v58_g1_27
  have v59_g1_28 : g1_28 (59, 0, 0) = some (.inr (0, 4, xZero 0)) := by rw [eg1_28]; exact (xu_o (nK (by decide) _ _ _ _)).trans v59_g1_27
  have v60_g1_28 : g1_28 (60, 0, 0) = some (.inr (0, 4, xZero 0)) := by rw [eg1_28]; exact (xu_o (nK (by decide) _ _ _ _)).trans v60_g1_27
  have v61_g1_28 : g1_28 (61, 0, 0) = some (.inr (0, 4, xZero 0)) := by rw [eg1_28]; exact (xu_o (nK (by decide) _ _ _ _)).trans v61_g1_27
  have v62_g1_28 : g1_28 (62, 0, 0) = some (.inr (0, 30, xZero 0)) := by rw [eg1_28]; exact (xu_o (nK (by decide) _ _ _ _)).trans v62_g1_27
  have v63_g1_28 : g1_28 (63, 0, 0) = some (.inr (0, 90, xZero 0)) := by rw [eg1_28]; exact (xu_o (nK (by decide) _ _ _ _)).trans v63_g1_27
  have v50_g1_28 : g1_28 (50, 0, 0) = some (.inl (9, [xR (51, 0, 0), xR (52, 0, 0), xR (53, 0, 0), xR (54, 0, 0), xR (55, 0, 0), xR (56, 0, 0), xR (57, 0, 0), xR (58, 0, 0), xR (59, 0, 0), xR (60, 0, 0), xR (61, 0, 0), xI 1, xI 0, xI 0, xR (62, 0, 0), xR (63, 0, 0), xN, xN, xN, xN, xN, xN, xN, xN, xI 0, xI 0, xN, xN, xN, xN, xN])) := by rw [eg1_28]; exact (xu_o (nK (by decide) _ _ _ _)).trans v50_g1_27
  have v64_g1_28 : g1_28 (64, 0, 0) = some (.inr (0, 10, xZero 0)) := by rw [eg1_28]; exact xu_at
  have f81_g1_28 : ∀ l : XL, l.1 = 81 → g1_28 l = none := by rw [eg1_28]; exact fun l hl => (xu_o (fun z => by rw [z] at hl; have a2 : (64 : Nat) = 81 := hl; omega)).trans (f81_g1_27 l hl)
  refine x_putF dX9_init_120 fl_RX9_55 (fun r hr => by cases hr; exact ⟨rfl, rfl⟩) v50_g1_28 xfit_a (Nat.le_of_ble_eq_true rfl) rfl rfl ?_
  refine x_hg (fun g1_29 eg1_29 => ?_)
  have f65_g1_29 : ∀ l : XL, ((l.1 = 65) ∧ dzz l) → g1_29 l = none := by rw [eg1_29]; exact fun l hl => (xu_o (fun z => (fun z => by have z0 : (50 : Nat) = 65 := z.1; omega) (by rw [z] at hl; exact hl))).trans (f65_g1_28 l hl)
  have f66_g1_29 : ∀ l : XL, ((l.1 = 66) ∧ dzz l) → g1_29 l = none := by rw [eg1_29]; exact fun l hl => (xu_o (fun z => (fun z => by have z0 : (50 : Nat) = 66 := z.1; omega) (by rw [z] at hl; exact hl))).trans (f66_g1_28 l hl)
  have f67_g1_29 : ∀ l : XL, ((l.1 = 67) ∧ dzz l) → g1_29 l = none := by rw [eg1_29]; exact fun l hl => (xu_o (fun z => (fun z => by have z0 : (50 : Nat) = 67 := z.1; omega) (by rw [z] at hl; exact hl))).trans (f67_g1_28 l hl)
  have f68_g1_29 : ∀ l : XL, ((l.1 = 68) ∧ dzz l) → g1_29 l = none := by rw [eg1_29]; exact fun l hl => (xu_o (fun z => (fun z => by have z0 : (50 : Nat) = 68 := z.1; omega) (by rw [z] at hl; exact hl))).trans (f68_g1_28 l hl)
  have f69_g1_29 : ∀ l : XL, ((l.1 = 69) ∧ dzz l) → g1_29 l = none := by rw [eg1_29]; exact fun l hl => (xu_o (fun z => (fun z => by have z0 : (50 : Nat) = 69 := z.1; omega) (by rw [z] at hl; exact hl))).trans (f69_g1_28 l hl)
  have f80_g1_29 : ∀ l : XL, ((l.1 = 80) ∧ dzz l) → g1_29 l = none := by rw [eg1_29]; exact fun l hl => (xu_o (fun z => (fun z => by have z0 : (50 : Nat) = 80 := z.1; omega) (by rw [z] at hl; exact hl))).trans (f80_g1_28 l hl)
  have f70_g1_29 : ∀ l : XL, ((l.1 = 70) ∧ dzz l) → g1_29 l = none := by rw [eg1_29]; exact fun l hl => (xu_o (fun z => (fun z => by have z0 : (50 : Nat) = 70 := z.1; omega) (by rw [z] at hl; exact hl))).trans (f70_g1_28 l hl)
  have f71_g1_29 : ∀ l : XL, ((l.1 = 71) ∧ dzz l) → g1_29 l = none := by rw [eg1_29]; exact fun l hl => (xu_o (fun z => (fun z => by have z0 : (50 : Nat) = 71 := z.1; omega) (by rw [z] at hl; exact hl))).trans (f71_g1_28 l hl)
  have f72_g1_29 : ∀ l : XL, ((l.1 = 72) ∧ dzz l) → g1_29 l = none := by rw [eg1_29]; exact fun l hl => (xu_o (fun z => (fun z => by have z0 : (50 : Nat) = 72 := z.1; omega) (by rw [z] at hl; exact hl))).trans (f72_g1_28 l hl)
  have f73_g1_29 : ∀ l : XL, ((l.1 = 73) ∧ dzz l) → g1_29 l = none := by rw [eg1_29]; exact fun l hl => (xu_o (fun z => (fun z => by have z0 : (50 : Nat) = 73 := z.1; omega) (by rw [z] at hl; exact hl))).trans (f73_g1_28 l hl)
  have f74_g1_29 : ∀ l : XL, ((l.1 = 74) ∧ dzz l) → g1_29 l = none := by rw [eg1_29]; exact fun l hl => (xu_o (fun z => (fun z => by have z0 : (50 : Nat) = 74 := z.1; omega) (by rw [z] at hl; exact hl))).trans (f74_g1_28 l hl)
  have f75_g1_29 : ∀ l : XL, ((l.1 = 75) ∧ dzz l) → g1_29 l = none := by rw [eg1_29]; exact fun l hl => (xu_o (fun z => (fun z => by have z0 : (50 : Nat) = 75 := z.1; omega) (by rw [z] at hl; exact hl))).trans (f75_g1_28 l hl)
  have fr_g1_29 : ∀ l : XL, ¬ (((50 ≤ l.1 ∧ l.1 ≤ 75) ∨ l.1 = 80 ∨ l.1 = 81) ∧ dzz l) → g1_29 l = g0 l := by rw [eg1_29]; exact fun l hl => (xu_o (fun z => hl (by rw [z]; exact ⟨(show (50 ≤ (50 : Nat) ∧ (50 : Nat) ≤ 75) ∨ (50 : Nat) = 80 ∨ (50 : Nat) = 81 by omega), (show (0 : Int) = 0 ∧ (0 : Int) = 0 from ⟨rfl, rfl⟩)⟩))).trans (fr_g1_28 l hl)
  have v51_g1_29 : g1_29 (51, 0, 0) = some (.inr (3, 240, xZero 3)) := by rw [eg1_29]; exact (xu_o (nK (by decide) _ _ _ _)).trans v51_g1_28
  have v52_g1_29 : g1_29 (52, 0, 0) = some (.inr (0, 240, xZero 0)) := by rw [eg1_29]; exact (xu_o (nK (by decide) _ _ _ _)).trans v52_g1_28
  have v53_g1_29 : g1_29 (53, 0, 0) = some (.inr (0, 240, xZero 0)) := by rw [eg1_29]; exact (xu_o (nK (by decide) _ _ _ _)).trans v53_g1_28
  have v54_g1_29 : g1_29 (54, 0, 0) = some (.inr (0, 240, xZero 0)) := by rw [eg1_29]; exact (xu_o (nK (by decide) _ _ _ _)).trans v54_g1_28
  have v55_g1_29 : g1_29 (55, 0, 0) = some (.inr (0, 240, xZero 0)) := by rw [eg1_29]; exact (xu_o (nK (by decide) _ _ _ _)).trans v55_g1_28
  have v56_g1_29 : g1_29 (56, 0, 0) = some (.inr (2, 240, xZero 2)) := by rw [eg1_29]; exact (xu_o (nK (by decide) _ _ _ _)).trans v56_g1_28
  have v57_g1_29 : g1_29 (57, 0, 0) = some (.inr (2, 6, xZero 2)) := by rw [eg1_29]; exact (xu_o (nK (by decide) _ _ _ _)).trans v57_g1_28
  have v58_g1_29 : g1_29 (58, 0, 0) = some (.inr (0, 4, xZero 0)) := by rw [eg1_29]; exact (xu_o (nK (by decide) _ _ _ _)).trans v58_g1_28
  have v59_g1_29 : g1_29 (59, 0, 0) = some (.inr (0, 4, xZero 0)) := by rw [eg1_29]; exact (xu_o (nK (by decide) _ _ _ _)).trans v59_g1_28
  have v60_g1_29 : g1_29 (60, 0, 0) = some (.inr (0, 4, xZero 0)) := by rw [eg1_29]; exact (xu_o (nK (by decide) _ _ _ _)).trans v60_g1_28
  have v61_g1_29 : g1_29 (61, 0, 0) = some (.inr (0, 4, xZero 0)) := by rw [eg1_29]; exact (xu_o (nK (by decide) _ _ _ _)).trans v61_g1_28
  have v62_g1_29 : g1_29 (62, 0, 0) = some (.inr (0, 30, xZero 0)) := by rw [eg1_29]; exact (xu_o (nK (by decide) _ _ _ _)).trans v62_g1_28
  have v63_g1_29 : g1_29 (63, 0, 0) = some (.inr (0, 90, xZero 0)) := by rw [eg1_29]; exact (xu_o (nK (by decide) _ _ _ _)).trans v63_g1_28
  have v64_g1_29 : g1_29 (64, 0, 0) = some (.inr (0, 10, xZero 0)) := by rw [eg1_29]; exact (xu_o (nK (by decide) _ _ _ _)).trans v64_g1_28
  have v50_g1_29 : g1_29 (50, 0, 0) = some (.inl (9, [xR (51, 0, 0), xR (52, 0, 0), xR (53, 0, 0), xR (54, 0, 0), xR (55, 0, 0), xR (56, 0, 0), xR (57, 0, 0), xR (58, 0, 0), xR (59, 0, 0), xR (60, 0, 0), xR (61, 0, 0), xI 1, xI 0, xI 0, xR (62, 0, 0), xR (63, 0, 0), xR (64, 0, 0), xN, xN, xN, xN, xN, xN, xN, xI 0, xI 0, xN, xN, xN, xN, xN])) := by rw [eg1_29]; exact xu_at
  have f81_g1_29 : ∀ l : XL, l.1 = 81 → g1_29 l = none := by rw [eg1_29]; exact fun l hl => (xu_o (fun z => by rw [z] at hl; have a2 : (50 : Nat) = 81 := hl; omega)).trans (f81_g1_28 l hl)
  refine x_aload_n dX9_init_123 rfl ?_
  refine x_bipush (v := 30) dX9_init_124 (by decide) ?_
  refine x_newarray (65, 0, 0) (t := 2) (n := 30) (N := 30) dX9_init_126 rfl wd123 (f65_g1_29 _ ⟨(show (65 : Nat) = 65 by omega), (show (0 : Int) = 0 ∧ (0 : Int) = 0 from ⟨rfl, rfl⟩)⟩) (show (65 : Nat) ≠ 99 by decide) rfl (by decide) (by omega) (by omega) ?_
  refine x_hg (fun g1_30 eg1_30 => ?_)
  have f66_g1_30 : ∀ l : XL, ((l.1 = 66) ∧ dzz l) → g1_30 l = none := by rw [eg1_30]; exact fun l hl => (xu_o (fun z => (fun z => by have z0 : (65 : Nat) = 66 := z.1; omega) (by rw [z] at hl; exact hl))).trans (f66_g1_29 l hl)
  have f67_g1_30 : ∀ l : XL, ((l.1 = 67) ∧ dzz l) → g1_30 l = none := by rw [eg1_30]; exact fun l hl => (xu_o (fun z => (fun z => by have z0 : (65 : Nat) = 67 := z.1; omega) (by rw [z] at hl; exact hl))).trans (f67_g1_29 l hl)
  have f68_g1_30 : ∀ l : XL, ((l.1 = 68) ∧ dzz l) → g1_30 l = none := by rw [eg1_30]; exact fun l hl => (xu_o (fun z => (fun z => by have z0 : (65 : Nat) = 68 := z.1; omega) (by rw [z] at hl; exact hl))).trans (f68_g1_29 l hl)
  have f69_g1_30 : ∀ l : XL, ((l.1 = 69) ∧ dzz l) → g1_30 l = none := by rw [eg1_30]; exact fun l hl => (xu_o (fun z => (fun z => by have z0 : (65 : Nat) = 69 := z.1; omega) (by rw [z] at hl; exact hl))).trans (f69_g1_29 l hl)
  have f80_g1_30 : ∀ l : XL, ((l.1 = 80) ∧ dzz l) → g1_30 l = none := by rw [eg1_30]; exact fun l hl => (xu_o (fun z => (fun z => by have z0 : (65 : Nat) = 80 := z.1; omega) (by rw [z] at hl; exact hl))).trans (f80_g1_29 l hl)
  have f70_g1_30 : ∀ l : XL, ((l.1 = 70) ∧ dzz l) → g1_30 l = none := by rw [eg1_30]; exact fun l hl => (xu_o (fun z => (fun z => by have z0 : (65 : Nat) = 70 := z.1; omega) (by rw [z] at hl; exact hl))).trans (f70_g1_29 l hl)
  have f71_g1_30 : ∀ l : XL, ((l.1 = 71) ∧ dzz l) → g1_30 l = none := by rw [eg1_30]; exact fun l hl => (xu_o (fun z => (fun z => by have z0 : (65 : Nat) = 71 := z.1; omega) (by rw [z] at hl; exact hl))).trans (f71_g1_29 l hl)
  have f72_g1_30 : ∀ l : XL, ((l.1 = 72) ∧ dzz l) → g1_30 l = none := by rw [eg1_30]; exact fun l hl => (xu_o (fun z => (fun z => by have z0 : (65 : Nat) = 72 := z.1; omega) (by rw [z] at hl; exact hl))).trans (f72_g1_29 l hl)
  have f73_g1_30 : ∀ l : XL, ((l.1 = 73) ∧ dzz l) → g1_30 l = none := by rw [eg1_30]; exact fun l hl => (xu_o (fun z => (fun z => by have z0 : (65 : Nat) = 73 := z.1; omega) (by rw [z] at hl; exact hl))).trans (f73_g1_29 l hl)
  have f74_g1_30 : ∀ l : XL, ((l.1 = 74) ∧ dzz l) → g1_30 l = none := by rw [eg1_30]; exact fun l hl => (xu_o (fun z => (fun z => by have z0 : (65 : Nat) = 74 := z.1; omega) (by rw [z] at hl; exact hl))).trans (f74_g1_29 l hl)
  have f75_g1_30 : ∀ l : XL, ((l.1 = 75) ∧ dzz l) → g1_30 l = none := by rw [eg1_30]; exact fun l hl => (xu_o (fun z => (fun z => by have z0 : (65 : Nat) = 75 := z.1; omega) (by rw [z] at hl; exact hl))).trans (f75_g1_29 l hl)
  have fr_g1_30 : ∀ l : XL, ¬ (((50 ≤ l.1 ∧ l.1 ≤ 75) ∨ l.1 = 80 ∨ l.1 = 81) ∧ dzz l) → g1_30 l = g0 l := by rw [eg1_30]; exact fun l hl => (xu_o (fun z => hl (by rw [z]; exact ⟨(show (50 ≤ (65 : Nat) ∧ (65 : Nat) ≤ 75) ∨ (65 : Nat) = 80 ∨ (65 : Nat) = 81 by omega), (show (0 : Int) = 0 ∧ (0 : Int) = 0 from ⟨rfl, rfl⟩)⟩))).trans (fr_g1_29 l hl)
  have v51_g1_30 : g1_30 (51, 0, 0) = some (.inr (3, 240, xZero 3)) := by rw [eg1_30]; exact (xu_o (nK (by decide) _ _ _ _)).trans v51_g1_29
  have v52_g1_30 : g1_30 (52, 0, 0) = some (.inr (0, 240, xZero 0)) := by rw [eg1_30]; exact (xu_o (nK (by decide) _ _ _ _)).trans v52_g1_29
  have v53_g1_30 : g1_30 (53, 0, 0) = some (.inr (0, 240, xZero 0)) := by rw [eg1_30]; exact (xu_o (nK (by decide) _ _ _ _)).trans v53_g1_29
  have v54_g1_30 : g1_30 (54, 0, 0) = some (.inr (0, 240, xZero 0)) := by rw [eg1_30]; exact (xu_o (nK (by decide) _ _ _ _)).trans v54_g1_29
  have v55_g1_30 : g1_30 (55, 0, 0) = some (.inr (0, 240, xZero 0)) := by rw [eg1_30]; exact (xu_o (nK (by decide) _ _ _ _)).trans v55_g1_29
  have v56_g1_30 : g1_30 (56, 0, 0) = some (.inr (2, 240, xZero 2)) := by rw [eg1_30]; exact (xu_o (nK (by decide) _ _ _ _)).trans v56_g1_29
  have v57_g1_30 : g1_30 (57, 0, 0) = some (.inr (2, 6, xZero 2)) := by rw [eg1_30]; exact (xu_o (nK (by decide) _ _ _ _)).trans v57_g1_29
  have v58_g1_30 : g1_30 (58, 0, 0) = some (.inr (0, 4, xZero 0)) := by rw [eg1_30]; exact (xu_o (nK (by decide) _ _ _ _)).trans v58_g1_29
  have v59_g1_30 : g1_30 (59, 0, 0) = some (.inr (0, 4, xZero 0)) := by rw [eg1_30]; exact (xu_o (nK (by decide) _ _ _ _)).trans v59_g1_29
  have v60_g1_30 : g1_30 (60, 0, 0) = some (.inr (0, 4, xZero 0)) := by rw [eg1_30]; exact (xu_o (nK (by decide) _ _ _ _)).trans v60_g1_29
  have v61_g1_30 : g1_30 (61, 0, 0) = some (.inr (0, 4, xZero 0)) := by rw [eg1_30]; exact (xu_o (nK (by decide) _ _ _ _)).trans v61_g1_29
  have v62_g1_30 : g1_30 (62, 0, 0) = some (.inr (0, 30, xZero 0)) := by rw [eg1_30]; exact (xu_o (nK (by decide) _ _ _ _)).trans v62_g1_29
  have v63_g1_30 : g1_30 (63, 0, 0) = some (.inr (0, 90, xZero 0)) := by rw [eg1_30]; exact (xu_o (nK (by decide) _ _ _ _)).trans v63_g1_29
  have v64_g1_30 : g1_30 (64, 0, 0) = some (.inr (0, 10, xZero 0)) := by rw [eg1_30]; exact (xu_o (nK (by decide) _ _ _ _)).trans v64_g1_29
  have v50_g1_30 : g1_30 (50, 0, 0) = some (.inl (9, [xR (51, 0, 0), xR (52, 0, 0), xR (53, 0, 0), xR (54, 0, 0), xR (55, 0, 0), xR (56, 0, 0), xR (57, 0, 0), xR (58, 0, 0), xR (59, 0, 0), xR (60, 0, 0), xR (61, 0, 0), xI 1, xI 0, xI 0, xR (62, 0, 0), xR (63, 0, 0), xR (64, 0, 0), xN, xN, xN, xN, xN, xN, xN, xI 0, xI 0, xN, xN, xN, xN, xN])) := by rw [eg1_30]; exact (xu_o (nK (by decide) _ _ _ _)).trans v50_g1_29
  have v65_g1_30 : g1_30 (65, 0, 0) = some (.inr (2, 30, xZero 2)) := by rw [eg1_30]; exact xu_at
  have f81_g1_30 : ∀ l : XL, l.1 = 81 → g1_30 l = none := by rw [eg1_30]; exact fun l hl => (xu_o (fun z => by rw [z] at hl; have a2 : (65 : Nat) = 81 := hl; omega)).trans (f81_g1_29 l hl)
  refine x_putF dX9_init_128 fl_RX9_58 (fun r hr => by cases hr; exact ⟨rfl, rfl⟩) v50_g1_30 xfit_a (Nat.le_of_ble_eq_true rfl) rfl rfl ?_
  refine x_hg (fun g1_31 eg1_31 => ?_)
  have f66_g1_31 : ∀ l : XL, ((l.1 = 66) ∧ dzz l) → g1_31 l = none := by rw [eg1_31]; exact fun l hl => (xu_o (fun z => (fun z => by have z0 : (50 : Nat) = 66 := z.1; omega) (by rw [z] at hl; exact hl))).trans (f66_g1_30 l hl)
  have f67_g1_31 : ∀ l : XL, ((l.1 = 67) ∧ dzz l) → g1_31 l = none := by rw [eg1_31]; exact fun l hl => (xu_o (fun z => (fun z => by have z0 : (50 : Nat) = 67 := z.1; omega) (by rw [z] at hl; exact hl))).trans (f67_g1_30 l hl)
  have f68_g1_31 : ∀ l : XL, ((l.1 = 68) ∧ dzz l) → g1_31 l = none := by rw [eg1_31]; exact fun l hl => (xu_o (fun z => (fun z => by have z0 : (50 : Nat) = 68 := z.1; omega) (by rw [z] at hl; exact hl))).trans (f68_g1_30 l hl)
  have f69_g1_31 : ∀ l : XL, ((l.1 = 69) ∧ dzz l) → g1_31 l = none := by rw [eg1_31]; exact fun l hl => (xu_o (fun z => (fun z => by have z0 : (50 : Nat) = 69 := z.1; omega) (by rw [z] at hl; exact hl))).trans (f69_g1_30 l hl)
  have f80_g1_31 : ∀ l : XL, ((l.1 = 80) ∧ dzz l) → g1_31 l = none := by rw [eg1_31]; exact fun l hl => (xu_o (fun z => (fun z => by have z0 : (50 : Nat) = 80 := z.1; omega) (by rw [z] at hl; exact hl))).trans (f80_g1_30 l hl)
  have f70_g1_31 : ∀ l : XL, ((l.1 = 70) ∧ dzz l) → g1_31 l = none := by rw [eg1_31]; exact fun l hl => (xu_o (fun z => (fun z => by have z0 : (50 : Nat) = 70 := z.1; omega) (by rw [z] at hl; exact hl))).trans (f70_g1_30 l hl)
  have f71_g1_31 : ∀ l : XL, ((l.1 = 71) ∧ dzz l) → g1_31 l = none := by rw [eg1_31]; exact fun l hl => (xu_o (fun z => (fun z => by have z0 : (50 : Nat) = 71 := z.1; omega) (by rw [z] at hl; exact hl))).trans (f71_g1_30 l hl)
  have f72_g1_31 : ∀ l : XL, ((l.1 = 72) ∧ dzz l) → g1_31 l = none := by rw [eg1_31]; exact fun l hl => (xu_o (fun z => (fun z => by have z0 : (50 : Nat) = 72 := z.1; omega) (by rw [z] at hl; exact hl))).trans (f72_g1_30 l hl)
  have f73_g1_31 : ∀ l : XL, ((l.1 = 73) ∧ dzz l) → g1_31 l = none := by rw [eg1_31]; exact fun l hl => (xu_o (fun z => (fun z => by have z0 : (50 : Nat) = 73 := z.1; omega) (by rw [z] at hl; exact hl))).trans (f73_g1_30 l hl)
  have f74_g1_31 : ∀ l : XL, ((l.1 = 74) ∧ dzz l) → g1_31 l = none := by rw [eg1_31]; exact fun l hl => (xu_o (fun z => (fun z => by have z0 : (50 : Nat) = 74 := z.1; omega) (by rw [z] at hl; exact hl))).trans (f74_g1_30 l hl)
  have f75_g1_31 : ∀ l : XL, ((l.1 = 75) ∧ dzz l) → g1_31 l = none := by rw [eg1_31]; exact fun l hl => (xu_o (fun z => (fun z => by have z0 : (50 : Nat) = 75 := z.1; omega) (by rw [z] at hl; exact hl))).trans (f75_g1_30 l hl)
  have fr_g1_31 : ∀ l : XL, ¬ (((50 ≤ l.1 ∧ l.1 ≤ 75) ∨ l.1 = 80 ∨ l.1 = 81) ∧ dzz l) → g1_31 l = g0 l := by rw [eg1_31]; exact fun l hl => (xu_o (fun z => hl (by rw [z]; exact ⟨(show (50 ≤ (50 : Nat) ∧ (50 : Nat) ≤ 75) ∨ (50 : Nat) = 80 ∨ (50 : Nat) = 81 by omega), (show (0 : Int) = 0 ∧ (0 : Int) = 0 from ⟨rfl, rfl⟩)⟩))).trans (fr_g1_30 l hl)
  have v51_g1_31 : g1_31 (51, 0, 0) = some (.inr (3, 240, xZero 3)) := by rw [eg1_31]; exact (xu_o (nK (by decide) _ _ _ _)).trans v51_g1_30
  have v52_g1_31 : g1_31 (52, 0, 0) = some (.inr (0, 240, xZero 0)) := by rw [eg1_31]; exact (xu_o (nK (by decide) _ _ _ _)).trans v52_g1_30
  have v53_g1_31 : g1_31 (53, 0, 0) = some (.inr (0, 240, xZero 0)) := by rw [eg1_31]; exact (xu_o (nK (by decide) _ _ _ _)).trans v53_g1_30
  have v54_g1_31 : g1_31 (54, 0, 0) = some (.inr (0, 240, xZero 0)) := by rw [eg1_31]; exact (xu_o (nK (by decide) _ _ _ _)).trans v54_g1_30
  have v55_g1_31 : g1_31 (55, 0, 0) = some (.inr (0, 240, xZero 0)) := by rw [eg1_31]; exact (xu_o (nK (by decide) _ _ _ _)).trans v55_g1_30
  have v56_g1_31 : g1_31 (56, 0, 0) = some (.inr (2, 240, xZero 2)) := by rw [eg1_31]; exact (xu_o (nK (by decide) _ _ _ _)).trans v56_g1_30
  have v57_g1_31 : g1_31 (57, 0, 0) = some (.inr (2, 6, xZero 2)) := by rw [eg1_31]; exact (xu_o (nK (by decide) _ _ _ _)).trans v57_g1_30
  have v58_g1_31 : g1_31 (58, 0, 0) = some (.inr (0, 4, xZero 0)) := by rw [eg1_31]; exact (xu_o (nK (by decide) _ _ _ _)).trans v58_g1_30
  have v59_g1_31 : g1_31 (59, 0, 0) = some (.inr (0, 4, xZero 0)) := by rw [eg1_31]; exact (xu_o (nK (by decide) _ _ _ _)).trans v59_g1_30
  have v60_g1_31 : g1_31 (60, 0, 0) = some (.inr (0, 4, xZero 0)) := by rw [eg1_31]; exact (xu_o (nK (by decide) _ _ _ _)).trans v60_g1_30
  have v61_g1_31 : g1_31 (61, 0, 0) = some (.inr (0, 4, xZero 0)) := by rw [eg1_31]; exact (xu_o (nK (by decide) _ _ _ _)).trans v61_g1_30
  have v62_g1_31 : g1_31 (62, 0, 0) = some (.inr (0, 30, xZero 0)) := by rw [eg1_31]; exact (xu_o (nK (by decide) _ _ _ _)).trans v62_g1_30
  have v63_g1_31 : g1_31 (63, 0, 0) = some (.inr (0, 90, xZero 0)) := by rw [eg1_31]; exact (xu_o (nK (by decide) _ _ _ _)).trans v63_g1_30
  have v64_g1_31 : g1_31 (64, 0, 0) = some (.inr (0, 10, xZero 0)) := by rw [eg1_31]; exact (xu_o (nK (by decide) _ _ _ _)).trans v64_g1_30
  have v65_g1_31 : g1_31 (65, 0, 0) = some (.inr (2, 30, xZero 2)) := by rw [eg1_31]; exact (xu_o (nK (by decide) _ _ _ _)).trans v65_g1_30
  have v50_g1_31 : g1_31 (50, 0, 0) = some (.inl (9, [xR (51, 0, 0), xR (52, 0, 0), xR (53, 0, 0), xR (54, 0, 0), xR (55, 0, 0), xR (56, 0, 0), xR (57, 0, 0), xR (58, 0, 0), xR (59, 0, 0), xR (60, 0, 0), xR (61, 0, 0), xI 1, xI 0, xI 0, xR (62, 0, 0), xR (63, 0, 0), xR (64, 0, 0), xR (65, 0, 0), xN, xN, xN, xN, xN, xN, xI 0, xI 0, xN, xN, xN, xN, xN])) := by rw [eg1_31]; exact xu_at
  have f81_g1_31 : ∀ l : XL, l.1 = 81 → g1_31 l = none := by rw [eg1_31]; exact fun l hl => (xu_o (fun z => by rw [z] at hl; have a2 : (50 : Nat) = 81 := hl; omega)).trans (f81_g1_30 l hl)
  refine x_aload_n dX9_init_131 rfl ?_
  refine x_bipush (v := 10) dX9_init_132 (by decide) ?_
  refine x_newarray (66, 0, 0) (t := 2) (n := 10) (N := 10) dX9_init_134 rfl wd123 (f66_g1_31 _ ⟨(show (66 : Nat) = 66 by omega), (show (0 : Int) = 0 ∧ (0 : Int) = 0 from ⟨rfl, rfl⟩)⟩) (show (66 : Nat) ≠ 99 by decide) rfl (by decide) (by omega) (by omega) ?_
  refine x_hg (fun g1_32 eg1_32 => ?_)
  have f67_g1_32 : ∀ l : XL, ((l.1 = 67) ∧ dzz l) → g1_32 l = none := by rw [eg1_32]; exact fun l hl => (xu_o (fun z => (fun z => by have z0 : (66 : Nat) = 67 := z.1; omega) (by rw [z] at hl; exact hl))).trans (f67_g1_31 l hl)
  have f68_g1_32 : ∀ l : XL, ((l.1 = 68) ∧ dzz l) → g1_32 l = none := by rw [eg1_32]; exact fun l hl => (xu_o (fun z => (fun z => by have z0 : (66 : Nat) = 68 := z.1; omega) (by rw [z] at hl; exact hl))).trans (f68_g1_31 l hl)
  have f69_g1_32 : ∀ l : XL, ((l.1 = 69) ∧ dzz l) → g1_32 l = none := by rw [eg1_32]; exact fun l hl => (xu_o (fun z => (fun z => by have z0 : (66 : Nat) = 69 := z.1; omega) (by rw [z] at hl; exact hl))).trans (f69_g1_31 l hl)
  have f80_g1_32 : ∀ l : XL, ((l.1 = 80) ∧ dzz l) → g1_32 l = none := by rw [eg1_32]; exact fun l hl => (xu_o (fun z => (fun z => by have z0 : (66 : Nat) = 80 := z.1; omega) (by rw [z] at hl; exact hl))).trans (f80_g1_31 l hl)
  have f70_g1_32 : ∀ l : XL, ((l.1 = 70) ∧ dzz l) → g1_32 l = none := by rw [eg1_32]; exact fun l hl => (xu_o (fun z => (fun z => by have z0 : (66 : Nat) = 70 := z.1; omega) (by rw [z] at hl; exact hl))).trans (f70_g1_31 l hl)
  have f71_g1_32 : ∀ l : XL, ((l.1 = 71) ∧ dzz l) → g1_32 l = none := by rw [eg1_32]; exact fun l hl => (xu_o (fun z => (fun z => by have z0 : (66 : Nat) = 71 := z.1; omega) (by rw [z] at hl; exact hl))).trans (f71_g1_31 l hl)
  have f72_g1_32 : ∀ l : XL, ((l.1 = 72) ∧ dzz l) → g1_32 l = none := by rw [eg1_32]; exact fun l hl => (xu_o (fun z => (fun z => by have z0 : (66 : Nat) = 72 := z.1; omega) (by rw [z] at hl; exact hl))).trans (f72_g1_31 l hl)
  have f73_g1_32 : ∀ l : XL, ((l.1 = 73) ∧ dzz l) → g1_32 l = none := by rw [eg1_32]; exact fun l hl => (xu_o (fun z => (fun z => by have z0 : (66 : Nat) = 73 := z.1; omega) (by rw [z] at hl; exact hl))).trans (f73_g1_31 l hl)
  have f74_g1_32 : ∀ l : XL, ((l.1 = 74) ∧ dzz l) → g1_32 l = none := by rw [eg1_32]; exact fun l hl => (xu_o (fun z => (fun z => by have z0 : (66 : Nat) = 74 := z.1; omega) (by rw [z] at hl; exact hl))).trans (f74_g1_31 l hl)
  have f75_g1_32 : ∀ l : XL, ((l.1 = 75) ∧ dzz l) → g1_32 l = none := by rw [eg1_32]; exact fun l hl => (xu_o (fun z => (fun z => by have z0 : (66 : Nat) = 75 := z.1; omega) (by rw [z] at hl; exact hl))).trans (f75_g1_31 l hl)
  have fr_g1_32 : ∀ l : XL, ¬ (((50 ≤ l.1 ∧ l.1 ≤ 75) ∨ l.1 = 80 ∨ l.1 = 81) ∧ dzz l) → g1_32 l = g0 l := by rw [eg1_32]; exact fun l hl => (xu_o (fun z => hl (by rw [z]; exact ⟨(show (50 ≤ (66 : Nat) ∧ (66 : Nat) ≤ 75) ∨ (66 : Nat) = 80 ∨ (66 : Nat) = 81 by omega), (show (0 : Int) = 0 ∧ (0 : Int) = 0 from ⟨rfl, rfl⟩)⟩))).trans (fr_g1_31 l hl)
  have v51_g1_32 : g1_32 (51, 0, 0) = some (.inr (3, 240, xZero 3)) := by rw [eg1_32]; exact (xu_o (nK (by decide) _ _ _ _)).trans v51_g1_31
  have v52_g1_32 : g1_32 (52, 0, 0) = some (.inr (0, 240, xZero 0)) := by rw [eg1_32]; exact (xu_o (nK (by decide) _ _ _ _)).trans v52_g1_31
  have v53_g1_32 : g1_32 (53, 0, 0) = some (.inr (0, 240, xZero 0)) := by rw [eg1_32]; exact (xu_o (nK (by decide) _ _ _ _)).trans v53_g1_31
  have v54_g1_32 : g1_32 (54, 0, 0) = some (.inr (0, 240, xZero 0)) := by rw [eg1_32]; exact (xu_o (nK (by decide) _ _ _ _)).trans v54_g1_31
  have v55_g1_32 : g1_32 (55, 0, 0) = some (.inr (0, 240, xZero 0)) := by rw [eg1_32]; exact (xu_o (nK (by decide) _ _ _ _)).trans v55_g1_31
  have v56_g1_32 : g1_32 (56, 0, 0) = some (.inr (2, 240, xZero 2)) := by rw [eg1_32]; exact (xu_o (nK (by decide) _ _ _ _)).trans v56_g1_31
  have v57_g1_32 : g1_32 (57, 0, 0) = some (.inr (2, 6, xZero 2)) := by rw [eg1_32]; exact (xu_o (nK (by decide) _ _ _ _)).trans v57_g1_31
  have v58_g1_32 : g1_32 (58, 0, 0) = some (.inr (0, 4, xZero 0)) := by rw [eg1_32]; exact (xu_o (nK (by decide) _ _ _ _)).trans v58_g1_31
  have v59_g1_32 : g1_32 (59, 0, 0) = some (.inr (0, 4, xZero 0)) := by rw [eg1_32]; exact (xu_o (nK (by decide) _ _ _ _)).trans v59_g1_31
  have v60_g1_32 : g1_32 (60, 0, 0) = some (.inr (0, 4, xZero 0)) := by rw [eg1_32]; exact (xu_o (nK (by decide) _ _ _ _)).trans v60_g1_31
  have v61_g1_32 : g1_32 (61, 0, 0) = some (.inr (0, 4, xZero 0)) := by rw [eg1_32]; exact (xu_o (nK (by decide) _ _ _ _)).trans v61_g1_31
  have v62_g1_32 : g1_32 (62, 0, 0) = some (.inr (0, 30, xZero 0)) := by rw [eg1_32]; exact (xu_o (nK (by decide) _ _ _ _)).trans v62_g1_31
  have v63_g1_32 : g1_32 (63, 0, 0) = some (.inr (0, 90, xZero 0)) := by rw [eg1_32]; exact (xu_o (nK (by decide) _ _ _ _)).trans v63_g1_31
  have v64_g1_32 : g1_32 (64, 0, 0) = some (.inr (0, 10, xZero 0)) := by rw [eg1_32]; exact (xu_o (nK (by decide) _ _ _ _)).trans v64_g1_31
  have v65_g1_32 : g1_32 (65, 0, 0) = some (.inr (2, 30, xZero 2)) := by rw [eg1_32]; exact (xu_o (nK (by decide) _ _ _ _)).trans v65_g1_31
  have v50_g1_32 : g1_32 (50, 0, 0) = some (.inl (9, [xR (51, 0, 0), xR (52, 0, 0), xR (53, 0, 0), xR (54, 0, 0), xR (55, 0, 0), xR (56, 0, 0), xR (57, 0, 0), xR (58, 0, 0), xR (59, 0, 0), xR (60, 0, 0), xR (61, 0, 0), xI 1, xI 0, xI 0, xR (62, 0, 0), xR (63, 0, 0), xR (64, 0, 0), xR (65, 0, 0), xN, xN, xN, xN, xN, xN, xI 0, xI 0, xN, xN, xN, xN, xN])) := by rw [eg1_32]; exact (xu_o (nK (by decide) _ _ _ _)).trans v50_g1_31
  have v66_g1_32 : g1_32 (66, 0, 0) = some (.inr (2, 10, xZero 2)) := by rw [eg1_32]; exact xu_at
  have f81_g1_32 : ∀ l : XL, l.1 = 81 → g1_32 l = none := by rw [eg1_32]; exact fun l hl => (xu_o (fun z => by rw [z] at hl; have a2 : (66 : Nat) = 81 := hl; omega)).trans (f81_g1_31 l hl)
  refine x_putF dX9_init_136 fl_RX9_61 (fun r hr => by cases hr; exact ⟨rfl, rfl⟩) v50_g1_32 xfit_a (Nat.le_of_ble_eq_true rfl) rfl rfl ?_
  refine x_hg (fun g1_33 eg1_33 => ?_)
  have f67_g1_33 : ∀ l : XL, ((l.1 = 67) ∧ dzz l) → g1_33 l = none := by rw [eg1_33]; exact fun l hl => (xu_o (fun z => (fun z => by have z0 : (50 : Nat) = 67 := z.1; omega) (by rw [z] at hl; exact hl))).trans (f67_g1_32 l hl)
  have f68_g1_33 : ∀ l : XL, ((l.1 = 68) ∧ dzz l) → g1_33 l = none := by rw [eg1_33]; exact fun l hl => (xu_o (fun z => (fun z => by have z0 : (50 : Nat) = 68 := z.1; omega) (by rw [z] at hl; exact hl))).trans (f68_g1_32 l hl)
  have f69_g1_33 : ∀ l : XL, ((l.1 = 69) ∧ dzz l) → g1_33 l = none := by rw [eg1_33]; exact fun l hl => (xu_o (fun z => (fun z => by have z0 : (50 : Nat) = 69 := z.1; omega) (by rw [z] at hl; exact hl))).trans (f69_g1_32 l hl)
  have f80_g1_33 : ∀ l : XL, ((l.1 = 80) ∧ dzz l) → g1_33 l = none := by rw [eg1_33]; exact fun l hl => (xu_o (fun z => (fun z => by have z0 : (50 : Nat) = 80 := z.1; omega) (by rw [z] at hl; exact hl))).trans (f80_g1_32 l hl)
  have f70_g1_33 : ∀ l : XL, ((l.1 = 70) ∧ dzz l) → g1_33 l = none := by rw [eg1_33]; exact fun l hl => (xu_o (fun z => (fun z => by have z0 : (50 : Nat) = 70 := z.1; omega) (by rw [z] at hl; exact hl))).trans (f70_g1_32 l hl)
  have f71_g1_33 : ∀ l : XL, ((l.1 = 71) ∧ dzz l) → g1_33 l = none := by rw [eg1_33]; exact fun l hl => (xu_o (fun z => (fun z => by have z0 : (50 : Nat) = 71 := z.1; omega) (by rw [z] at hl; exact hl))).trans (f71_g1_32 l hl)
  have f72_g1_33 : ∀ l : XL, ((l.1 = 72) ∧ dzz l) → g1_33 l = none := by rw [eg1_33]; exact fun l hl => (xu_o (fun z => (fun z => by have z0 : (50 : Nat) = 72 := z.1; omega) (by rw [z] at hl; exact hl))).trans (f72_g1_32 l hl)
  have f73_g1_33 : ∀ l : XL, ((l.1 = 73) ∧ dzz l) → g1_33 l = none := by rw [eg1_33]; exact fun l hl => (xu_o (fun z => (fun z => by have z0 : (50 : Nat) = 73 := z.1; omega) (by rw [z] at hl; exact hl))).trans (f73_g1_32 l hl)
  have f74_g1_33 : ∀ l : XL, ((l.1 = 74) ∧ dzz l) → g1_33 l = none := by rw [eg1_33]; exact fun l hl => (xu_o (fun z => (fun z => by have z0 : (50 : Nat) = 74 := z.1; omega) (by rw [z] at hl; exact hl))).trans (f74_g1_32 l hl)
  have f75_g1_33 : ∀ l : XL, ((l.1 = 75) ∧ dzz l) → g1_33 l = none := by rw [eg1_33]; exact fun l hl => (xu_o (fun z => (fun z => by have z0 : (50 : Nat) = 75 := z.1; omega) (by rw [z] at hl; exact hl))).trans (f75_g1_32 l hl)
  have fr_g1_33 : ∀ l : XL, ¬ (((50 ≤ l.1 ∧ l.1 ≤ 75) ∨ l.1 = 80 ∨ l.1 = 81) ∧ dzz l) → g1_33 l = g0 l := by rw [eg1_33]; exact fun l hl => (xu_o (fun z => hl (by rw [z]; exact ⟨(show (50 ≤ (50 : Nat) ∧ (50 : Nat) ≤ 75) ∨ (50 : Nat) = 80 ∨ (50 : Nat) = 81 by omega), (show (0 : Int) = 0 ∧ (0 : Int) = 0 from ⟨rfl, rfl⟩)⟩))).trans (fr_g1_32 l hl)
  have v51_g1_33 : g1_33 (51, 0, 0) = some (.inr (3, 240, xZero 3)) := by rw [eg1_33]; exact (xu_o (nK (by decide) _ _ _ _)).trans v51_g1_32
  have v52_g1_33 : g1_33 (52, 0, 0) = some (.inr (0, 240, xZero 0)) := by rw [eg1_33]; exact (xu_o (nK (by decide) _ _ _ _)).trans v52_g1_32
  have v53_g1_33 : g1_33 (53, 0, 0) = some (.inr (0, 240, xZero 0)) := by rw [eg1_33]; exact (xu_o (nK (by decide) _ _ _ _)).trans v53_g1_32
  have v54_g1_33 : g1_33 (54, 0, 0) = some (.inr (0, 240, xZero 0)) := by rw [eg1_33]; exact (xu_o (nK (by decide) _ _ _ _)).trans v54_g1_32
  have v55_g1_33 : g1_33 (55, 0, 0) = some (.inr (0, 240, xZero 0)) := by rw [eg1_33]; exact (xu_o (nK (by decide) _ _ _ _)).trans v55_g1_32
  have v56_g1_33 : g1_33 (56, 0, 0) = some (.inr (2, 240, xZero 2)) := by rw [eg1_33]; exact (xu_o (nK (by decide) _ _ _ _)).trans v56_g1_32
  have v57_g1_33 : g1_33 (57, 0, 0) = some (.inr (2, 6, xZero 2)) := by rw [eg1_33]; exact (xu_o (nK (by decide) _ _ _ _)).trans v57_g1_32
  have v58_g1_33 : g1_33 (58, 0, 0) = some (.inr (0, 4, xZero 0)) := by rw [eg1_33]; exact (xu_o (nK (by decide) _ _ _ _)).trans v58_g1_32
  have v59_g1_33 : g1_33 (59, 0, 0) = some (.inr (0, 4, xZero 0)) := by rw [eg1_33]; exact (xu_o (nK (by decide) _ _ _ _)).trans v59_g1_32
  have v60_g1_33 : g1_33 (60, 0, 0) = some (.inr (0, 4, xZero 0)) := by rw [eg1_33]; exact (xu_o (nK (by decide) _ _ _ _)).trans v60_g1_32
  have v61_g1_33 : g1_33 (61, 0, 0) = some (.inr (0, 4, xZero 0)) := by rw [eg1_33]; exact (xu_o (nK (by decide) _ _ _ _)).trans v61_g1_32
  have v62_g1_33 : g1_33 (62, 0, 0) = some (.inr (0, 30, xZero 0)) := by rw [eg1_33]; exact (xu_o (nK (by decide) _ _ _ _)).trans v62_g1_32
  have v63_g1_33 : g1_33 (63, 0, 0) = some (.inr (0, 90, xZero 0)) := by rw [eg1_33]; exact (xu_o (nK (by decide) _ _ _ _)).trans v63_g1_32
  have v64_g1_33 : g1_33 (64, 0, 0) = some (.inr (0, 10, xZero 0)) := by rw [eg1_33]; exact (xu_o (nK (by decide) _ _ _ _)).trans v64_g1_32
  have v65_g1_33 : g1_33 (65, 0, 0) = some (.inr (2, 30, xZero 2)) := by rw [eg1_33]; exact (xu_o (nK (by decide) _ _ _ _)).trans v65_g1_32
  have v66_g1_33 : g1_33 (66, 0, 0) = some (.inr (2, 10, xZero 2)) := by rw [eg1_33]; exact (xu_o (nK (by decide) _ _ _ _)).trans v66_g1_32
  have v50_g1_33 : g1_33 (50, 0, 0) = some (.inl (9, [xR (51, 0, 0), xR (52, 0, 0), xR (53, 0, 0), xR (54, 0, 0), xR (55, 0, 0), xR (56, 0, 0), xR (57, 0, 0), xR (58, 0, 0), xR (59, 0, 0), xR (60, 0, 0), xR (61, 0, 0), xI 1, xI 0, xI 0, xR (62, 0, 0), xR (63, 0, 0), xR (64, 0, 0), xR (65, 0, 0), xR (66, 0, 0), xN, xN, xN, xN, xN, xI 0, xI 0, xN, xN, xN, xN, xN])) := by rw [eg1_33]; exact xu_at
  have f81_g1_33 : ∀ l : XL, l.1 = 81 → g1_33 l = none := by rw [eg1_33]; exact fun l hl => (xu_o (fun z => by rw [z] at hl; have a2 : (50 : Nat) = 81 := hl; omega)).trans (f81_g1_32 l hl)
  refine x_aload_n dX9_init_139 rfl ?_
  refine x_bipush (v := 25) dX9_init_140 (by decide) ?_
  refine x_newarray (67, 0, 0) (t := 0) (n := 25) (N := 25) dX9_init_142 rfl wd124 (f67_g1_33 _ ⟨(show (67 : Nat) = 67 by omega), (show (0 : Int) = 0 ∧ (0 : Int) = 0 from ⟨rfl, rfl⟩)⟩) (show (67 : Nat) ≠ 99 by decide) rfl (by decide) (by omega) (by omega) ?_
  refine x_hg (fun g1_34 eg1_34 => ?_)
  have f68_g1_34 : ∀ l : XL, ((l.1 = 68) ∧ dzz l) → g1_34 l = none := by rw [eg1_34]; exact fun l hl => (xu_o (fun z => (fun z => by have z0 : (67 : Nat) = 68 := z.1; omega) (by rw [z] at hl; exact hl))).trans (f68_g1_33 l hl)
  have f69_g1_34 : ∀ l : XL, ((l.1 = 69) ∧ dzz l) → g1_34 l = none := by rw [eg1_34]; exact fun l hl => (xu_o (fun z => (fun z => by have z0 : (67 : Nat) = 69 := z.1; omega) (by rw [z] at hl; exact hl))).trans (f69_g1_33 l hl)
  have f80_g1_34 : ∀ l : XL, ((l.1 = 80) ∧ dzz l) → g1_34 l = none := by rw [eg1_34]; exact fun l hl => (xu_o (fun z => (fun z => by have z0 : (67 : Nat) = 80 := z.1; omega) (by rw [z] at hl; exact hl))).trans (f80_g1_33 l hl)
  have f70_g1_34 : ∀ l : XL, ((l.1 = 70) ∧ dzz l) → g1_34 l = none := by rw [eg1_34]; exact fun l hl => (xu_o (fun z => (fun z => by have z0 : (67 : Nat) = 70 := z.1; omega) (by rw [z] at hl; exact hl))).trans (f70_g1_33 l hl)
  have f71_g1_34 : ∀ l : XL, ((l.1 = 71) ∧ dzz l) → g1_34 l = none := by rw [eg1_34]; exact fun l hl => (xu_o (fun z => (fun z => by have z0 : (67 : Nat) = 71 := z.1; omega) (by rw [z] at hl; exact hl))).trans (f71_g1_33 l hl)
  have f72_g1_34 : ∀ l : XL, ((l.1 = 72) ∧ dzz l) → g1_34 l = none := by rw [eg1_34]; exact fun l hl => (xu_o (fun z => (fun z => by have z0 : (67 : Nat) = 72 := z.1; omega) (by rw [z] at hl; exact hl))).trans (f72_g1_33 l hl)
  have f73_g1_34 : ∀ l : XL, ((l.1 = 73) ∧ dzz l) → g1_34 l = none := by rw [eg1_34]; exact fun l hl => (xu_o (fun z => (fun z => by have z0 : (67 : Nat) = 73 := z.1; omega) (by rw [z] at hl; exact hl))).trans (f73_g1_33 l hl)
  have f74_g1_34 : ∀ l : XL, ((l.1 = 74) ∧ dzz l) → g1_34 l = none := by rw [eg1_34]; exact fun l hl => (xu_o (fun z => (fun z => by have z0 : (67 : Nat) = 74 := z.1; omega) (by rw [z] at hl; exact hl))).trans (f74_g1_33 l hl)
  have f75_g1_34 : ∀ l : XL, ((l.1 = 75) ∧ dzz l) → g1_34 l = none := by rw [eg1_34]; exact fun l hl => (xu_o (fun z => (fun z => by have z0 : (67 : Nat) = 75 := z.1; omega) (by rw [z] at hl; exact hl))).trans (f75_g1_33 l hl)
  have fr_g1_34 : ∀ l : XL, ¬ (((50 ≤ l.1 ∧ l.1 ≤ 75) ∨ l.1 = 80 ∨ l.1 = 81) ∧ dzz l) → g1_34 l = g0 l := by rw [eg1_34]; exact fun l hl => (xu_o (fun z => hl (by rw [z]; exact ⟨(show (50 ≤ (67 : Nat) ∧ (67 : Nat) ≤ 75) ∨ (67 : Nat) = 80 ∨ (67 : Nat) = 81 by omega), (show (0 : Int) = 0 ∧ (0 : Int) = 0 from ⟨rfl, rfl⟩)⟩))).trans (fr_g1_33 l hl)
  have v51_g1_34 : g1_34 (51, 0, 0) = some (.inr (3, 240, xZero 3)) := by rw [eg1_34]; exact (xu_o (nK (by decide) _ _ _ _)).trans v51_g1_33
  have v52_g1_34 : g1_34 (52, 0, 0) = some (.inr (0, 240, xZero 0)) := by rw [eg1_34]; exact (xu_o (nK (by decide) _ _ _ _)).trans v52_g1_33
  have v53_g1_34 : g1_34 (53, 0, 0) = some (.inr (0, 240, xZero 0)) := by rw [eg1_34]; exact (xu_o (nK (by decide) _ _ _ _)).trans v53_g1_33
  have v54_g1_34 : g1_34 (54, 0, 0) = some (.inr (0, 240, xZero 0)) := by rw [eg1_34]; exact (xu_o (nK (by decide) _ _ _ _)).trans v54_g1_33
  have v55_g1_34 : g1_34 (55, 0, 0) = some (.inr (0, 240, xZero 0)) := by rw [eg1_34]; exact (xu_o (nK (by decide) _ _ _ _)).trans v55_g1_33
  have v56_g1_34 : g1_34 (56, 0, 0) = some (.inr (2, 240, xZero 2)) := by rw [eg1_34]; exact (xu_o (nK (by decide) _ _ _ _)).trans v56_g1_33
  have v57_g1_34 : g1_34 (57, 0, 0) = some (.inr (2, 6, xZero 2)) := by rw [eg1_34]; exact (xu_o (nK (by decide) _ _ _ _)).trans v57_g1_33
  have v58_g1_34 : g1_34 (58, 0, 0) = some (.inr (0, 4, xZero 0)) := by rw [eg1_34]; exact (xu_o (nK (by decide) _ _ _ _)).trans v58_g1_33
  have v59_g1_34 : g1_34 (59, 0, 0) = some (.inr (0, 4, xZero 0)) := by rw [eg1_34]; exact (xu_o (nK (by decide) _ _ _ _)).trans v59_g1_33
  have v60_g1_34 : g1_34 (60, 0, 0) = some (.inr (0, 4, xZero 0)) := by rw [eg1_34]; exact (xu_o (nK (by decide) _ _ _ _)).trans v60_g1_33
  have v61_g1_34 : g1_34 (61, 0, 0) = some (.inr (0, 4, xZero 0)) := by rw [eg1_34]; exact (xu_o (nK (by decide) _ _ _ _)).trans v61_g1_33
  have v62_g1_34 : g1_34 (62, 0, 0) = some (.inr (0, 30, xZero 0)) := by rw [eg1_34]; exact (xu_o (nK (by decide) _ _ _ _)).trans v62_g1_33
  have v63_g1_34 : g1_34 (63, 0, 0) = some (.inr (0, 90, xZero 0)) := by rw [eg1_34]; exact (xu_o (nK (by decide) _ _ _ _)).trans v63_g1_33
  have v64_g1_34 : g1_34 (64, 0, 0) = some (.inr (0, 10, xZero 0)) := by rw [eg1_34]; exact (xu_o (nK (by decide) _ _ _ _)).trans v64_g1_33
  have v65_g1_34 : g1_34 (65, 0, 0) = some (.inr (2, 30, xZero 2)) := by rw [eg1_34]; exact (xu_o (nK (by decide) _ _ _ _)).trans v65_g1_33
  have v66_g1_34 : g1_34 (66, 0, 0) = some (.inr (2, 10, xZero 2)) := by rw [eg1_34]; exact (xu_o (nK (by decide) _ _ _ _)).trans v66_g1_33
  have v50_g1_34 : g1_34 (50, 0, 0) = some (.inl (9, [xR (51, 0, 0), xR (52, 0, 0), xR (53, 0, 0), xR (54, 0, 0), xR (55, 0, 0), xR (56, 0, 0), xR (57, 0, 0), xR (58, 0, 0), xR (59, 0, 0), xR (60, 0, 0), xR (61, 0, 0), xI 1, xI 0, xI 0, xR (62, 0, 0), xR (63, 0, 0), xR (64, 0, 0), xR (65, 0, 0), xR (66, 0, 0), xN, xN, xN, xN, xN, xI 0, xI 0, xN, xN, xN, xN, xN])) := by rw [eg1_34]; exact (xu_o (nK (by decide) _ _ _ _)).trans v50_g1_33
  have v67_g1_34 : g1_34 (67, 0, 0) = some (.inr (0, 25, xZero 0)) := by rw [eg1_34]; exact xu_at
  have f81_g1_34 : ∀ l : XL, l.1 = 81 → g1_34 l = none := by rw [eg1_34]; exact fun l hl => (xu_o (fun z => by rw [z] at hl; have a2 : (67 : Nat) = 81 := hl; omega)).trans (f81_g1_33 l hl)
  refine x_putF dX9_init_144 fl_RX9_64 (fun r hr => by cases hr; exact ⟨rfl, rfl⟩) v50_g1_34 xfit_a (Nat.le_of_ble_eq_true rfl) rfl rfl ?_
  refine x_hg (fun g1_35 eg1_35 => ?_)
  have f68_g1_35 : ∀ l : XL, ((l.1 = 68) ∧ dzz l) → g1_35 l = none := by rw [eg1_35]; exact fun l hl => (xu_o (fun z => (fun z => by have z0 : (50 : Nat) = 68 := z.1; omega) (by rw [z] at hl; exact hl))).trans (f68_g1_34 l hl)
  have f69_g1_35 : ∀ l : XL, ((l.1 = 69) ∧ dzz l) → g1_35 l = none := by rw [eg1_35]; exact fun l hl => (xu_o (fun z => (fun z => by have z0 : (50 : Nat) = 69 := z.1; omega) (by rw [z] at hl; exact hl))).trans (f69_g1_34 l hl)
  have f80_g1_35 : ∀ l : XL, ((l.1 = 80) ∧ dzz l) → g1_35 l = none := by rw [eg1_35]; exact fun l hl => (xu_o (fun z => (fun z => by have z0 : (50 : Nat) = 80 := z.1; omega) (by rw [z] at hl; exact hl))).trans (f80_g1_34 l hl)
  have f70_g1_35 : ∀ l : XL, ((l.1 = 70) ∧ dzz l) → g1_35 l = none := by rw [eg1_35]; exact fun l hl => (xu_o (fun z => (fun z => by have z0 : (50 : Nat) = 70 := z.1; omega) (by rw [z] at hl; exact hl))).trans (f70_g1_34 l hl)
  have f71_g1_35 : ∀ l : XL, ((l.1 = 71) ∧ dzz l) → g1_35 l = none := by rw [eg1_35]; exact fun l hl => (xu_o (fun z => (fun z => by have z0 : (50 : Nat) = 71 := z.1; omega) (by rw [z] at hl; exact hl))).trans (f71_g1_34 l hl)
  have f72_g1_35 : ∀ l : XL, ((l.1 = 72) ∧ dzz l) → g1_35 l = none := by rw [eg1_35]; exact fun l hl => (xu_o (fun z => (fun z => by have z0 : (50 : Nat) = 72 := z.1; omega) (by rw [z] at hl; exact hl))).trans (f72_g1_34 l hl)
  have f73_g1_35 : ∀ l : XL, ((l.1 = 73) ∧ dzz l) → g1_35 l = none := by rw [eg1_35]; exact fun l hl => (xu_o (fun z => (fun z => by have z0 : (50 : Nat) = 73 := z.1; omega) (by rw [z] at hl; exact hl))).trans (f73_g1_34 l hl)
  have f74_g1_35 : ∀ l : XL, ((l.1 = 74) ∧ dzz l) → g1_35 l = none := by rw [eg1_35]; exact fun l hl => (xu_o (fun z => (fun z => by have z0 : (50 : Nat) = 74 := z.1; omega) (by rw [z] at hl; exact hl))).trans (f74_g1_34 l hl)
  have f75_g1_35 : ∀ l : XL, ((l.1 = 75) ∧ dzz l) → g1_35 l = none := by rw [eg1_35]; exact fun l hl => (xu_o (fun z => (fun z => by have z0 : (50 : Nat) = 75 := z.1; omega) (by rw [z] at hl; exact hl))).trans (f75_g1_34 l hl)
  have fr_g1_35 : ∀ l : XL, ¬ (((50 ≤ l.1 ∧ l.1 ≤ 75) ∨ l.1 = 80 ∨ l.1 = 81) ∧ dzz l) → g1_35 l = g0 l := by rw [eg1_35]; exact fun l hl => (xu_o (fun z => hl (by rw [z]; exact ⟨(show (50 ≤ (50 : Nat) ∧ (50 : Nat) ≤ 75) ∨ (50 : Nat) = 80 ∨ (50 : Nat) = 81 by omega), (show (0 : Int) = 0 ∧ (0 : Int) = 0 from ⟨rfl, rfl⟩)⟩))).trans (fr_g1_34 l hl)
  have v51_g1_35 : g1_35 (51, 0, 0) = some (.inr (3, 240, xZero 3)) := by rw [eg1_35]; exact (xu_o (nK (by decide) _ _ _ _)).trans v51_g1_34
  have v52_g1_35 : g1_35 (52, 0, 0) = some (.inr (0, 240, xZero 0)) := by rw [eg1_35]; exact (xu_o (nK (by decide) _ _ _ _)).trans v52_g1_34
  have v53_g1_35 : g1_35 (53, 0, 0) = some (.inr (0, 240, xZero 0)) := by rw [eg1_35]; exact (xu_o (nK (by decide) _ _ _ _)).trans v53_g1_34
  have v54_g1_35 : g1_35 (54, 0, 0) = some (.inr (0, 240, xZero 0)) := by rw [eg1_35]; exact (xu_o (nK (by decide) _ _ _ _)).trans v54_g1_34
  have v55_g1_35 : g1_35 (55, 0, 0) = some (.inr (0, 240, xZero 0)) := by rw [eg1_35]; exact (xu_o (nK (by decide) _ _ _ _)).trans v55_g1_34
  have v56_g1_35 : g1_35 (56, 0, 0) = some (.inr (2, 240, xZero 2)) := by rw [eg1_35]; exact (xu_o (nK (by decide) _ _ _ _)).trans v56_g1_34
  have v57_g1_35 : g1_35 (57, 0, 0) = some (.inr (2, 6, xZero 2)) := by rw [eg1_35]; exact (xu_o (nK (by decide) _ _ _ _)).trans v57_g1_34
  have v58_g1_35 : g1_35 (58, 0, 0) = some (.inr (0, 4, xZero 0)) := by rw [eg1_35]; exact (xu_o (nK (by decide) _ _ _ _)).trans v58_g1_34
  have v59_g1_35 : g1_35 (59, 0, 0) = some (.inr (0, 4, xZero 0)) := by rw [eg1_35]; exact (xu_o (nK (by decide) _ _ _ _)).trans v59_g1_34
  have v60_g1_35 : g1_35 (60, 0, 0) = some (.inr (0, 4, xZero 0)) := by rw [eg1_35]; exact (xu_o (nK (by decide) _ _ _ _)).trans v60_g1_34
  have v61_g1_35 : g1_35 (61, 0, 0) = some (.inr (0, 4, xZero 0)) := by rw [eg1_35]; exact (xu_o (nK (by decide) _ _ _ _)).trans v61_g1_34
  have v62_g1_35 : g1_35 (62, 0, 0) = some (.inr (0, 30, xZero 0)) := by rw [eg1_35]; exact (xu_o (nK (by decide) _ _ _ _)).trans v62_g1_34
  have v63_g1_35 : g1_35 (63, 0, 0) = some (.inr (0, 90, xZero 0)) := by rw [eg1_35]; exact (xu_o (nK (by decide) _ _ _ _)).trans v63_g1_34
  have v64_g1_35 : g1_35 (64, 0, 0) = some (.inr (0, 10, xZero 0)) := by rw [eg1_35]; exact (xu_o (nK (by decide) _ _ _ _)).trans v64_g1_34
  have v65_g1_35 : g1_35 (65, 0, 0) = some (.inr (2, 30, xZero 2)) := by rw [eg1_35]; exact (xu_o (nK (by decide) _ _ _ _)).trans v65_g1_34
  have v66_g1_35 : g1_35 (66, 0, 0) = some (.inr (2, 10, xZero 2)) := by rw [eg1_35]; exact (xu_o (nK (by decide) _ _ _ _)).trans v66_g1_34
  have v67_g1_35 : g1_35 (67, 0, 0) = some (.inr (0, 25, xZero 0)) := by rw [eg1_35]; exact (xu_o (nK (by decide) _ _ _ _)).trans v67_g1_34
  have v50_g1_35 : g1_35 (50, 0, 0) = some (.inl (9, [xR (51, 0, 0), xR (52, 0, 0), xR (53, 0, 0), xR (54, 0, 0), xR (55, 0, 0), xR (56, 0, 0), xR (57, 0, 0), xR (58, 0, 0), xR (59, 0, 0), xR (60, 0, 0), xR (61, 0, 0), xI 1, xI 0, xI 0, xR (62, 0, 0), xR (63, 0, 0), xR (64, 0, 0), xR (65, 0, 0), xR (66, 0, 0), xR (67, 0, 0), xN, xN, xN, xN, xI 0, xI 0, xN, xN, xN, xN, xN])) := by rw [eg1_35]; exact xu_at
  have f81_g1_35 : ∀ l : XL, l.1 = 81 → g1_35 l = none := by rw [eg1_35]; exact fun l hl => (xu_o (fun z => by rw [z] at hl; have a2 : (50 : Nat) = 81 := hl; omega)).trans (f81_g1_34 l hl)
  refine x_aload_n dX9_init_147 rfl ?_
  refine x_iconst dX9_init_148 ?_
  refine x_newarray (68, 0, 0) (t := 0) (n := 5) (N := 5) dX9_init_149 rfl wd124 (f68_g1_35 _ ⟨(show (68 : Nat) = 68 by omega), (show (0 : Int) = 0 ∧ (0 : Int) = 0 from ⟨rfl, rfl⟩)⟩) (show (68 : Nat) ≠ 99 by decide) rfl (by decide) (by omega) (by omega) ?_
  refine x_hg (fun g1_36 eg1_36 => ?_)
  have f69_g1_36 : ∀ l : XL, ((l.1 = 69) ∧ dzz l) → g1_36 l = none := by rw [eg1_36]; exact fun l hl => (xu_o (fun z => (fun z => by have z0 : (68 : Nat) = 69 := z.1; omega) (by rw [z] at hl; exact hl))).trans (f69_g1_35 l hl)
  have f80_g1_36 : ∀ l : XL, ((l.1 = 80) ∧ dzz l) → g1_36 l = none := by rw [eg1_36]; exact fun l hl => (xu_o (fun z => (fun z => by have z0 : (68 : Nat) = 80 := z.1; omega) (by rw [z] at hl; exact hl))).trans (f80_g1_35 l hl)
  have f70_g1_36 : ∀ l : XL, ((l.1 = 70) ∧ dzz l) → g1_36 l = none := by rw [eg1_36]; exact fun l hl => (xu_o (fun z => (fun z => by have z0 : (68 : Nat) = 70 := z.1; omega) (by rw [z] at hl; exact hl))).trans (f70_g1_35 l hl)
  have f71_g1_36 : ∀ l : XL, ((l.1 = 71) ∧ dzz l) → g1_36 l = none := by rw [eg1_36]; exact fun l hl => (xu_o (fun z => (fun z => by have z0 : (68 : Nat) = 71 := z.1; omega) (by rw [z] at hl; exact hl))).trans (f71_g1_35 l hl)
  have f72_g1_36 : ∀ l : XL, ((l.1 = 72) ∧ dzz l) → g1_36 l = none := by rw [eg1_36]; exact fun l hl => (xu_o (fun z => (fun z => by have z0 : (68 : Nat) = 72 := z.1; omega) (by rw [z] at hl; exact hl))).trans (f72_g1_35 l hl)
  have f73_g1_36 : ∀ l : XL, ((l.1 = 73) ∧ dzz l) → g1_36 l = none := by rw [eg1_36]; exact fun l hl => (xu_o (fun z => (fun z => by have z0 : (68 : Nat) = 73 := z.1; omega) (by rw [z] at hl; exact hl))).trans (f73_g1_35 l hl)
  have f74_g1_36 : ∀ l : XL, ((l.1 = 74) ∧ dzz l) → g1_36 l = none := by rw [eg1_36]; exact fun l hl => (xu_o (fun z => (fun z => by have z0 : (68 : Nat) = 74 := z.1; omega) (by rw [z] at hl; exact hl))).trans (f74_g1_35 l hl)
  have f75_g1_36 : ∀ l : XL, ((l.1 = 75) ∧ dzz l) → g1_36 l = none := by rw [eg1_36]; exact fun l hl => (xu_o (fun z => (fun z => by have z0 : (68 : Nat) = 75 := z.1; omega) (by rw [z] at hl; exact hl))).trans (f75_g1_35 l hl)
  have fr_g1_36 : ∀ l : XL, ¬ (((50 ≤ l.1 ∧ l.1 ≤ 75) ∨ l.1 = 80 ∨ l.1 = 81) ∧ dzz l) → g1_36 l = g0 l := by rw [eg1_36]; exact fun l hl => (xu_o (fun z => hl (by rw [z]; exact ⟨(show (50 ≤ (68 : Nat) ∧ (68 : Nat) ≤ 75) ∨ (68 : Nat) = 80 ∨ (68 : Nat) = 81 by omega), (show (0 : Int) = 0 ∧ (0 : Int) = 0 from ⟨rfl, rfl⟩)⟩))).trans (fr_g1_35 l hl)
  have v51_g1_36 : g1_36 (51, 0, 0) = some (.inr (3, 240, xZero 3)) := by rw [eg1_36]; exact (xu_o (nK (by decide) _ _ _ _)).trans v51_g1_35
  have v52_g1_36 : g1_36 (52, 0, 0) = some (.inr (0, 240, xZero 0)) := by rw [eg1_36]; exact (xu_o (nK (by decide) _ _ _ _)).trans v52_g1_35
  have v53_g1_36 : g1_36 (53, 0, 0) = some (.inr (0, 240, xZero 0)) := by rw [eg1_36]; exact (xu_o (nK (by decide) _ _ _ _)).trans v53_g1_35
  have v54_g1_36 : g1_36 (54, 0, 0) = some (.inr (0, 240, xZero 0)) := by rw [eg1_36]; exact (xu_o (nK (by decide) _ _ _ _)).trans v54_g1_35
  have v55_g1_36 : g1_36 (55, 0, 0) = some (.inr (0, 240, xZero 0)) := by rw [eg1_36]; exact (xu_o (nK (by decide) _ _ _ _)).trans v55_g1_35
  have v56_g1_36 : g1_36 (56, 0, 0) = some (.inr (2, 240, xZero 2)) := by rw [eg1_36]; exact (xu_o (nK (by decide) _ _ _ _)).trans v56_g1_35
  have v57_g1_36 : g1_36 (57, 0, 0) = some (.inr (2, 6, xZero 2)) := by rw [eg1_36]; exact (xu_o (nK (by decide) _ _ _ _)).trans v57_g1_35
  have v58_g1_36 : g1_36 (58, 0, 0) = some (.inr (0, 4, xZero 0)) := by rw [eg1_36]; exact (xu_o (nK (by decide) _ _ _ _)).trans v58_g1_35
  have v59_g1_36 : g1_36 (59, 0, 0) = some (.inr (0, 4, xZero 0)) := by rw [eg1_36]; exact (xu_o (nK (by decide) _ _ _ _)).trans v59_g1_35
  have v60_g1_36 : g1_36 (60, 0, 0) = some (.inr (0, 4, xZero 0)) := by rw [eg1_36]; exact (xu_o (nK (by decide) _ _ _ _)).trans v60_g1_35
  have v61_g1_36 : g1_36 (61, 0, 0) = some (.inr (0, 4, xZero 0)) := by rw [eg1_36]; exact (xu_o (nK (by decide) _ _ _ _)).trans v61_g1_35
  have v62_g1_36 : g1_36 (62, 0, 0) = some (.inr (0, 30, xZero 0)) := by rw [eg1_36]; exact (xu_o (nK (by decide) _ _ _ _)).trans v62_g1_35
  have v63_g1_36 : g1_36 (63, 0, 0) = some (.inr (0, 90, xZero 0)) := by rw [eg1_36]; exact (xu_o (nK (by decide) _ _ _ _)).trans v63_g1_35
  have v64_g1_36 : g1_36 (64, 0, 0) = some (.inr (0, 10, xZero 0)) := by rw [eg1_36]; exact (xu_o (nK (by decide) _ _ _ _)).trans v64_g1_35
  have v65_g1_36 : g1_36 (65, 0, 0) = some (.inr (2, 30, xZero 2)) := by rw [eg1_36]; exact (xu_o (nK (by decide) _ _ _ _)).trans v65_g1_35
  have v66_g1_36 : g1_36 (66, 0, 0) = some (.inr (2, 10, xZero 2)) := by rw [eg1_36]; exact (xu_o (nK (by decide) _ _ _ _)).trans v66_g1_35
  have v67_g1_36 : g1_36 (67, 0, 0) = some (.inr (0, 25, xZero 0)) := by rw [eg1_36]; exact (xu_o (nK (by decide) _ _ _ _)).trans v67_g1_35
  have v50_g1_36 : g1_36 (50, 0, 0) = some (.inl (9, [xR (51, 0, 0), xR (52, 0, 0), xR (53, 0, 0), xR (54, 0, 0), xR (55, 0, 0), xR (56, 0, 0), xR (57, 0, 0), xR (58, 0, 0), xR (59, 0, 0), xR (60, 0, 0), xR (61, 0, 0), xI 1, xI 0, xI 0, xR (62, 0, 0), xR (63, 0, 0), xR (64, 0, 0), xR (65, 0, 0), xR (66, 0, 0), xR (67, 0, 0), xN, xN, xN, xN, xI 0, xI 0, xN, xN, xN, xN, xN])) := by rw [eg1_36]; exact (xu_o (nK (by decide) _ _ _ _)).trans v50_g1_35
  have v68_g1_36 : g1_36 (68, 0, 0) = some (.inr (0, 5, xZero 0)) := by rw [eg1_36]; exact xu_at
  have f81_g1_36 : ∀ l : XL, l.1 = 81 → g1_36 l = none := by rw [eg1_36]; exact fun l hl => (xu_o (fun z => by rw [z] at hl; have a2 : (68 : Nat) = 81 := hl; omega)).trans (f81_g1_35 l hl)
  refine x_putF dX9_init_151 fl_RX9_67 (fun r hr => by cases hr; exact ⟨rfl, rfl⟩) v50_g1_36 xfit_a (Nat.le_of_ble_eq_true rfl) rfl rfl ?_
  refine x_hg (fun g1_37 eg1_37 => ?_)
  have f69_g1_37 : ∀ l : XL, ((l.1 = 69) ∧ dzz l) → g1_37 l = none := by rw [eg1_37]; exact fun l hl => (xu_o (fun z => (fun z => by have z0 : (50 : Nat) = 69 := z.1; omega) (by rw [z] at hl; exact hl))).trans (f69_g1_36 l hl)
  have f80_g1_37 : ∀ l : XL, ((l.1 = 80) ∧ dzz l) → g1_37 l = none := by rw [eg1_37]; exact fun l hl => (xu_o (fun z => (fun z => by have z0 : (50 : Nat) = 80 := z.1; omega) (by rw [z] at hl; exact hl))).trans (f80_g1_36 l hl)
  have f70_g1_37 : ∀ l : XL, ((l.1 = 70) ∧ dzz l) → g1_37 l = none := by rw [eg1_37]; exact fun l hl => (xu_o (fun z => (fun z => by have z0 : (50 : Nat) = 70 := z.1; omega) (by rw [z] at hl; exact hl))).trans (f70_g1_36 l hl)
  have f71_g1_37 : ∀ l : XL, ((l.1 = 71) ∧ dzz l) → g1_37 l = none := by rw [eg1_37]; exact fun l hl => (xu_o (fun z => (fun z => by have z0 : (50 : Nat) = 71 := z.1; omega) (by rw [z] at hl; exact hl))).trans (f71_g1_36 l hl)
  have f72_g1_37 : ∀ l : XL, ((l.1 = 72) ∧ dzz l) → g1_37 l = none := by rw [eg1_37]; exact fun l hl => (xu_o (fun z => (fun z => by have z0 : (50 : Nat) = 72 := z.1; omega) (by rw [z] at hl; exact hl))).trans (f72_g1_36 l hl)
  have f73_g1_37 : ∀ l : XL, ((l.1 = 73) ∧ dzz l) → g1_37 l = none := by rw [eg1_37]; exact fun l hl => (xu_o (fun z => (fun z => by have z0 : (50 : Nat) = 73 := z.1; omega) (by rw [z] at hl; exact hl))).trans (f73_g1_36 l hl)
  have f74_g1_37 : ∀ l : XL, ((l.1 = 74) ∧ dzz l) → g1_37 l = none := by rw [eg1_37]; exact fun l hl => (xu_o (fun z => (fun z => by have z0 : (50 : Nat) = 74 := z.1; omega) (by rw [z] at hl; exact hl))).trans (f74_g1_36 l hl)
  have f75_g1_37 : ∀ l : XL, ((l.1 = 75) ∧ dzz l) → g1_37 l = none := by rw [eg1_37]; exact fun l hl => (xu_o (fun z => (fun z => by have z0 : (50 : Nat) = 75 := z.1; omega) (by rw [z] at hl; exact hl))).trans (f75_g1_36 l hl)
  have fr_g1_37 : ∀ l : XL, ¬ (((50 ≤ l.1 ∧ l.1 ≤ 75) ∨ l.1 = 80 ∨ l.1 = 81) ∧ dzz l) → g1_37 l = g0 l := by rw [eg1_37]; exact fun l hl => (xu_o (fun z => hl (by rw [z]; exact ⟨(show (50 ≤ (50 : Nat) ∧ (50 : Nat) ≤ 75) ∨ (50 : Nat) = 80 ∨ (50 : Nat) = 81 by omega), (show (0 : Int) = 0 ∧ (0 : Int) = 0 from ⟨rfl, rfl⟩)⟩))).trans (fr_g1_36 l hl)
  have v51_g1_37 : g1_37 (51, 0, 0) = some (.inr (3, 240, xZero 3)) := by rw [eg1_37]; exact (xu_o (nK (by decide) _ _ _ _)).trans v51_g1_36
  have v52_g1_37 : g1_37 (52, 0, 0) = some (.inr (0, 240, xZero 0)) := by rw [eg1_37]; exact (xu_o (nK (by decide) _ _ _ _)).trans v52_g1_36
  have v53_g1_37 : g1_37 (53, 0, 0) = some (.inr (0, 240, xZero 0)) := by rw [eg1_37]; exact (xu_o (nK (by decide) _ _ _ _)).trans v53_g1_36
  have v54_g1_37 : g1_37 (54, 0, 0) = some (.inr (0, 240, xZero 0)) := by rw [eg1_37]; exact (xu_o (nK (by decide) _ _ _ _)).trans v54_g1_36
  have v55_g1_37 : g1_37 (55, 0, 0) = some (.inr (0, 240, xZero 0)) := by rw [eg1_37]; exact (xu_o (nK (by decide) _ _ _ _)).trans v55_g1_36
  have v56_g1_37 : g1_37 (56, 0, 0) = some (.inr (2, 240, xZero 2)) := by rw [eg1_37]; exact (xu_o (nK (by decide) _ _ _ _)).trans v56_g1_36
  have v57_g1_37 : g1_37 (57, 0, 0) = some (.inr (2, 6, xZero 2)) := by rw [eg1_37]; exact (xu_o (nK (by decide) _ _ _ _)).trans v57_g1_36
  have v58_g1_37 : g1_37 (58, 0, 0) = some (.inr (0, 4, xZero 0)) := by rw [eg1_37]; exact (xu_o (nK (by decide) _ _ _ _)).trans v58_g1_36
  have v59_g1_37 : g1_37 (59, 0, 0) = some (.inr (0, 4, xZero 0)) := by rw [eg1_37]; exact (xu_o (nK (by decide) _ _ _ _)).trans v59_g1_36
  have v60_g1_37 : g1_37 (60, 0, 0) = some (.inr (0, 4, xZero 0)) := by rw [eg1_37]; exact (xu_o (nK (by decide) _ _ _ _)).trans v60_g1_36
  have v61_g1_37 : g1_37 (61, 0, 0) = some (.inr (0, 4, xZero 0)) := by rw [eg1_37]; exact (xu_o (nK (by decide) _ _ _ _)).trans v61_g1_36
  have v62_g1_37 : g1_37 (62, 0, 0) = some (.inr (0, 30, xZero 0)) := by rw [eg1_37]; exact (xu_o (nK (by decide) _ _ _ _)).trans v62_g1_36
  have v63_g1_37 : g1_37 (63, 0, 0) = some (.inr (0, 90, xZero 0)) := by rw [eg1_37]; exact (xu_o (nK (by decide) _ _ _ _)).trans v63_g1_36
  have v64_g1_37 : g1_37 (64, 0, 0) = some (.inr (0, 10, xZero 0)) := by rw [eg1_37]; exact (xu_o (nK (by decide) _ _ _ _)).trans v64_g1_36
  have v65_g1_37 : g1_37 (65, 0, 0) = some (.inr (2, 30, xZero 2)) := by rw [eg1_37]; exact (xu_o (nK (by decide) _ _ _ _)).trans v65_g1_36
  have v66_g1_37 : g1_37 (66, 0, 0) = some (.inr (2, 10, xZero 2)) := by rw [eg1_37]; exact (xu_o (nK (by decide) _ _ _ _)).trans v66_g1_36
  have v67_g1_37 : g1_37 (67, 0, 0) = some (.inr (0, 25, xZero 0)) := by rw [eg1_37]; exact (xu_o (nK (by decide) _ _ _ _)).trans v67_g1_36
  have v68_g1_37 : g1_37 (68, 0, 0) = some (.inr (0, 5, xZero 0)) := by rw [eg1_37]; exact (xu_o (nK (by decide) _ _ _ _)).trans v68_g1_36
  have v50_g1_37 : g1_37 (50, 0, 0) = some (.inl (9, [xR (51, 0, 0), xR (52, 0, 0), xR (53, 0, 0), xR (54, 0, 0), xR (55, 0, 0), xR (56, 0, 0), xR (57, 0, 0), xR (58, 0, 0), xR (59, 0, 0), xR (60, 0, 0), xR (61, 0, 0), xI 1, xI 0, xI 0, xR (62, 0, 0), xR (63, 0, 0), xR (64, 0, 0), xR (65, 0, 0), xR (66, 0, 0), xR (67, 0, 0), xR (68, 0, 0), xN, xN, xN, xI 0, xI 0, xN, xN, xN, xN, xN])) := by rw [eg1_37]; exact xu_at
  have f81_g1_37 : ∀ l : XL, l.1 = 81 → g1_37 l = none := by rw [eg1_37]; exact fun l hl => (xu_o (fun z => by rw [z] at hl; have a2 : (50 : Nat) = 81 := hl; omega)).trans (f81_g1_36 l hl)
  refine x_aload_n dX9_init_154 rfl ?_
  refine x_iconst dX9_init_155 ?_
  refine x_newarray (69, 0, 0) (t := 0) (n := 5) (N := 5) dX9_init_156 rfl wd124 (f69_g1_37 _ ⟨(show (69 : Nat) = 69 by omega), (show (0 : Int) = 0 ∧ (0 : Int) = 0 from ⟨rfl, rfl⟩)⟩) (show (69 : Nat) ≠ 99 by decide) rfl (by decide) (by omega) (by omega) ?_
  refine x_hg (fun g1_38 eg1_38 => ?_)
  have f80_g1_38 : ∀ l : XL, ((l.1 = 80) ∧ dzz l) → g1_38 l = none := by rw [eg1_38]; exact fun l hl => (xu_o (fun z => (fun z => by have z0 : (69 : Nat) = 80 := z.1; omega) (by rw [z] at hl; exact hl))).trans (f80_g1_37 l hl)
  have f70_g1_38 : ∀ l : XL, ((l.1 = 70) ∧ dzz l) → g1_38 l = none := by rw [eg1_38]; exact fun l hl => (xu_o (fun z => (fun z => by have z0 : (69 : Nat) = 70 := z.1; omega) (by rw [z] at hl; exact hl))).trans (f70_g1_37 l hl)
  have f71_g1_38 : ∀ l : XL, ((l.1 = 71) ∧ dzz l) → g1_38 l = none := by rw [eg1_38]; exact fun l hl => (xu_o (fun z => (fun z => by have z0 : (69 : Nat) = 71 := z.1; omega) (by rw [z] at hl; exact hl))).trans (f71_g1_37 l hl)
  have f72_g1_38 : ∀ l : XL, ((l.1 = 72) ∧ dzz l) → g1_38 l = none := by rw [eg1_38]; exact fun l hl => (xu_o (fun z => (fun z => by have z0 : (69 : Nat) = 72 := z.1; omega) (by rw [z] at hl; exact hl))).trans (f72_g1_37 l hl)
  have f73_g1_38 : ∀ l : XL, ((l.1 = 73) ∧ dzz l) → g1_38 l = none := by rw [eg1_38]; exact fun l hl => (xu_o (fun z => (fun z => by have z0 : (69 : Nat) = 73 := z.1; omega) (by rw [z] at hl; exact hl))).trans (f73_g1_37 l hl)
  have f74_g1_38 : ∀ l : XL, ((l.1 = 74) ∧ dzz l) → g1_38 l = none := by rw [eg1_38]; exact fun l hl => (xu_o (fun z => (fun z => by have z0 : (69 : Nat) = 74 := z.1; omega) (by rw [z] at hl; exact hl))).trans (f74_g1_37 l hl)
  have f75_g1_38 : ∀ l : XL, ((l.1 = 75) ∧ dzz l) → g1_38 l = none := by rw [eg1_38]; exact fun l hl => (xu_o (fun z => (fun z => by have z0 : (69 : Nat) = 75 := z.1; omega) (by rw [z] at hl; exact hl))).trans (f75_g1_37 l hl)
  have fr_g1_38 : ∀ l : XL, ¬ (((50 ≤ l.1 ∧ l.1 ≤ 75) ∨ l.1 = 80 ∨ l.1 = 81) ∧ dzz l) → g1_38 l = g0 l := by rw [eg1_38]; exact fun l hl => (xu_o (fun z => hl (by rw [z]; exact ⟨(show (50 ≤ (69 : Nat) ∧ (69 : Nat) ≤ 75) ∨ (69 : Nat) = 80 ∨ (69 : Nat) = 81 by omega), (show (0 : Int) = 0 ∧ (0 : Int) = 0 from ⟨rfl, rfl⟩)⟩))).trans (fr_g1_37 l hl)
  have v51_g1_38 : g1_38 (51, 0, 0) = some (.inr (3, 240, xZero 3)) := by rw [eg1_38]; exact (xu_o (nK (by decide) _ _ _ _)).trans v51_g1_37
  have v52_g1_38 : g1_38 (52, 0, 0) = some (.inr (0, 240, xZero 0)) := by rw [eg1_38]; exact (xu_o (nK (by decide) _ _ _ _)).trans v52_g1_37
  have v53_g1_38 : g1_38 (53, 0, 0) = some (.inr (0, 240, xZero 0)) := by rw [eg1_38]; exact (xu_o (nK (by decide) _ _ _ _)).trans v53_g1_37
  have v54_g1_38 : g1_38 (54, 0, 0) = some (.inr (0, 240, xZero 0)) := by rw [eg1_38]; exact (xu_o (nK (by decide) _ _ _ _)).trans v54_g1_37
  have v55_g1_38 : g1_38 (55, 0, 0) = some (.inr (0, 240, xZero 0)) := by rw [eg1_38]; exact (xu_o (nK (by decide) _ _ _ _)).trans v55_g1_37
  have v56_g1_38 : g1_38 (56, 0, 0) = some (.inr (2, 240, xZero 2)) := by rw [eg1_38]; exact (xu_o (nK (by decide) _ _ _ _)).trans v56_g1_37
  have v57_g1_38 : g1_38 (57, 0, 0) = some (.inr (2, 6, xZero 2)) := by rw [eg1_38]; exact (xu_o (nK (by decide) _ _ _ _)).trans v57_g1_37
  have v58_g1_38 : g1_38 (58, 0, 0) = some (.inr (0, 4, xZero 0)) := by rw [eg1_38]; exact (xu_o (nK (by decide) _ _ _ _)).trans v58_g1_37
  have v59_g1_38 : g1_38 (59, 0, 0) = some (.inr (0, 4, xZero 0)) := by rw [eg1_38]; exact (xu_o (nK (by decide) _ _ _ _)).trans v59_g1_37
  have v60_g1_38 : g1_38 (60, 0, 0) = some (.inr (0, 4, xZero 0)) := by rw [eg1_38]; exact (xu_o (nK (by decide) _ _ _ _)).trans v60_g1_37
  have v61_g1_38 : g1_38 (61, 0, 0) = some (.inr (0, 4, xZero 0)) := by rw [eg1_38]; exact (xu_o (nK (by decide) _ _ _ _)).trans v61_g1_37
  have v62_g1_38 : g1_38 (62, 0, 0) = some (.inr (0, 30, xZero 0)) := by rw [eg1_38]; exact (xu_o (nK (by decide) _ _ _ _)).trans v62_g1_37
  have v63_g1_38 : g1_38 (63, 0, 0) = some (.inr (0, 90, xZero 0)) := by rw [eg1_38]; exact (xu_o (nK (by decide) _ _ _ _)).trans v63_g1_37
  have v64_g1_38 : g1_38 (64, 0, 0) = some (.inr (0, 10, xZero 0)) := by rw [eg1_38]; exact (xu_o (nK (by decide) _ _ _ _)).trans v64_g1_37
  have v65_g1_38 : g1_38 (65, 0, 0) = some (.inr (2, 30, xZero 2)) := by rw [eg1_38]; exact (xu_o (nK (by decide) _ _ _ _)).trans v65_g1_37
  have v66_g1_38 : g1_38 (66, 0, 0) = some (.inr (2, 10, xZero 2)) := by rw [eg1_38]; exact (xu_o (nK (by decide) _ _ _ _)).trans v66_g1_37
  have v67_g1_38 : g1_38 (67, 0, 0) = some (.inr (0, 25, xZero 0)) := by rw [eg1_38]; exact (xu_o (nK (by decide) _ _ _ _)).trans v67_g1_37
  have v68_g1_38 : g1_38 (68, 0, 0) = some (.inr (0, 5, xZero 0)) := by rw [eg1_38]; exact (xu_o (nK (by decide) _ _ _ _)).trans v68_g1_37
  have v50_g1_38 : g1_38 (50, 0, 0) = some (.inl (9, [xR (51, 0, 0), xR (52, 0, 0), xR (53, 0, 0), xR (54, 0, 0), xR (55, 0, 0), xR (56, 0, 0), xR (57, 0, 0), xR (58, 0, 0), xR (59, 0, 0), xR (60, 0, 0), xR (61, 0, 0), xI 1, xI 0, xI 0, xR (62, 0, 0), xR (63, 0, 0), xR (64, 0, 0), xR (65, 0, 0), xR (66, 0, 0), xR (67, 0, 0), xR (68, 0, 0), xN, xN, xN, xI 0, xI 0, xN, xN, xN, xN, xN])) := by rw [eg1_38]; exact (xu_o (nK (by decide) _ _ _ _)).trans v50_g1_37
  have v69_g1_38 : g1_38 (69, 0, 0) = some (.inr (0, 5, xZero 0)) := by rw [eg1_38]; exact xu_at
  have f81_g1_38 : ∀ l : XL, l.1 = 81 → g1_38 l = none := by rw [eg1_38]; exact fun l hl => (xu_o (fun z => by rw [z] at hl; have a2 : (69 : Nat) = 81 := hl; omega)).trans (f81_g1_37 l hl)
  refine x_putF dX9_init_158 fl_RX9_70 (fun r hr => by cases hr; exact ⟨rfl, rfl⟩) v50_g1_38 xfit_a (Nat.le_of_ble_eq_true rfl) rfl rfl ?_
  refine x_hg (fun g1_39 eg1_39 => ?_)
  have f80_g1_39 : ∀ l : XL, ((l.1 = 80) ∧ dzz l) → g1_39 l = none := by rw [eg1_39]; exact fun l hl => (xu_o (fun z => (fun z => by have z0 : (50 : Nat) = 80 := z.1; omega) (by rw [z] at hl; exact hl))).trans (f80_g1_38 l hl)
  have f70_g1_39 : ∀ l : XL, ((l.1 = 70) ∧ dzz l) → g1_39 l = none := by rw [eg1_39]; exact fun l hl => (xu_o (fun z => (fun z => by have z0 : (50 : Nat) = 70 := z.1; omega) (by rw [z] at hl; exact hl))).trans (f70_g1_38 l hl)
  have f71_g1_39 : ∀ l : XL, ((l.1 = 71) ∧ dzz l) → g1_39 l = none := by rw [eg1_39]; exact fun l hl => (xu_o (fun z => (fun z => by have z0 : (50 : Nat) = 71 := z.1; omega) (by rw [z] at hl; exact hl))).trans (f71_g1_38 l hl)
  have f72_g1_39 : ∀ l : XL, ((l.1 = 72) ∧ dzz l) → g1_39 l = none := by rw [eg1_39]; exact fun l hl => (xu_o (fun z => (fun z => by have z0 : (50 : Nat) = 72 := z.1; omega) (by rw [z] at hl; exact hl))).trans (f72_g1_38 l hl)
  have f73_g1_39 : ∀ l : XL, ((l.1 = 73) ∧ dzz l) → g1_39 l = none := by rw [eg1_39]; exact fun l hl => (xu_o (fun z => (fun z => by have z0 : (50 : Nat) = 73 := z.1; omega) (by rw [z] at hl; exact hl))).trans (f73_g1_38 l hl)
  have f74_g1_39 : ∀ l : XL, ((l.1 = 74) ∧ dzz l) → g1_39 l = none := by rw [eg1_39]; exact fun l hl => (xu_o (fun z => (fun z => by have z0 : (50 : Nat) = 74 := z.1; omega) (by rw [z] at hl; exact hl))).trans (f74_g1_38 l hl)
  have f75_g1_39 : ∀ l : XL, ((l.1 = 75) ∧ dzz l) → g1_39 l = none := by rw [eg1_39]; exact fun l hl => (xu_o (fun z => (fun z => by have z0 : (50 : Nat) = 75 := z.1; omega) (by rw [z] at hl; exact hl))).trans (f75_g1_38 l hl)
  have fr_g1_39 : ∀ l : XL, ¬ (((50 ≤ l.1 ∧ l.1 ≤ 75) ∨ l.1 = 80 ∨ l.1 = 81) ∧ dzz l) → g1_39 l = g0 l := by rw [eg1_39]; exact fun l hl => (xu_o (fun z => hl (by rw [z]; exact ⟨(show (50 ≤ (50 : Nat) ∧ (50 : Nat) ≤ 75) ∨ (50 : Nat) = 80 ∨ (50 : Nat) = 81 by omega), (show (0 : Int) = 0 ∧ (0 : Int) = 0 from ⟨rfl, rfl⟩)⟩))).trans (fr_g1_38 l hl)
  have v51_g1_39 : g1_39 (51, 0, 0) = some (.inr (3, 240, xZero 3)) := by rw [eg1_39]; exact (xu_o (nK (by decide) _ _ _ _)).trans v51_g1_38
  have v52_g1_39 : g1_39 (52, 0, 0) = some (.inr (0, 240, xZero 0)) := by rw [eg1_39]; exact (xu_o (nK (by decide) _ _ _ _)).trans v52_g1_38
  have v53_g1_39 : g1_39 (53, 0, 0) = some (.inr (0, 240, xZero 0)) := by rw [eg1_39]; exact (xu_o (nK (by decide) _ _ _ _)).trans v53_g1_38
  have v54_g1_39 : g1_39 (54, 0, 0) = some (.inr (0, 240, xZero 0)) := by rw [eg1_39]; exact (xu_o (nK (by decide) _ _ _ _)).trans v54_g1_38
  have v55_g1_39 : g1_39 (55, 0, 0) = some (.inr (0, 240, xZero 0)) := by rw [eg1_39]; exact (xu_o (nK (by decide) _ _ _ _)).trans v55_g1_38
  have v56_g1_39 : g1_39 (56, 0, 0) = some (.inr (2, 240, xZero 2)) := by rw [eg1_39]; exact (xu_o (nK (by decide) _ _ _ _)).trans v56_g1_38
  have v57_g1_39 : g1_39 (57, 0, 0) = some (.inr (2, 6, xZero 2)) := by rw [eg1_39]; exact (xu_o (nK (by decide) _ _ _ _)).trans v57_g1_38
  have v58_g1_39 : g1_39 (58, 0, 0) = some (.inr (0, 4, xZero 0)) := by rw [eg1_39]; exact (xu_o (nK (by decide) _ _ _ _)).trans v58_g1_38
  have v59_g1_39 : g1_39 (59, 0, 0) = some (.inr (0, 4, xZero 0)) := by rw [eg1_39]; exact (xu_o (nK (by decide) _ _ _ _)).trans v59_g1_38
  have v60_g1_39 : g1_39 (60, 0, 0) = some (.inr (0, 4, xZero 0)) := by rw [eg1_39]; exact (xu_o (nK (by decide) _ _ _ _)).trans v60_g1_38
  have v61_g1_39 : g1_39 (61, 0, 0) = some (.inr (0, 4, xZero 0)) := by rw [eg1_39]; exact (xu_o (nK (by decide) _ _ _ _)).trans v61_g1_38
  have v62_g1_39 : g1_39 (62, 0, 0) = some (.inr (0, 30, xZero 0)) := by rw [eg1_39]; exact (xu_o (nK (by decide) _ _ _ _)).trans v62_g1_38
  have v63_g1_39 : g1_39 (63, 0, 0) = some (.inr (0, 90, xZero 0)) := by rw [eg1_39]; exact (xu_o (nK (by decide) _ _ _ _)).trans v63_g1_38
  have v64_g1_39 : g1_39 (64, 0, 0) = some (.inr (0, 10, xZero 0)) := by rw [eg1_39]; exact (xu_o (nK (by decide) _ _ _ _)).trans v64_g1_38
  have v65_g1_39 : g1_39 (65, 0, 0) = some (.inr (2, 30, xZero 2)) := by rw [eg1_39]; exact (xu_o (nK (by decide) _ _ _ _)).trans v65_g1_38
  have v66_g1_39 : g1_39 (66, 0, 0) = some (.inr (2, 10, xZero 2)) := by rw [eg1_39]; exact (xu_o (nK (by decide) _ _ _ _)).trans v66_g1_38
  have v67_g1_39 : g1_39 (67, 0, 0) = some (.inr (0, 25, xZero 0)) := by rw [eg1_39]; exact (xu_o (nK (by decide) _ _ _ _)).trans v67_g1_38
  have v68_g1_39 : g1_39 (68, 0, 0) = some (.inr (0, 5, xZero 0)) := by rw [eg1_39]; exact (xu_o (nK (by decide) _ _ _ _)).trans v68_g1_38
  have v69_g1_39 : g1_39 (69, 0, 0) = some (.inr (0, 5, xZero 0)) := by rw [eg1_39]; exact (xu_o (nK (by decide) _ _ _ _)).trans v69_g1_38
  have v50_g1_39 : g1_39 (50, 0, 0) = some (.inl (9, [xR (51, 0, 0), xR (52, 0, 0), xR (53, 0, 0), xR (54, 0, 0), xR (55, 0, 0), xR (56, 0, 0), xR (57, 0, 0), xR (58, 0, 0), xR (59, 0, 0), xR (60, 0, 0), xR (61, 0, 0), xI 1, xI 0, xI 0, xR (62, 0, 0), xR (63, 0, 0), xR (64, 0, 0), xR (65, 0, 0), xR (66, 0, 0), xR (67, 0, 0), xR (68, 0, 0), xR (69, 0, 0), xN, xN, xI 0, xI 0, xN, xN, xN, xN, xN])) := by rw [eg1_39]; exact xu_at
  have f81_g1_39 : ∀ l : XL, l.1 = 81 → g1_39 l = none := by rw [eg1_39]; exact fun l hl => (xu_o (fun z => by rw [z] at hl; have a2 : (50 : Nat) = 81 := hl; omega)).trans (f81_g1_38 l hl)
  refine x_aload_n dX9_init_161 rfl ?_
  refine x_iconst dX9_init_162 ?_
  refine x_bipush (v := 64) dX9_init_163 (by decide) ?_
  refine x_mna dX9_init_165 wdm wd124 (f80_g1_39 _ ⟨(show (80 : Nat) = 80 by omega), (show (0 : Int) = 0 ∧ (0 : Int) = 0 from ⟨rfl, rfl⟩)⟩) (fun b t => f81_g1_39 (81, b, t) rfl) (by omega) (by omega) (fun g w80 w81 wo => ?_)
  have f70_g_40 : ∀ l : XL, ((l.1 = 70) ∧ dzz l) → g l = none := fun l hl => (wo l (fun z => by have a1 := hl.1; rw [z] at a1; have a2 : (80 : Nat) = 70 := a1; omega) (fun z => by have a1 := hl.1; have a2 := z.1; omega)).trans (f70_g1_39 l hl)
  have f71_g_40 : ∀ l : XL, ((l.1 = 71) ∧ dzz l) → g l = none := fun l hl => (wo l (fun z => by have a1 := hl.1; rw [z] at a1; have a2 : (80 : Nat) = 71 := a1; omega) (fun z => by have a1 := hl.1; have a2 := z.1; omega)).trans (f71_g1_39 l hl)
  have f72_g_40 : ∀ l : XL, ((l.1 = 72) ∧ dzz l) → g l = none := fun l hl => (wo l (fun z => by have a1 := hl.1; rw [z] at a1; have a2 : (80 : Nat) = 72 := a1; omega) (fun z => by have a1 := hl.1; have a2 := z.1; omega)).trans (f72_g1_39 l hl)
  have f73_g_40 : ∀ l : XL, ((l.1 = 73) ∧ dzz l) → g l = none := fun l hl => (wo l (fun z => by have a1 := hl.1; rw [z] at a1; have a2 : (80 : Nat) = 73 := a1; omega) (fun z => by have a1 := hl.1; have a2 := z.1; omega)).trans (f73_g1_39 l hl)
  have f74_g_40 : ∀ l : XL, ((l.1 = 74) ∧ dzz l) → g l = none := fun l hl => (wo l (fun z => by have a1 := hl.1; rw [z] at a1; have a2 : (80 : Nat) = 74 := a1; omega) (fun z => by have a1 := hl.1; have a2 := z.1; omega)).trans (f74_g1_39 l hl)
  have f75_g_40 : ∀ l : XL, ((l.1 = 75) ∧ dzz l) → g l = none := fun l hl => (wo l (fun z => by have a1 := hl.1; rw [z] at a1; have a2 : (80 : Nat) = 75 := a1; omega) (fun z => by have a1 := hl.1; have a2 := z.1; omega)).trans (f75_g1_39 l hl)
  have fr_g_40 : ∀ l : XL, ¬ (((50 ≤ l.1 ∧ l.1 ≤ 75) ∨ l.1 = 80 ∨ l.1 = 81) ∧ dzz l) → g l = g0 l := fun l hl => (wo l (fun z => hl (by rw [z]; exact ⟨Or.inr (Or.inl rfl), rfl, rfl⟩)) (fun z => hl ⟨Or.inr (Or.inr z.1), (by obtain ⟨k, a, b⟩ := l; obtain ⟨z1, z2, z3, z4⟩ := z; have z1 : k = 81 := z1; subst z1; have z4 : b = 0 := z4; subst z4; exact (show 0 ≤ a ∧ a < 5 ∧ (0 : Int) ≤ 0 ∧ (0 : Int) ≤ 0 from ⟨z2, z3, by decide, by decide⟩))⟩)).trans (fr_g1_39 l hl)
  have v51_g_40 : g (51, 0, 0) = some (.inr (3, 240, xZero 3)) := (wo _ (nK (by decide) _ _ _ _) (fun z => by have z1 : (51 : Nat) = 81 := z.1; omega)).trans v51_g1_39
  have v52_g_40 : g (52, 0, 0) = some (.inr (0, 240, xZero 0)) := (wo _ (nK (by decide) _ _ _ _) (fun z => by have z1 : (52 : Nat) = 81 := z.1; omega)).trans v52_g1_39
  have v53_g_40 : g (53, 0, 0) = some (.inr (0, 240, xZero 0)) := (wo _ (nK (by decide) _ _ _ _) (fun z => by have z1 : (53 : Nat) = 81 := z.1; omega)).trans v53_g1_39
  have v54_g_40 : g (54, 0, 0) = some (.inr (0, 240, xZero 0)) := (wo _ (nK (by decide) _ _ _ _) (fun z => by have z1 : (54 : Nat) = 81 := z.1; omega)).trans v54_g1_39
  have v55_g_40 : g (55, 0, 0) = some (.inr (0, 240, xZero 0)) := (wo _ (nK (by decide) _ _ _ _) (fun z => by have z1 : (55 : Nat) = 81 := z.1; omega)).trans v55_g1_39
  have v56_g_40 : g (56, 0, 0) = some (.inr (2, 240, xZero 2)) := (wo _ (nK (by decide) _ _ _ _) (fun z => by have z1 : (56 : Nat) = 81 := z.1; omega)).trans v56_g1_39
  have v57_g_40 : g (57, 0, 0) = some (.inr (2, 6, xZero 2)) := (wo _ (nK (by decide) _ _ _ _) (fun z => by have z1 : (57 : Nat) = 81 := z.1; omega)).trans v57_g1_39
  have v58_g_40 : g (58, 0, 0) = some (.inr (0, 4, xZero 0)) := (wo _ (nK (by decide) _ _ _ _) (fun z => by have z1 : (58 : Nat) = 81 := z.1; omega)).trans v58_g1_39
  have v59_g_40 : g (59, 0, 0) = some (.inr (0, 4, xZero 0)) := (wo _ (nK (by decide) _ _ _ _) (fun z => by have z1 : (59 : Nat) = 81 := z.1; omega)).trans v59_g1_39
  have v60_g_40 : g (60, 0, 0) = some (.inr (0, 4, xZero 0)) := (wo _ (nK (by decide) _ _ _ _) (fun z => by have z1 : (60 : Nat) = 81 := z.1; omega)).trans v60_g1_39
  have v61_g_40 : g (61, 0, 0) = some (.inr (0, 4, xZero 0)) := (wo _ (nK (by decide) _ _ _ _) (fun z => by have z1 : (61 : Nat) = 81 := z.1; omega)).trans v61_g1_39
  have v62_g_40 : g (62, 0, 0) = some (.inr (0, 30, xZero 0)) := (wo _ (nK (by decide) _ _ _ _) (fun z => by have z1 : (62 : Nat) = 81 := z.1; omega)).trans v62_g1_39
  have v63_g_40 : g (63, 0, 0) = some (.inr (0, 90, xZero 0)) := (wo _ (nK (by decide) _ _ _ _) (fun z => by have z1 : (63 : Nat) = 81 := z.1; omega)).trans v63_g1_39
  have v64_g_40 : g (64, 0, 0) = some (.inr (0, 10, xZero 0)) := (wo _ (nK (by decide) _ _ _ _) (fun z => by have z1 : (64 : Nat) = 81 := z.1; omega)).trans v64_g1_39
  have v65_g_40 : g (65, 0, 0) = some (.inr (2, 30, xZero 2)) := (wo _ (nK (by decide) _ _ _ _) (fun z => by have z1 : (65 : Nat) = 81 := z.1; omega)).trans v65_g1_39
  have v66_g_40 : g (66, 0, 0) = some (.inr (2, 10, xZero 2)) := (wo _ (nK (by decide) _ _ _ _) (fun z => by have z1 : (66 : Nat) = 81 := z.1; omega)).trans v66_g1_39
  have v67_g_40 : g (67, 0, 0) = some (.inr (0, 25, xZero 0)) := (wo _ (nK (by decide) _ _ _ _) (fun z => by have z1 : (67 : Nat) = 81 := z.1; omega)).trans v67_g1_39
  have v68_g_40 : g (68, 0, 0) = some (.inr (0, 5, xZero 0)) := (wo _ (nK (by decide) _ _ _ _) (fun z => by have z1 : (68 : Nat) = 81 := z.1; omega)).trans v68_g1_39
  have v69_g_40 : g (69, 0, 0) = some (.inr (0, 5, xZero 0)) := (wo _ (nK (by decide) _ _ _ _) (fun z => by have z1 : (69 : Nat) = 81 := z.1; omega)).trans v69_g1_39
  have v50_g_40 : g (50, 0, 0) = some (.inl (9, [xR (51, 0, 0), xR (52, 0, 0), xR (53, 0, 0), xR (54, 0, 0), xR (55, 0, 0), xR (56, 0, 0), xR (57, 0, 0), xR (58, 0, 0), xR (59, 0, 0), xR (60, 0, 0), xR (61, 0, 0), xI 1, xI 0, xI 0, xR (62, 0, 0), xR (63, 0, 0), xR (64, 0, 0), xR (65, 0, 0), xR (66, 0, 0), xR (67, 0, 0), xR (68, 0, 0), xR (69, 0, 0), xN, xN, xI 0, xI 0, xN, xN, xN, xN, xN])) := (wo _ (nK (by decide) _ _ _ _) (fun z => by have z1 : (50 : Nat) = 81 := z.1; omega)).trans v50_g1_39
  have v80_g_40 : g (80, 0, 0) = some (.inr (11, 5, .inr (.inr (.inr (fun b => some (81, b, 0)))))) := w80
  have dH_g : ∀ l : XL, ((l.1 = 81) ∧ dzz l) → g l = z0 l := fun l hl => by
    obtain ⟨k, a, b⟩ := l
    obtain ⟨z1, z2⟩ := hl
    have z1 : k = 81 := z1
    subst z1
    obtain ⟨d1, d2, d3, d4⟩ : 0 ≤ a ∧ a < 5 ∧ 0 ≤ b ∧ b ≤ (0 : Int) := z2
    have d5 : b = 0 := by omega
    subst d5
    rw [w81 a d1 d2]
    exact (hp81 (iS 0 (fun _ => 0)) d1 d2 d3 d4).symm
  refine x_putF dX9_init_169 fl_RX9_75 (fun r hr => by cases hr; exact ⟨rfl, rfl⟩) v50_g_40 xfit_a (Nat.le_of_ble_eq_true rfl) rfl rfl ?_
  refine x_hg (fun g1_41 eg1_41 => ?_)
  have f70_g1_41 : ∀ l : XL, ((l.1 = 70) ∧ dzz l) → g1_41 l = none := by rw [eg1_41]; exact fun l hl => (xu_o (fun z => (fun z => by have z0 : (50 : Nat) = 70 := z.1; omega) (by rw [z] at hl; exact hl))).trans (f70_g_40 l hl)
  have f71_g1_41 : ∀ l : XL, ((l.1 = 71) ∧ dzz l) → g1_41 l = none := by rw [eg1_41]; exact fun l hl => (xu_o (fun z => (fun z => by have z0 : (50 : Nat) = 71 := z.1; omega) (by rw [z] at hl; exact hl))).trans (f71_g_40 l hl)
  have f72_g1_41 : ∀ l : XL, ((l.1 = 72) ∧ dzz l) → g1_41 l = none := by rw [eg1_41]; exact fun l hl => (xu_o (fun z => (fun z => by have z0 : (50 : Nat) = 72 := z.1; omega) (by rw [z] at hl; exact hl))).trans (f72_g_40 l hl)
  have f73_g1_41 : ∀ l : XL, ((l.1 = 73) ∧ dzz l) → g1_41 l = none := by rw [eg1_41]; exact fun l hl => (xu_o (fun z => (fun z => by have z0 : (50 : Nat) = 73 := z.1; omega) (by rw [z] at hl; exact hl))).trans (f73_g_40 l hl)
  have f74_g1_41 : ∀ l : XL, ((l.1 = 74) ∧ dzz l) → g1_41 l = none := by rw [eg1_41]; exact fun l hl => (xu_o (fun z => (fun z => by have z0 : (50 : Nat) = 74 := z.1; omega) (by rw [z] at hl; exact hl))).trans (f74_g_40 l hl)
  have f75_g1_41 : ∀ l : XL, ((l.1 = 75) ∧ dzz l) → g1_41 l = none := by rw [eg1_41]; exact fun l hl => (xu_o (fun z => (fun z => by have z0 : (50 : Nat) = 75 := z.1; omega) (by rw [z] at hl; exact hl))).trans (f75_g_40 l hl)
  have fr_g1_41 : ∀ l : XL, ¬ (((50 ≤ l.1 ∧ l.1 ≤ 75) ∨ l.1 = 80 ∨ l.1 = 81) ∧ dzz l) → g1_41 l = g0 l := by rw [eg1_41]; exact fun l hl => (xu_o (fun z => hl (by rw [z]; exact ⟨(show (50 ≤ (50 : Nat) ∧ (50 : Nat) ≤ 75) ∨ (50 : Nat) = 80 ∨ (50 : Nat) = 81 by omega), (show (0 : Int) = 0 ∧ (0 : Int) = 0 from ⟨rfl, rfl⟩)⟩))).trans (fr_g_40 l hl)
  have v51_g1_41 : g1_41 (51, 0, 0) = some (.inr (3, 240, xZero 3)) := by rw [eg1_41]; exact (xu_o (nK (by decide) _ _ _ _)).trans v51_g_40
  have v52_g1_41 : g1_41 (52, 0, 0) = some (.inr (0, 240, xZero 0)) := by rw [eg1_41]; exact (xu_o (nK (by decide) _ _ _ _)).trans v52_g_40
  have v53_g1_41 : g1_41 (53, 0, 0) = some (.inr (0, 240, xZero 0)) := by rw [eg1_41]; exact (xu_o (nK (by decide) _ _ _ _)).trans v53_g_40
  have v54_g1_41 : g1_41 (54, 0, 0) = some (.inr (0, 240, xZero 0)) := by rw [eg1_41]; exact (xu_o (nK (by decide) _ _ _ _)).trans v54_g_40
  have v55_g1_41 : g1_41 (55, 0, 0) = some (.inr (0, 240, xZero 0)) := by rw [eg1_41]; exact (xu_o (nK (by decide) _ _ _ _)).trans v55_g_40
  have v56_g1_41 : g1_41 (56, 0, 0) = some (.inr (2, 240, xZero 2)) := by rw [eg1_41]; exact (xu_o (nK (by decide) _ _ _ _)).trans v56_g_40
  have v57_g1_41 : g1_41 (57, 0, 0) = some (.inr (2, 6, xZero 2)) := by rw [eg1_41]; exact (xu_o (nK (by decide) _ _ _ _)).trans v57_g_40
  have v58_g1_41 : g1_41 (58, 0, 0) = some (.inr (0, 4, xZero 0)) := by rw [eg1_41]; exact (xu_o (nK (by decide) _ _ _ _)).trans v58_g_40
  have v59_g1_41 : g1_41 (59, 0, 0) = some (.inr (0, 4, xZero 0)) := by rw [eg1_41]; exact (xu_o (nK (by decide) _ _ _ _)).trans v59_g_40
  have v60_g1_41 : g1_41 (60, 0, 0) = some (.inr (0, 4, xZero 0)) := by rw [eg1_41]; exact (xu_o (nK (by decide) _ _ _ _)).trans v60_g_40
  have v61_g1_41 : g1_41 (61, 0, 0) = some (.inr (0, 4, xZero 0)) := by rw [eg1_41]; exact (xu_o (nK (by decide) _ _ _ _)).trans v61_g_40
  have v62_g1_41 : g1_41 (62, 0, 0) = some (.inr (0, 30, xZero 0)) := by rw [eg1_41]; exact (xu_o (nK (by decide) _ _ _ _)).trans v62_g_40
  have v63_g1_41 : g1_41 (63, 0, 0) = some (.inr (0, 90, xZero 0)) := by rw [eg1_41]; exact (xu_o (nK (by decide) _ _ _ _)).trans v63_g_40
  have v64_g1_41 : g1_41 (64, 0, 0) = some (.inr (0, 10, xZero 0)) := by rw [eg1_41]; exact (xu_o (nK (by decide) _ _ _ _)).trans v64_g_40
  have v65_g1_41 : g1_41 (65, 0, 0) = some (.inr (2, 30, xZero 2)) := by rw [eg1_41]; exact (xu_o (nK (by decide) _ _ _ _)).trans v65_g_40
  have v66_g1_41 : g1_41 (66, 0, 0) = some (.inr (2, 10, xZero 2)) := by rw [eg1_41]; exact (xu_o (nK (by decide) _ _ _ _)).trans v66_g_40
  have v67_g1_41 : g1_41 (67, 0, 0) = some (.inr (0, 25, xZero 0)) := by rw [eg1_41]; exact (xu_o (nK (by decide) _ _ _ _)).trans v67_g_40
  have v68_g1_41 : g1_41 (68, 0, 0) = some (.inr (0, 5, xZero 0)) := by rw [eg1_41]; exact (xu_o (nK (by decide) _ _ _ _)).trans v68_g_40
  have v69_g1_41 : g1_41 (69, 0, 0) = some (.inr (0, 5, xZero 0)) := by rw [eg1_41]; exact (xu_o (nK (by decide) _ _ _ _)).trans v69_g_40
  have v80_g1_41 : g1_41 (80, 0, 0) = some (.inr (11, 5, .inr (.inr (.inr (fun b => some (81, b, 0)))))) := by rw [eg1_41]; exact (xu_o (nK (by decide) _ _ _ _)).trans v80_g_40
  have dH_g1_41 : ∀ l : XL, ((l.1 = 81) ∧ dzz l) → g1_41 l = z0 l := by rw [eg1_41]; exact fun l hl => (xu_o (fun z => (fun z => by have z0 : (50 : Nat) = 81 := z.1; omega) (by rw [z] at hl; exact hl))).trans (dH_g l hl)
  have v50_g1_41 : g1_41 (50, 0, 0) = some (.inl (9, [xR (51, 0, 0), xR (52, 0, 0), xR (53, 0, 0), xR (54, 0, 0), xR (55, 0, 0), xR (56, 0, 0), xR (57, 0, 0), xR (58, 0, 0), xR (59, 0, 0), xR (60, 0, 0), xR (61, 0, 0), xI 1, xI 0, xI 0, xR (62, 0, 0), xR (63, 0, 0), xR (64, 0, 0), xR (65, 0, 0), xR (66, 0, 0), xR (67, 0, 0), xR (68, 0, 0), xR (69, 0, 0), xR (80, 0, 0), xN, xI 0, xI 0, xN, xN, xN, xN, xN])) := by rw [eg1_41]; exact xu_at
  refine x_aload_n dX9_init_172 rfl ?_
  refine x_sipush (v := 320) dX9_init_173 (by decide) ?_
  refine x_newarray (70, 0, 0) (t := 2) (n := 320) (N := 320) dX9_init_176 rfl wd123 (f70_g1_41 _ ⟨(show (70 : Nat) = 70 by omega), (show (0 : Int) = 0 ∧ (0 : Int) = 0 from ⟨rfl, rfl⟩)⟩) (show (70 : Nat) ≠ 99 by decide) rfl (by decide) (by omega) (by omega) ?_
  refine x_hg (fun g1_42 eg1_42 => ?_)
  have f71_g1_42 : ∀ l : XL, ((l.1 = 71) ∧ dzz l) → g1_42 l = none := by rw [eg1_42]; exact fun l hl => (xu_o (fun z => (fun z => by have z0 : (70 : Nat) = 71 := z.1; omega) (by rw [z] at hl; exact hl))).trans (f71_g1_41 l hl)
  have f72_g1_42 : ∀ l : XL, ((l.1 = 72) ∧ dzz l) → g1_42 l = none := by rw [eg1_42]; exact fun l hl => (xu_o (fun z => (fun z => by have z0 : (70 : Nat) = 72 := z.1; omega) (by rw [z] at hl; exact hl))).trans (f72_g1_41 l hl)
  have f73_g1_42 : ∀ l : XL, ((l.1 = 73) ∧ dzz l) → g1_42 l = none := by rw [eg1_42]; exact fun l hl => (xu_o (fun z => (fun z => by have z0 : (70 : Nat) = 73 := z.1; omega) (by rw [z] at hl; exact hl))).trans (f73_g1_41 l hl)
  have f74_g1_42 : ∀ l : XL, ((l.1 = 74) ∧ dzz l) → g1_42 l = none := by rw [eg1_42]; exact fun l hl => (xu_o (fun z => (fun z => by have z0 : (70 : Nat) = 74 := z.1; omega) (by rw [z] at hl; exact hl))).trans (f74_g1_41 l hl)
  have f75_g1_42 : ∀ l : XL, ((l.1 = 75) ∧ dzz l) → g1_42 l = none := by rw [eg1_42]; exact fun l hl => (xu_o (fun z => (fun z => by have z0 : (70 : Nat) = 75 := z.1; omega) (by rw [z] at hl; exact hl))).trans (f75_g1_41 l hl)
  have fr_g1_42 : ∀ l : XL, ¬ (((50 ≤ l.1 ∧ l.1 ≤ 75) ∨ l.1 = 80 ∨ l.1 = 81) ∧ dzz l) → g1_42 l = g0 l := by rw [eg1_42]; exact fun l hl => (xu_o (fun z => hl (by rw [z]; exact ⟨(show (50 ≤ (70 : Nat) ∧ (70 : Nat) ≤ 75) ∨ (70 : Nat) = 80 ∨ (70 : Nat) = 81 by omega), (show (0 : Int) = 0 ∧ (0 : Int) = 0 from ⟨rfl, rfl⟩)⟩))).trans (fr_g1_41 l hl)
  have v51_g1_42 : g1_42 (51, 0, 0) = some (.inr (3, 240, xZero 3)) := by rw [eg1_42]; exact (xu_o (nK (by decide) _ _ _ _)).trans v51_g1_41
  have v52_g1_42 : g1_42 (52, 0, 0) = some (.inr (0, 240, xZero 0)) := by rw [eg1_42]; exact (xu_o (nK (by decide) _ _ _ _)).trans v52_g1_41
  have v53_g1_42 : g1_42 (53, 0, 0) = some (.inr (0, 240, xZero 0)) := by rw [eg1_42]; exact (xu_o (nK (by decide) _ _ _ _)).trans v53_g1_41
  have v54_g1_42 : g1_42 (54, 0, 0) = some (.inr (0, 240, xZero 0)) := by rw [eg1_42]; exact (xu_o (nK (by decide) _ _ _ _)).trans v54_g1_41
  have v55_g1_42 : g1_42 (55, 0, 0) = some (.inr (0, 240, xZero 0)) := by rw [eg1_42]; exact (xu_o (nK (by decide) _ _ _ _)).trans v55_g1_41
  have v56_g1_42 : g1_42 (56, 0, 0) = some (.inr (2, 240, xZero 2)) := by rw [eg1_42]; exact (xu_o (nK (by decide) _ _ _ _)).trans v56_g1_41
  have v57_g1_42 : g1_42 (57, 0, 0) = some (.inr (2, 6, xZero 2)) := by rw [eg1_42]; exact (xu_o (nK (by decide) _ _ _ _)).trans v57_g1_41
  have v58_g1_42 : g1_42 (58, 0, 0) = some (.inr (0, 4, xZero 0)) := by rw [eg1_42]; exact (xu_o (nK (by decide) _ _ _ _)).trans v58_g1_41
  have v59_g1_42 : g1_42 (59, 0, 0) = some (.inr (0, 4, xZero 0)) := by rw [eg1_42]; exact (xu_o (nK (by decide) _ _ _ _)).trans v59_g1_41
  have v60_g1_42 : g1_42 (60, 0, 0) = some (.inr (0, 4, xZero 0)) := by rw [eg1_42]; exact (xu_o (nK (by decide) _ _ _ _)).trans v60_g1_41
  have v61_g1_42 : g1_42 (61, 0, 0) = some (.inr (0, 4, xZero 0)) := by rw [eg1_42]; exact (xu_o (nK (by decide) _ _ _ _)).trans v61_g1_41
  have v62_g1_42 : g1_42 (62, 0, 0) = some (.inr (0, 30, xZero 0)) := by rw [eg1_42]; exact (xu_o (nK (by decide) _ _ _ _)).trans v62_g1_41
  have v63_g1_42 : g1_42 (63, 0, 0) = some (.inr (0, 90, xZero 0)) := by rw [eg1_42]; exact (xu_o (nK (by decide) _ _ _ _)).trans v63_g1_41
  have v64_g1_42 : g1_42 (64, 0, 0) = some (.inr (0, 10, xZero 0)) := by rw [eg1_42]; exact (xu_o (nK (by decide) _ _ _ _)).trans v64_g1_41
  have v65_g1_42 : g1_42 (65, 0, 0) = some (.inr (2, 30, xZero 2)) := by rw [eg1_42]; exact (xu_o (nK (by decide) _ _ _ _)).trans v65_g1_41
  have v66_g1_42 : g1_42 (66, 0, 0) = some (.inr (2, 10, xZero 2)) := by rw [eg1_42]; exact (xu_o (nK (by decide) _ _ _ _)).trans v66_g1_41
  have v67_g1_42 : g1_42 (67, 0, 0) = some (.inr (0, 25, xZero 0)) := by rw [eg1_42]; exact (xu_o (nK (by decide) _ _ _ _)).trans v67_g1_41
  have v68_g1_42 : g1_42 (68, 0, 0) = some (.inr (0, 5, xZero 0)) := by rw [eg1_42]; exact (xu_o (nK (by decide) _ _ _ _)).trans v68_g1_41
  have v69_g1_42 : g1_42 (69, 0, 0) = some (.inr (0, 5, xZero 0)) := by rw [eg1_42]; exact (xu_o (nK (by decide) _ _ _ _)).trans v69_g1_41
  have v80_g1_42 : g1_42 (80, 0, 0) = some (.inr (11, 5, .inr (.inr (.inr (fun b => some (81, b, 0)))))) := by rw [eg1_42]; exact (xu_o (nK (by decide) _ _ _ _)).trans v80_g1_41
  have dH_g1_42 : ∀ l : XL, ((l.1 = 81) ∧ dzz l) → g1_42 l = z0 l := by rw [eg1_42]; exact fun l hl => (xu_o (fun z => (fun z => by have z0 : (70 : Nat) = 81 := z.1; omega) (by rw [z] at hl; exact hl))).trans (dH_g1_41 l hl)
  have v50_g1_42 : g1_42 (50, 0, 0) = some (.inl (9, [xR (51, 0, 0), xR (52, 0, 0), xR (53, 0, 0), xR (54, 0, 0), xR (55, 0, 0), xR (56, 0, 0), xR (57, 0, 0), xR (58, 0, 0), xR (59, 0, 0), xR (60, 0, 0), xR (61, 0, 0), xI 1, xI 0, xI 0, xR (62, 0, 0), xR (63, 0, 0), xR (64, 0, 0), xR (65, 0, 0), xR (66, 0, 0), xR (67, 0, 0), xR (68, 0, 0), xR (69, 0, 0), xR (80, 0, 0), xN, xI 0, xI 0, xN, xN, xN, xN, xN])) := by rw [eg1_42]; exact (xu_o (nK (by decide) _ _ _ _)).trans v50_g1_41
  have v70_g1_42 : g1_42 (70, 0, 0) = some (.inr (2, 320, xZero 2)) := by rw [eg1_42]; exact xu_at
  refine x_putF dX9_init_178 fl_RX9_78 (fun r hr => by cases hr; exact ⟨rfl, rfl⟩) v50_g1_42 xfit_a (Nat.le_of_ble_eq_true rfl) rfl rfl ?_
  refine x_hg (fun g1_43 eg1_43 => ?_)
  have f71_g1_43 : ∀ l : XL, ((l.1 = 71) ∧ dzz l) → g1_43 l = none := by rw [eg1_43]; exact fun l hl => (xu_o (fun z => (fun z => by have z0 : (50 : Nat) = 71 := z.1; omega) (by rw [z] at hl; exact hl))).trans (f71_g1_42 l hl)
  have f72_g1_43 : ∀ l : XL, ((l.1 = 72) ∧ dzz l) → g1_43 l = none := by rw [eg1_43]; exact fun l hl => (xu_o (fun z => (fun z => by have z0 : (50 : Nat) = 72 := z.1; omega) (by rw [z] at hl; exact hl))).trans (f72_g1_42 l hl)
  have f73_g1_43 : ∀ l : XL, ((l.1 = 73) ∧ dzz l) → g1_43 l = none := by rw [eg1_43]; exact fun l hl => (xu_o (fun z => (fun z => by have z0 : (50 : Nat) = 73 := z.1; omega) (by rw [z] at hl; exact hl))).trans (f73_g1_42 l hl)
  have f74_g1_43 : ∀ l : XL, ((l.1 = 74) ∧ dzz l) → g1_43 l = none := by rw [eg1_43]; exact fun l hl => (xu_o (fun z => (fun z => by have z0 : (50 : Nat) = 74 := z.1; omega) (by rw [z] at hl; exact hl))).trans (f74_g1_42 l hl)
  have f75_g1_43 : ∀ l : XL, ((l.1 = 75) ∧ dzz l) → g1_43 l = none := by rw [eg1_43]; exact fun l hl => (xu_o (fun z => (fun z => by have z0 : (50 : Nat) = 75 := z.1; omega) (by rw [z] at hl; exact hl))).trans (f75_g1_42 l hl)
  have fr_g1_43 : ∀ l : XL, ¬ (((50 ≤ l.1 ∧ l.1 ≤ 75) ∨ l.1 = 80 ∨ l.1 = 81) ∧ dzz l) → g1_43 l = g0 l := by rw [eg1_43]; exact fun l hl => (xu_o (fun z => hl (by rw [z]; exact ⟨(show (50 ≤ (50 : Nat) ∧ (50 : Nat) ≤ 75) ∨ (50 : Nat) = 80 ∨ (50 : Nat) = 81 by omega), (show (0 : Int) = 0 ∧ (0 : Int) = 0 from ⟨rfl, rfl⟩)⟩))).trans (fr_g1_42 l hl)
  have v51_g1_43 : g1_43 (51, 0, 0) = some (.inr (3, 240, xZero 3)) := by rw [eg1_43]; exact (xu_o (nK (by decide) _ _ _ _)).trans v51_g1_42
  have v52_g1_43 : g1_43 (52, 0, 0) = some (.inr (0, 240, xZero 0)) := by rw [eg1_43]; exact (xu_o (nK (by decide) _ _ _ _)).trans v52_g1_42
  have v53_g1_43 : g1_43 (53, 0, 0) = some (.inr (0, 240, xZero 0)) := by rw [eg1_43]; exact (xu_o (nK (by decide) _ _ _ _)).trans v53_g1_42
  have v54_g1_43 : g1_43 (54, 0, 0) = some (.inr (0, 240, xZero 0)) := by rw [eg1_43]; exact (xu_o (nK (by decide) _ _ _ _)).trans v54_g1_42
  have v55_g1_43 : g1_43 (55, 0, 0) = some (.inr (0, 240, xZero 0)) := by rw [eg1_43]; exact (xu_o (nK (by decide) _ _ _ _)).trans v55_g1_42
  have v56_g1_43 : g1_43 (56, 0, 0) = some (.inr (2, 240, xZero 2)) := by rw [eg1_43]; exact (xu_o (nK (by decide) _ _ _ _)).trans v56_g1_42
  have v57_g1_43 : g1_43 (57, 0, 0) = some (.inr (2, 6, xZero 2)) := by rw [eg1_43]; exact (xu_o (nK (by decide) _ _ _ _)).trans v57_g1_42
  have v58_g1_43 : g1_43 (58, 0, 0) = some (.inr (0, 4, xZero 0)) := by rw [eg1_43]; exact (xu_o (nK (by decide) _ _ _ _)).trans v58_g1_42
  have v59_g1_43 : g1_43 (59, 0, 0) = some (.inr (0, 4, xZero 0)) := by rw [eg1_43]; exact (xu_o (nK (by decide) _ _ _ _)).trans v59_g1_42
  have v60_g1_43 : g1_43 (60, 0, 0) = some (.inr (0, 4, xZero 0)) := by rw [eg1_43]; exact (xu_o (nK (by decide) _ _ _ _)).trans v60_g1_42
  have v61_g1_43 : g1_43 (61, 0, 0) = some (.inr (0, 4, xZero 0)) := by rw [eg1_43]; exact (xu_o (nK (by decide) _ _ _ _)).trans v61_g1_42
  have v62_g1_43 : g1_43 (62, 0, 0) = some (.inr (0, 30, xZero 0)) := by rw [eg1_43]; exact (xu_o (nK (by decide) _ _ _ _)).trans v62_g1_42
  have v63_g1_43 : g1_43 (63, 0, 0) = some (.inr (0, 90, xZero 0)) := by rw [eg1_43]; exact (xu_o (nK (by decide) _ _ _ _)).trans v63_g1_42
  have v64_g1_43 : g1_43 (64, 0, 0) = some (.inr (0, 10, xZero 0)) := by rw [eg1_43]; exact (xu_o (nK (by decide) _ _ _ _)).trans v64_g1_42
  have v65_g1_43 : g1_43 (65, 0, 0) = some (.inr (2, 30, xZero 2)) := by rw [eg1_43]; exact (xu_o (nK (by decide) _ _ _ _)).trans v65_g1_42
  have v66_g1_43 : g1_43 (66, 0, 0) = some (.inr (2, 10, xZero 2)) := by rw [eg1_43]; exact (xu_o (nK (by decide) _ _ _ _)).trans v66_g1_42
  have v67_g1_43 : g1_43 (67, 0, 0) = some (.inr (0, 25, xZero 0)) := by rw [eg1_43]; exact (xu_o (nK (by decide) _ _ _ _)).trans v67_g1_42
  have v68_g1_43 : g1_43 (68, 0, 0) = some (.inr (0, 5, xZero 0)) := by rw [eg1_43]; exact (xu_o (nK (by decide) _ _ _ _)).trans v68_g1_42
  have v69_g1_43 : g1_43 (69, 0, 0) = some (.inr (0, 5, xZero 0)) := by rw [eg1_43]; exact (xu_o (nK (by decide) _ _ _ _)).trans v69_g1_42
  have v80_g1_43 : g1_43 (80, 0, 0) = some (.inr (11, 5, .inr (.inr (.inr (fun b => some (81, b, 0)))))) := by rw [eg1_43]; exact (xu_o (nK (by decide) _ _ _ _)).trans v80_g1_42
  have dH_g1_43 : ∀ l : XL, ((l.1 = 81) ∧ dzz l) → g1_43 l = z0 l := by rw [eg1_43]; exact fun l hl => (xu_o (fun z => (fun z => by have z0 : (50 : Nat) = 81 := z.1; omega) (by rw [z] at hl; exact hl))).trans (dH_g1_42 l hl)
  have v70_g1_43 : g1_43 (70, 0, 0) = some (.inr (2, 320, xZero 2)) := by rw [eg1_43]; exact (xu_o (nK (by decide) _ _ _ _)).trans v70_g1_42
  have v50_g1_43 : g1_43 (50, 0, 0) = some (.inl (9, [xR (51, 0, 0), xR (52, 0, 0), xR (53, 0, 0), xR (54, 0, 0), xR (55, 0, 0), xR (56, 0, 0), xR (57, 0, 0), xR (58, 0, 0), xR (59, 0, 0), xR (60, 0, 0), xR (61, 0, 0), xI 1, xI 0, xI 0, xR (62, 0, 0), xR (63, 0, 0), xR (64, 0, 0), xR (65, 0, 0), xR (66, 0, 0), xR (67, 0, 0), xR (68, 0, 0), xR (69, 0, 0), xR (80, 0, 0), xR (70, 0, 0), xI 0, xI 0, xN, xN, xN, xN, xN])) := by rw [eg1_43]; exact xu_at
  refine x_aload_n dX9_init_181 rfl ?_
  refine x_bipush (v := 10) dX9_init_182 (by decide) ?_
  refine x_newarray (71, 0, 0) (t := 2) (n := 10) (N := 10) dX9_init_184 rfl wd123 (f71_g1_43 _ ⟨(show (71 : Nat) = 71 by omega), (show (0 : Int) = 0 ∧ (0 : Int) = 0 from ⟨rfl, rfl⟩)⟩) (show (71 : Nat) ≠ 99 by decide) rfl (by decide) (by omega) (by omega) ?_
  refine x_hg (fun g1_44 eg1_44 => ?_)
  have f72_g1_44 : ∀ l : XL, ((l.1 = 72) ∧ dzz l) → g1_44 l = none := by rw [eg1_44]; exact fun l hl => (xu_o (fun z => (fun z => by have z0 : (71 : Nat) = 72 := z.1; omega) (by rw [z] at hl; exact hl))).trans (f72_g1_43 l hl)
  have f73_g1_44 : ∀ l : XL, ((l.1 = 73) ∧ dzz l) → g1_44 l = none := by rw [eg1_44]; exact fun l hl => (xu_o (fun z => (fun z => by have z0 : (71 : Nat) = 73 := z.1; omega) (by rw [z] at hl; exact hl))).trans (f73_g1_43 l hl)
  have f74_g1_44 : ∀ l : XL, ((l.1 = 74) ∧ dzz l) → g1_44 l = none := by rw [eg1_44]; exact fun l hl => (xu_o (fun z => (fun z => by have z0 : (71 : Nat) = 74 := z.1; omega) (by rw [z] at hl; exact hl))).trans (f74_g1_43 l hl)
  have f75_g1_44 : ∀ l : XL, ((l.1 = 75) ∧ dzz l) → g1_44 l = none := by rw [eg1_44]; exact fun l hl => (xu_o (fun z => (fun z => by have z0 : (71 : Nat) = 75 := z.1; omega) (by rw [z] at hl; exact hl))).trans (f75_g1_43 l hl)
  have fr_g1_44 : ∀ l : XL, ¬ (((50 ≤ l.1 ∧ l.1 ≤ 75) ∨ l.1 = 80 ∨ l.1 = 81) ∧ dzz l) → g1_44 l = g0 l := by rw [eg1_44]; exact fun l hl => (xu_o (fun z => hl (by rw [z]; exact ⟨(show (50 ≤ (71 : Nat) ∧ (71 : Nat) ≤ 75) ∨ (71 : Nat) = 80 ∨ (71 : Nat) = 81 by omega), (show (0 : Int) = 0 ∧ (0 : Int) = 0 from ⟨rfl, rfl⟩)⟩))).trans (fr_g1_43 l hl)
  have v51_g1_44 : g1_44 (51, 0, 0) = some (.inr (3, 240, xZero 3)) := by rw [eg1_44]; exact (xu_o (nK (by decide) _ _ _ _)).trans v51_g1_43
  have v52_g1_44 : g1_44 (52, 0, 0) = some (.inr (0, 240, xZero 0)) := by rw [eg1_44]; exact (xu_o (nK (by decide) _ _ _ _)).trans v52_g1_43
  have v53_g1_44 : g1_44 (53, 0, 0) = some (.inr (0, 240, xZero 0)) := by rw [eg1_44]; exact (xu_o (nK (by decide) _ _ _ _)).trans v53_g1_43
  have v54_g1_44 : g1_44 (54, 0, 0) = some (.inr (0, 240, xZero 0)) := by rw [eg1_44]; exact (xu_o (nK (by decide) _ _ _ _)).trans v54_g1_43
  have v55_g1_44 : g1_44 (55, 0, 0) = some (.inr (0, 240, xZero 0)) := by rw [eg1_44]; exact (xu_o (nK (by decide) _ _ _ _)).trans v55_g1_43
  have v56_g1_44 : g1_44 (56, 0, 0) = some (.inr (2, 240, xZero 2)) := by rw [eg1_44]; exact (xu_o (nK (by decide) _ _ _ _)).trans v56_g1_43
  have v57_g1_44 : g1_44 (57, 0, 0) = some (.inr (2, 6, xZero 2)) := by rw [eg1_44]; exact (xu_o (nK (by decide) _ _ _ _)).trans v57_g1_43
  have v58_g1_44 : g1_44 (58, 0, 0) = some (.inr (0, 4, xZero 0)) := by rw [eg1_44]; exact (xu_o (nK (by decide) _ _ _ _)).trans v58_g1_43
  have v59_g1_44 : g1_44 (59, 0, 0) = some (.inr (0, 4, xZero 0)) := by rw [eg1_44]; exact (xu_o (nK (by decide) _ _ _ _)).trans v59_g1_43
  have v60_g1_44 : g1_44 (60, 0, 0) = some (.inr (0, 4, xZero 0)) := by rw [eg1_44]; exact (xu_o (nK (by decide) _ _ _ _)).trans v60_g1_43
  have v61_g1_44 : g1_44 (61, 0, 0) = some (.inr (0, 4, xZero 0)) := by rw [eg1_44]; exact (xu_o (nK (by decide) _ _ _ _)).trans v61_g1_43
  have v62_g1_44 : g1_44 (62, 0, 0) = some (.inr (0, 30, xZero 0)) := by rw [eg1_44]; exact (xu_o (nK (by decide) _ _ _ _)).trans v62_g1_43
  have v63_g1_44 : g1_44 (63, 0, 0) = some (.inr (0, 90, xZero 0)) := by rw [eg1_44]; exact (xu_o (nK (by decide) _ _ _ _)).trans v63_g1_43
  have v64_g1_44 : g1_44 (64, 0, 0) = some (.inr (0, 10, xZero 0)) := by rw [eg1_44]; exact (xu_o (nK (by decide) _ _ _ _)).trans v64_g1_43
  have v65_g1_44 : g1_44 (65, 0, 0) = some (.inr (2, 30, xZero 2)) := by rw [eg1_44]; exact (xu_o (nK (by decide) _ _ _ _)).trans v65_g1_43
  have v66_g1_44 : g1_44 (66, 0, 0) = some (.inr (2, 10, xZero 2)) := by rw [eg1_44]; exact (xu_o (nK (by decide) _ _ _ _)).trans v66_g1_43
  have v67_g1_44 : g1_44 (67, 0, 0) = some (.inr (0, 25, xZero 0)) := by rw [eg1_44]; exact (xu_o (nK (by decide) _ _ _ _)).trans v67_g1_43
  have v68_g1_44 : g1_44 (68, 0, 0) = some (.inr (0, 5, xZero 0)) := by rw [eg1_44]; exact (xu_o (nK (by decide) _ _ _ _)).trans v68_g1_43
  have v69_g1_44 : g1_44 (69, 0, 0) = some (.inr (0, 5, xZero 0)) := by rw [eg1_44]; exact (xu_o (nK (by decide) _ _ _ _)).trans v69_g1_43
  have v80_g1_44 : g1_44 (80, 0, 0) = some (.inr (11, 5, .inr (.inr (.inr (fun b => some (81, b, 0)))))) := by rw [eg1_44]; exact (xu_o (nK (by decide) _ _ _ _)).trans v80_g1_43
  have dH_g1_44 : ∀ l : XL, ((l.1 = 81) ∧ dzz l) → g1_44 l = z0 l := by rw [eg1_44]; exact fun l hl => (xu_o (fun z => (fun z => by have z0 : (71 : Nat) = 81 := z.1; omega) (by rw [z] at hl; exact hl))).trans (dH_g1_43 l hl)
  have v70_g1_44 : g1_44 (70, 0, 0) = some (.inr (2, 320, xZero 2)) := by rw [eg1_44]; exact (xu_o (nK (by decide) _ _ _ _)).trans v70_g1_43
  have v50_g1_44 : g1_44 (50, 0, 0) = some (.inl (9, [xR (51, 0, 0), xR (52, 0, 0), xR (53, 0, 0), xR (54, 0, 0), xR (55, 0, 0), xR (56, 0, 0), xR (57, 0, 0), xR (58, 0, 0), xR (59, 0, 0), xR (60, 0, 0), xR (61, 0, 0), xI 1, xI 0, xI 0, xR (62, 0, 0), xR (63, 0, 0), xR (64, 0, 0), xR (65, 0, 0), xR (66, 0, 0), xR (67, 0, 0), xR (68, 0, 0), xR (69, 0, 0), xR (80, 0, 0), xR (70, 0, 0), xI 0, xI 0, xN, xN, xN, xN, xN])) := by rw [eg1_44]; exact (xu_o (nK (by decide) _ _ _ _)).trans v50_g1_43
  have v71_g1_44 : g1_44 (71, 0, 0) = some (.inr (2, 10, xZero 2)) := by rw [eg1_44]; exact xu_at
  refine x_putF dX9_init_186 fl_RX9_81 (fun r hr => by cases hr; exact ⟨rfl, rfl⟩) v50_g1_44 xfit_a (Nat.le_of_ble_eq_true rfl) rfl rfl ?_
  refine x_hg (fun g1_45 eg1_45 => ?_)
  have f72_g1_45 : ∀ l : XL, ((l.1 = 72) ∧ dzz l) → g1_45 l = none := by rw [eg1_45]; exact fun l hl => (xu_o (fun z => (fun z => by have z0 : (50 : Nat) = 72 := z.1; omega) (by rw [z] at hl; exact hl))).trans (f72_g1_44 l hl)
  have f73_g1_45 : ∀ l : XL, ((l.1 = 73) ∧ dzz l) → g1_45 l = none := by rw [eg1_45]; exact fun l hl => (xu_o (fun z => (fun z => by have z0 : (50 : Nat) = 73 := z.1; omega) (by rw [z] at hl; exact hl))).trans (f73_g1_44 l hl)
  have f74_g1_45 : ∀ l : XL, ((l.1 = 74) ∧ dzz l) → g1_45 l = none := by rw [eg1_45]; exact fun l hl => (xu_o (fun z => (fun z => by have z0 : (50 : Nat) = 74 := z.1; omega) (by rw [z] at hl; exact hl))).trans (f74_g1_44 l hl)
  have f75_g1_45 : ∀ l : XL, ((l.1 = 75) ∧ dzz l) → g1_45 l = none := by rw [eg1_45]; exact fun l hl => (xu_o (fun z => (fun z => by have z0 : (50 : Nat) = 75 := z.1; omega) (by rw [z] at hl; exact hl))).trans (f75_g1_44 l hl)
  have fr_g1_45 : ∀ l : XL, ¬ (((50 ≤ l.1 ∧ l.1 ≤ 75) ∨ l.1 = 80 ∨ l.1 = 81) ∧ dzz l) → g1_45 l = g0 l := by rw [eg1_45]; exact fun l hl => (xu_o (fun z => hl (by rw [z]; exact ⟨(show (50 ≤ (50 : Nat) ∧ (50 : Nat) ≤ 75) ∨ (50 : Nat) = 80 ∨ (50 : Nat) = 81 by omega), (show (0 : Int) = 0 ∧ (0 : Int) = 0 from ⟨rfl, rfl⟩)⟩))).trans (fr_g1_44 l hl)
  have v51_g1_45 : g1_45 (51, 0, 0) = some (.inr (3, 240, xZero 3)) := by rw [eg1_45]; exact (xu_o (nK (by decide) _ _ _ _)).trans v51_g1_44
  have v52_g1_45 : g1_45 (52, 0, 0) = some (.inr (0, 240, xZero 0)) := by rw [eg1_45]; exact (xu_o (nK (by decide) _ _ _ _)).trans v52_g1_44
  have v53_g1_45 : g1_45 (53, 0, 0) = some (.inr (0, 240, xZero 0)) := by rw [eg1_45]; exact (xu_o (nK (by decide) _ _ _ _)).trans v53_g1_44
  have v54_g1_45 : g1_45 (54, 0, 0) = some (.inr (0, 240, xZero 0)) := by rw [eg1_45]; exact (xu_o (nK (by decide) _ _ _ _)).trans v54_g1_44
  have v55_g1_45 : g1_45 (55, 0, 0) = some (.inr (0, 240, xZero 0)) := by rw [eg1_45]; exact (xu_o (nK (by decide) _ _ _ _)).trans v55_g1_44
  have v56_g1_45 : g1_45 (56, 0, 0) = some (.inr (2, 240, xZero 2)) := by rw [eg1_45]; exact (xu_o (nK (by decide) _ _ _ _)).trans v56_g1_44
  have v57_g1_45 : g1_45 (57, 0, 0) = some (.inr (2, 6, xZero 2)) := by rw [eg1_45]; exact (xu_o (nK (by decide) _ _ _ _)).trans v57_g1_44
  have v58_g1_45 : g1_45 (58, 0, 0) = some (.inr (0, 4, xZero 0)) := by rw [eg1_45]; exact (xu_o (nK (by decide) _ _ _ _)).trans v58_g1_44
  have v59_g1_45 : g1_45 (59, 0, 0) = some (.inr (0, 4, xZero 0)) := by rw [eg1_45]; exact (xu_o (nK (by decide) _ _ _ _)).trans v59_g1_44
  have v60_g1_45 : g1_45 (60, 0, 0) = some (.inr (0, 4, xZero 0)) := by rw [eg1_45]; exact (xu_o (nK (by decide) _ _ _ _)).trans v60_g1_44
  have v61_g1_45 : g1_45 (61, 0, 0) = some (.inr (0, 4, xZero 0)) := by rw [eg1_45]; exact (xu_o (nK (by decide) _ _ _ _)).trans v61_g1_44
  have v62_g1_45 : g1_45 (62, 0, 0) = some (.inr (0, 30, xZero 0)) := by rw [eg1_45]; exact (xu_o (nK (by decide) _ _ _ _)).trans v62_g1_44
  have v63_g1_45 : g1_45 (63, 0, 0) = some (.inr (0, 90, xZero 0)) := by rw [eg1_45]; exact (xu_o (nK (by decide) _ _ _ _)).trans v63_g1_44
  have v64_g1_45 : g1_45 (64, 0, 0) = some (.inr (0, 10, xZero 0)) := by rw [eg1_45]; exact (xu_o (nK (by decide) _ _ _ _)).trans v64_g1_44
  have v65_g1_45 : g1_45 (65, 0, 0) = some (.inr (2, 30, xZero 2)) := by rw [eg1_45]; exact (xu_o (nK (by decide) _ _ _ _)).trans v65_g1_44
  have v66_g1_45 : g1_45 (66, 0, 0) = some (.inr (2, 10, xZero 2)) := by rw [eg1_45]; exact (xu_o (nK (by decide) _ _ _ _)).trans v66_g1_44
  have v67_g1_45 : g1_45 (67, 0, 0) = some (.inr (0, 25, xZero 0)) := by rw [eg1_45]; exact (xu_o (nK (by decide) _ _ _ _)).trans v67_g1_44
  have v68_g1_45 : g1_45 (68, 0, 0) = some (.inr (0, 5, xZero 0)) := by rw [eg1_45]; exact (xu_o (nK (by decide) _ _ _ _)).trans v68_g1_44
  have v69_g1_45 : g1_45 (69, 0, 0) = some (.inr (0, 5, xZero 0)) := by rw [eg1_45]; exact (xu_o (nK (by decide) _ _ _ _)).trans v69_g1_44
  have v80_g1_45 : g1_45 (80, 0, 0) = some (.inr (11, 5, .inr (.inr (.inr (fun b => some (81, b, 0)))))) := by rw [eg1_45]; exact (xu_o (nK (by decide) _ _ _ _)).trans v80_g1_44
  have dH_g1_45 : ∀ l : XL, ((l.1 = 81) ∧ dzz l) → g1_45 l = z0 l := by rw [eg1_45]; exact fun l hl => (xu_o (fun z => (fun z => by have z0 : (50 : Nat) = 81 := z.1; omega) (by rw [z] at hl; exact hl))).trans (dH_g1_44 l hl)
  have v70_g1_45 : g1_45 (70, 0, 0) = some (.inr (2, 320, xZero 2)) := by rw [eg1_45]; exact (xu_o (nK (by decide) _ _ _ _)).trans v70_g1_44
  have v71_g1_45 : g1_45 (71, 0, 0) = some (.inr (2, 10, xZero 2)) := by rw [eg1_45]; exact (xu_o (nK (by decide) _ _ _ _)).trans v71_g1_44
  have v50_g1_45 : g1_45 (50, 0, 0) = some (.inl (9, [xR (51, 0, 0), xR (52, 0, 0), xR (53, 0, 0), xR (54, 0, 0), xR (55, 0, 0), xR (56, 0, 0), xR (57, 0, 0), xR (58, 0, 0), xR (59, 0, 0), xR (60, 0, 0), xR (61, 0, 0), xI 1, xI 0, xI 0, xR (62, 0, 0), xR (63, 0, 0), xR (64, 0, 0), xR (65, 0, 0), xR (66, 0, 0), xR (67, 0, 0), xR (68, 0, 0), xR (69, 0, 0), xR (80, 0, 0), xR (70, 0, 0), xI 0, xI 0, xR (71, 0, 0), xN, xN, xN, xN])) := by rw [eg1_45]; exact xu_at
  refine x_aload_n dX9_init_189 rfl ?_
  refine x_bipush (v := 6) dX9_init_190 (by decide) ?_
  refine x_newarray (72, 0, 0) (t := 0) (n := 6) (N := 6) dX9_init_192 rfl wd124 (f72_g1_45 _ ⟨(show (72 : Nat) = 72 by omega), (show (0 : Int) = 0 ∧ (0 : Int) = 0 from ⟨rfl, rfl⟩)⟩) (show (72 : Nat) ≠ 99 by decide) rfl (by decide) (by omega) (by omega) ?_
  refine x_hg (fun g1_46 eg1_46 => ?_)
  have f73_g1_46 : ∀ l : XL, ((l.1 = 73) ∧ dzz l) → g1_46 l = none := by rw [eg1_46]; exact fun l hl => (xu_o (fun z => (fun z => by have z0 : (72 : Nat) = 73 := z.1; omega) (by rw [z] at hl; exact hl))).trans (f73_g1_45 l hl)
  have f74_g1_46 : ∀ l : XL, ((l.1 = 74) ∧ dzz l) → g1_46 l = none := by rw [eg1_46]; exact fun l hl => (xu_o (fun z => (fun z => by have z0 : (72 : Nat) = 74 := z.1; omega) (by rw [z] at hl; exact hl))).trans (f74_g1_45 l hl)
  have f75_g1_46 : ∀ l : XL, ((l.1 = 75) ∧ dzz l) → g1_46 l = none := by rw [eg1_46]; exact fun l hl => (xu_o (fun z => (fun z => by have z0 : (72 : Nat) = 75 := z.1; omega) (by rw [z] at hl; exact hl))).trans (f75_g1_45 l hl)
  have fr_g1_46 : ∀ l : XL, ¬ (((50 ≤ l.1 ∧ l.1 ≤ 75) ∨ l.1 = 80 ∨ l.1 = 81) ∧ dzz l) → g1_46 l = g0 l := by rw [eg1_46]; exact fun l hl => (xu_o (fun z => hl (by rw [z]; exact ⟨(show (50 ≤ (72 : Nat) ∧ (72 : Nat) ≤ 75) ∨ (72 : Nat) = 80 ∨ (72 : Nat) = 81 by omega), (show (0 : Int) = 0 ∧ (0 : Int) = 0 from ⟨rfl, rfl⟩)⟩))).trans (fr_g1_45 l hl)
  have v51_g1_46 : g1_46 (51, 0, 0) = some (.inr (3, 240, xZero 3)) := by rw [eg1_46]; exact (xu_o (nK (by decide) _ _ _ _)).trans v51_g1_45
  have v52_g1_46 : g1_46 (52, 0, 0) = some (.inr (0, 240, xZero 0)) := by rw [eg1_46]; exact (xu_o (nK (by decide) _ _ _ _)).trans v52_g1_45
  have v53_g1_46 : g1_46 (53, 0, 0) = some (.inr (0, 240, xZero 0)) := by rw [eg1_46]; exact (xu_o (nK (by decide) _ _ _ _)).trans v53_g1_45
  have v54_g1_46 : g1_46 (54, 0, 0) = some (.inr (0, 240, xZero 0)) := by rw [eg1_46]; exact (xu_o (nK (by decide) _ _ _ _)).trans v54_g1_45
  have v55_g1_46 : g1_46 (55, 0, 0) = some (.inr (0, 240, xZero 0)) := by rw [eg1_46]; exact (xu_o (nK (by decide) _ _ _ _)).trans v55_g1_45
  have v56_g1_46 : g1_46 (56, 0, 0) = some (.inr (2, 240, xZero 2)) := by rw [eg1_46]; exact (xu_o (nK (by decide) _ _ _ _)).trans v56_g1_45
  have v57_g1_46 : g1_46 (57, 0, 0) = some (.inr (2, 6, xZero 2)) := by rw [eg1_46]; exact (xu_o (nK (by decide) _ _ _ _)).trans v57_g1_45
  have v58_g1_46 : g1_46 (58, 0, 0) = some (.inr (0, 4, xZero 0)) := by rw [eg1_46]; exact (xu_o (nK (by decide) _ _ _ _)).trans v58_g1_45
  have v59_g1_46 : g1_46 (59, 0, 0) = some (.inr (0, 4, xZero 0)) := by rw [eg1_46]; exact (xu_o (nK (by decide) _ _ _ _)).trans v59_g1_45
  have v60_g1_46 : g1_46 (60, 0, 0) = some (.inr (0, 4, xZero 0)) := by rw [eg1_46]; exact (xu_o (nK (by decide) _ _ _ _)).trans v60_g1_45
  have v61_g1_46 : g1_46 (61, 0, 0) = some (.inr (0, 4, xZero 0)) := by rw [eg1_46]; exact (xu_o (nK (by decide) _ _ _ _)).trans v61_g1_45
  have v62_g1_46 : g1_46 (62, 0, 0) = some (.inr (0, 30, xZero 0)) := by rw [eg1_46]; exact (xu_o (nK (by decide) _ _ _ _)).trans v62_g1_45
  have v63_g1_46 : g1_46 (63, 0, 0) = some (.inr (0, 90, xZero 0)) := by rw [eg1_46]; exact (xu_o (nK (by decide) _ _ _ _)).trans v63_g1_45
  have v64_g1_46 : g1_46 (64, 0, 0) = some (.inr (0, 10, xZero 0)) := by rw [eg1_46]; exact (xu_o (nK (by decide) _ _ _ _)).trans v64_g1_45
  have v65_g1_46 : g1_46 (65, 0, 0) = some (.inr (2, 30, xZero 2)) := by rw [eg1_46]; exact (xu_o (nK (by decide) _ _ _ _)).trans v65_g1_45
  have v66_g1_46 : g1_46 (66, 0, 0) = some (.inr (2, 10, xZero 2)) := by rw [eg1_46]; exact (xu_o (nK (by decide) _ _ _ _)).trans v66_g1_45
  have v67_g1_46 : g1_46 (67, 0, 0) = some (.inr (0, 25, xZero 0)) := by rw [eg1_46]; exact (xu_o (nK (by decide) _ _ _ _)).trans v67_g1_45
  have v68_g1_46 : g1_46 (68, 0, 0) = some (.inr (0, 5, xZero 0)) := by rw [eg1_46]; exact (xu_o (nK (by decide) _ _ _ _)).trans v68_g1_45
  have v69_g1_46 : g1_46 (69, 0, 0) = some (.inr (0, 5, xZero 0)) := by rw [eg1_46]; exact (xu_o (nK (by decide) _ _ _ _)).trans v69_g1_45
  have v80_g1_46 : g1_46 (80, 0, 0) = some (.inr (11, 5, .inr (.inr (.inr (fun b => some (81, b, 0)))))) := by rw [eg1_46]; exact (xu_o (nK (by decide) _ _ _ _)).trans v80_g1_45
  have dH_g1_46 : ∀ l : XL, ((l.1 = 81) ∧ dzz l) → g1_46 l = z0 l := by rw [eg1_46]; exact fun l hl => (xu_o (fun z => (fun z => by have z0 : (72 : Nat) = 81 := z.1; omega) (by rw [z] at hl; exact hl))).trans (dH_g1_45 l hl)
  have v70_g1_46 : g1_46 (70, 0, 0) = some (.inr (2, 320, xZero 2)) := by rw [eg1_46]; exact (xu_o (nK (by decide) _ _ _ _)).trans v70_g1_45
  have v71_g1_46 : g1_46 (71, 0, 0) = some (.inr (2, 10, xZero 2)) := by rw [eg1_46]; exact (xu_o (nK (by decide) _ _ _ _)).trans v71_g1_45
  have v50_g1_46 : g1_46 (50, 0, 0) = some (.inl (9, [xR (51, 0, 0), xR (52, 0, 0), xR (53, 0, 0), xR (54, 0, 0), xR (55, 0, 0), xR (56, 0, 0), xR (57, 0, 0), xR (58, 0, 0), xR (59, 0, 0), xR (60, 0, 0), xR (61, 0, 0), xI 1, xI 0, xI 0, xR (62, 0, 0), xR (63, 0, 0), xR (64, 0, 0), xR (65, 0, 0), xR (66, 0, 0), xR (67, 0, 0), xR (68, 0, 0), xR (69, 0, 0), xR (80, 0, 0), xR (70, 0, 0), xI 0, xI 0, xR (71, 0, 0), xN, xN, xN, xN])) := by rw [eg1_46]; exact (xu_o (nK (by decide) _ _ _ _)).trans v50_g1_45
  have v72_g1_46 : g1_46 (72, 0, 0) = some (.inr (0, 6, xZero 0)) := by rw [eg1_46]; exact xu_at
  refine x_putF dX9_init_194 fl_RX9_84 (fun r hr => by cases hr; exact ⟨rfl, rfl⟩) v50_g1_46 xfit_a (Nat.le_of_ble_eq_true rfl) rfl rfl ?_
  refine x_hg (fun g1_47 eg1_47 => ?_)
  have f73_g1_47 : ∀ l : XL, ((l.1 = 73) ∧ dzz l) → g1_47 l = none := by rw [eg1_47]; exact fun l hl => (xu_o (fun z => (fun z => by have z0 : (50 : Nat) = 73 := z.1; omega) (by rw [z] at hl; exact hl))).trans (f73_g1_46 l hl)
  have f74_g1_47 : ∀ l : XL, ((l.1 = 74) ∧ dzz l) → g1_47 l = none := by rw [eg1_47]; exact fun l hl => (xu_o (fun z => (fun z => by have z0 : (50 : Nat) = 74 := z.1; omega) (by rw [z] at hl; exact hl))).trans (f74_g1_46 l hl)
  have f75_g1_47 : ∀ l : XL, ((l.1 = 75) ∧ dzz l) → g1_47 l = none := by rw [eg1_47]; exact fun l hl => (xu_o (fun z => (fun z => by have z0 : (50 : Nat) = 75 := z.1; omega) (by rw [z] at hl; exact hl))).trans (f75_g1_46 l hl)
  have fr_g1_47 : ∀ l : XL, ¬ (((50 ≤ l.1 ∧ l.1 ≤ 75) ∨ l.1 = 80 ∨ l.1 = 81) ∧ dzz l) → g1_47 l = g0 l := by rw [eg1_47]; exact fun l hl => (xu_o (fun z => hl (by rw [z]; exact ⟨(show (50 ≤ (50 : Nat) ∧ (50 : Nat) ≤ 75) ∨ (50 : Nat) = 80 ∨ (50 : Nat) = 81 by omega), (show (0 : Int) = 0 ∧ (0 : Int) = 0 from ⟨rfl, rfl⟩)⟩))).trans (fr_g1_46 l hl)
  have v51_g1_47 : g1_47 (51, 0, 0) = some (.inr (3, 240, xZero 3)) := by rw [eg1_47]; exact (xu_o (nK (by decide) _ _ _ _)).trans v51_g1_46
  have v52_g1_47 : g1_47 (52, 0, 0) = some (.inr (0, 240, xZero 0)) := by rw [eg1_47]; exact (xu_o (nK (by decide) _ _ _ _)).trans v52_g1_46
  have v53_g1_47 : g1_47 (53, 0, 0) = some (.inr (0, 240, xZero 0)) := by rw [eg1_47]; exact (xu_o (nK (by decide) _ _ _ _)).trans v53_g1_46
  have v54_g1_47 : g1_47 (54, 0, 0) = some (.inr (0, 240, xZero 0)) := by rw [eg1_47]; exact (xu_o (nK (by decide) _ _ _ _)).trans v54_g1_46
  have v55_g1_47 : g1_47 (55, 0, 0) = some (.inr (0, 240, xZero 0)) := by rw [eg1_47]; exact (xu_o (nK (by decide) _ _ _ _)).trans v55_g1_46
  have v56_g1_47 : g1_47 (56, 0, 0) = some (.inr (2, 240, xZero 2)) := by rw [eg1_47]; exact (xu_o (nK (by decide) _ _ _ _)).trans v56_g1_46
  have v57_g1_47 : g1_47 (57, 0, 0) = some (.inr (2, 6, xZero 2)) := by rw [eg1_47]; exact (xu_o (nK (by decide) _ _ _ _)).trans v57_g1_46
  have v58_g1_47 : g1_47 (58, 0, 0) = some (.inr (0, 4, xZero 0)) := by rw [eg1_47]; exact (xu_o (nK (by decide) _ _ _ _)).trans v58_g1_46
  have v59_g1_47 : g1_47 (59, 0, 0) = some (.inr (0, 4, xZero 0)) := by rw [eg1_47]; exact (xu_o (nK (by decide) _ _ _ _)).trans v59_g1_46
  have v60_g1_47 : g1_47 (60, 0, 0) = some (.inr (0, 4, xZero 0)) := by rw [eg1_47]; exact (xu_o (nK (by decide) _ _ _ _)).trans v60_g1_46
  have v61_g1_47 : g1_47 (61, 0, 0) = some (.inr (0, 4, xZero 0)) := by rw [eg1_47]; exact (xu_o (nK (by decide) _ _ _ _)).trans v61_g1_46
  have v62_g1_47 : g1_47 (62, 0, 0) = some (.inr (0, 30, xZero 0)) := by rw [eg1_47]; exact (xu_o (nK (by decide) _ _ _ _)).trans v62_g1_46
  have v63_g1_47 : g1_47 (63, 0, 0) = some (.inr (0, 90, xZero 0)) := by rw [eg1_47]; exact (xu_o (nK (by decide) _ _ _ _)).trans v63_g1_46
  have v64_g1_47 : g1_47 (64, 0, 0) = some (.inr (0, 10, xZero 0)) := by rw [eg1_47]; exact (xu_o (nK (by decide) _ _ _ _)).trans v64_g1_46
  have v65_g1_47 : g1_47 (65, 0, 0) = some (.inr (2, 30, xZero 2)) := by rw [eg1_47]; exact (xu_o (nK (by decide) _ _ _ _)).trans v65_g1_46
  have v66_g1_47 : g1_47 (66, 0, 0) = some (.inr (2, 10, xZero 2)) := by rw [eg1_47]; exact (xu_o (nK (by decide) _ _ _ _)).trans v66_g1_46
  have v67_g1_47 : g1_47 (67, 0, 0) = some (.inr (0, 25, xZero 0)) := by rw [eg1_47]; exact (xu_o (nK (by decide) _ _ _ _)).trans v67_g1_46
  have v68_g1_47 : g1_47 (68, 0, 0) = some (.inr (0, 5, xZero 0)) := by rw [eg1_47]; exact (xu_o (nK (by decide) _ _ _ _)).trans v68_g1_46
  have v69_g1_47 : g1_47 (69, 0, 0) = some (.inr (0, 5, xZero 0)) := by rw [eg1_47]; exact (xu_o (nK (by decide) _ _ _ _)).trans v69_g1_46
  have v80_g1_47 : g1_47 (80, 0, 0) = some (.inr (11, 5, .inr (.inr (.inr (fun b => some (81, b, 0)))))) := by rw [eg1_47]; exact (xu_o (nK (by decide) _ _ _ _)).trans v80_g1_46
  have dH_g1_47 : ∀ l : XL, ((l.1 = 81) ∧ dzz l) → g1_47 l = z0 l := by rw [eg1_47]; exact fun l hl => (xu_o (fun z => (fun z => by have z0 : (50 : Nat) = 81 := z.1; omega) (by rw [z] at hl; exact hl))).trans (dH_g1_46 l hl)
  have v70_g1_47 : g1_47 (70, 0, 0) = some (.inr (2, 320, xZero 2)) := by rw [eg1_47]; exact (xu_o (nK (by decide) _ _ _ _)).trans v70_g1_46
  have v71_g1_47 : g1_47 (71, 0, 0) = some (.inr (2, 10, xZero 2)) := by rw [eg1_47]; exact (xu_o (nK (by decide) _ _ _ _)).trans v71_g1_46
  have v72_g1_47 : g1_47 (72, 0, 0) = some (.inr (0, 6, xZero 0)) := by rw [eg1_47]; exact (xu_o (nK (by decide) _ _ _ _)).trans v72_g1_46
  have v50_g1_47 : g1_47 (50, 0, 0) = some (.inl (9, [xR (51, 0, 0), xR (52, 0, 0), xR (53, 0, 0), xR (54, 0, 0), xR (55, 0, 0), xR (56, 0, 0), xR (57, 0, 0), xR (58, 0, 0), xR (59, 0, 0), xR (60, 0, 0), xR (61, 0, 0), xI 1, xI 0, xI 0, xR (62, 0, 0), xR (63, 0, 0), xR (64, 0, 0), xR (65, 0, 0), xR (66, 0, 0), xR (67, 0, 0), xR (68, 0, 0), xR (69, 0, 0), xR (80, 0, 0), xR (70, 0, 0), xI 0, xI 0, xR (71, 0, 0), xR (72, 0, 0), xN, xN, xN])) := by rw [eg1_47]; exact xu_at
  refine x_aload_n dX9_init_197 rfl ?_
  refine x_sipush (v := 384) dX9_init_198 (by decide) ?_
  refine x_newarray (73, 0, 0) (t := 0) (n := 384) (N := 384) dX9_init_201 rfl wd124 (f73_g1_47 _ ⟨(show (73 : Nat) = 73 by omega), (show (0 : Int) = 0 ∧ (0 : Int) = 0 from ⟨rfl, rfl⟩)⟩) (show (73 : Nat) ≠ 99 by decide) rfl (by decide) (by omega) (by omega) ?_
  refine x_hg (fun g1_48 eg1_48 => ?_)
  have f74_g1_48 : ∀ l : XL, ((l.1 = 74) ∧ dzz l) → g1_48 l = none := by rw [eg1_48]; exact fun l hl => (xu_o (fun z => (fun z => by have z0 : (73 : Nat) = 74 := z.1; omega) (by rw [z] at hl; exact hl))).trans (f74_g1_47 l hl)
  have f75_g1_48 : ∀ l : XL, ((l.1 = 75) ∧ dzz l) → g1_48 l = none := by rw [eg1_48]; exact fun l hl => (xu_o (fun z => (fun z => by have z0 : (73 : Nat) = 75 := z.1; omega) (by rw [z] at hl; exact hl))).trans (f75_g1_47 l hl)
  have fr_g1_48 : ∀ l : XL, ¬ (((50 ≤ l.1 ∧ l.1 ≤ 75) ∨ l.1 = 80 ∨ l.1 = 81) ∧ dzz l) → g1_48 l = g0 l := by rw [eg1_48]; exact fun l hl => (xu_o (fun z => hl (by rw [z]; exact ⟨(show (50 ≤ (73 : Nat) ∧ (73 : Nat) ≤ 75) ∨ (73 : Nat) = 80 ∨ (73 : Nat) = 81 by omega), (show (0 : Int) = 0 ∧ (0 : Int) = 0 from ⟨rfl, rfl⟩)⟩))).trans (fr_g1_47 l hl)
  have v51_g1_48 : g1_48 (51, 0, 0) = some (.inr (3, 240, xZero 3)) := by rw [eg1_48]; exact (xu_o (nK (by decide) _ _ _ _)).trans v51_g1_47
  have v52_g1_48 : g1_48 (52, 0, 0) = some (.inr (0, 240, xZero 0)) := by rw [eg1_48]; exact (xu_o (nK (by decide) _ _ _ _)).trans v52_g1_47
  have v53_g1_48 : g1_48 (53, 0, 0) = some (.inr (0, 240, xZero 0)) := by rw [eg1_48]; exact (xu_o (nK (by decide) _ _ _ _)).trans v53_g1_47
  have v54_g1_48 : g1_48 (54, 0, 0) = some (.inr (0, 240, xZero 0)) := by rw [eg1_48]; exact (xu_o (nK (by decide) _ _ _ _)).trans v54_g1_47
  have v55_g1_48 : g1_48 (55, 0, 0) = some (.inr (0, 240, xZero 0)) := by rw [eg1_48]; exact (xu_o (nK (by decide) _ _ _ _)).trans v55_g1_47
  have v56_g1_48 : g1_48 (56, 0, 0) = some (.inr (2, 240, xZero 2)) := by rw [eg1_48]; exact (xu_o (nK (by decide) _ _ _ _)).trans v56_g1_47
  have v57_g1_48 : g1_48 (57, 0, 0) = some (.inr (2, 6, xZero 2)) := by rw [eg1_48]; exact (xu_o (nK (by decide) _ _ _ _)).trans v57_g1_47
  have v58_g1_48 : g1_48 (58, 0, 0) = some (.inr (0, 4, xZero 0)) := by rw [eg1_48]; exact (xu_o (nK (by decide) _ _ _ _)).trans v58_g1_47
  have v59_g1_48 : g1_48 (59, 0, 0) = some (.inr (0, 4, xZero 0)) := by rw [eg1_48]; exact (xu_o (nK (by decide) _ _ _ _)).trans v59_g1_47
  have v60_g1_48 : g1_48 (60, 0, 0) = some (.inr (0, 4, xZero 0)) := by rw [eg1_48]; exact (xu_o (nK (by decide) _ _ _ _)).trans v60_g1_47
  have v61_g1_48 : g1_48 (61, 0, 0) = some (.inr (0, 4, xZero 0)) := by rw [eg1_48]; exact (xu_o (nK (by decide) _ _ _ _)).trans v61_g1_47
  have v62_g1_48 : g1_48 (62, 0, 0) = some (.inr (0, 30, xZero 0)) := by rw [eg1_48]; exact (xu_o (nK (by decide) _ _ _ _)).trans v62_g1_47
  have v63_g1_48 : g1_48 (63, 0, 0) = some (.inr (0, 90, xZero 0)) := by rw [eg1_48]; exact (xu_o (nK (by decide) _ _ _ _)).trans v63_g1_47
  have v64_g1_48 : g1_48 (64, 0, 0) = some (.inr (0, 10, xZero 0)) := by rw [eg1_48]; exact (xu_o (nK (by decide) _ _ _ _)).trans v64_g1_47
  have v65_g1_48 : g1_48 (65, 0, 0) = some (.inr (2, 30, xZero 2)) := by rw [eg1_48]; exact (xu_o (nK (by decide) _ _ _ _)).trans v65_g1_47
  have v66_g1_48 : g1_48 (66, 0, 0) = some (.inr (2, 10, xZero 2)) := by rw [eg1_48]; exact (xu_o (nK (by decide) _ _ _ _)).trans v66_g1_47
  have v67_g1_48 : g1_48 (67, 0, 0) = some (.inr (0, 25, xZero 0)) := by rw [eg1_48]; exact (xu_o (nK (by decide) _ _ _ _)).trans v67_g1_47
  have v68_g1_48 : g1_48 (68, 0, 0) = some (.inr (0, 5, xZero 0)) := by rw [eg1_48]; exact (xu_o (nK (by decide) _ _ _ _)).trans v68_g1_47
  have v69_g1_48 : g1_48 (69, 0, 0) = some (.inr (0, 5, xZero 0)) := by rw [eg1_48]; exact (xu_o (nK (by decide) _ _ _ _)).trans v69_g1_47
  have v80_g1_48 : g1_48 (80, 0, 0) = some (.inr (11, 5, .inr (.inr (.inr (fun b => some (81, b, 0)))))) := by rw [eg1_48]; exact (xu_o (nK (by decide) _ _ _ _)).trans v80_g1_47
  have dH_g1_48 : ∀ l : XL, ((l.1 = 81) ∧ dzz l) → g1_48 l = z0 l := by rw [eg1_48]; exact fun l hl => (xu_o (fun z => (fun z => by have z0 : (73 : Nat) = 81 := z.1; omega) (by rw [z] at hl; exact hl))).trans (dH_g1_47 l hl)
  have v70_g1_48 : g1_48 (70, 0, 0) = some (.inr (2, 320, xZero 2)) := by rw [eg1_48]; exact (xu_o (nK (by decide) _ _ _ _)).trans v70_g1_47
  have v71_g1_48 : g1_48 (71, 0, 0) = some (.inr (2, 10, xZero 2)) := by rw [eg1_48]; exact (xu_o (nK (by decide) _ _ _ _)).trans v71_g1_47
  have v72_g1_48 : g1_48 (72, 0, 0) = some (.inr (0, 6, xZero 0)) := by rw [eg1_48]; exact (xu_o (nK (by decide) _ _ _ _)).trans v72_g1_47
  have v50_g1_48 : g1_48 (50, 0, 0) = some (.inl (9, [xR (51, 0, 0), xR (52, 0, 0), xR (53, 0, 0), xR (54, 0, 0), xR (55, 0, 0), xR (56, 0, 0), xR (57, 0, 0), xR (58, 0, 0), xR (59, 0, 0), xR (60, 0, 0), xR (61, 0, 0), xI 1, xI 0, xI 0, xR (62, 0, 0), xR (63, 0, 0), xR (64, 0, 0), xR (65, 0, 0), xR (66, 0, 0), xR (67, 0, 0), xR (68, 0, 0), xR (69, 0, 0), xR (80, 0, 0), xR (70, 0, 0), xI 0, xI 0, xR (71, 0, 0), xR (72, 0, 0), xN, xN, xN])) := by rw [eg1_48]; exact (xu_o (nK (by decide) _ _ _ _)).trans v50_g1_47
  have v73_g1_48 : g1_48 (73, 0, 0) = some (.inr (0, 384, xZero 0)) := by rw [eg1_48]; exact xu_at
  refine x_putF dX9_init_203 fl_RX9_87 (fun r hr => by cases hr; exact ⟨rfl, rfl⟩) v50_g1_48 xfit_a (Nat.le_of_ble_eq_true rfl) rfl rfl ?_
  refine x_hg (fun g1_49 eg1_49 => ?_)
  have f74_g1_49 : ∀ l : XL, ((l.1 = 74) ∧ dzz l) → g1_49 l = none := by rw [eg1_49]; exact fun l hl => (xu_o (fun z => (fun z => by have z0 : (50 : Nat) = 74 := z.1; omega) (by rw [z] at hl; exact hl))).trans (f74_g1_48 l hl)
  have f75_g1_49 : ∀ l : XL, ((l.1 = 75) ∧ dzz l) → g1_49 l = none := by rw [eg1_49]; exact fun l hl => (xu_o (fun z => (fun z => by have z0 : (50 : Nat) = 75 := z.1; omega) (by rw [z] at hl; exact hl))).trans (f75_g1_48 l hl)
  have fr_g1_49 : ∀ l : XL, ¬ (((50 ≤ l.1 ∧ l.1 ≤ 75) ∨ l.1 = 80 ∨ l.1 = 81) ∧ dzz l) → g1_49 l = g0 l := by rw [eg1_49]; exact fun l hl => (xu_o (fun z => hl (by rw [z]; exact ⟨(show (50 ≤ (50 : Nat) ∧ (50 : Nat) ≤ 75) ∨ (50 : Nat) = 80 ∨ (50 : Nat) = 81 by omega), (show (0 : Int) = 0 ∧ (0 : Int) = 0 from ⟨rfl, rfl⟩)⟩))).trans (fr_g1_48 l hl)
  have v51_g1_49 : g1_49 (51, 0, 0) = some (.inr (3, 240, xZero 3)) := by rw [eg1_49]; exact (xu_o (nK (by decide) _ _ _ _)).trans v51_g1_48
  have v52_g1_49 : g1_49 (52, 0, 0) = some (.inr (0, 240, xZero 0)) := by rw [eg1_49]; exact (xu_o (nK (by decide) _ _ _ _)).trans v52_g1_48
  have v53_g1_49 : g1_49 (53, 0, 0) = some (.inr (0, 240, xZero 0)) := by rw [eg1_49]; exact (xu_o (nK (by decide) _ _ _ _)).trans v53_g1_48
  have v54_g1_49 : g1_49 (54, 0, 0) = some (.inr (0, 240, xZero 0)) := by rw [eg1_49]; exact (xu_o (nK (by decide) _ _ _ _)).trans v54_g1_48
  have v55_g1_49 : g1_49 (55, 0, 0) = some (.inr (0, 240, xZero 0)) := by rw [eg1_49]; exact (xu_o (nK (by decide) _ _ _ _)).trans v55_g1_48
  have v56_g1_49 : g1_49 (56, 0, 0) = some (.inr (2, 240, xZero 2)) := by rw [eg1_49]; exact (xu_o (nK (by decide) _ _ _ _)).trans v56_g1_48
  have v57_g1_49 : g1_49 (57, 0, 0) = some (.inr (2, 6, xZero 2)) := by rw [eg1_49]; exact (xu_o (nK (by decide) _ _ _ _)).trans v57_g1_48
  have v58_g1_49 : g1_49 (58, 0, 0) = some (.inr (0, 4, xZero 0)) := by rw [eg1_49]; exact (xu_o (nK (by decide) _ _ _ _)).trans v58_g1_48
  have v59_g1_49 : g1_49 (59, 0, 0) = some (.inr (0, 4, xZero 0)) := by rw [eg1_49]; exact (xu_o (nK (by decide) _ _ _ _)).trans v59_g1_48
  have v60_g1_49 : g1_49 (60, 0, 0) = some (.inr (0, 4, xZero 0)) := by rw [eg1_49]; exact (xu_o (nK (by decide) _ _ _ _)).trans v60_g1_48
  have v61_g1_49 : g1_49 (61, 0, 0) = some (.inr (0, 4, xZero 0)) := by rw [eg1_49]; exact (xu_o (nK (by decide) _ _ _ _)).trans v61_g1_48
  have v62_g1_49 : g1_49 (62, 0, 0) = some (.inr (0, 30, xZero 0)) := by rw [eg1_49]; exact (xu_o (nK (by decide) _ _ _ _)).trans v62_g1_48
  have v63_g1_49 : g1_49 (63, 0, 0) = some (.inr (0, 90, xZero 0)) := by rw [eg1_49]; exact (xu_o (nK (by decide) _ _ _ _)).trans v63_g1_48
  have v64_g1_49 : g1_49 (64, 0, 0) = some (.inr (0, 10, xZero 0)) := by rw [eg1_49]; exact (xu_o (nK (by decide) _ _ _ _)).trans v64_g1_48
  have v65_g1_49 : g1_49 (65, 0, 0) = some (.inr (2, 30, xZero 2)) := by rw [eg1_49]; exact (xu_o (nK (by decide) _ _ _ _)).trans v65_g1_48
  have v66_g1_49 : g1_49 (66, 0, 0) = some (.inr (2, 10, xZero 2)) := by rw [eg1_49]; exact (xu_o (nK (by decide) _ _ _ _)).trans v66_g1_48
  have v67_g1_49 : g1_49 (67, 0, 0) = some (.inr (0, 25, xZero 0)) := by rw [eg1_49]; exact (xu_o (nK (by decide) _ _ _ _)).trans v67_g1_48
  have v68_g1_49 : g1_49 (68, 0, 0) = some (.inr (0, 5, xZero 0)) := by rw [eg1_49]; exact (xu_o (nK (by decide) _ _ _ _)).trans v68_g1_48
  have v69_g1_49 : g1_49 (69, 0, 0) = some (.inr (0, 5, xZero 0)) := by rw [eg1_49]; exact (xu_o (nK (by decide) _ _ _ _)).trans v69_g1_48
  have v80_g1_49 : g1_49 (80, 0, 0) = some (.inr (11, 5, .inr (.inr (.inr (fun b => some (81, b, 0)))))) := by rw [eg1_49]; exact (xu_o (nK (by decide) _ _ _ _)).trans v80_g1_48
  have dH_g1_49 : ∀ l : XL, ((l.1 = 81) ∧ dzz l) → g1_49 l = z0 l := by rw [eg1_49]; exact fun l hl => (xu_o (fun z => (fun z => by have z0 : (50 : Nat) = 81 := z.1; omega) (by rw [z] at hl; exact hl))).trans (dH_g1_48 l hl)
  have v70_g1_49 : g1_49 (70, 0, 0) = some (.inr (2, 320, xZero 2)) := by rw [eg1_49]; exact (xu_o (nK (by decide) _ _ _ _)).trans v70_g1_48
  have v71_g1_49 : g1_49 (71, 0, 0) = some (.inr (2, 10, xZero 2)) := by rw [eg1_49]; exact (xu_o (nK (by decide) _ _ _ _)).trans v71_g1_48
  have v72_g1_49 : g1_49 (72, 0, 0) = some (.inr (0, 6, xZero 0)) := by rw [eg1_49]; exact (xu_o (nK (by decide) _ _ _ _)).trans v72_g1_48
  have v73_g1_49 : g1_49 (73, 0, 0) = some (.inr (0, 384, xZero 0)) := by rw [eg1_49]; exact (xu_o (nK (by decide) _ _ _ _)).trans v73_g1_48
  have v50_g1_49 : g1_49 (50, 0, 0) = some (.inl (9, [xR (51, 0, 0), xR (52, 0, 0), xR (53, 0, 0), xR (54, 0, 0), xR (55, 0, 0), xR (56, 0, 0), xR (57, 0, 0), xR (58, 0, 0), xR (59, 0, 0), xR (60, 0, 0), xR (61, 0, 0), xI 1, xI 0, xI 0, xR (62, 0, 0), xR (63, 0, 0), xR (64, 0, 0), xR (65, 0, 0), xR (66, 0, 0), xR (67, 0, 0), xR (68, 0, 0), xR (69, 0, 0), xR (80, 0, 0), xR (70, 0, 0), xI 0, xI 0, xR (71, 0, 0), xR (72, 0, 0), xR (73, 0, 0), xN, xN])) := by rw [eg1_49]; exact xu_at
  refine x_aload_n dX9_init_206 rfl ?_
  refine x_iconst dX9_init_207 ?_
  refine x_newarray (74, 0, 0) (t := 0) (n := 3) (N := 3) dX9_init_208 rfl wd124 (f74_g1_49 _ ⟨(show (74 : Nat) = 74 by omega), (show (0 : Int) = 0 ∧ (0 : Int) = 0 from ⟨rfl, rfl⟩)⟩) (show (74 : Nat) ≠ 99 by decide) rfl (by decide) (by omega) (by omega) ?_
  refine x_hg (fun g1_50 eg1_50 => ?_)
  have f75_g1_50 : ∀ l : XL, ((l.1 = 75) ∧ dzz l) → g1_50 l = none := by rw [eg1_50]; exact fun l hl => (xu_o (fun z => (fun z => by have z0 : (74 : Nat) = 75 := z.1; omega) (by rw [z] at hl; exact hl))).trans (f75_g1_49 l hl)
  have fr_g1_50 : ∀ l : XL, ¬ (((50 ≤ l.1 ∧ l.1 ≤ 75) ∨ l.1 = 80 ∨ l.1 = 81) ∧ dzz l) → g1_50 l = g0 l := by rw [eg1_50]; exact fun l hl => (xu_o (fun z => hl (by rw [z]; exact ⟨(show (50 ≤ (74 : Nat) ∧ (74 : Nat) ≤ 75) ∨ (74 : Nat) = 80 ∨ (74 : Nat) = 81 by omega), (show (0 : Int) = 0 ∧ (0 : Int) = 0 from ⟨rfl, rfl⟩)⟩))).trans (fr_g1_49 l hl)
  have v51_g1_50 : g1_50 (51, 0, 0) = some (.inr (3, 240, xZero 3)) := by rw [eg1_50]; exact (xu_o (nK (by decide) _ _ _ _)).trans v51_g1_49
  have v52_g1_50 : g1_50 (52, 0, 0) = some (.inr (0, 240, xZero 0)) := by rw [eg1_50]; exact (xu_o (nK (by decide) _ _ _ _)).trans v52_g1_49
  have v53_g1_50 : g1_50 (53, 0, 0) = some (.inr (0, 240, xZero 0)) := by rw [eg1_50]; exact (xu_o (nK (by decide) _ _ _ _)).trans v53_g1_49
  have v54_g1_50 : g1_50 (54, 0, 0) = some (.inr (0, 240, xZero 0)) := by rw [eg1_50]; exact (xu_o (nK (by decide) _ _ _ _)).trans v54_g1_49
  have v55_g1_50 : g1_50 (55, 0, 0) = some (.inr (0, 240, xZero 0)) := by rw [eg1_50]; exact (xu_o (nK (by decide) _ _ _ _)).trans v55_g1_49
  have v56_g1_50 : g1_50 (56, 0, 0) = some (.inr (2, 240, xZero 2)) := by rw [eg1_50]; exact (xu_o (nK (by decide) _ _ _ _)).trans v56_g1_49
  have v57_g1_50 : g1_50 (57, 0, 0) = some (.inr (2, 6, xZero 2)) := by rw [eg1_50]; exact (xu_o (nK (by decide) _ _ _ _)).trans v57_g1_49
  have v58_g1_50 : g1_50 (58, 0, 0) = some (.inr (0, 4, xZero 0)) := by rw [eg1_50]; exact (xu_o (nK (by decide) _ _ _ _)).trans v58_g1_49
  have v59_g1_50 : g1_50 (59, 0, 0) = some (.inr (0, 4, xZero 0)) := by rw [eg1_50]; exact (xu_o (nK (by decide) _ _ _ _)).trans v59_g1_49
  have v60_g1_50 : g1_50 (60, 0, 0) = some (.inr (0, 4, xZero 0)) := by rw [eg1_50]; exact (xu_o (nK (by decide) _ _ _ _)).trans v60_g1_49
  have v61_g1_50 : g1_50 (61, 0, 0) = some (.inr (0, 4, xZero 0)) := by rw [eg1_50]; exact (xu_o (nK (by decide) _ _ _ _)).trans v61_g1_49
  have v62_g1_50 : g1_50 (62, 0, 0) = some (.inr (0, 30, xZero 0)) := by rw [eg1_50]; exact (xu_o (nK (by decide) _ _ _ _)).trans v62_g1_49
  have v63_g1_50 : g1_50 (63, 0, 0) = some (.inr (0, 90, xZero 0)) := by rw [eg1_50]; exact (xu_o (nK (by decide) _ _ _ _)).trans v63_g1_49
  have v64_g1_50 : g1_50 (64, 0, 0) = some (.inr (0, 10, xZero 0)) := by rw [eg1_50]; exact (xu_o (nK (by decide) _ _ _ _)).trans v64_g1_49
  have v65_g1_50 : g1_50 (65, 0, 0) = some (.inr (2, 30, xZero 2)) := by rw [eg1_50]; exact (xu_o (nK (by decide) _ _ _ _)).trans v65_g1_49
  have v66_g1_50 : g1_50 (66, 0, 0) = some (.inr (2, 10, xZero 2)) := by rw [eg1_50]; exact (xu_o (nK (by decide) _ _ _ _)).trans v66_g1_49
  have v67_g1_50 : g1_50 (67, 0, 0) = some (.inr (0, 25, xZero 0)) := by rw [eg1_50]; exact (xu_o (nK (by decide) _ _ _ _)).trans v67_g1_49
  have v68_g1_50 : g1_50 (68, 0, 0) = some (.inr (0, 5, xZero 0)) := by rw [eg1_50]; exact (xu_o (nK (by decide) _ _ _ _)).trans v68_g1_49
  have v69_g1_50 : g1_50 (69, 0, 0) = some (.inr (0, 5, xZero 0)) := by rw [eg1_50]; exact (xu_o (nK (by decide) _ _ _ _)).trans v69_g1_49
  have v80_g1_50 : g1_50 (80, 0, 0) = some (.inr (11, 5, .inr (.inr (.inr (fun b => some (81, b, 0)))))) := by rw [eg1_50]; exact (xu_o (nK (by decide) _ _ _ _)).trans v80_g1_49
  have dH_g1_50 : ∀ l : XL, ((l.1 = 81) ∧ dzz l) → g1_50 l = z0 l := by rw [eg1_50]; exact fun l hl => (xu_o (fun z => (fun z => by have z0 : (74 : Nat) = 81 := z.1; omega) (by rw [z] at hl; exact hl))).trans (dH_g1_49 l hl)
  have v70_g1_50 : g1_50 (70, 0, 0) = some (.inr (2, 320, xZero 2)) := by rw [eg1_50]; exact (xu_o (nK (by decide) _ _ _ _)).trans v70_g1_49
  have v71_g1_50 : g1_50 (71, 0, 0) = some (.inr (2, 10, xZero 2)) := by rw [eg1_50]; exact (xu_o (nK (by decide) _ _ _ _)).trans v71_g1_49
  have v72_g1_50 : g1_50 (72, 0, 0) = some (.inr (0, 6, xZero 0)) := by rw [eg1_50]; exact (xu_o (nK (by decide) _ _ _ _)).trans v72_g1_49
  have v73_g1_50 : g1_50 (73, 0, 0) = some (.inr (0, 384, xZero 0)) := by rw [eg1_50]; exact (xu_o (nK (by decide) _ _ _ _)).trans v73_g1_49
  have v50_g1_50 : g1_50 (50, 0, 0) = some (.inl (9, [xR (51, 0, 0), xR (52, 0, 0), xR (53, 0, 0), xR (54, 0, 0), xR (55, 0, 0), xR (56, 0, 0), xR (57, 0, 0), xR (58, 0, 0), xR (59, 0, 0), xR (60, 0, 0), xR (61, 0, 0), xI 1, xI 0, xI 0, xR (62, 0, 0), xR (63, 0, 0), xR (64, 0, 0), xR (65, 0, 0), xR (66, 0, 0), xR (67, 0, 0), xR (68, 0, 0), xR (69, 0, 0), xR (80, 0, 0), xR (70, 0, 0), xI 0, xI 0, xR (71, 0, 0), xR (72, 0, 0), xR (73, 0, 0), xN, xN])) := by rw [eg1_50]; exact (xu_o (nK (by decide) _ _ _ _)).trans v50_g1_49
  have v74_g1_50 : g1_50 (74, 0, 0) = some (.inr (0, 3, xZero 0)) := by rw [eg1_50]; exact xu_at
  refine x_putF dX9_init_210 fl_RX9_90 (fun r hr => by cases hr; exact ⟨rfl, rfl⟩) v50_g1_50 xfit_a (Nat.le_of_ble_eq_true rfl) rfl rfl ?_
  refine x_hg (fun g1_51 eg1_51 => ?_)
  have f75_g1_51 : ∀ l : XL, ((l.1 = 75) ∧ dzz l) → g1_51 l = none := by rw [eg1_51]; exact fun l hl => (xu_o (fun z => (fun z => by have z0 : (50 : Nat) = 75 := z.1; omega) (by rw [z] at hl; exact hl))).trans (f75_g1_50 l hl)
  have fr_g1_51 : ∀ l : XL, ¬ (((50 ≤ l.1 ∧ l.1 ≤ 75) ∨ l.1 = 80 ∨ l.1 = 81) ∧ dzz l) → g1_51 l = g0 l := by rw [eg1_51]; exact fun l hl => (xu_o (fun z => hl (by rw [z]; exact ⟨(show (50 ≤ (50 : Nat) ∧ (50 : Nat) ≤ 75) ∨ (50 : Nat) = 80 ∨ (50 : Nat) = 81 by omega), (show (0 : Int) = 0 ∧ (0 : Int) = 0 from ⟨rfl, rfl⟩)⟩))).trans (fr_g1_50 l hl)
  have v51_g1_51 : g1_51 (51, 0, 0) = some (.inr (3, 240, xZero 3)) := by rw [eg1_51]; exact (xu_o (nK (by decide) _ _ _ _)).trans v51_g1_50
  have v52_g1_51 : g1_51 (52, 0, 0) = some (.inr (0, 240, xZero 0)) := by rw [eg1_51]; exact (xu_o (nK (by decide) _ _ _ _)).trans v52_g1_50
  have v53_g1_51 : g1_51 (53, 0, 0) = some (.inr (0, 240, xZero 0)) := by rw [eg1_51]; exact (xu_o (nK (by decide) _ _ _ _)).trans v53_g1_50
  have v54_g1_51 : g1_51 (54, 0, 0) = some (.inr (0, 240, xZero 0)) := by rw [eg1_51]; exact (xu_o (nK (by decide) _ _ _ _)).trans v54_g1_50
  have v55_g1_51 : g1_51 (55, 0, 0) = some (.inr (0, 240, xZero 0)) := by rw [eg1_51]; exact (xu_o (nK (by decide) _ _ _ _)).trans v55_g1_50
  have v56_g1_51 : g1_51 (56, 0, 0) = some (.inr (2, 240, xZero 2)) := by rw [eg1_51]; exact (xu_o (nK (by decide) _ _ _ _)).trans v56_g1_50
  have v57_g1_51 : g1_51 (57, 0, 0) = some (.inr (2, 6, xZero 2)) := by rw [eg1_51]; exact (xu_o (nK (by decide) _ _ _ _)).trans v57_g1_50
  have v58_g1_51 : g1_51 (58, 0, 0) = some (.inr (0, 4, xZero 0)) := by rw [eg1_51]; exact (xu_o (nK (by decide) _ _ _ _)).trans v58_g1_50
  have v59_g1_51 : g1_51 (59, 0, 0) = some (.inr (0, 4, xZero 0)) := by rw [eg1_51]; exact (xu_o (nK (by decide) _ _ _ _)).trans v59_g1_50
  have v60_g1_51 : g1_51 (60, 0, 0) = some (.inr (0, 4, xZero 0)) := by rw [eg1_51]; exact (xu_o (nK (by decide) _ _ _ _)).trans v60_g1_50
  have v61_g1_51 : g1_51 (61, 0, 0) = some (.inr (0, 4, xZero 0)) := by rw [eg1_51]; exact (xu_o (nK (by decide) _ _ _ _)).trans v61_g1_50
  have v62_g1_51 : g1_51 (62, 0, 0) = some (.inr (0, 30, xZero 0)) := by rw [eg1_51]; exact (xu_o (nK (by decide) _ _ _ _)).trans v62_g1_50
  have v63_g1_51 : g1_51 (63, 0, 0) = some (.inr (0, 90, xZero 0)) := by rw [eg1_51]; exact (xu_o (nK (by decide) _ _ _ _)).trans v63_g1_50
  have v64_g1_51 : g1_51 (64, 0, 0) = some (.inr (0, 10, xZero 0)) := by rw [eg1_51]; exact (xu_o (nK (by decide) _ _ _ _)).trans v64_g1_50
  have v65_g1_51 : g1_51 (65, 0, 0) = some (.inr (2, 30, xZero 2)) := by rw [eg1_51]; exact (xu_o (nK (by decide) _ _ _ _)).trans v65_g1_50
  have v66_g1_51 : g1_51 (66, 0, 0) = some (.inr (2, 10, xZero 2)) := by rw [eg1_51]; exact (xu_o (nK (by decide) _ _ _ _)).trans v66_g1_50
  have v67_g1_51 : g1_51 (67, 0, 0) = some (.inr (0, 25, xZero 0)) := by rw [eg1_51]; exact (xu_o (nK (by decide) _ _ _ _)).trans v67_g1_50
  have v68_g1_51 : g1_51 (68, 0, 0) = some (.inr (0, 5, xZero 0)) := by rw [eg1_51]; exact (xu_o (nK (by decide) _ _ _ _)).trans v68_g1_50
  have v69_g1_51 : g1_51 (69, 0, 0) = some (.inr (0, 5, xZero 0)) := by rw [eg1_51]; exact (xu_o (nK (by decide) _ _ _ _)).trans v69_g1_50
  have v80_g1_51 : g1_51 (80, 0, 0) = some (.inr (11, 5, .inr (.inr (.inr (fun b => some (81, b, 0)))))) := by rw [eg1_51]; exact (xu_o (nK (by decide) _ _ _ _)).trans v80_g1_50
  have dH_g1_51 : ∀ l : XL, ((l.1 = 81) ∧ dzz l) → g1_51 l = z0 l := by rw [eg1_51]; exact fun l hl => (xu_o (fun z => (fun z => by have z0 : (50 : Nat) = 81 := z.1; omega) (by rw [z] at hl; exact hl))).trans (dH_g1_50 l hl)
  have v70_g1_51 : g1_51 (70, 0, 0) = some (.inr (2, 320, xZero 2)) := by rw [eg1_51]; exact (xu_o (nK (by decide) _ _ _ _)).trans v70_g1_50
  have v71_g1_51 : g1_51 (71, 0, 0) = some (.inr (2, 10, xZero 2)) := by rw [eg1_51]; exact (xu_o (nK (by decide) _ _ _ _)).trans v71_g1_50
  have v72_g1_51 : g1_51 (72, 0, 0) = some (.inr (0, 6, xZero 0)) := by rw [eg1_51]; exact (xu_o (nK (by decide) _ _ _ _)).trans v72_g1_50
  have v73_g1_51 : g1_51 (73, 0, 0) = some (.inr (0, 384, xZero 0)) := by rw [eg1_51]; exact (xu_o (nK (by decide) _ _ _ _)).trans v73_g1_50
  have v74_g1_51 : g1_51 (74, 0, 0) = some (.inr (0, 3, xZero 0)) := by rw [eg1_51]; exact (xu_o (nK (by decide) _ _ _ _)).trans v74_g1_50
  have v50_g1_51 : g1_51 (50, 0, 0) = some (.inl (9, [xR (51, 0, 0), xR (52, 0, 0), xR (53, 0, 0), xR (54, 0, 0), xR (55, 0, 0), xR (56, 0, 0), xR (57, 0, 0), xR (58, 0, 0), xR (59, 0, 0), xR (60, 0, 0), xR (61, 0, 0), xI 1, xI 0, xI 0, xR (62, 0, 0), xR (63, 0, 0), xR (64, 0, 0), xR (65, 0, 0), xR (66, 0, 0), xR (67, 0, 0), xR (68, 0, 0), xR (69, 0, 0), xR (80, 0, 0), xR (70, 0, 0), xI 0, xI 0, xR (71, 0, 0), xR (72, 0, 0), xR (73, 0, 0), xR (74, 0, 0), xN])) := by rw [eg1_51]; exact xu_at
  refine x_aload_n dX9_init_213 rfl ?_
  refine x_sipush (v := 384) dX9_init_214 (by decide) ?_
  refine x_newarray (75, 0, 0) (t := 2) (n := 384) (N := 384) dX9_init_217 rfl wd123 (f75_g1_51 _ ⟨(show (75 : Nat) = 75 by omega), (show (0 : Int) = 0 ∧ (0 : Int) = 0 from ⟨rfl, rfl⟩)⟩) (show (75 : Nat) ≠ 99 by decide) rfl (by decide) (by omega) (by omega) ?_
  refine x_hg (fun g1_52 eg1_52 => ?_)
  have fr_g1_52 : ∀ l : XL, ¬ (((50 ≤ l.1 ∧ l.1 ≤ 75) ∨ l.1 = 80 ∨ l.1 = 81) ∧ dzz l) → g1_52 l = g0 l := by rw [eg1_52]; exact fun l hl => (xu_o (fun z => hl (by rw [z]; exact ⟨(show (50 ≤ (75 : Nat) ∧ (75 : Nat) ≤ 75) ∨ (75 : Nat) = 80 ∨ (75 : Nat) = 81 by omega), (show (0 : Int) = 0 ∧ (0 : Int) = 0 from ⟨rfl, rfl⟩)⟩))).trans (fr_g1_51 l hl)
  have v51_g1_52 : g1_52 (51, 0, 0) = some (.inr (3, 240, xZero 3)) := by rw [eg1_52]; exact (xu_o (nK (by decide) _ _ _ _)).trans v51_g1_51
  have v52_g1_52 : g1_52 (52, 0, 0) = some (.inr (0, 240, xZero 0)) := by rw [eg1_52]; exact (xu_o (nK (by decide) _ _ _ _)).trans v52_g1_51
  have v53_g1_52 : g1_52 (53, 0, 0) = some (.inr (0, 240, xZero 0)) := by rw [eg1_52]; exact (xu_o (nK (by decide) _ _ _ _)).trans v53_g1_51
  have v54_g1_52 : g1_52 (54, 0, 0) = some (.inr (0, 240, xZero 0)) := by rw [eg1_52]; exact (xu_o (nK (by decide) _ _ _ _)).trans v54_g1_51
  have v55_g1_52 : g1_52 (55, 0, 0) = some (.inr (0, 240, xZero 0)) := by rw [eg1_52]; exact (xu_o (nK (by decide) _ _ _ _)).trans v55_g1_51
  have v56_g1_52 : g1_52 (56, 0, 0) = some (.inr (2, 240, xZero 2)) := by rw [eg1_52]; exact (xu_o (nK (by decide) _ _ _ _)).trans v56_g1_51
  have v57_g1_52 : g1_52 (57, 0, 0) = some (.inr (2, 6, xZero 2)) := by rw [eg1_52]; exact (xu_o (nK (by decide) _ _ _ _)).trans v57_g1_51
  have v58_g1_52 : g1_52 (58, 0, 0) = some (.inr (0, 4, xZero 0)) := by rw [eg1_52]; exact (xu_o (nK (by decide) _ _ _ _)).trans v58_g1_51
  have v59_g1_52 : g1_52 (59, 0, 0) = some (.inr (0, 4, xZero 0)) := by rw [eg1_52]; exact (xu_o (nK (by decide) _ _ _ _)).trans v59_g1_51
  have v60_g1_52 : g1_52 (60, 0, 0) = some (.inr (0, 4, xZero 0)) := by rw [eg1_52]; exact (xu_o (nK (by decide) _ _ _ _)).trans v60_g1_51
  have v61_g1_52 : g1_52 (61, 0, 0) = some (.inr (0, 4, xZero 0)) := by rw [eg1_52]; exact (xu_o (nK (by decide) _ _ _ _)).trans v61_g1_51
  have v62_g1_52 : g1_52 (62, 0, 0) = some (.inr (0, 30, xZero 0)) := by rw [eg1_52]; exact (xu_o (nK (by decide) _ _ _ _)).trans v62_g1_51
  have v63_g1_52 : g1_52 (63, 0, 0) = some (.inr (0, 90, xZero 0)) := by rw [eg1_52]; exact (xu_o (nK (by decide) _ _ _ _)).trans v63_g1_51
  have v64_g1_52 : g1_52 (64, 0, 0) = some (.inr (0, 10, xZero 0)) := by rw [eg1_52]; exact (xu_o (nK (by decide) _ _ _ _)).trans v64_g1_51
  have v65_g1_52 : g1_52 (65, 0, 0) = some (.inr (2, 30, xZero 2)) := by rw [eg1_52]; exact (xu_o (nK (by decide) _ _ _ _)).trans v65_g1_51
  have v66_g1_52 : g1_52 (66, 0, 0) = some (.inr (2, 10, xZero 2)) := by rw [eg1_52]; exact (xu_o (nK (by decide) _ _ _ _)).trans v66_g1_51
  have v67_g1_52 : g1_52 (67, 0, 0) = some (.inr (0, 25, xZero 0)) := by rw [eg1_52]; exact (xu_o (nK (by decide) _ _ _ _)).trans v67_g1_51
  have v68_g1_52 : g1_52 (68, 0, 0) = some (.inr (0, 5, xZero 0)) := by rw [eg1_52]; exact (xu_o (nK (by decide) _ _ _ _)).trans v68_g1_51
  have v69_g1_52 : g1_52 (69, 0, 0) = some (.inr (0, 5, xZero 0)) := by rw [eg1_52]; exact (xu_o (nK (by decide) _ _ _ _)).trans v69_g1_51
  have v80_g1_52 : g1_52 (80, 0, 0) = some (.inr (11, 5, .inr (.inr (.inr (fun b => some (81, b, 0)))))) := by rw [eg1_52]; exact (xu_o (nK (by decide) _ _ _ _)).trans v80_g1_51
  have dH_g1_52 : ∀ l : XL, ((l.1 = 81) ∧ dzz l) → g1_52 l = z0 l := by rw [eg1_52]; exact fun l hl => (xu_o (fun z => (fun z => by have z0 : (75 : Nat) = 81 := z.1; omega) (by rw [z] at hl; exact hl))).trans (dH_g1_51 l hl)
  have v70_g1_52 : g1_52 (70, 0, 0) = some (.inr (2, 320, xZero 2)) := by rw [eg1_52]; exact (xu_o (nK (by decide) _ _ _ _)).trans v70_g1_51
  have v71_g1_52 : g1_52 (71, 0, 0) = some (.inr (2, 10, xZero 2)) := by rw [eg1_52]; exact (xu_o (nK (by decide) _ _ _ _)).trans v71_g1_51
  have v72_g1_52 : g1_52 (72, 0, 0) = some (.inr (0, 6, xZero 0)) := by rw [eg1_52]; exact (xu_o (nK (by decide) _ _ _ _)).trans v72_g1_51
  have v73_g1_52 : g1_52 (73, 0, 0) = some (.inr (0, 384, xZero 0)) := by rw [eg1_52]; exact (xu_o (nK (by decide) _ _ _ _)).trans v73_g1_51
  have v74_g1_52 : g1_52 (74, 0, 0) = some (.inr (0, 3, xZero 0)) := by rw [eg1_52]; exact (xu_o (nK (by decide) _ _ _ _)).trans v74_g1_51
  have v50_g1_52 : g1_52 (50, 0, 0) = some (.inl (9, [xR (51, 0, 0), xR (52, 0, 0), xR (53, 0, 0), xR (54, 0, 0), xR (55, 0, 0), xR (56, 0, 0), xR (57, 0, 0), xR (58, 0, 0), xR (59, 0, 0), xR (60, 0, 0), xR (61, 0, 0), xI 1, xI 0, xI 0, xR (62, 0, 0), xR (63, 0, 0), xR (64, 0, 0), xR (65, 0, 0), xR (66, 0, 0), xR (67, 0, 0), xR (68, 0, 0), xR (69, 0, 0), xR (80, 0, 0), xR (70, 0, 0), xI 0, xI 0, xR (71, 0, 0), xR (72, 0, 0), xR (73, 0, 0), xR (74, 0, 0), xN])) := by rw [eg1_52]; exact (xu_o (nK (by decide) _ _ _ _)).trans v50_g1_51
  have v75_g1_52 : g1_52 (75, 0, 0) = some (.inr (2, 384, xZero 2)) := by rw [eg1_52]; exact xu_at
  refine x_putF dX9_init_219 fl_RX9_93 (fun r hr => by cases hr; exact ⟨rfl, rfl⟩) v50_g1_52 xfit_a (Nat.le_of_ble_eq_true rfl) rfl rfl ?_
  refine x_hg (fun g1_53 eg1_53 => ?_)
  have fr_g1_53 : ∀ l : XL, ¬ (((50 ≤ l.1 ∧ l.1 ≤ 75) ∨ l.1 = 80 ∨ l.1 = 81) ∧ dzz l) → g1_53 l = g0 l := by rw [eg1_53]; exact fun l hl => (xu_o (fun z => hl (by rw [z]; exact ⟨(show (50 ≤ (50 : Nat) ∧ (50 : Nat) ≤ 75) ∨ (50 : Nat) = 80 ∨ (50 : Nat) = 81 by omega), (show (0 : Int) = 0 ∧ (0 : Int) = 0 from ⟨rfl, rfl⟩)⟩))).trans (fr_g1_52 l hl)
  have v51_g1_53 : g1_53 (51, 0, 0) = some (.inr (3, 240, xZero 3)) := by rw [eg1_53]; exact (xu_o (nK (by decide) _ _ _ _)).trans v51_g1_52
  have v52_g1_53 : g1_53 (52, 0, 0) = some (.inr (0, 240, xZero 0)) := by rw [eg1_53]; exact (xu_o (nK (by decide) _ _ _ _)).trans v52_g1_52
  have v53_g1_53 : g1_53 (53, 0, 0) = some (.inr (0, 240, xZero 0)) := by rw [eg1_53]; exact (xu_o (nK (by decide) _ _ _ _)).trans v53_g1_52
  have v54_g1_53 : g1_53 (54, 0, 0) = some (.inr (0, 240, xZero 0)) := by rw [eg1_53]; exact (xu_o (nK (by decide) _ _ _ _)).trans v54_g1_52
  have v55_g1_53 : g1_53 (55, 0, 0) = some (.inr (0, 240, xZero 0)) := by rw [eg1_53]; exact (xu_o (nK (by decide) _ _ _ _)).trans v55_g1_52
  have v56_g1_53 : g1_53 (56, 0, 0) = some (.inr (2, 240, xZero 2)) := by rw [eg1_53]; exact (xu_o (nK (by decide) _ _ _ _)).trans v56_g1_52
  have v57_g1_53 : g1_53 (57, 0, 0) = some (.inr (2, 6, xZero 2)) := by rw [eg1_53]; exact (xu_o (nK (by decide) _ _ _ _)).trans v57_g1_52
  have v58_g1_53 : g1_53 (58, 0, 0) = some (.inr (0, 4, xZero 0)) := by rw [eg1_53]; exact (xu_o (nK (by decide) _ _ _ _)).trans v58_g1_52
  have v59_g1_53 : g1_53 (59, 0, 0) = some (.inr (0, 4, xZero 0)) := by rw [eg1_53]; exact (xu_o (nK (by decide) _ _ _ _)).trans v59_g1_52
  have v60_g1_53 : g1_53 (60, 0, 0) = some (.inr (0, 4, xZero 0)) := by rw [eg1_53]; exact (xu_o (nK (by decide) _ _ _ _)).trans v60_g1_52
  have v61_g1_53 : g1_53 (61, 0, 0) = some (.inr (0, 4, xZero 0)) := by rw [eg1_53]; exact (xu_o (nK (by decide) _ _ _ _)).trans v61_g1_52
  have v62_g1_53 : g1_53 (62, 0, 0) = some (.inr (0, 30, xZero 0)) := by rw [eg1_53]; exact (xu_o (nK (by decide) _ _ _ _)).trans v62_g1_52
  have v63_g1_53 : g1_53 (63, 0, 0) = some (.inr (0, 90, xZero 0)) := by rw [eg1_53]; exact (xu_o (nK (by decide) _ _ _ _)).trans v63_g1_52
  have v64_g1_53 : g1_53 (64, 0, 0) = some (.inr (0, 10, xZero 0)) := by rw [eg1_53]; exact (xu_o (nK (by decide) _ _ _ _)).trans v64_g1_52
  have v65_g1_53 : g1_53 (65, 0, 0) = some (.inr (2, 30, xZero 2)) := by rw [eg1_53]; exact (xu_o (nK (by decide) _ _ _ _)).trans v65_g1_52
  have v66_g1_53 : g1_53 (66, 0, 0) = some (.inr (2, 10, xZero 2)) := by rw [eg1_53]; exact (xu_o (nK (by decide) _ _ _ _)).trans v66_g1_52
  have v67_g1_53 : g1_53 (67, 0, 0) = some (.inr (0, 25, xZero 0)) := by rw [eg1_53]; exact (xu_o (nK (by decide) _ _ _ _)).trans v67_g1_52
  have v68_g1_53 : g1_53 (68, 0, 0) = some (.inr (0, 5, xZero 0)) := by rw [eg1_53]; exact (xu_o (nK (by decide) _ _ _ _)).trans v68_g1_52
  have v69_g1_53 : g1_53 (69, 0, 0) = some (.inr (0, 5, xZero 0)) := by rw [eg1_53]; exact (xu_o (nK (by decide) _ _ _ _)).trans v69_g1_52
  have v80_g1_53 : g1_53 (80, 0, 0) = some (.inr (11, 5, .inr (.inr (.inr (fun b => some (81, b, 0)))))) := by rw [eg1_53]; exact (xu_o (nK (by decide) _ _ _ _)).trans v80_g1_52
  have dH_g1_53 : ∀ l : XL, ((l.1 = 81) ∧ dzz l) → g1_53 l = z0 l := by rw [eg1_53]; exact fun l hl => (xu_o (fun z => (fun z => by have z0 : (50 : Nat) = 81 := z.1; omega) (by rw [z] at hl; exact hl))).trans (dH_g1_52 l hl)
  have v70_g1_53 : g1_53 (70, 0, 0) = some (.inr (2, 320, xZero 2)) := by rw [eg1_53]; exact (xu_o (nK (by decide) _ _ _ _)).trans v70_g1_52
  have v71_g1_53 : g1_53 (71, 0, 0) = some (.inr (2, 10, xZero 2)) := by rw [eg1_53]; exact (xu_o (nK (by decide) _ _ _ _)).trans v71_g1_52
  have v72_g1_53 : g1_53 (72, 0, 0) = some (.inr (0, 6, xZero 0)) := by rw [eg1_53]; exact (xu_o (nK (by decide) _ _ _ _)).trans v72_g1_52
  have v73_g1_53 : g1_53 (73, 0, 0) = some (.inr (0, 384, xZero 0)) := by rw [eg1_53]; exact (xu_o (nK (by decide) _ _ _ _)).trans v73_g1_52
  have v74_g1_53 : g1_53 (74, 0, 0) = some (.inr (0, 3, xZero 0)) := by rw [eg1_53]; exact (xu_o (nK (by decide) _ _ _ _)).trans v74_g1_52
  have v75_g1_53 : g1_53 (75, 0, 0) = some (.inr (2, 384, xZero 2)) := by rw [eg1_53]; exact (xu_o (nK (by decide) _ _ _ _)).trans v75_g1_52
  have v50_g1_53 : g1_53 (50, 0, 0) = some (.inl (9, [xR (51, 0, 0), xR (52, 0, 0), xR (53, 0, 0), xR (54, 0, 0), xR (55, 0, 0), xR (56, 0, 0), xR (57, 0, 0), xR (58, 0, 0), xR (59, 0, 0), xR (60, 0, 0), xR (61, 0, 0), xI 1, xI 0, xI 0, xR (62, 0, 0), xR (63, 0, 0), xR (64, 0, 0), xR (65, 0, 0), xR (66, 0, 0), xR (67, 0, 0), xR (68, 0, 0), xR (69, 0, 0), xR (80, 0, 0), xR (70, 0, 0), xI 0, xI 0, xR (71, 0, 0), xR (72, 0, 0), xR (73, 0, 0), xR (74, 0, 0), xR (75, 0, 0)])) := by rw [eg1_53]; exact xu_at
  exact x_vret dX9_init_222 rfl ⟨rfl, fun l hl => (by
        obtain ⟨k, a, c⟩ := l
        obtain ⟨hk, hd⟩ := hl
        have hk2 : (50 ≤ k ∧ k ≤ 75) ∨ k = 80 ∨ k = 81 := hk
        have hk3 : k = 50 ∨ k = 51 ∨ k = 52 ∨ k = 53 ∨ k = 54 ∨ k = 55 ∨ k = 56 ∨ k = 57 ∨ k = 58 ∨ k = 59 ∨ k = 60 ∨ k = 61 ∨ k = 62 ∨ k = 63 ∨ k = 64 ∨ k = 65 ∨ k = 66 ∨ k = 67 ∨ k = 68 ∨ k = 69 ∨ k = 70 ∨ k = 71 ∨ k = 72 ∨ k = 73 ∨ k = 74 ∨ k = 75 ∨ k = 80 ∨ k = 81 := by omega
        rcases hk3 with rfl | rfl | rfl | rfl | rfl | rfl | rfl | rfl | rfl | rfl | rfl | rfl | rfl | rfl | rfl | rfl | rfl | rfl | rfl | rfl | rfl | rfl | rfl | rfl | rfl | rfl | rfl | rfl
        · obtain ⟨d1, d2⟩ : a = 0 ∧ c = 0 := hd
          subst d1; subst d2; rw [v50_g1_53]; exact (hp50 (iS 0 (fun _ => 0))).symm
        · obtain ⟨d1, d2⟩ : a = 0 ∧ c = 0 := hd
          subst d1; subst d2; rw [v51_g1_53]; exact (hp51 (iS 0 (fun _ => 0))).symm
        · obtain ⟨d1, d2⟩ : a = 0 ∧ c = 0 := hd
          subst d1; subst d2; rw [v52_g1_53]; exact (hp52 (iS 0 (fun _ => 0))).symm
        · obtain ⟨d1, d2⟩ : a = 0 ∧ c = 0 := hd
          subst d1; subst d2; rw [v53_g1_53]; exact (hp53 (iS 0 (fun _ => 0))).symm
        · obtain ⟨d1, d2⟩ : a = 0 ∧ c = 0 := hd
          subst d1; subst d2; rw [v54_g1_53]; exact (hp54 (iS 0 (fun _ => 0))).symm
        · obtain ⟨d1, d2⟩ : a = 0 ∧ c = 0 := hd
          subst d1; subst d2; rw [v55_g1_53]; exact (hp55 (iS 0 (fun _ => 0))).symm
        · obtain ⟨d1, d2⟩ : a = 0 ∧ c = 0 := hd
          subst d1; subst d2; rw [v56_g1_53]; exact (hp56 (iS 0 (fun _ => 0))).symm
        · obtain ⟨d1, d2⟩ : a = 0 ∧ c = 0 := hd
          subst d1; subst d2; rw [v57_g1_53]; exact (hp57 (iS 0 (fun _ => 0))).symm
        · obtain ⟨d1, d2⟩ : a = 0 ∧ c = 0 := hd
          subst d1; subst d2; rw [v58_g1_53]; exact (hp58 (iS 0 (fun _ => 0))).symm
        · obtain ⟨d1, d2⟩ : a = 0 ∧ c = 0 := hd
          subst d1; subst d2; rw [v59_g1_53]; exact (hp59 (iS 0 (fun _ => 0))).symm
        · obtain ⟨d1, d2⟩ : a = 0 ∧ c = 0 := hd
          subst d1; subst d2; rw [v60_g1_53]; exact (hp60 (iS 0 (fun _ => 0))).symm
        · obtain ⟨d1, d2⟩ : a = 0 ∧ c = 0 := hd
          subst d1; subst d2; rw [v61_g1_53]; exact (hp61 (iS 0 (fun _ => 0))).symm
        · obtain ⟨d1, d2⟩ : a = 0 ∧ c = 0 := hd
          subst d1; subst d2; rw [v62_g1_53]; exact (hp62 (iS 0 (fun _ => 0))).symm
        · obtain ⟨d1, d2⟩ : a = 0 ∧ c = 0 := hd
          subst d1; subst d2; rw [v63_g1_53]; exact (hp63 (iS 0 (fun _ => 0))).symm
        · obtain ⟨d1, d2⟩ : a = 0 ∧ c = 0 := hd
          subst d1; subst d2; rw [v64_g1_53]; exact (hp64 (iS 0 (fun _ => 0))).symm
        · obtain ⟨d1, d2⟩ : a = 0 ∧ c = 0 := hd
          subst d1; subst d2; rw [v65_g1_53]; exact (hp65 (iS 0 (fun _ => 0))).symm
        · obtain ⟨d1, d2⟩ : a = 0 ∧ c = 0 := hd
          subst d1; subst d2; rw [v66_g1_53]; exact (hp66 (iS 0 (fun _ => 0))).symm
        · obtain ⟨d1, d2⟩ : a = 0 ∧ c = 0 := hd
          subst d1; subst d2; rw [v67_g1_53]; exact (hp67 (iS 0 (fun _ => 0))).symm
        · obtain ⟨d1, d2⟩ : a = 0 ∧ c = 0 := hd
          subst d1; subst d2; rw [v68_g1_53]; exact (hp68 (iS 0 (fun _ => 0))).symm
        · obtain ⟨d1, d2⟩ : a = 0 ∧ c = 0 := hd
          subst d1; subst d2; rw [v69_g1_53]; exact (hp69 (iS 0 (fun _ => 0))).symm
        · obtain ⟨d1, d2⟩ : a = 0 ∧ c = 0 := hd
          subst d1; subst d2; rw [v70_g1_53]; exact (hp70 (iS 0 (fun _ => 0))).symm
        · obtain ⟨d1, d2⟩ : a = 0 ∧ c = 0 := hd
          subst d1; subst d2; rw [v71_g1_53]; exact (hp71 (iS 0 (fun _ => 0))).symm
        · obtain ⟨d1, d2⟩ : a = 0 ∧ c = 0 := hd
          subst d1; subst d2; rw [v72_g1_53]; exact (hp72 (iS 0 (fun _ => 0))).symm
        · obtain ⟨d1, d2⟩ : a = 0 ∧ c = 0 := hd
          subst d1; subst d2; rw [v73_g1_53]; exact (hp73 (iS 0 (fun _ => 0))).symm
        · obtain ⟨d1, d2⟩ : a = 0 ∧ c = 0 := hd
          subst d1; subst d2; rw [v74_g1_53]; exact (hp74 (iS 0 (fun _ => 0))).symm
        · obtain ⟨d1, d2⟩ : a = 0 ∧ c = 0 := hd
          subst d1; subst d2; rw [v75_g1_53]; exact (hp75 (iS 0 (fun _ => 0))).symm
        · obtain ⟨d1, d2⟩ : a = 0 ∧ c = 0 := hd
          subst d1; subst d2; rw [v80_g1_53]; exact (hp80 (iS 0 (fun _ => 0))).symm
        · exact dH_g1_53 (81, a, c) ⟨rfl, hd⟩), fun l hl => fr_g1_53 l hl⟩
