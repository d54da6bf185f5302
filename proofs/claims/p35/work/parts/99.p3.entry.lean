/-! what stands at the law's entry -/
theorem x_kn0 {s : State} {args : Array Value} (hts : ∀ w ∈ xW, w.before args s = true) : ∃ (dC : Nat → ClassId) (dI : Nat → Nat → Nat), ∀ (c : Nat) (q : vw_C), xCl[c]? = some q → u_Kn s q.1 q.2.1 q.2.2 (dC c) (dI c) := by
  have h : ∀ c : Nat, ∃ (cC : ClassId) (iS : Nat → Nat), ∀ q : vw_C, xCl[c]? = some q → u_Kn s q.1 q.2.1 q.2.2 cC iS := fun c => by
    cases hq : xCl[c]? with
    | none => exact ⟨(0 : Nat), fun _ => 0, fun q h => by cases h⟩
    | some q =>
      obtain ⟨a, -, -, d, -⟩ := xClF_of hq
      obtain ⟨cC, iS, hk⟩ := u_known hts a (hts _ d)
      exact ⟨cC, iS, fun q' h => by cases h; exact hk⟩
  exact ⟨fun c => Classical.choose (h c), fun c => Classical.choose (Classical.choose_spec (h c)), fun c q hq => Classical.choose_spec (Classical.choose_spec (h c)) q hq⟩
theorem x_ty0 {s : State} {args : Array Value} (hts : ∀ w ∈ lw_tbl, w.before args s = true) : ∀ t : Nat, ∃ cA : ClassId, t < 12 → ArrOfT s cA (xTy t) ∧ va_RA s cA (xTy t) := by
  have prim : ∀ ty : FieldType, Cond.arrayClass ty ∈ lw_tbl → ∃ cA : ClassId, ArrOfT s cA ty ∧ s.vm.findClass ("[" ++ ty.toString) = some cA := fun ty hw => by
    obtain ⟨c, k, comp, h1, h2, h3⟩ := Cond.arrayClass_spec (hts _ hw)
    exact ⟨c, fun N z => ⟨(fun k h => by cases h), k, h2, comp, h3⟩, h1⟩
  have obj : ∀ C : String, Cond.arrayOver (.object C) ∈ lw_tbl → ∃ cA : ClassId, ArrOfT s cA (.object C) ∧ va_RA s cA (.object C) := fun C hw => by
    obtain ⟨comp, c, k, h1, -, h3, h4, h5⟩ := Cond.arrayOver_spec (hts _ hw)
    exact ⟨c, fun N z => ⟨(fun k h => by cases h), k, h3, comp, h4⟩, k, comp, h3, h4, h1, h5⟩
  intro t
  match t with
  | 0 => obtain ⟨c, q⟩ := prim .int (List.mem_filter.mp wd89).1; exact ⟨c, fun _ => q⟩
  | 1 => obtain ⟨c, q⟩ := prim .long (List.mem_filter.mp wd166).1; exact ⟨c, fun _ => q⟩
  | 2 => obtain ⟨c, q⟩ := prim .boolean (List.mem_filter.mp wd88).1; exact ⟨c, fun _ => q⟩
  | 3 => obtain ⟨c, q⟩ := prim .byte (by decide +kernel); exact ⟨c, fun _ => q⟩
  | 4 => obtain ⟨c, q⟩ := prim .long (List.mem_filter.mp wd166).1; exact ⟨c, fun _ => q⟩
  | 5 => obtain ⟨c, q⟩ := obj "Versefold$Telling" (by decide +kernel); exact ⟨c, fun _ => q⟩
  | 6 => obtain ⟨c, q⟩ := obj "Versefold$State" (by decide +kernel); exact ⟨c, fun _ => q⟩
  | 7 => obtain ⟨c, q⟩ := obj "Versefold$Branch" (by decide +kernel); exact ⟨c, fun _ => q⟩
  | 8 => obtain ⟨c, q⟩ := obj "Versefold$Listener" (by decide +kernel); exact ⟨c, fun _ => q⟩
  | 9 => obtain ⟨c, q⟩ := obj "Versefold$Pattern" (by decide +kernel); exact ⟨c, fun _ => q⟩
  | 10 => obtain ⟨c, q⟩ := obj "Versefold$Rule" (by decide +kernel); exact ⟨c, fun _ => q⟩
  | 11 => obtain ⟨c, q⟩ := obj "Versefold$Rule" (by decide +kernel); exact ⟨c, fun _ => q⟩
  | k + 12 => exact ⟨(0 : Nat), fun h => absurd h (by omega)⟩
theorem x_t0 : (∀ q ∈ xStr, Cond.stringRef "Versefold" q.1 q.2 ∈ lw_tbl) ∧ (∀ E ∈ xExc, Cond.castable E E ∈ lw_tbl) ∧ (∀ C ∈ xObj, Cond.arrayOver (.object C) ∈ lw_tbl) ∧ (∀ q ∈ xNest, Cond.methodLinkNest q.1 q.2.1 q.2.2 "Versefold" ∈ lw_tbl) ∧ ∀ x ∈ xDec, Cond.declares x ∈ lw_tbl := by decide +kernel
theorem x_t1 : ∀ q ∈ xStr, Cond.exactly (.string "Versefold" q.1) "java/lang/String" ∈ flatC (Jvm.Cond.and given_1 narrow_1) := by decide +kernel
theorem x_t2 : ∀ E ∈ xExc, ∀ F ∈ xExc, E ≠ F → Cond.not (.castable E F) ∈ flatC (Jvm.Cond.and given_1 narrow_1) := by decide +kernel
theorem x_t3 : Cond.isRef (.static Bundle.tN "UNASSIGNED_STACK" Bundle.steD) ∈ flatC (Jvm.Cond.and given_1 narrow_1) ∧ Cond.isRef (.static Bundle.tN "SUPPRESSED_SENTINEL" Bundle.listD) ∈ flatC (Jvm.Cond.and given_1 narrow_1) := by decide +kernel
theorem x_t4 : Cond.laysStatic Bundle.tN "UNASSIGNED_STACK" Bundle.steD ∈ lw_tbl ∧ Cond.laysStatic Bundle.tN "SUPPRESSED_SENTINEL" Bundle.listD ∈ lw_tbl ∧ Cond.initialized Bundle.tN ∈ lw_tbl := by decide +kernel
theorem x_amb0 {s : State} {args : Array Value} (hts : ∀ w ∈ lw_tbl, w.before args s = true) (hgv : (Jvm.Cond.and given_1 narrow_1).before args s = true) : ∃ (D : va_G) (dA : Nat → ClassId), xAmb D dA s.heap.size s := by
  obtain ⟨dC, dI, k1⟩ := x_kn0 (s := s) (args := args) (fun w h => hts w (List.mem_filter.mp h).1)
  have k2 := x_ty0 hts
  have hg := flat_of_before _ hgv
  have hA : ∀ a : Nat, a < s.heap.size → ¬ (fun q : Nat => s.heap.size ≤ q) a := fun a h => Nat.not_le.mpr h
  obtain ⟨t1, t2, t3, t4, t5⟩ := x_t0
  refine ⟨(dC, dI), fun t => Classical.choose (k2 t), ⟨k1, fun k q hq => ?_⟩, vx_Zqof (hts _ x_t4.1) (hts _ x_t4.2.2) (hg _ x_t3.1) hA, vx_Zqof (hts _ x_t4.2.1) (hts _ x_t4.2.2) (hg _ x_t3.2) hA, fun q hq => ?_, fun E hE => va_Nw.of rfl (hts _ (t2 E hE)), fun E hE F hF hne => va_Nc.of (hg _ (x_t2 E hE F hF hne)), fun C hC => va_AO.of (hts _ (t3 C hC)), ?_, fun q hq => va_Nw.of rfl (hts _ (t4 q hq)), fun x hx => va_Nw.of rfl (hts _ (t5 x hx))⟩
  · have hk : k < 12 := by
      have := (List.getElem?_eq_some_iff.mp hq).1
      simpa [xTys] using this
    rw [xTys_at hk] at hq
    cases hq
    exact Classical.choose_spec (k2 k) hk
  · obtain ⟨a, c, cell, k, e, -⟩ := Cond.exactly_spec (hg _ (x_t1 q hq))
    exact ⟨a, vk_R.of (A := args) (hts _ (t1 q hq)) e⟩
  · trivial
theorem sbn_forget {s t : State} {L : List Loc} {k n : Nat} (h : s.sameButNew t L k n) (hf : ∀ q ∈ L, s.heap.size ≤ q.base) : s.sameButNew t [] k n := by
  obtain ⟨h1, h2, h3, h4, h5, h6⟩ := h
  refine ⟨h1, h2, h3, h4, h5, fun a c hc => ?_⟩
  obtain ⟨c', e1, e2, e3, e4⟩ := h6 a c hc
  refine ⟨c', e1, e2, e3, fun i _ => e4 i (fun hm => ?_)⟩
  have l1 : a < s.heap.size := (Array.getElem?_eq_some_iff.mp hc).1
  exact Nat.lt_irrefl _ (Nat.lt_of_lt_of_le l1 (hf _ hm))
