/-! the reference: rules that may be turned on -/
theorem bd_tab : ∀ m ∈ ([0, 7, 56, 63, 448, 455, 504, 511] : List Int), ∀ a ∈ ([0, 3, 6] : List Int), ∀ b ∈ ([0, 3, 6] : List Int), zOr m (zOr (zShl 7 a) (zShl 7 b)) ∈ ([0, 7, 56, 63, 448, 455, 504, 511] : List Int) ∧ zOr m 0 = m ∧ ∀ s ∈ ([0, 3, 6] : List Int), (zAnd (zOr m (zOr (zShl 7 a) (zShl 7 b))) (zShl 7 s) = 0 ↔ zAnd m (zShl 7 s) = 0 ∧ s ≠ a ∧ s ≠ b) := by decide +kernel
theorem bd_511 : ∀ m ∈ ([0, 7, 56, 63, 448, 455, 504, 511] : List Int), (m = 511 ↔ zAnd m (zShl 7 0) ≠ 0 ∧ zAnd m (zShl 7 3) ≠ 0 ∧ zAnd m (zShl 7 6) ≠ 0) := by decide +kernel
theorem in036 {s : Int} (h : s = 0 ∨ s = 3 ∨ s = 6) : s ∈ ([0, 3, 6] : List Int) := by rcases h with rfl | rfl | rfl <;> decide
/-- the digits of a shift are in a straight condition -/
def BdS (f : XL → Int → Int) (r s : Int) (n : Nat) : Prop := ∃ c : Nat, c < n ∧ f (36, r, c) 1 = 0 ∧ (f (36, r, c) 2 = s ∨ f (36, r, c) 3 = s)
theorem BdS.s {f : XL → Int → Int} {r s : Int} {n : Nat} : BdS f r s (n + 1) ↔ BdS f r s n ∨ (f (36, r, n) 1 = 0 ∧ (f (36, r, n) 2 = s ∨ f (36, r, n) 3 = s)) := by
  constructor
  · rintro ⟨c, c1, c2⟩
    rcases Nat.lt_or_eq_of_le (show c ≤ n by omega) with h | h
    · exact Or.inl ⟨c, h, c2⟩
    · subst h; exact Or.inr c2
  · rintro (⟨c, c1, c2⟩ | h)
    · exact ⟨c, by omega, c2⟩
    · exact ⟨n, by omega, h⟩
theorem bound_is (C : XS) {r : Int} (hi : IdOk (C.1 (34, r, 0) 4)) (n : Nat) (hs : ∀ c : Nat, c < n → ShOk C.1 (36, r, c)) : boundN C r n ∈ ([0, 7, 56, 63, 448, 455, 504, 511] : List Int) ∧ ∀ s ∈ ([0, 3, 6] : List Int), (zAnd (boundN C r n) (zShl 7 s) = 0 ↔ zAnd (C.1 (34, r, 0) 4) (zShl 7 s) = 0 ∧ ¬ BdS C.1 r s n) := by
  induction n with
  | zero => exact ⟨IdOk_mem.mp hi, fun s _ => ⟨fun z => ⟨z, fun ⟨c, c1, _⟩ => by omega⟩, fun z => z.1⟩⟩
  | succ n ih =>
    obtain ⟨h1, h2⟩ := ih (fun c hc => hs c (by omega))
    have sh := hs n (by omega)
    have t := bd_tab _ h1 _ (in036 sh.1) _ (in036 sh.2)
    simp only [boundN]
    by_cases q : C.1 (36, r, n) 1 = 0
    · rw [if_pos q]
      refine ⟨t.1, fun s hs2 => ?_⟩
      have k := t.2.2 s hs2
      show zAnd (zOr (boundN C r n) (zOr (zShl 7 (C.1 (36, r, n) 2)) (zShl 7 (C.1 (36, r, n) 3)))) (zShl 7 s) = 0 ↔ _
      rw [k, h2 s hs2, BdS.s]
      constructor
      · rintro ⟨⟨a, b⟩, c, d⟩
        exact ⟨a, fun z => z.elim b (fun z => z.2.elim (fun z => c z.symm) (fun z => d z.symm))⟩
      · rintro ⟨a, b⟩
        exact ⟨⟨a, fun z => b (Or.inl z)⟩, fun z => b (Or.inr ⟨q, Or.inl z.symm⟩), fun z => b (Or.inr ⟨q, Or.inr z.symm⟩)⟩
    · rw [if_neg q, t.2.1]
      refine ⟨h1, fun s hs2 => ?_⟩
      rw [h2 s hs2, BdS.s]
      exact ⟨fun z => ⟨z.1, fun y => y.elim z.2 (fun y => q y.1)⟩, fun z => ⟨z.1, fun y => z.2 (Or.inl y)⟩⟩
def BdA (f : XL → Int → Int) (r : Int) (n : Nat) (m : Nat) : Prop := (BdS f r (f (37, r, 0) 2) n ∧ BdS f r (f (37, r, 0) 3) n) ∧ ∀ c : Nat, c < m → f (36, r, c) 1 ≠ 0 → BdS f r (f (36, r, c) 2) n ∧ BdS f r (f (36, r, c) 3) n
theorem BdA.s {f : XL → Int → Int} {r : Int} {n m : Nat} : BdA f r n (m + 1) ↔ BdA f r n m ∧ (f (36, r, m) 1 ≠ 0 → BdS f r (f (36, r, m) 2) n ∧ BdS f r (f (36, r, m) 3) n) := by
  constructor
  · rintro ⟨a, b⟩
    exact ⟨⟨a, fun c hc => b c (by omega)⟩, b m (by omega)⟩
  · rintro ⟨⟨a, b⟩, d⟩
    refine ⟨a, fun c hc => ?_⟩
    rcases Nat.lt_or_eq_of_le (show c ≤ m by omega) with h | h
    · exact b c h
    · subst h; exact d
theorem Us_iff {C S : XS} {r v : Int} {n : Nat} (hh : C.1 (37, r, 0) 2 = 3 * (2 - S.1 (62, 0, 0) (3 * r + 1)) ∧ C.1 (37, r, 0) 3 = 3 * (2 - S.1 (62, 0, 0) (3 * r + 2))) (hc : ∀ c : Nat, c < n → C.1 (36, r, c) 2 = 3 * (2 - S.1 (63, 0, 0) (9 * r + 3 * c + 1)) ∧ C.1 (36, r, c) 3 = 3 * (2 - S.1 (63, 0, 0) (9 * r + 3 * c + 2))) : UsN S r v n ↔ (C.1 (37, r, 0) 2 = 3 * (2 - v) ∨ C.1 (37, r, 0) 3 = 3 * (2 - v)) ∨ ∃ c : Nat, c < n ∧ (C.1 (36, r, c) 2 = 3 * (2 - v) ∨ C.1 (36, r, c) 3 = 3 * (2 - v)) := by
  induction n with
  | zero =>
    unfold UsN
    constructor
    · intro z; left; omega
    · rintro (z | ⟨c, c1, _⟩) <;> omega
  | succ n ih =>
    have k := ih (fun c h => hc c (by omega))
    have e := hc n (by omega)
    have u : UsN S r v (n + 1) ↔ UsN S r v n ∨ S.1 (63, 0, 0) (9 * r + 3 * (n : Int) + 1) = v ∨ S.1 (63, 0, 0) (9 * r + 3 * (n : Int) + 2) = v := Iff.rfl
    rw [u, k]
    constructor
    · rintro ((z | ⟨c, c1, c2⟩) | z)
      · exact Or.inl z
      · exact Or.inr ⟨c, by omega, c2⟩
      · exact Or.inr ⟨n, by omega, by omega⟩
    · rintro (z | ⟨c, c1, c2⟩)
      · exact Or.inl (Or.inl z)
      · rcases Nat.lt_or_eq_of_le (show c ≤ n by omega) with h | h
        · exact Or.inl (Or.inr ⟨c, h, c2⟩)
        · rw [h] at c2
          obtain ⟨e1, e2⟩ := e
          right
          rcases c2 with z | z
          · left; omega
          · right; omega
theorem bound_all {C S : XS} (hC : CB C) (hr : MRr C S) {r : Int} (r0 : 0 ≤ r) (r1 : r < C.1 (4, 0, 0) 2) : boundN C r (C.1 (34, r, 0) 2).toNat = 511 ↔ BdA C.1 r (C.1 (34, r, 0) 2).toNat (C.1 (34, r, 0) 2).toNat := by
  have c4 := wf4_2 hC.1
  have s34 := wf34_2 hC.1 r0 (show r < 10 by omega)
  obtain ⟨-, ⟨h1, -, -⟩, ⟨h2, -, -⟩, -, -, q6, q7⟩ := hr r r0 r1
  have hR : RuleOk C.1 r := by obtain ⟨r2, rfl⟩ := Int.eq_ofNat_of_zero_le r0; exact (hC.2.1 r2 r1).1
  have hN : (((C.1 (34, r, 0) 2).toNat : Nat) : Int) = C.1 (34, r, 0) 2 := by omega
  generalize hn : (C.1 (34, r, 0) 2).toNat = n at hN q7 ⊢
  have b := bound_is C hR.1 n (fun c hc => hR.2.2 c (by omega))
  have us := fun v => Us_iff (C := C) (S := S) (r := r) (v := v) (n := n) ⟨h1, h2⟩ (fun c hc => by obtain ⟨-, ⟨a, -, -⟩, ⟨d, -, -⟩, -⟩ := q6 c (by omega) (by omega); exact ⟨a, d⟩)
  have key : ∀ v : Int, 0 ≤ v → v ≤ 2 → (zAnd (boundN C r n) (zShl 7 (3 * (2 - v))) ≠ 0 ↔ (((C.1 (37, r, 0) 2 = 3 * (2 - v) ∨ C.1 (37, r, 0) 3 = 3 * (2 - v)) ∨ ∃ c : Nat, c < n ∧ (C.1 (36, r, c) 2 = 3 * (2 - v) ∨ C.1 (36, r, c) 3 = 3 * (2 - v))) → BdS C.1 r (3 * (2 - v)) n)) := fun v v0 v1 => by
    rw [Ne, b.2 _ (sh_mem ⟨v0, v1⟩), q7 v v0 v1, us v]
    constructor
    · intro z y
      exact Classical.byContradiction fun x => z ⟨y, x⟩
    · intro z y
      exact y.2 (z y.1)
  rw [bd_511 _ b.1]
  have k2 := key 2 (by decide) (by decide)
  have k1 := key 1 (by decide) (by decide)
  have k0 := key 0 (by decide) (by decide)
  rw [show (3 : Int) * (2 - 2) = 0 by decide] at k2
  rw [show (3 : Int) * (2 - 1) = 3 by decide] at k1
  rw [show (3 : Int) * (2 - 0) = 6 by decide] at k0
  rw [k0, k1, k2]
  constructor
  · rintro ⟨a2, a1, a0⟩
    have go : ∀ s : Int, (s = 0 ∨ s = 3 ∨ s = 6) → ((C.1 (37, r, 0) 2 = s ∨ C.1 (37, r, 0) 3 = s) ∨ ∃ c : Nat, c < n ∧ (C.1 (36, r, c) 2 = s ∨ C.1 (36, r, c) 3 = s)) → BdS C.1 r s n := fun s hs => by
      rcases hs with rfl | rfl | rfl
      · exact a2
      · exact a1
      · exact a0
    refine ⟨⟨go _ hR.2.1.1 (Or.inl (Or.inl rfl)), go _ hR.2.1.2 (Or.inl (Or.inr rfl))⟩, fun c hc _ => ?_⟩
    have sh := hR.2.2 c (by omega)
    exact ⟨go _ sh.1 (Or.inr ⟨c, hc, Or.inl rfl⟩), go _ sh.2 (Or.inr ⟨c, hc, Or.inr rfl⟩)⟩
  · rintro ⟨⟨a, b⟩, d⟩
    have go : ∀ s : Int, ((C.1 (37, r, 0) 2 = s ∨ C.1 (37, r, 0) 3 = s) ∨ ∃ c : Nat, c < n ∧ (C.1 (36, r, c) 2 = s ∨ C.1 (36, r, c) 3 = s)) → BdS C.1 r s n := fun s hs => by
      rcases hs with (h | h) | ⟨c, c1, h⟩
      · rw [← h]; exact a
      · rw [← h]; exact b
      · by_cases q : C.1 (36, r, c) 1 = 0
        · exact ⟨c, c1, q, h⟩
        · rcases h with h | h
          · rw [← h]; exact (d c c1 q).1
          · rw [← h]; exact (d c c1 q).2
    exact ⟨go 0, go 3, go 6⟩
set_option maxHeartbeats 4000000 in
set_option maxRecDepth 100000 in
theorem l9_isBound (C S : XS) (hC : WI C) (hw : WI S) (hr : MRr C S) (r v : Int) (r0 : 0 ≤ r) (r1 : r < C.1 (4, 0, 0) 2) (v0 : 0 ≤ v) (v1 : v ≤ 2) (n : Nat) (hn : C.1 (34, r, 0) 2 = n) : ∀ (nn : Nat) (j : Nat), (n : Int) - j < (nn : Int) → (j ≤ n) → X mX9_isBound 5 [xR (50, 0, 0), xI r, xI v, xI (bI (BdS C.1 r (3 * (2 - v)) j)), xI (j : Int)] [] (hp S) 0 0 (pRet (xI (bI (BdS C.1 r (3 * (2 - v)) n))) (hp S)) := by
  intro nn
  induction nn with
  | zero => intro j hm hj; exfalso; omega
  | succ nn ih =>
    intro j hm hj
    have c4 := wf4_2 hC
    have c34 := wf34_2 hC r0 (show r < 10 by omega)
    obtain ⟨-, -, -, q4, -, q6, -⟩ := hr r r0 r1
    have hz := hw.1
    refine x_iload dX9_isBound_5 rfl ?_
    refine x_aload_n dX9_isBound_7 rfl ?_
    refine x_get (v := xR (64, 0, 0)) dX9_isBound_8 fl_RX9_55 (hp50 S) rfl ?_
    refine x_iload_n dX9_isBound_11 rfl ?_
    refine x_aldi (f := S.1 (64, 0, 0)) dX9_isBound_12 (hp64 S) (show (64 : Nat) ≠ 99 by decide) (by omega) (by omega) (by decide) ?_
    have f12_1 := wfa64 hw (S := S) r
    refine x_icmp_ge (tgt := 84) dX9_isBound_13 (by decide) (by first | exact hz _ _ | exact hw.1 _ _ | exact zR_of _ | exact bI_z _ | assumption | exact ⟨by omega, by omega⟩) (by first | exact hz _ _ | exact hw.1 _ _ | exact zR_of _ | exact bI_z _ | assumption | exact ⟨by omega, by omega⟩) (fun c13 => ?_) (fun c13 => ?_)
    · refine x_iload_n dX9_isBound_84 rfl ?_
      exact x_zret dX9_isBound_85 rfl (bI_01 _) (by obtain rfl : j = n := (by omega); exact pRI rfl)
    · obtain ⟨u1, u2, u3, u4⟩ := q6 (j : Int) (by omega) (by omega)
      refine x_iload_n dX9_isBound_16 rfl ?_
      refine x_aload_n dX9_isBound_17 rfl ?_
      refine x_get (v := xR (65, 0, 0)) dX9_isBound_18 fl_RX9_58 (hp50 S) rfl ?_
      refine x_iconst dX9_isBound_21 ?_
      refine x_iload_n dX9_isBound_22 rfl ?_
      refine x_imul dX9_isBound_23 ?_
      refine x_iload dX9_isBound_24 rfl ?_
      refine x_iadd dX9_isBound_26 ?_
      refine x_aldz (f := S.1 (65, 0, 0)) dX9_isBound_27 (hp65 S) (show (65 : Nat) ≠ 99 by decide) (by omega) (by omega) (by decide) ?_
      have f27_2 := wfa65 hw (S := S) ((3 * r) + (j : Int))
      refine x_if_ne (tgt := 75) dX9_isBound_28 (by decide) (by first | exact hz _ _ | exact hw.1 _ _ | exact zR_of _ | exact bI_z _ | assumption | exact ⟨by omega, by omega⟩) (fun c28 => ?_) (fun c28 => ?_)
      · refine x_iconst dX9_isBound_75 ?_
        refine x_ior dX9_isBound_76 ?_
        refine x_istore_n (L' := [xR (50, 0, 0), xI r, xI v, xI (zOr (bI (BdS C.1 r (3 * (2 - v)) j)) 0), xI (j : Int)]) dX9_isBound_77 (by decide) rfl ?_
        refine x_iinc (L' := [xR (50, 0, 0), xI r, xI v, xI (zOr (bI (BdS C.1 r (3 * (2 - v)) j)) 0), xI ((j : Int) + 1)]) dX9_isBound_78 rfl rfl ?_
        refine x_goto (tgt := 5) dX9_isBound_81 (by decide) ?_
        have kk := ih (j + 1) (by omega) (by omega)
        rw [show bI (BdS C.1 r (3 * (2 - v)) (j + 1)) = zOr (bI (BdS C.1 r (3 * (2 - v)) j)) 0 from by rw [zOr_b0]; exact bI_c (BdS.s.trans ⟨fun z => z.elim id (fun y => by omega), Or.inl⟩)] at kk
        exact kk
      · refine x_aload_n dX9_isBound_31 rfl ?_
        refine x_get (v := xR (63, 0, 0)) dX9_isBound_32 fl_RX9_52 (hp50 S) rfl ?_
        refine x_bipush (v := 9) dX9_isBound_35 (by decide) ?_
        refine x_iload_n dX9_isBound_37 rfl ?_
        refine x_imul dX9_isBound_38 ?_
        refine x_iconst dX9_isBound_39 ?_
        refine x_iload dX9_isBound_40 rfl ?_
        refine x_imul dX9_isBound_42 ?_
        refine x_iadd dX9_isBound_43 ?_
        refine x_iconst dX9_isBound_44 ?_
        refine x_iadd dX9_isBound_45 ?_
        refine x_aldi (f := S.1 (63, 0, 0)) dX9_isBound_46 (hp63 S) (show (63 : Nat) ≠ 99 by decide) (by omega) (by omega) (by decide) ?_
        have f46_3 := wfa63 hw (S := S) (((9 * r) + (3 * (j : Int))) + 1)
        refine x_iload_n dX9_isBound_47 rfl ?_
        refine x_icmp_eq (tgt := 71) dX9_isBound_48 (by decide) (by first | exact hz _ _ | exact hw.1 _ _ | exact zR_of _ | exact bI_z _ | assumption | exact ⟨by omega, by omega⟩) (by first | exact hz _ _ | exact hw.1 _ _ | exact zR_of _ | exact bI_z _ | assumption | exact ⟨by omega, by omega⟩) (fun c48 => ?_) (fun c48 => ?_)
        · refine x_iconst dX9_isBound_71 ?_
          refine x_goto (tgt := 76) dX9_isBound_72 (by decide) ?_
          refine x_ior dX9_isBound_76 ?_
          refine x_istore_n (L' := [xR (50, 0, 0), xI r, xI v, xI (zOr (bI (BdS C.1 r (3 * (2 - v)) j)) 1), xI (j : Int)]) dX9_isBound_77 (by decide) rfl ?_
          refine x_iinc (L' := [xR (50, 0, 0), xI r, xI v, xI (zOr (bI (BdS C.1 r (3 * (2 - v)) j)) 1), xI ((j : Int) + 1)]) dX9_isBound_78 rfl rfl ?_
          refine x_goto (tgt := 5) dX9_isBound_81 (by decide) ?_
          have kk := ih (j + 1) (by omega) (by omega)
          rw [show bI (BdS C.1 r (3 * (2 - v)) (j + 1)) = zOr (bI (BdS C.1 r (3 * (2 - v)) j)) 1 from by rw [zOr_b1]; exact bI_t (BdS.s.mpr (Or.inr (by omega)))] at kk
          exact kk
        · refine x_aload_n dX9_isBound_51 rfl ?_
          refine x_get (v := xR (63, 0, 0)) dX9_isBound_52 fl_RX9_52 (hp50 S) rfl ?_
          refine x_bipush (v := 9) dX9_isBound_55 (by decide) ?_
          refine x_iload_n dX9_isBound_57 rfl ?_
          refine x_imul dX9_isBound_58 ?_
          refine x_iconst dX9_isBound_59 ?_
          refine x_iload dX9_isBound_60 rfl ?_
          refine x_imul dX9_isBound_62 ?_
          refine x_iadd dX9_isBound_63 ?_
          refine x_iconst dX9_isBound_64 ?_
          refine x_iadd dX9_isBound_65 ?_
          refine x_aldi (f := S.1 (63, 0, 0)) dX9_isBound_66 (hp63 S) (show (63 : Nat) ≠ 99 by decide) (by omega) (by omega) (by decide) ?_
          have f66_4 := wfa63 hw (S := S) (((9 * r) + (3 * (j : Int))) + 2)
          refine x_iload_n dX9_isBound_67 rfl ?_
          refine x_icmp_ne (tgt := 75) dX9_isBound_68 (by decide) (by first | exact hz _ _ | exact hw.1 _ _ | exact zR_of _ | exact bI_z _ | assumption | exact ⟨by omega, by omega⟩) (by first | exact hz _ _ | exact hw.1 _ _ | exact zR_of _ | exact bI_z _ | assumption | exact ⟨by omega, by omega⟩) (fun c68 => ?_) (fun c68 => ?_)
          · refine x_iconst dX9_isBound_75 ?_
            refine x_ior dX9_isBound_76 ?_
            refine x_istore_n (L' := [xR (50, 0, 0), xI r, xI v, xI (zOr (bI (BdS C.1 r (3 * (2 - v)) j)) 0), xI (j : Int)]) dX9_isBound_77 (by decide) rfl ?_
            refine x_iinc (L' := [xR (50, 0, 0), xI r, xI v, xI (zOr (bI (BdS C.1 r (3 * (2 - v)) j)) 0), xI ((j : Int) + 1)]) dX9_isBound_78 rfl rfl ?_
            refine x_goto (tgt := 5) dX9_isBound_81 (by decide) ?_
            have kk := ih (j + 1) (by omega) (by omega)
            rw [show bI (BdS C.1 r (3 * (2 - v)) (j + 1)) = zOr (bI (BdS C.1 r (3 * (2 - v)) j)) 0 from by rw [zOr_b0]; exact bI_c (BdS.s.trans ⟨fun z => z.elim id (fun y => by omega), Or.inl⟩)] at kk
            exact kk
          · refine x_iconst dX9_isBound_71 ?_
            refine x_goto (tgt := 76) dX9_isBound_72 (by decide) ?_
            refine x_ior dX9_isBound_76 ?_
            refine x_istore_n (L' := [xR (50, 0, 0), xI r, xI v, xI (zOr (bI (BdS C.1 r (3 * (2 - v)) j)) 1), xI (j : Int)]) dX9_isBound_77 (by decide) rfl ?_
            refine x_iinc (L' := [xR (50, 0, 0), xI r, xI v, xI (zOr (bI (BdS C.1 r (3 * (2 - v)) j)) 1), xI ((j : Int) + 1)]) dX9_isBound_78 rfl rfl ?_
            refine x_goto (tgt := 5) dX9_isBound_81 (by decide) ?_
            have kk := ih (j + 1) (by omega) (by omega)
            rw [show bI (BdS C.1 r (3 * (2 - v)) (j + 1)) = zOr (bI (BdS C.1 r (3 * (2 - v)) j)) 1 from by rw [zOr_b1]; exact bI_t (BdS.s.mpr (Or.inr (by omega)))] at kk
            exact kk
set_option maxHeartbeats 4000000 in
set_option maxRecDepth 100000 in
theorem m_isBound (C S : XS) (hC : WI C) (hw : WI S) (hr : MRr C S) (r v : Int) (r0 : 0 ≤ r) (r1 : r < C.1 (4, 0, 0) 2) (v0 : 0 ≤ v) (v1 : v ≤ 2) (n : Nat) (hn : C.1 (34, r, 0) 2 = n) : X mX9_isBound 0 (xEnt mX9_isBound [xR (50, 0, 0), xI r, xI v]) [] (hp S) 0 0 (pRet (xI (bI (BdS C.1 r (3 * (2 - v)) n))) (hp S)) := by
  have c4 := wf4_2 hC
  have c34 := wf34_2 hC r0 (show r < 10 by omega)
  obtain ⟨-, -, -, q4, -, q6, -⟩ := hr r r0 r1
  have hz := hw.1
  show X mX9_isBound 0 [xR (50, 0, 0), xI r, xI v, none, none] [] (hp S) 0 0 _
  refine x_iconst dX9_isBound_0 ?_
  refine x_istore_n (L' := [xR (50, 0, 0), xI r, xI v, xI 0, none]) dX9_isBound_1 (by decide) rfl ?_
  refine x_iconst dX9_isBound_2 ?_
  refine x_istore (L' := [xR (50, 0, 0), xI r, xI v, xI 0, xI 0]) dX9_isBound_3 (by decide) rfl ?_
  have z := l9_isBound C S hC hw hr r v r0 r1 v0 v1 n hn (n + 1) 0 (by omega) (by omega)
  rw [show bI (BdS C.1 r (3 * (2 - v)) 0) = 0 from bI_f (fun ⟨c, c1, _⟩ => by omega)] at z
  exact z
