/-! p35: the law: rules that may be turned on -/
theorem UsL_iff {C : XS} {N : Int → Int} {r v : Int} {n : Nat} (hh : C.1 (37, r, 0) 2 = 3 * (2 - N (1600 + 16 * r + 2)) ∧ C.1 (37, r, 0) 3 = 3 * (2 - N (1600 + 16 * r + 3))) (hc : ∀ c : Nat, c < n → C.1 (36, r, c) 2 = 3 * (2 - N (1600 + 16 * r + 5 + 4 * (c : Int))) ∧ C.1 (36, r, c) 3 = 3 * (2 - N (1600 + 16 * r + 6 + 4 * (c : Int)))) : UsL N r v n ↔ (C.1 (37, r, 0) 2 = 3 * (2 - v) ∨ C.1 (37, r, 0) 3 = 3 * (2 - v)) ∨ ∃ c : Nat, c < n ∧ (C.1 (36, r, c) 2 = 3 * (2 - v) ∨ C.1 (36, r, c) 3 = 3 * (2 - v)) := by
  induction n with
  | zero =>
    unfold UsL
    constructor
    · intro z; left; omega
    · rintro (z | ⟨c, c1, _⟩) <;> omega
  | succ n ih =>
    have k := ih (fun c h => hc c (by omega))
    have e := hc n (by omega)
    have u : UsL N r v (n + 1) ↔ UsL N r v n ∨ N (1600 + 16 * r + 5 + 4 * (n : Int)) = v ∨ N (1600 + 16 * r + 6 + 4 * (n : Int)) = v := Iff.rfl
    rw [u, k]
    constructor
    · rintro ((z | ⟨c, c1, c2⟩) | z)
      · exact Or.inl z
      · exact Or.inr ⟨c, by omega, c2⟩
      · exact Or.inr ⟨n, by omega, by omega⟩
    · rintro (z | ⟨c, c1, c2⟩)
      · exact Or.inl (Or.inl z)
      · rcases Nat.lt_or_eq_of_le (show c ≤ n by omega) with h | h
        · exact Or.inl (Or.inr ⟨c, h, c2⟩)
        · rw [h] at c2
          obtain ⟨e1, e2⟩ := e
          right
          rcases c2 with z | z
          · left; omega
          · right; omega
theorem bound_all {C : XS} {N : Int → Int} (hC : CB C) {r : Int} (r0 : 0 ≤ r) (r1 : r < C.1 (4, 0, 0) 2) (hr : NL1 C N r) : boundN C r (C.1 (34, r, 0) 2).toNat = 511 ↔ BdA C.1 r (C.1 (34, r, 0) 2).toNat (C.1 (34, r, 0) 2).toNat := by
  have c4 := wf4_2 hC.1
  have s34 := wf34_2 hC.1 r0 (show r < 10 by omega)
  obtain ⟨-, ⟨-, h1, h2, -, -⟩, q7, q6⟩ := hr
  have hR : RuleOk C.1 r := by obtain ⟨r2, rfl⟩ := Int.eq_ofNat_of_zero_le r0; exact (hC.2.1 r2 r1).1
  have hN : (((C.1 (34, r, 0) 2).toNat : Nat) : Int) = C.1 (34, r, 0) 2 := by omega
  generalize hn : (C.1 (34, r, 0) 2).toNat = n at hN q7 ⊢
  have b := bound_is C hR.1 n (fun c hc => hR.2.2 c (by omega))
  have us := fun v => UsL_iff (C := C) (N := N) (r := r) (v := v) (n := n) ⟨h1, h2⟩ (fun c hc => by obtain ⟨-, a, d, -⟩ := q6 c (by omega) (by omega); exact ⟨a, d⟩)
  have key : ∀ v : Int, 0 ≤ v → v ≤ 2 → (zAnd (boundN C r n) (zShl 7 (3 * (2 - v))) ≠ 0 ↔ (((C.1 (37, r, 0) 2 = 3 * (2 - v) ∨ C.1 (37, r, 0) 3 = 3 * (2 - v)) ∨ ∃ c : Nat, c < n ∧ (C.1 (36, r, c) 2 = 3 * (2 - v) ∨ C.1 (36, r, c) 3 = 3 * (2 - v))) → BdS C.1 r (3 * (2 - v)) n)) := fun v v0 v1 => by
    rw [Ne, b.2 _ (sh_mem ⟨v0, v1⟩), q7 v v0 v1, us v]
    constructor
    · intro z y
      exact Classical.byContradiction fun x => z ⟨y, x⟩
    · intro z y
      exact y.2 (z y.1)
  rw [bd_511 _ b.1]
  have k2 := key 2 (by decide) (by decide)
  have k1 := key 1 (by decide) (by decide)
  have k0 := key 0 (by decide) (by decide)
  rw [show (3 : Int) * (2 - 2) = 0 by decide] at k2
  rw [show (3 : Int) * (2 - 1) = 3 by decide] at k1
  rw [show (3 : Int) * (2 - 0) = 6 by decide] at k0
  rw [k0, k1, k2]
  constructor
  · rintro ⟨a2, a1, a0⟩
    have go : ∀ s : Int, (s = 0 ∨ s = 3 ∨ s = 6) → ((C.1 (37, r, 0) 2 = s ∨ C.1 (37, r, 0) 3 = s) ∨ ∃ c : Nat, c < n ∧ (C.1 (36, r, c) 2 = s ∨ C.1 (36, r, c) 3 = s)) → BdS C.1 r s n := fun s hs => by
      rcases hs with rfl | rfl | rfl
      · exact a2
      · exact a1
      · exact a0
    refine ⟨⟨go _ hR.2.1.1 (Or.inl (Or.inl rfl)), go _ hR.2.1.2 (Or.inl (Or.inr rfl))⟩, fun c hc _ => ?_⟩
    have sh := hR.2.2 c (by omega)
    exact ⟨go _ sh.1 (Or.inr ⟨c, hc, Or.inl rfl⟩), go _ sh.2 (Or.inr ⟨c, hc, Or.inr rfl⟩)⟩
  · rintro ⟨⟨a, b⟩, d⟩
    have go : ∀ s : Int, ((C.1 (37, r, 0) 2 = s ∨ C.1 (37, r, 0) 3 = s) ∨ ∃ c : Nat, c < n ∧ (C.1 (36, r, c) 2 = s ∨ C.1 (36, r, c) 3 = s)) → BdS C.1 r s n := fun s hs => by
      rcases hs with (h | h) | ⟨c, c1, h⟩
      · rw [← h]; exact a
      · rw [← h]; exact b
      · by_cases q : C.1 (36, r, c) 1 = 0
        · exact ⟨c, c1, q, h⟩
        · rcases h with h | h
          · rw [← h]; exact (d c c1 q).1
          · rw [← h]; exact (d c c1 q).2
    exact ⟨go 0, go 3, go 6⟩
set_option maxHeartbeats 4000000 in
set_option maxRecDepth 100000 in
theorem l9_isBound (C S : XS) (hC : WI C) (hw : WI S) (hr : NR C S) (r v : Int) (r0 : 0 ≤ r) (r1 : r < C.1 (4, 0, 0) 2) (v0 : 0 ≤ v) (v1 : v ≤ 2) (n : Nat) (hn : C.1 (34, r, 0) 2 = n) : ∀ (nn : Nat) (j : Nat), (n : Int) - j < (nn : Int) → (j ≤ n) → (¬ BdS C.1 r (3 * (2 - v)) j) → X mL_isBound 12 [xR (50, 0, 0), xI r, xI v, xI (1600 + 16 * r), xI (j : Int)] [] (hp S) 0 0 (pRet (xI (bI (BdS C.1 r (3 * (2 - v)) n))) (hp S)) := by
  intro nn
  induction nn with
  | zero => intro j hm hj hno; exfalso; omega
  | succ nn ih =>
    intro j hm hj hno
    have c4 := wf4_2 hC
    have c34 := wf34_2 hC r0 (show r < 10 by omega)
    obtain ⟨q4, -, -, q6⟩ := hr.2 r r0 r1
    have hz := hw.1
    refine x_iload dL_isBound_12 rfl ?_
    refine x_aload_n dL_isBound_14 rfl ?_
    refine x_iload_n dL_isBound_15 rfl ?_
    refine x_aldi (f := S.1 (50, 0, 0)) dL_isBound_16 (hp50 S) (show (50 : Nat) ≠ 99 by decide) (by omega) (by omega) (by decide) ?_
    refine x_icmp_ge (tgt := 71) dL_isBound_17 (by decide) (by first | exact hz _ _ | exact hw.1 _ _ | exact zR_of _ | exact bI_z _ | assumption | exact ⟨by omega, by omega⟩) (by first | exact hz _ _ | exact hw.1 _ _ | exact zR_of _ | exact bI_z _ | assumption | exact ⟨by omega, by omega⟩) (fun c17 => ?_) (fun c17 => ?_)
    · refine x_iconst dL_isBound_71 ?_
      exact x_zret dL_isBound_72 rfl (Or.inl rfl) (by obtain rfl : j = n := (by omega); exact pRI (bI_f hno).symm)
    · have jn : j < n := by omega
      obtain ⟨u1, u2, u3, u4, u5, u6⟩ := q6 (j : Int) (by omega) (by omega)
      refine x_aload_n dL_isBound_20 rfl ?_
      refine x_iload_n dL_isBound_21 rfl ?_
      refine x_bipush (v := 7) dL_isBound_22 (by decide) ?_
      refine x_iadd dL_isBound_24 ?_
      refine x_iconst dL_isBound_25 ?_
      refine x_iload dL_isBound_26 rfl ?_
      refine x_imul dL_isBound_28 ?_
      refine x_iadd dL_isBound_29 ?_
      refine x_aldi (f := S.1 (50, 0, 0)) dL_isBound_30 (hp50 S) (show (50 : Nat) ≠ 99 by decide) (by omega) (by omega) (by decide) ?_
      refine x_if_ne (tgt := 65) dL_isBound_31 (by decide) (by first | exact hz _ _ | exact hw.1 _ _ | exact zR_of _ | exact bI_z _ | assumption | exact ⟨by omega, by omega⟩) (fun c31 => ?_) (fun c31 => ?_)
      · refine x_iinc (L' := [xR (50, 0, 0), xI r, xI v, xI (1600 + 16 * r), xI ((j : Int) + 1)]) dL_isBound_65 rfl rfl ?_
        refine x_goto (tgt := 12) dL_isBound_68 (by decide) ?_
        exact ih (j + 1) (by omega) (by omega) (fun z => by rcases BdS.s.mp z with y | y; exact hno y; omega)
      · refine x_aload_n dL_isBound_34 rfl ?_
        refine x_iload_n dL_isBound_35 rfl ?_
        refine x_iconst dL_isBound_36 ?_
        refine x_iadd dL_isBound_37 ?_
        refine x_iconst dL_isBound_38 ?_
        refine x_iload dL_isBound_39 rfl ?_
        refine x_imul dL_isBound_41 ?_
        refine x_iadd dL_isBound_42 ?_
        refine x_aldi (f := S.1 (50, 0, 0)) dL_isBound_43 (hp50 S) (show (50 : Nat) ≠ 99 by decide) (by omega) (by omega) (by decide) ?_
        refine x_iload_n dL_isBound_44 rfl ?_
        refine x_icmp_eq (tgt := 63) dL_isBound_45 (by decide) (by first | exact hz _ _ | exact hw.1 _ _ | exact zR_of _ | exact bI_z _ | assumption | exact ⟨by omega, by omega⟩) (by first | exact hz _ _ | exact hw.1 _ _ | exact zR_of _ | exact bI_z _ | assumption | exact ⟨by omega, by omega⟩) (fun c45 => ?_) (fun c45 => ?_)
        · refine x_iconst dL_isBound_63 ?_
          exact x_zret dL_isBound_64 rfl (Or.inr rfl) (pRI (bI_t (show BdS C.1 r (3 * (2 - v)) n from ⟨j, jn, by omega, by omega⟩)).symm)
        · refine x_aload_n dL_isBound_48 rfl ?_
          refine x_iload_n dL_isBound_49 rfl ?_
          refine x_bipush (v := 6) dL_isBound_50 (by decide) ?_
          refine x_iadd dL_isBound_52 ?_
          refine x_iconst dL_isBound_53 ?_
          refine x_iload dL_isBound_54 rfl ?_
          refine x_imul dL_isBound_56 ?_
          refine x_iadd dL_isBound_57 ?_
          refine x_aldi (f := S.1 (50, 0, 0)) dL_isBound_58 (hp50 S) (show (50 : Nat) ≠ 99 by decide) (by omega) (by omega) (by decide) ?_
          refine x_iload_n dL_isBound_59 rfl ?_
          refine x_icmp_ne (tgt := 65) dL_isBound_60 (by decide) (by first | exact hz _ _ | exact hw.1 _ _ | exact zR_of _ | exact bI_z _ | assumption | exact ⟨by omega, by omega⟩) (by first | exact hz _ _ | exact hw.1 _ _ | exact zR_of _ | exact bI_z _ | assumption | exact ⟨by omega, by omega⟩) (fun c60 => ?_) (fun c60 => ?_)
          · refine x_iinc (L' := [xR (50, 0, 0), xI r, xI v, xI (1600 + 16 * r), xI ((j : Int) + 1)]) dL_isBound_65 rfl rfl ?_
            refine x_goto (tgt := 12) dL_isBound_68 (by decide) ?_
            exact ih (j + 1) (by omega) (by omega) (fun z => by rcases BdS.s.mp z with y | y; exact hno y; omega)
          · refine x_iconst dL_isBound_63 ?_
            exact x_zret dL_isBound_64 rfl (Or.inr rfl) (pRI (bI_t (show BdS C.1 r (3 * (2 - v)) n from ⟨j, jn, by omega, by omega⟩)).symm)
set_option maxHeartbeats 4000000 in
set_option maxRecDepth 100000 in
theorem g_isBound (C S : XS) (hC : WI C) (hw : WI S) (hr : NR C S) (r v : Int) (r0 : 0 ≤ r) (r1 : r < C.1 (4, 0, 0) 2) (v0 : 0 ≤ v) (v1 : v ≤ 2) (n : Nat) (hn : C.1 (34, r, 0) 2 = n) : X mL_isBound 0 (xEnt mL_isBound [xR (50, 0, 0), xI r, xI v]) [] (hp S) 0 0 (pRet (xI (bI (BdS C.1 r (3 * (2 - v)) n))) (hp S)) := by
  have c4 := wf4_2 hC
  have c34 := wf34_2 hC r0 (show r < 10 by omega)
  obtain ⟨q4, -, -, q6⟩ := hr.2 r r0 r1
  have hz := hw.1
  show X mL_isBound 0 [xR (50, 0, 0), xI r, xI v, none, none] [] (hp S) 0 0 _
  refine x_sipush (v := 1600) dL_isBound_0 (by decide) ?_
  refine x_bipush (v := 16) dL_isBound_3 (by decide) ?_
  refine x_iload_n dL_isBound_5 rfl ?_
  refine x_imul dL_isBound_6 ?_
  refine x_iadd dL_isBound_7 ?_
  refine x_istore_n (L' := [xR (50, 0, 0), xI r, xI v, xI (1600 + (16 * r)), none]) dL_isBound_8 (by decide) rfl ?_
  refine x_iconst dL_isBound_9 ?_
  refine x_istore (L' := [xR (50, 0, 0), xI r, xI v, xI (1600 + (16 * r)), xI 0]) dL_isBound_10 (by decide) rfl ?_
  exact l9_isBound C S hC hw hr r v r0 r1 v0 v1 n hn (n + 1) 0 (by omega) (by omega) (fun ⟨c, c1, _⟩ => by omega)
def pCt (C S : XS) (r : Int) : XO → XH → Prop := fun o h' => o = .inl (some (xI (bI (CanOn C r (onN C.1 0 (C.1 (9, 0, 0) 3).toNat))))) ∧ ∃ T, h' = hp T ∧ NQ S T ∧ WI T
theorem OnR.turn {C U : XS} {b on : Int} (h0 : 0 ≤ on) (h1 : on ≤ 1023) (c4 : C.1 (4, 0, 0) 2 ≤ 10) (h : OnR C U b on) {r : Int} (r0 : 0 ≤ r) (r1 : r < 10) : OnR C (putI U (51, b, 0) r 1) b (zOr on (zShl 1 r)) := fun k hk => by
  rw [putI_at, bI_c (bitI_orI on r k h0 h1 r0 r1 (by omega) (by omega))]
  by_cases e : (k : Int) = r
  · rw [if_pos e, bI_t (Or.inr e)]
  · rw [if_neg e, h k hk]
    exact bI_c ⟨Or.inl, fun z => z.elim id (fun y => absurd y e)⟩
set_option maxHeartbeats 4000000 in
set_option maxRecDepth 100000 in
theorem l9_canTurn (C S : XS) (hC : CB C) (hw : WI S) (ht : NT C S) (hr : NR C S) (hcnt : Cnt S) (r : Int) (r0 : 0 ≤ r) (r1 : r < C.1 (4, 0, 0) 2) (n : Nat) (hn : C.1 (34, r, 0) 2 = n) : ∀ (nn : Nat) (c : Nat), (n : Int) - c + 1 < (nn : Int) → (c ≤ n) → X mL_canTurn 45 [xR (50, 0, 0), xI 0, xI r, xI (1600 + 16 * r), xI (bI (BdA C.1 r n c)), xI (c : Int)] [] (hp S) 2 17 (pCt C S r) := by
  intro nn
  induction nn with
  | zero => intro c hm hc; exfalso; omega
  | succ nn ih =>
    intro c hm hc
    have c4 := wf4_2 hC.1
    have c9 := wf9_3 hC.1 (b := 0) (by omega) (by omega)
    have c34 := wf34_2 hC.1 r0 (show r < 10 by omega)
    have nl := hr.2 r r0 r1
    obtain ⟨q4, qh, -, q6⟩ := hr.2 r r0 r1
    obtain ⟨qh1, qh2, qh3, qh4, qh5⟩ := qh
    have h51 := hcnt.1
    have hz := hw.1
    have hN : (C.1 (34, r, 0) 2).toNat = n := by omega
    have ba : boundN C r (C.1 (34, r, 0) 2).toNat = 511 ↔ BdA C.1 r n n := by rw [← hN]; exact bound_all hC r0 r1 nl
    obtain ⟨oc, oe, o10, -⟩ := onN_nat hC.1 hC.2.2.2.2.2.2 0 (by omega) (by omega) (C.1 (9, 0, 0) 3).toNat (by omega)
    refine x_iload dL_canTurn_45 rfl ?_
    refine x_aload_n dL_canTurn_47 rfl ?_
    refine x_iload_n dL_canTurn_48 rfl ?_
    refine x_aldi (f := S.1 (50, 0, 0)) dL_canTurn_49 (hp50 S) (show (50 : Nat) ≠ 99 by decide) (by omega) (by omega) (by decide) ?_
    refine x_icmp_ge (tgt := 120) dL_canTurn_50 (by decide) (by first | exact hz _ _ | exact hw.1 _ _ | exact zR_of _ | exact bI_z _ | assumption | exact ⟨by omega, by omega⟩) (by first | exact hz _ _ | exact hw.1 _ _ | exact zR_of _ | exact bI_z _ | assumption | exact ⟨by omega, by omega⟩) (fun c50 => ?_) (fun c50 => ?_)
    · have e9 : BdA C.1 r n c ↔ BdA C.1 r n n := by rw [show c = n by omega]
      have ba := ba.trans e9.symm
      have b01 := bI_01 (BdA C.1 r n c)
      refine x_aload_n dL_canTurn_120 rfl ?_
      refine x_iload_n dL_canTurn_121 rfl ?_
      refine x_aload_n dL_canTurn_122 rfl ?_
      refine x_iload_n dL_canTurn_123 rfl ?_
      refine x_aldi (f := S.1 (50, 0, 0)) dL_canTurn_124 (hp50 S) (show (50 : Nat) ≠ 99 by decide) (by omega) (by omega) (by decide) ?_
      refine x_top (show S.1 (50, 0, 0) 0 = (((C.1 (9, 0, 0) 3).toNat : Nat) : Int) from by have k := ht.1; omega) ?_
      refine x_callS (a := 1) (b := 10) (as := [xR (50, 0, 0), xI 0, xI (((C.1 (9, 0, 0) 3).toNat : Nat) : Int)]) (rest := []) ok_L_rules dL_canTurn_125 wd846 wd847 (c_rules C S hC hw (by exact ht) (by exact hr) (by exact hcnt) (C.1 (9, 0, 0) 3).toNat (by omega)) rfl (Nat.le_of_ble_eq_true rfl) (Nat.le_of_ble_eq_true rfl) (by decide) (by omega) (by omega) (fun _ q => by cases q.1) (fun _ _ q => ?_) (fun _ _ q => by cases q.1)
      obtain ⟨y, U, rfl, eU, wU, cU, oU⟩ := q
      cases y
      have c51 := eU.2.2.2.1 51
      have oZ := OnR.turn (by omega) (by omega) c4.2 oU r0 (show r < 10 by omega)
      have eZ : NQ S (putI U (51, S.2.2.2.1 51, 0) r 1) := eU.put ⟨by decide, by decide⟩ (Int.le_refl _) _ _
      refine x_astore (L' := [xR (50, 0, 0), xI 0, xI r, xI (1600 + 16 * r), xI (bI (BdA C.1 r n c)), xR (51, S.2.2.2.1 51, 0)]) dL_canTurn_128 (by decide) rfl ?_
      refine x_aload dL_canTurn_130 rfl ?_
      refine x_iload_n dL_canTurn_132 rfl ?_
      refine x_iconst dL_canTurn_133 ?_
      refine x_astz dL_canTurn_134 (hp51 U (by omega) (by omega)) (show (51 : Nat) ≠ 99 by decide) (by omega) (by omega) (by decide) (Or.inr rfl) ?_
      refine x_heq (pa51 U (by omega) (by omega) r 1) ?_
      have hw134_1 : WI (putI U (51, S.2.2.2.1 51, 0) r 1) := wpa51 wU (by omega) (by omega) (Or.inr rfl)
      refine x_iload dL_canTurn_135 rfl ?_
      refine x_if_eq (tgt := 156) dL_canTurn_137 (by decide) (by first | exact hz _ _ | exact hw.1 _ _ | exact zR_of _ | exact bI_z _ | assumption | exact ⟨by omega, by omega⟩) (fun c137 => ?_) (fun c137 => ?_)
      · refine x_iconst dL_canTurn_156 ?_
        exact x_zret dL_canTurn_157 rfl (Or.inl rfl) ⟨congrArg (fun v => (.inl (some (xI v)) : XO)) (bI_f (fun z => by have z1 := ba.mp z.1; have z2 := bI_t z1; omega)).symm, _, rfl, eZ, hw134_1⟩
      · refine x_aload_n dL_canTurn_140 rfl ?_
        refine x_aload dL_canTurn_141 rfl ?_
        refine x_callS (a := 1) (b := 7) (as := [xR (50, 0, 0), xR (51, S.2.2.2.1 51, 0)]) (rest := []) ok_L_layers dL_canTurn_143 wd842 wd843 (c_layers C (putI U (51, S.2.2.2.1 51, 0) r 1) hC.1 hw134_1 (hr.q eZ) (hcnt.q eZ) (S.2.2.2.1 51) hcnt.1 (show S.2.2.2.1 51 < U.2.2.2.1 51 by omega) (zOr (onN C.1 0 (C.1 (9, 0, 0) 3).toNat) (zShl 1 r)) oZ) rfl (Nat.le_of_ble_eq_true rfl) (Nat.le_of_ble_eq_true rfl) (by decide) (by omega) (by omega) (fun _ q => by cases q.1) (fun _ _ q => ?_) (fun _ _ q => by cases q.1)
        obtain ⟨y, V, rfl, ⟨eV, wV, cV⟩, hV⟩ := q
        cases y
        have h52 := (hcnt.q eZ).2.1
        refine x_bipush (v := 6) dL_canTurn_146 (by decide) ?_
        refine x_aldi (f := V.1 (52, (putI U (51, S.2.2.2.1 51, 0) r 1).2.2.2.1 52, 0)) dL_canTurn_148 (hp52 V (by omega) (by omega)) (show (52 : Nat) ≠ 99 by decide) (by omega) (by omega) (by decide) ?_
        have h6 : V.1 (52, (putI U (51, S.2.2.2.1 51, 0) r 1).2.2.2.1 52, 0) 6 = 0 ∨ V.1 (52, (putI U (51, S.2.2.2.1 51, 0) r 1).2.2.2.1 52, 0) 6 = 1 := by rcases hV with ⟨k, _⟩ | ⟨k, _⟩; exact Or.inl k; exact Or.inr k
        refine x_if_ne (tgt := 156) dL_canTurn_149 (by decide) (by first | exact hz _ _ | exact hw.1 _ _ | exact zR_of _ | exact bI_z _ | assumption | exact ⟨by omega, by omega⟩) (fun c149 => ?_) (fun c149 => ?_)
        · refine x_iconst dL_canTurn_156 ?_
          exact x_zret dL_canTurn_157 rfl (Or.inl rfl) ⟨congrArg (fun v => (.inl (some (xI v)) : XO)) (by first | exact (bI_t (show CanOn _ _ _ from ⟨ba.mpr (bI_1.mp (by omega)), by rcases hV with ⟨_, k⟩ | ⟨k, _⟩; exact ⟨_, k.1, k.2.1⟩; exfalso; omega⟩)).symm | exact (bI_f (fun z => by obtain ⟨-, g, g1, g2⟩ := z; rcases hV with ⟨k, _⟩ | ⟨_, k⟩; omega; exact k g g1 g2)).symm), V, rfl, eZ.tr eV, wV⟩
        · refine x_iconst dL_canTurn_152 ?_
          refine x_goto (tgt := 157) dL_canTurn_153 (by decide) ?_
          exact x_zret dL_canTurn_157 rfl (Or.inr rfl) ⟨congrArg (fun v => (.inl (some (xI v)) : XO)) (by first | exact (bI_t (show CanOn _ _ _ from ⟨ba.mpr (bI_1.mp (by omega)), by rcases hV with ⟨_, k⟩ | ⟨k, _⟩; exact ⟨_, k.1, k.2.1⟩; exfalso; omega⟩)).symm | exact (bI_f (fun z => by obtain ⟨-, g, g1, g2⟩ := z; rcases hV with ⟨k, _⟩ | ⟨_, k⟩; omega; exact k g g1 g2)).symm), V, rfl, eZ.tr eV, wV⟩
    · obtain ⟨u1, u2, u3, u4, u5, u6⟩ := q6 (c : Int) (by omega) (by omega)
      refine x_iload dL_canTurn_53 rfl ?_
      refine x_aload_n dL_canTurn_55 rfl ?_
      refine x_iload_n dL_canTurn_56 rfl ?_
      refine x_bipush (v := 7) dL_canTurn_57 (by decide) ?_
      refine x_iadd dL_canTurn_59 ?_
      refine x_iconst dL_canTurn_60 ?_
      refine x_iload dL_canTurn_61 rfl ?_
      refine x_imul dL_canTurn_63 ?_
      refine x_iadd dL_canTurn_64 ?_
      refine x_aldi (f := S.1 (50, 0, 0)) dL_canTurn_65 (hp50 S) (show (50 : Nat) ≠ 99 by decide) (by omega) (by omega) (by decide) ?_
      refine x_if_eq (tgt := 106) dL_canTurn_66 (by decide) (by first | exact hz _ _ | exact hw.1 _ _ | exact zR_of _ | exact bI_z _ | assumption | exact ⟨by omega, by omega⟩) (fun c66 => ?_) (fun c66 => ?_)
      · refine x_iconst dL_canTurn_106 ?_
        refine x_goto (tgt := 111) dL_canTurn_107 (by decide) ?_
        refine x_iand dL_canTurn_111 ?_
        refine x_istore (L' := [xR (50, 0, 0), xI 0, xI r, xI (1600 + 16 * r), xI (zAnd (bI (BdA C.1 r n c)) 1), xI (c : Int)]) dL_canTurn_112 (by decide) rfl ?_
        refine x_iinc (L' := [xR (50, 0, 0), xI 0, xI r, xI (1600 + 16 * r), xI (zAnd (bI (BdA C.1 r n c)) 1), xI ((c : Int) + 1)]) dL_canTurn_114 rfl rfl ?_
        refine x_goto (tgt := 45) dL_canTurn_117 (by decide) ?_
        have kk := ih (c + 1) (by omega) (by omega)
        rw [show bI (BdA C.1 r n (c + 1)) = zAnd (bI (BdA C.1 r n c)) 1 from by rw [zAnd_b1]; exact bI_c (BdA.s.trans ⟨fun z => z.1, fun z => ⟨z, fun y => by first | exact absurd (show C.1 (36, r, c) 1 = 0 by omega) y | exact ⟨by rw [u2]; assumption, by rw [u3]; assumption⟩⟩⟩)] at kk
        exact kk
      · refine x_aload_n dL_canTurn_69 rfl ?_
        refine x_iload_n dL_canTurn_70 rfl ?_
        refine x_aload_n dL_canTurn_71 rfl ?_
        refine x_iload_n dL_canTurn_72 rfl ?_
        refine x_iconst dL_canTurn_73 ?_
        refine x_iadd dL_canTurn_74 ?_
        refine x_iconst dL_canTurn_75 ?_
        refine x_iload dL_canTurn_76 rfl ?_
        refine x_imul dL_canTurn_78 ?_
        refine x_iadd dL_canTurn_79 ?_
        refine x_aldi (f := S.1 (50, 0, 0)) dL_canTurn_80 (hp50 S) (show (50 : Nat) ≠ 99 by decide) (by omega) (by omega) (by decide) ?_
        refine x_callS_r (a := 0) (b := 0) (as := [xR (50, 0, 0), xI r, xI (S.1 (50, 0, 0) (((1600 + 16 * r) + 5) + (4 * (c : Int))))]) (rest := [xI (bI (BdA C.1 r n c))]) ok_L_isBound dL_canTurn_81 wd861 wd862 (g_isBound C S hC.1 hw hr r (S.1 (50, 0, 0) (((1600 + 16 * r) + 5) + (4 * (c : Int)))) r0 r1 (by omega) (by omega) n hn) rfl (Nat.le_of_ble_eq_true rfl) (Nat.le_of_ble_eq_true rfl) (by decide) (by omega) (by omega) ?_
        by_cases b81 : BdS C.1 r (3 * (2 - (S.1 (50, 0, 0) (((1600 + 16 * r) + 5) + (4 * (c : Int)))))) n
        · refine x_top (bI_t b81) ?_
          refine x_if_eq (tgt := 110) dL_canTurn_84 (by decide) ⟨by decide, by decide⟩ (fun z => absurd z (by decide)) (fun _ => ?_)
          refine x_aload_n dL_canTurn_87 rfl ?_
          refine x_iload_n dL_canTurn_88 rfl ?_
          refine x_aload_n dL_canTurn_89 rfl ?_
          refine x_iload_n dL_canTurn_90 rfl ?_
          refine x_bipush (v := 6) dL_canTurn_91 (by decide) ?_
          refine x_iadd dL_canTurn_93 ?_
          refine x_iconst dL_canTurn_94 ?_
          refine x_iload dL_canTurn_95 rfl ?_
          refine x_imul dL_canTurn_97 ?_
          refine x_iadd dL_canTurn_98 ?_
          refine x_aldi (f := S.1 (50, 0, 0)) dL_canTurn_99 (hp50 S) (show (50 : Nat) ≠ 99 by decide) (by omega) (by omega) (by decide) ?_
          refine x_callS_r (a := 0) (b := 0) (as := [xR (50, 0, 0), xI r, xI (S.1 (50, 0, 0) (((1600 + 16 * r) + 6) + (4 * (c : Int))))]) (rest := [xI (bI (BdA C.1 r n c))]) ok_L_isBound dL_canTurn_100 wd861 wd862 (g_isBound C S hC.1 hw hr r (S.1 (50, 0, 0) (((1600 + 16 * r) + 6) + (4 * (c : Int)))) r0 r1 (by omega) (by omega) n hn) rfl (Nat.le_of_ble_eq_true rfl) (Nat.le_of_ble_eq_true rfl) (by decide) (by omega) (by omega) ?_
          by_cases b100 : BdS C.1 r (3 * (2 - (S.1 (50, 0, 0) (((1600 + 16 * r) + 6) + (4 * (c : Int)))))) n
          · refine x_top (bI_t b100) ?_
            refine x_if_eq (tgt := 110) dL_canTurn_103 (by decide) ⟨by decide, by decide⟩ (fun z => absurd z (by decide)) (fun _ => ?_)
            refine x_iconst dL_canTurn_106 ?_
            refine x_goto (tgt := 111) dL_canTurn_107 (by decide) ?_
            refine x_iand dL_canTurn_111 ?_
            refine x_istore (L' := [xR (50, 0, 0), xI 0, xI r, xI (1600 + 16 * r), xI (zAnd (bI (BdA C.1 r n c)) 1), xI (c : Int)]) dL_canTurn_112 (by decide) rfl ?_
            refine x_iinc (L' := [xR (50, 0, 0), xI 0, xI r, xI (1600 + 16 * r), xI (zAnd (bI (BdA C.1 r n c)) 1), xI ((c : Int) + 1)]) dL_canTurn_114 rfl rfl ?_
            refine x_goto (tgt := 45) dL_canTurn_117 (by decide) ?_
            have kk := ih (c + 1) (by omega) (by omega)
            rw [show bI (BdA C.1 r n (c + 1)) = zAnd (bI (BdA C.1 r n c)) 1 from by rw [zAnd_b1]; exact bI_c (BdA.s.trans ⟨fun z => z.1, fun z => ⟨z, fun y => by first | exact absurd (show C.1 (36, r, c) 1 = 0 by omega) y | exact ⟨by rw [u2]; assumption, by rw [u3]; assumption⟩⟩⟩)] at kk
            exact kk
          · refine x_top (bI_f b100) ?_
            refine x_if_eq (tgt := 110) dL_canTurn_103 (by decide) ⟨by decide, by decide⟩ (fun _ => ?_) (fun z => absurd z (by decide))
            refine x_iconst dL_canTurn_110 ?_
            refine x_iand dL_canTurn_111 ?_
            refine x_istore (L' := [xR (50, 0, 0), xI 0, xI r, xI (1600 + 16 * r), xI (zAnd (bI (BdA C.1 r n c)) 0), xI (c : Int)]) dL_canTurn_112 (by decide) rfl ?_
            refine x_iinc (L' := [xR (50, 0, 0), xI 0, xI r, xI (1600 + 16 * r), xI (zAnd (bI (BdA C.1 r n c)) 0), xI ((c : Int) + 1)]) dL_canTurn_114 rfl rfl ?_
            refine x_goto (tgt := 45) dL_canTurn_117 (by decide) ?_
            have kk := ih (c + 1) (by omega) (by omega)
            rw [show bI (BdA C.1 r n (c + 1)) = zAnd (bI (BdA C.1 r n c)) 0 from by rw [zAnd_b0]; exact bI_f (fun z => by have k := (BdA.s.mp z).2 (by omega); rw [u2, u3] at k; first | exact absurd k.1 (by assumption) | exact absurd k.2 (by assumption))] at kk
            exact kk
        · refine x_top (bI_f b81) ?_
          refine x_if_eq (tgt := 110) dL_canTurn_84 (by decide) ⟨by decide, by decide⟩ (fun _ => ?_) (fun z => absurd z (by decide))
          refine x_iconst dL_canTurn_110 ?_
          refine x_iand dL_canTurn_111 ?_
          refine x_istore (L' := [xR (50, 0, 0), xI 0, xI r, xI (1600 + 16 * r), xI (zAnd (bI (BdA C.1 r n c)) 0), xI (c : Int)]) dL_canTurn_112 (by decide) rfl ?_
          refine x_iinc (L' := [xR (50, 0, 0), xI 0, xI r, xI (1600 + 16 * r), xI (zAnd (bI (BdA C.1 r n c)) 0), xI ((c : Int) + 1)]) dL_canTurn_114 rfl rfl ?_
          refine x_goto (tgt := 45) dL_canTurn_117 (by decide) ?_
          have kk := ih (c + 1) (by omega) (by omega)
          rw [show bI (BdA C.1 r n (c + 1)) = zAnd (bI (BdA C.1 r n c)) 0 from by rw [zAnd_b0]; exact bI_f (fun z => by have k := (BdA.s.mp z).2 (by omega); rw [u2, u3] at k; first | exact absurd k.1 (by assumption) | exact absurd k.2 (by assumption))] at kk
          exact kk
set_option maxHeartbeats 4000000 in
set_option maxRecDepth 100000 in
theorem c_canTurn (C S : XS) (hC : CB C) (hw : WI S) (ht : NT C S) (hr : NR C S) (hcnt : Cnt S) (r : Int) (r0 : 0 ≤ r) (r1 : r < C.1 (4, 0, 0) 2) (n : Nat) (hn : C.1 (34, r, 0) 2 = n) : X mL_canTurn 0 (xEnt mL_canTurn [xR (50, 0, 0), xI 0, xI r]) [] (hp S) 2 17 (pCt C S r) := by
  have c4 := wf4_2 hC.1
  have c9 := wf9_3 hC.1 (b := 0) (by omega) (by omega)
  have c34 := wf34_2 hC.1 r0 (show r < 10 by omega)
  have nl := hr.2 r r0 r1
  obtain ⟨q4, qh, -, q6⟩ := hr.2 r r0 r1
  obtain ⟨qh1, qh2, qh3, qh4, qh5⟩ := qh
  have h51 := hcnt.1
  have hz := hw.1
  have hN : (C.1 (34, r, 0) 2).toNat = n := by omega
  have ba : boundN C r (C.1 (34, r, 0) 2).toNat = 511 ↔ BdA C.1 r n n := by rw [← hN]; exact bound_all hC r0 r1 nl
  obtain ⟨oc, oe, o10, -⟩ := onN_nat hC.1 hC.2.2.2.2.2.2 0 (by omega) (by omega) (C.1 (9, 0, 0) 3).toNat (by omega)
  show X mL_canTurn 0 [xR (50, 0, 0), xI 0, xI r, none, none, none] [] (hp S) 2 17 _
  refine x_sipush (v := 1600) dL_canTurn_0 (by decide) ?_
  refine x_bipush (v := 16) dL_canTurn_3 (by decide) ?_
  refine x_iload_n dL_canTurn_5 rfl ?_
  refine x_imul dL_canTurn_6 ?_
  refine x_iadd dL_canTurn_7 ?_
  refine x_istore_n (L' := [xR (50, 0, 0), xI 0, xI r, xI (1600 + (16 * r)), none, none]) dL_canTurn_8 (by decide) rfl ?_
  refine x_aload_n dL_canTurn_9 rfl ?_
  refine x_iload_n dL_canTurn_10 rfl ?_
  refine x_aload_n dL_canTurn_11 rfl ?_
  refine x_iload_n dL_canTurn_12 rfl ?_
  refine x_iconst dL_canTurn_13 ?_
  refine x_iadd dL_canTurn_14 ?_
  refine x_aldi (f := S.1 (50, 0, 0)) dL_canTurn_15 (hp50 S) (show (50 : Nat) ≠ 99 by decide) (by omega) (by omega) (by decide) ?_
  refine x_callS_r (a := 0) (b := 0) (as := [xR (50, 0, 0), xI r, xI (S.1 (50, 0, 0) ((1600 + (16 * r)) + 2))]) (rest := []) ok_L_isBound dL_canTurn_16 wd861 wd862 (g_isBound C S hC.1 hw hr r (S.1 (50, 0, 0) ((1600 + (16 * r)) + 2)) r0 r1 (by omega) (by omega) n hn) rfl (Nat.le_of_ble_eq_true rfl) (Nat.le_of_ble_eq_true rfl) (by decide) (by omega) (by omega) ?_
  by_cases b16 : BdS C.1 r (3 * (2 - (S.1 (50, 0, 0) ((1600 + (16 * r)) + 2)))) n
  · refine x_top (bI_t b16) ?_
    refine x_if_eq (tgt := 39) dL_canTurn_19 (by decide) ⟨by decide, by decide⟩ (fun z => absurd z (by decide)) (fun _ => ?_)
    refine x_aload_n dL_canTurn_22 rfl ?_
    refine x_iload_n dL_canTurn_23 rfl ?_
    refine x_aload_n dL_canTurn_24 rfl ?_
    refine x_iload_n dL_canTurn_25 rfl ?_
    refine x_iconst dL_canTurn_26 ?_
    refine x_iadd dL_canTurn_27 ?_
    refine x_aldi (f := S.1 (50, 0, 0)) dL_canTurn_28 (hp50 S) (show (50 : Nat) ≠ 99 by decide) (by omega) (by omega) (by decide) ?_
    refine x_callS_r (a := 0) (b := 0) (as := [xR (50, 0, 0), xI r, xI (S.1 (50, 0, 0) ((1600 + (16 * r)) + 3))]) (rest := []) ok_L_isBound dL_canTurn_29 wd861 wd862 (g_isBound C S hC.1 hw hr r (S.1 (50, 0, 0) ((1600 + (16 * r)) + 3)) r0 r1 (by omega) (by omega) n hn) rfl (Nat.le_of_ble_eq_true rfl) (Nat.le_of_ble_eq_true rfl) (by decide) (by omega) (by omega) ?_
    by_cases b29 : BdS C.1 r (3 * (2 - (S.1 (50, 0, 0) ((1600 + (16 * r)) + 3)))) n
    · refine x_top (bI_t b29) ?_
      refine x_if_eq (tgt := 39) dL_canTurn_32 (by decide) ⟨by decide, by decide⟩ (fun z => absurd z (by decide)) (fun _ => ?_)
      refine x_iconst dL_canTurn_35 ?_
      refine x_goto (tgt := 40) dL_canTurn_36 (by decide) ?_
      refine x_istore (L' := [xR (50, 0, 0), xI 0, xI r, xI (1600 + (16 * r)), xI 1, none]) dL_canTurn_40 (by decide) rfl ?_
      refine x_iconst dL_canTurn_42 ?_
      refine x_istore (L' := [xR (50, 0, 0), xI 0, xI r, xI (1600 + (16 * r)), xI 1, xI 0]) dL_canTurn_43 (by decide) rfl ?_
      have kk := l9_canTurn C S hC hw ht hr hcnt r r0 r1 n hn (n + 2) 0 (by omega) (by omega)
      rw [(bI_t (show BdA C.1 r n 0 from ⟨⟨by rw [qh2]; assumption, by rw [qh3]; assumption⟩, fun c hc => by omega⟩))] at kk
      exact kk
    · refine x_top (bI_f b29) ?_
      refine x_if_eq (tgt := 39) dL_canTurn_32 (by decide) ⟨by decide, by decide⟩ (fun _ => ?_) (fun z => absurd z (by decide))
      refine x_iconst dL_canTurn_39 ?_
      refine x_istore (L' := [xR (50, 0, 0), xI 0, xI r, xI (1600 + (16 * r)), xI 0, none]) dL_canTurn_40 (by decide) rfl ?_
      refine x_iconst dL_canTurn_42 ?_
      refine x_istore (L' := [xR (50, 0, 0), xI 0, xI r, xI (1600 + (16 * r)), xI 0, xI 0]) dL_canTurn_43 (by decide) rfl ?_
      have kk := l9_canTurn C S hC hw ht hr hcnt r r0 r1 n hn (n + 2) 0 (by omega) (by omega)
      rw [(bI_f (fun z => by have y := z.1; rw [qh2, qh3] at y; first | exact absurd y.1 (by assumption) | exact absurd y.2 (by assumption)))] at kk
      exact kk
  · refine x_top (bI_f b16) ?_
    refine x_if_eq (tgt := 39) dL_canTurn_19 (by decide) ⟨by decide, by decide⟩ (fun _ => ?_) (fun z => absurd z (by decide))
    refine x_iconst dL_canTurn_39 ?_
    refine x_istore (L' := [xR (50, 0, 0), xI 0, xI r, xI (1600 + (16 * r)), xI 0, none]) dL_canTurn_40 (by decide) rfl ?_
    refine x_iconst dL_canTurn_42 ?_
    refine x_istore (L' := [xR (50, 0, 0), xI 0, xI r, xI (1600 + (16 * r)), xI 0, xI 0]) dL_canTurn_43 (by decide) rfl ?_
    have kk := l9_canTurn C S hC hw ht hr hcnt r r0 r1 n hn (n + 2) 0 (by omega) (by omega)
    rw [(bI_f (fun z => by have y := z.1; rw [qh2, qh3] at y; first | exact absurd y.1 (by assumption) | exact absurd y.2 (by assumption)))] at kk
    exact kk
