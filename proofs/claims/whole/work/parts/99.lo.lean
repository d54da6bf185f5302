/-! the law's loop -/
theorem z31 (a : Int) : 0 ≤ zAnd a 31 ∧ zAnd a 31 ≤ 31 := by
  have h : (zI a &&& zI 31).toNatClampNeg ≤ 31 ∧ 0 ≤ (zI a &&& zI 31).toInt := by
    have e : (zI a &&& zI 31).toBitVec.toNat ≤ 31 := by
      rw [Int32.toBitVec_and, BitVec.toNat_and]
      exact Nat.and_le_right
    have e2 : (zI a &&& zI 31).toInt = ((zI a &&& zI 31).toBitVec.toNat : Int) := by
      rw [← Int32.toInt_toBitVec, BitVec.toInt_eq_toNat_of_lt (by omega)]
    refine ⟨?_, by omega⟩
    show (zI a &&& zI 31).toInt.toNat ≤ 31
    omega
  have h2 : zAnd a 31 = (zI a &&& zI 31).toInt := rfl
  have h3 : (zI a &&& zI 31).toInt.toNat ≤ 31 := h.1
  omega
set_option maxHeartbeats 4000000 in
set_option maxRecDepth 100000 in
theorem l_law (n : Nat) (hn2 : n < 1000000) : ∀ (m : Nat) (S : XS) (i : Int) (kc ks : Nat), LwI S → S.2.2.2.2.2 = n → 0 ≤ i → i ≤ n → (n : Int) - i < 7 * (m : Int) + 7 → 30 * m ≤ kc → 500 * m + 82420 ≤ ks + usum S 5 → X mL_law 28 [xR (99, 0, 0), xR (0, 0, 0), xR (50, 0, 0), xR (90, 0, 0), xR (91, 0, 0), xI i, none, none, none] [] (hp S) kc ks (fun o _ => o = .inl (some (xI 1))) := by
  intro m
  induction m with
  | zero =>
    intro S i kc ks hI hn i0 i1 hm hk hs
    refine x_iload dL_law_28 rfl ?_
    refine x_aload_n dL_law_30 rfl ?_
    refine x_lens (n := n) dL_law_31 (by rw [hp99, hn]) rfl (by omega) ?_
    refine x_bipush (v := 7) dL_law_32 (by decide) ?_
    refine x_isub dL_law_34 ?_
    refine x_icmp_gt (tgt := 2706) dL_law_35 (by decide) ⟨by omega, by omega⟩ ⟨by omega, by omega⟩ (fun _ => ?_) (fun c => by exfalso; omega)
    refine x_iconst dL_law_2706 ?_
    exact x_zret dL_law_2707 rfl (Or.inr rfl) rfl
  | succ m ih =>
    intro S i kc ks hI hn i0 i1 hm hk hs
    refine x_iload dL_law_28 rfl ?_
    refine x_aload_n dL_law_30 rfl ?_
    refine x_lens (n := n) dL_law_31 (by rw [hp99, hn]) rfl (by omega) ?_
    refine x_bipush (v := 7) dL_law_32 (by decide) ?_
    refine x_isub dL_law_34 ?_
    refine x_icmp_gt (tgt := 2706) dL_law_35 (by decide) ⟨by omega, by omega⟩ ⟨by omega, by omega⟩ (fun _ => ?_) (fun c => ?_)
    · refine x_iconst dL_law_2706 ?_
      exact x_zret dL_law_2707 rfl (Or.inr rfl) rfl
    refine x_aload_n dL_law_38 rfl ?_
    refine x_iload dL_law_39 rfl ?_
    refine x_alds (n := n) dL_law_41 (by rw [hp99, hn]) rfl (by omega) (by omega) (by omega) ?_
    refine x_bipush (v := 31) dL_law_42 (by decide) ?_
    refine x_iand dL_law_44 ?_
    have kont : KL n i (kc - 30) (ks + usum S 5 - 500) (fun o _ => o = .inl (some (xI 1))) := fun T kc2 ks2 lT tn h1 h2 => by
      refine x_iinc (L' := [xR (99, 0, 0), xR (0, 0, 0), xR (50, 0, 0), xR (90, 0, 0), xR (91, 0, 0), xI (i + 7), none, none, none]) dL_law_2700 rfl rfl ?_
      refine x_goto (tgt := 28) dL_law_2703 (by decide) ?_
      exact ih T (i + 7) kc2 ks2 lT tn (by omega) (by omega) (by omega) (by omega) (by omega)
    obtain ⟨v0, v1⟩ := z31 (S.1 (99, 0, 0) i)
    generalize zAnd (S.1 (99, 0, 0) i) 31 = v at v0 v1
    have hv : v = 0 ∨ v = 1 ∨ v = 2 ∨ v = 3 ∨ v = 4 ∨ v = 5 ∨ v = 6 ∨ v = 7 ∨ v = 8 ∨ v = 9 ∨ v = 10 ∨ v = 11 ∨ v = 12 ∨ v = 13 ∨ v = 14 ∨ v = 15 ∨ v = 16 ∨ v = 17 ∨ v = 18 ∨ v = 19 ∨ v = 20 ∨ v = 21 ∨ v = 22 ∨ v = 23 ∨ v = 24 ∨ v = 25 ∨ v = 26 ∨ v = 27 ∨ v = 28 ∨ v = 29 ∨ v = 30 ∨ v = 31 := by omega
    rcases hv with rfl | rfl | rfl | rfl | rfl | rfl | rfl | rfl | rfl | rfl | rfl | rfl | rfl | rfl | rfl | rfl | rfl | rfl | rfl | rfl | rfl | rfl | rfl | rfl | rfl | rfl | rfl | rfl | rfl | rfl | rfl | rfl
    · exact x_table (tgt := 188) dL_law_45 ⟨by decide, by decide⟩ (by decide) (by decide) rfl (by decide) (lc_tell S hI n hn hn2 i i0 (by omega) kc ks (by omega) (by omega) kont)
    · exact x_table (tgt := 280) dL_law_45 ⟨by decide, by decide⟩ (by decide) (by decide) rfl (by decide) (lc_untell S hI n hn hn2 i i0 (by omega) kc ks (by omega) (by omega) kont)
    · exact x_table (tgt := 372) dL_law_45 ⟨by decide, by decide⟩ (by decide) (by decide) rfl (by decide) (lc_setUnique S hI n hn hn2 i i0 (by omega) kc ks (by omega) (by omega) kont)
    · exact x_table (tgt := 463) dL_law_45 ⟨by decide, by decide⟩ (by decide) (by decide) rfl (by decide) (lc_addRule S hI n hn hn2 i i0 (by omega) kc ks (by omega) (by omega) kont)
    · exact x_table (tgt := 581) dL_law_45 ⟨by decide, by decide⟩ (by decide) (by decide) rfl (by decide) (lc_addCondition S hI n hn hn2 i i0 (by omega) kc ks (by omega) (by omega) kont)
    · exact x_table (tgt := 701) dL_law_45 ⟨by decide, by decide⟩ (by decide) (by decide) rfl (by decide) (lc_turn S hI n hn hn2 i i0 (by omega) kc ks (by omega) (by omega) kont)
    · exact x_table (tgt := 797) dL_law_45 ⟨by decide, by decide⟩ (by decide) (by decide) rfl (by decide) (lc_isOn S hI n hn hn2 i i0 (by omega) kc ks (by omega) (by omega) kont)
    · exact x_table (tgt := 884) dL_law_45 ⟨by decide, by decide⟩ (by decide) (by decide) rfl (by decide) (lc_layer S hI n hn hn2 i i0 (by omega) kc ks (by omega) (by omega) kont)
    · exact x_table (tgt := 952) dL_law_45 ⟨by decide, by decide⟩ (by decide) (by decide) rfl (by decide) (lc_knowing S hI n hn hn2 i i0 (by omega) kc ks (by omega) (by omega) kont)
    · exact x_table (tgt := 1008) dL_law_45 ⟨by decide, by decide⟩ (by decide) (by decide) rfl (by decide) (lc_holds S hI n hn hn2 i i0 (by omega) kc ks (by omega) (by omega) kont)
    · exact x_table (tgt := 1107) dL_law_45 ⟨by decide, by decide⟩ (by decide) (by decide) rfl (by decide) (lc_holdsAnew S hI n hn hn2 i i0 (by omega) kc ks (by omega) (by omega) kont)
    · exact x_table (tgt := 1206) dL_law_45 ⟨by decide, by decide⟩ (by decide) (by decide) rfl (by decide) (lc_count S hI n hn hn2 i i0 (by omega) kc ks (by omega) (by omega) kont)
    · exact x_table (tgt := 1298) dL_law_45 ⟨by decide, by decide⟩ (by decide) (by decide) rfl (by decide) (lc_spanFrom S hI n hn hn2 i i0 (by omega) kc ks (by omega) (by omega) kont)
    · exact x_table (tgt := 1390) dL_law_45 ⟨by decide, by decide⟩ (by decide) (by decide) rfl (by decide) (lc_spanTo S hI n hn hn2 i i0 (by omega) kc ks (by omega) (by omega) kont)
    · exact x_table (tgt := 1482) dL_law_45 ⟨by decide, by decide⟩ (by decide) (by decide) rfl (by decide) (lc_since S hI n hn hn2 i i0 (by omega) kc ks (by omega) (by omega) kont)
    · exact x_table (tgt := 1562) dL_law_45 ⟨by decide, by decide⟩ (by decide) (by decide) rfl (by decide) (lc_rank S hI n hn hn2 i i0 (by omega) kc ks (by omega) (by omega) kont)
    · exact x_table (tgt := 1654) dL_law_45 ⟨by decide, by decide⟩ (by decide) (by decide) rfl (by decide) (lc_reason S hI n hn hn2 i i0 (by omega) kc ks (by omega) (by omega) kont)
    · exact x_table (tgt := 1746) dL_law_45 ⟨by decide, by decide⟩ (by decide) (by decide) rfl (by decide) (lc_reasonFact S hI n hn hn2 i i0 (by omega) kc ks (by omega) (by omega) kont)
    · exact x_table (tgt := 1850) dL_law_45 ⟨by decide, by decide⟩ (by decide) (by decide) rfl (by decide) (lc_proof S hI n hn hn2 i i0 (by omega) kc ks (by omega) (by omega) kont)
    · exact x_table (tgt := 1942) dL_law_45 ⟨by decide, by decide⟩ (by decide) (by decide) rfl (by decide) (lc_forget S hI n hn hn2 i i0 (by omega) kc ks (by omega) (by omega) kont)
    · exact x_table (tgt := 1998) dL_law_45 ⟨by decide, by decide⟩ (by decide) (by decide) rfl (by decide) (lc_isForgotten S hI n hn hn2 i i0 (by omega) kc ks (by omega) (by omega) kont)
    · exact x_table (tgt := 2073) dL_law_45 ⟨by decide, by decide⟩ (by decide) (by decide) rfl (by decide) (lc_seal S hI n hn hn2 i i0 (by omega) kc ks (by omega) (by omega) kont)
    · exact x_table (tgt := 2141) dL_law_45 ⟨by decide, by decide⟩ (by decide) (by decide) rfl (by decide) (lc_fork S hI n hn hn2 i i0 (by omega) kc ks (by omega) (by omega) kont)
    · exact x_table (tgt := 2209) dL_law_45 ⟨by decide, by decide⟩ (by decide) (by decide) rfl (by decide) (lc_merge S hI n hn hn2 i i0 (by omega) kc ks (by omega) (by omega) kont)
    · exact x_table (tgt := 2265) dL_law_45 ⟨by decide, by decide⟩ (by decide) (by decide) rfl (by decide) (lc_conflicts S hI n hn hn2 i i0 (by omega) kc ks (by omega) (by omega) kont)
    · exact x_table (tgt := 2278) dL_law_45 ⟨by decide, by decide⟩ (by decide) (by decide) rfl (by decide) (lc_listen S hI n hn hn2 i i0 (by omega) kc ks (by omega) (by omega) kont)
    · exact x_table (tgt := 2382) dL_law_45 ⟨by decide, by decide⟩ (by decide) (by decide) rfl (by decide) (lc_waiting S hI n hn hn2 i i0 (by omega) kc ks (by omega) (by omega) kont)
    · exact x_table (tgt := 2438) dL_law_45 ⟨by decide, by decide⟩ (by decide) (by decide) rfl (by decide) (lc_next S hI n hn hn2 i i0 (by omega) kc ks (by omega) (by omega) kont)
    · exact x_table (tgt := 2494) dL_law_45 ⟨by decide, by decide⟩ (by decide) (by decide) rfl (by decide) (lc_hours S hI n hn hn2 i i0 (by omega) kc ks (by omega) (by omega) kont)
    · exact x_table (tgt := 2508) dL_law_45 ⟨by decide, by decide⟩ (by decide) (by decide) rfl (by decide) (lc_derivedShare S hI n hn hn2 i i0 (by omega) kc ks (by omega) (by omega) kont)
    · exact x_table (tgt := 2598) dL_law_45 ⟨by decide, by decide⟩ (by decide) (by decide) rfl (by decide) (lc_meanRank S hI n hn hn2 i i0 (by omega) kc ks (by omega) (by omega) kont)
    · exact x_table (tgt := 2687) dL_law_45 ⟨by decide, by decide⟩ (by decide) (by decide) rfl (by decide) (lc_isSound S hI n hn hn2 i i0 (by omega) kc ks (by omega) (by omega) kont)
