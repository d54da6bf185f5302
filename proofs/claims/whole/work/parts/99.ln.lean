/-! the law's cases with a double: the law -/
set_option maxHeartbeats 4000000 in
set_option maxRecDepth 100000 in
theorem lc_derivedShare (S : XS) (hI : LwI S) (n : Nat) (hn : S.2.2.2.2.2 = n) (hn2 : n < 1000000) (i : Int) (i0 : 0 ≤ i) (i7 : i + 7 ≤ n) (kc ks : Nat) (hk : 30 ≤ kc) (hs : 82420 ≤ ks + usum S 5) {Q : XO → XH → Prop} (kont : KL n i (kc - 30) (ks + usum S 5 - 500) Q) : X mL_law 2508 [xR (99, 0, 0), xR (0, 0, 0), xR (50, 0, 0), xR (90, 0, 0), xR (91, 0, 0), xI i, none, none, none] [] (hp S) kc ks Q := by
  have zz : ∀ j : Int, zR (S.1 (99, 0, 0) j) := fun j => hI.1.1.1 (99, 0, 0) j
  have hS : hp S (99, 0, 0) = some (.inr (0, n, .inl (S.1 (99, 0, 0)))) := by rw [hp99, hn]
  have u0 : usum S 5 ≤ 81920 := usum_le (fun l hl => mrl_gen hI.2.2.1 l hl) 5 (Nat.le_refl _)
  refine x_aload_n dL_law_2508 rfl ?_
  refine x_aload_n dL_law_2509 rfl ?_
  refine x_iload dL_law_2510 rfl ?_
  refine x_iconst dL_law_2512 ?_
  refine x_iadd dL_law_2513 ?_
  refine x_alds dL_law_2514 hS rfl (by omega) (by omega) (by omega) ?_
  refine x_aload_n dL_law_2515 rfl ?_
  refine x_iload dL_law_2516 rfl ?_
  refine x_iconst dL_law_2518 ?_
  refine x_iadd dL_law_2519 ?_
  refine x_alds dL_law_2520 hS rfl (by omega) (by omega) (by omega) ?_
  refine x_aload dL_law_2521 rfl ?_
  have hq : ∀ v, R_derivedShare S (S.1 (99, 0, 0) (i + 1)) (S.1 (99, 0, 0) (i + 2)) 0 v → ∃ x, v = xF x ∧ vf_n64 (FP.f2d x) := fun v hR => by
    have eA : ((cntN (fun k : Nat => hB S.1 (S.1 (99, 0, 0) (i + 1)) (S.1 (9, (S.1 (99, 0, 0) (i + 1)), 0) 3).toNat (S.1 (99, 0, 0) (i + 2)) k) 384 : Nat) : Int) = shA S.1 (S.1 (99, 0, 0) (i + 1)) (S.1 (9, (S.1 (99, 0, 0) (i + 1)), 0) 3).toNat (S.1 (99, 0, 0) (i + 2)) 6 := lk_all S.1 _ _ _ 6
    have lA := cnt_384 (fun k : Nat => hB S.1 (S.1 (99, 0, 0) (i + 1)) (S.1 (9, (S.1 (99, 0, 0) (i + 1)), 0) 3).toNat (S.1 (99, 0, 0) (i + 2)) k)
    rcases hR with ⟨-, y1, y2, y3, rfl⟩ | ⟨y, -⟩ | ⟨y, -⟩ | ⟨y, -⟩
    · exact ⟨_, rfl, f2d_n (share_n (by omega) (by omega))⟩
    · exact absurd y (by decide)
    · exact absurd y (by decide)
    · exact absurd y (by decide)
  refine x_callSH 6 36 (as := [xR (0, 0, 0), xI (S.1 (99, 0, 0) (i + 1)), xI (S.1 (99, 0, 0) (i + 2)), xR (91, 0, 0)]) (rest := []) ok_L_derivedShare dL_law_2523 wd1062 wd1063 (w_derivedShare (hp0 S) (S.1 (99, 0, 0) (i + 1)) (S.1 (99, 0, 0) (i + 2)) 6 36 (cu_derivedShare S hI (S.1 (99, 0, 0) (i + 1)) (S.1 (99, 0, 0) (i + 2)) (zz _) (zz _)) (COv.wf hq)) rfl (Nat.le_of_ble_eq_true rfl) (Nat.le_of_ble_eq_true rfl) (by decide) (by omega) (by omega) (fun h1 qq => ?_) (fun v h1 qq => ?_) (fun E h1 qq => ?_)
  · obtain ⟨_, _, _, _, _, y, -⟩ := pWF.wov (by decide) qq; cases y
  rotate_left
  · obtain ⟨_, _, _, _, _, y, -⟩ := pWF.wov (by decide) qq; cases y
  obtain ⟨S1, S2, k9, v9, rfl, y, q1, cb, ho, hR, h91⟩ := pWF.wov (by decide) qq
  cases y
  have e2 : MdE S S2 := (MdE.q q1).tr ho.md
  have hS2 : hp S2 (99, 0, 0) = some (.inr (0, n, .inl (S.1 (99, 0, 0)))) := by rw [hp99, e2.1 99 0 0 (by decide), e2.2, hn]
  have u2 := usum_e e2 5
  refine x_istore (L' := [xR (99, 0, 0), xR (0, 0, 0), xR (50, 0, 0), xR (90, 0, 0), xR (91, 0, 0), xI i, xI (k9 : Int), none, none]) dL_law_2526 (by decide) rfl ?_
  refine x_aload_n dL_law_2528 rfl ?_
  refine x_aload_n dL_law_2529 rfl ?_
  refine x_iload dL_law_2530 rfl ?_
  refine x_iconst dL_law_2532 ?_
  refine x_iadd dL_law_2533 ?_
  refine x_alds dL_law_2534 hS2 rfl (by omega) (by omega) (by omega) ?_
  refine x_aload_n dL_law_2535 rfl ?_
  refine x_iload dL_law_2536 rfl ?_
  refine x_iconst dL_law_2538 ?_
  refine x_iadd dL_law_2539 ?_
  refine x_alds dL_law_2540 hS2 rfl (by omega) (by omega) (by omega) ?_
  refine x_callV 20 384 (as := [xI (S.1 (99, 0, 0) (i + 1)), xI (S.1 (99, 0, 0) (i + 2))]) (rest := []) ok_X9_derivedShare dL_law_2541 wd1458 ⟨wd1459, wd1460⟩ (hp50 S2) rfl rfl (mo_derivedShare S hI (S.1 (99, 0, 0) (i + 1)) (S.1 (99, 0, 0) (i + 2)) (zz _) (zz _) S1 S2 k9 v9 q1 cb ho hR) rfl (Nat.le_of_ble_eq_true rfl) (Nat.le_of_ble_eq_true rfl) (by decide) (by omega) (by omega) (fun h1 qq => ?_) (fun v h1 qq => ?_) (fun E h1 qq => ?_)
  · obtain ⟨_, _, -, y, -⟩ := qq; cases y
  rotate_left
  · obtain ⟨_, _, -, y, -⟩ := qq; cases y
  obtain ⟨T, w9, rfl, y, lT, t1, t3, t25, tv, tu⟩ := qq
  cases y
  have zk : zR (k9 : Int) := t25 ▸ lT.1.1.1 (50, 0, 0) 25
  refine x_fstore (L' := [xR (99, 0, 0), xR (0, 0, 0), xR (50, 0, 0), xR (90, 0, 0), xR (91, 0, 0), xI i, xI (k9 : Int), xF w9, none]) dL_law_2544 (by decide) rfl ?_
  refine x_aload_n dL_law_2546 rfl ?_
  refine x_callV_r (a := 0) (b := 0) (as := []) (rest := []) ok_X9_thrown dL_law_2547 wd1196 ⟨wd1197, wd1198⟩ (hp50 T) rfl rfl (m_thrown T lT.1.1) rfl (Nat.le_of_ble_eq_true rfl) (Nat.le_of_ble_eq_true rfl) (by decide) (by omega) (by omega) ?_
  refine x_top (show T.1 (50, 0, 0) 25 = (k9 : Int) from t25) ?_
  refine x_iload dL_law_2550 rfl ?_
  refine x_icmp_eq (tgt := 2557) dL_law_2552 (by decide) zk zk (fun _ => ?_) (fun y => absurd rfl y)
  refine x_iload dL_law_2557 rfl ?_
  refine x_if_ne (tgt := 2595) dL_law_2559 (by decide) zk (fun y => ?_) (fun y => ?_)
  · refine x_goto (tgt := 2700) dL_law_2595 (by decide) ?_
    refine X.loc (L' := [xR (99, 0, 0), xR (0, 0, 0), xR (50, 0, 0), xR (90, 0, 0), xR (91, 0, 0), xI i, none, none, none]) ⟨rfl, ⟨rfl, ⟨rfl, ⟨rfl, ⟨rfl, ⟨rfl, trivial⟩⟩⟩⟩⟩⟩ ?_
    exact kont T _ _ lT (by rw [t1, e2.2, hn]) (by omega) (by omega)
  · obtain rfl : k9 = 0 := by omega
    obtain ⟨nw, rfl⟩ := tv rfl
    have eT : T.2.2.1 = dvV (xF w9) := t3.trans (h91 rfl)
    refine x_aload dL_law_2562 rfl ?_
    refine x_iconst dL_law_2564 ?_
    refine x_aldd dL_law_2565 (hp91 T) (by decide) (by decide) (by decide) (by decide) ?_
    rw [if_pos rfl, eT]
    refine x_fload dL_law_2566 rfl ?_
    refine x_f2d dL_law_2568 (f2d_n nw) ?_
    refine x_dcmp dL_law_2569 ?_
    refine x_top (dcmp_self (x := FP.f2d w9) (f2d_n nw) _) ?_
    refine x_if_eq (tgt := 2595) dL_law_2570 (by decide) ⟨by decide, by decide⟩ (fun _ => ?_) (fun y => absurd rfl y)
    refine x_goto (tgt := 2700) dL_law_2595 (by decide) ?_
    refine X.loc (L' := [xR (99, 0, 0), xR (0, 0, 0), xR (50, 0, 0), xR (90, 0, 0), xR (91, 0, 0), xI i, none, none, none]) ⟨rfl, ⟨rfl, ⟨rfl, ⟨rfl, ⟨rfl, ⟨rfl, trivial⟩⟩⟩⟩⟩⟩ ?_
    exact kont T _ _ lT (by rw [t1, e2.2, hn]) (by omega) (by omega)
set_option maxHeartbeats 4000000 in
set_option maxRecDepth 100000 in
theorem lc_meanRank (S : XS) (hI : LwI S) (n : Nat) (hn : S.2.2.2.2.2 = n) (hn2 : n < 1000000) (i : Int) (i0 : 0 ≤ i) (i7 : i + 7 ≤ n) (kc ks : Nat) (hk : 30 ≤ kc) (hs : 82420 ≤ ks + usum S 5) {Q : XO → XH → Prop} (kont : KL n i (kc - 30) (ks + usum S 5 - 500) Q) : X mL_law 2598 [xR (99, 0, 0), xR (0, 0, 0), xR (50, 0, 0), xR (90, 0, 0), xR (91, 0, 0), xI i, none, none, none] [] (hp S) kc ks Q := by
  have zz : ∀ j : Int, zR (S.1 (99, 0, 0) j) := fun j => hI.1.1.1 (99, 0, 0) j
  have hS : hp S (99, 0, 0) = some (.inr (0, n, .inl (S.1 (99, 0, 0)))) := by rw [hp99, hn]
  have u0 : usum S 5 ≤ 81920 := usum_le (fun l hl => mrl_gen hI.2.2.1 l hl) 5 (Nat.le_refl _)
  refine x_aload_n dL_law_2598 rfl ?_
  refine x_aload_n dL_law_2599 rfl ?_
  refine x_iload dL_law_2600 rfl ?_
  refine x_iconst dL_law_2602 ?_
  refine x_iadd dL_law_2603 ?_
  refine x_alds dL_law_2604 hS rfl (by omega) (by omega) (by omega) ?_
  refine x_aload_n dL_law_2605 rfl ?_
  refine x_iload dL_law_2606 rfl ?_
  refine x_iconst dL_law_2608 ?_
  refine x_iadd dL_law_2609 ?_
  refine x_alds dL_law_2610 hS rfl (by omega) (by omega) (by omega) ?_
  refine x_aload dL_law_2611 rfl ?_
  have hq : ∀ v, R_meanRank S (S.1 (99, 0, 0) (i + 1)) (S.1 (99, 0, 0) (i + 2)) 0 v → ∃ x, v = xD x := fun v hR => by
    rcases hR with ⟨-, y1, y2, rk, ru, wy, y3, y4, rfl⟩ | ⟨y, -⟩ | ⟨y, -⟩ | ⟨y, -⟩
    · exact ⟨_, rfl⟩
    · exact absurd y (by decide)
    · exact absurd y (by decide)
    · exact absurd y (by decide)
  refine x_callSH 6 36 (as := [xR (0, 0, 0), xI (S.1 (99, 0, 0) (i + 1)), xI (S.1 (99, 0, 0) (i + 2)), xR (91, 0, 0)]) (rest := []) ok_L_meanRank dL_law_2613 wd1086 wd1087 (w_meanRank (hp0 S) (S.1 (99, 0, 0) (i + 1)) (S.1 (99, 0, 0) (i + 2)) 6 36 (cu_meanRank S hI (S.1 (99, 0, 0) (i + 1)) (S.1 (99, 0, 0) (i + 2)) (zz _) (zz _)) (COv.wd hq)) rfl (Nat.le_of_ble_eq_true rfl) (Nat.le_of_ble_eq_true rfl) (by decide) (by omega) (by omega) (fun h1 qq => ?_) (fun v h1 qq => ?_) (fun E h1 qq => ?_)
  · obtain ⟨_, _, _, _, _, y, -⟩ := pWD.wov (by decide) qq; cases y
  rotate_left
  · obtain ⟨_, _, _, _, _, y, -⟩ := pWD.wov (by decide) qq; cases y
  obtain ⟨S1, S2, k9, v9, rfl, y, q1, cb, ho, hR, h91⟩ := pWD.wov (by decide) qq
  cases y
  have e2 : MdE S S2 := (MdE.q q1).tr ho.md
  have hS2 : hp S2 (99, 0, 0) = some (.inr (0, n, .inl (S.1 (99, 0, 0)))) := by rw [hp99, e2.1 99 0 0 (by decide), e2.2, hn]
  have u2 := usum_e e2 5
  refine x_istore (L' := [xR (99, 0, 0), xR (0, 0, 0), xR (50, 0, 0), xR (90, 0, 0), xR (91, 0, 0), xI i, xI (k9 : Int), none, none]) dL_law_2616 (by decide) rfl ?_
  refine x_aload_n dL_law_2618 rfl ?_
  refine x_aload_n dL_law_2619 rfl ?_
  refine x_iload dL_law_2620 rfl ?_
  refine x_iconst dL_law_2622 ?_
  refine x_iadd dL_law_2623 ?_
  refine x_alds dL_law_2624 hS2 rfl (by omega) (by omega) (by omega) ?_
  refine x_aload_n dL_law_2625 rfl ?_
  refine x_iload dL_law_2626 rfl ?_
  refine x_iconst dL_law_2628 ?_
  refine x_iadd dL_law_2629 ?_
  refine x_alds dL_law_2630 hS2 rfl (by omega) (by omega) (by omega) ?_
  refine x_callV 20 384 (as := [xI (S.1 (99, 0, 0) (i + 1)), xI (S.1 (99, 0, 0) (i + 2))]) (rest := []) ok_X9_meanRank dL_law_2631 wd1466 ⟨wd1467, wd1468⟩ (hp50 S2) rfl rfl (mo_meanRank S hI (S.1 (99, 0, 0) (i + 1)) (S.1 (99, 0, 0) (i + 2)) (zz _) (zz _) S1 S2 k9 v9 q1 cb ho hR) rfl (Nat.le_of_ble_eq_true rfl) (Nat.le_of_ble_eq_true rfl) (by decide) (by omega) (by omega) (fun h1 qq => ?_) (fun v h1 qq => ?_) (fun E h1 qq => ?_)
  · obtain ⟨_, _, -, y, -⟩ := qq; cases y
  rotate_left
  · obtain ⟨_, _, -, y, -⟩ := qq; cases y
  obtain ⟨T, w9, rfl, y, lT, t1, t3, t25, tv, tu⟩ := qq
  cases y
  have zk : zR (k9 : Int) := t25 ▸ lT.1.1.1 (50, 0, 0) 25
  refine x_dstore (L' := [xR (99, 0, 0), xR (0, 0, 0), xR (50, 0, 0), xR (90, 0, 0), xR (91, 0, 0), xI i, xI (k9 : Int), xD w9, none]) dL_law_2634 (by decide) rfl ?_
  refine x_aload_n dL_law_2636 rfl ?_
  refine x_callV_r (a := 0) (b := 0) (as := []) (rest := []) ok_X9_thrown dL_law_2637 wd1196 ⟨wd1197, wd1198⟩ (hp50 T) rfl rfl (m_thrown T lT.1.1) rfl (Nat.le_of_ble_eq_true rfl) (Nat.le_of_ble_eq_true rfl) (by decide) (by omega) (by omega) ?_
  refine x_top (show T.1 (50, 0, 0) 25 = (k9 : Int) from t25) ?_
  refine x_iload dL_law_2640 rfl ?_
  refine x_icmp_eq (tgt := 2647) dL_law_2642 (by decide) zk zk (fun _ => ?_) (fun y => absurd rfl y)
  refine x_iload dL_law_2647 rfl ?_
  refine x_if_ne (tgt := 2684) dL_law_2649 (by decide) zk (fun y => ?_) (fun y => ?_)
  · refine x_goto (tgt := 2700) dL_law_2684 (by decide) ?_
    refine X.loc (L' := [xR (99, 0, 0), xR (0, 0, 0), xR (50, 0, 0), xR (90, 0, 0), xR (91, 0, 0), xI i, none, none, none]) ⟨rfl, ⟨rfl, ⟨rfl, ⟨rfl, ⟨rfl, ⟨rfl, trivial⟩⟩⟩⟩⟩⟩ ?_
    exact kont T _ _ lT (by rw [t1, e2.2, hn]) (by omega) (by omega)
  · obtain rfl : k9 = 0 := by omega
    obtain ⟨nw, rfl⟩ := tv rfl
    have eT : T.2.2.1 = dvV (xD w9) := t3.trans (h91 rfl)
    refine x_aload dL_law_2652 rfl ?_
    refine x_iconst dL_law_2654 ?_
    refine x_aldd dL_law_2655 (hp91 T) (by decide) (by decide) (by decide) (by decide) ?_
    rw [if_pos rfl, eT]
    refine x_dload dL_law_2656 rfl ?_
    refine x_dcmp dL_law_2658 ?_
    refine x_top (dcmp_self (x := w9) nw _) ?_
    refine x_if_eq (tgt := 2684) dL_law_2659 (by decide) ⟨by decide, by decide⟩ (fun _ => ?_) (fun y => absurd rfl y)
    refine x_goto (tgt := 2700) dL_law_2684 (by decide) ?_
    refine X.loc (L' := [xR (99, 0, 0), xR (0, 0, 0), xR (50, 0, 0), xR (90, 0, 0), xR (91, 0, 0), xI i, none, none, none]) ⟨rfl, ⟨rfl, ⟨rfl, ⟨rfl, ⟨rfl, ⟨rfl, trivial⟩⟩⟩⟩⟩⟩ ?_
    exact kont T _ _ lT (by rw [t1, e2.2, hn]) (by omega) (by omega)
