/-! the law's cases without a wrapper -/
set_option maxHeartbeats 4000000 in
set_option maxRecDepth 100000 in
theorem lc_conflicts (S : XS) (hI : LwI S) (n : Nat) (hn : S.2.2.2.2.2 = n) (hn2 : n < 1000000) (i : Int) (i0 : 0 ≤ i) (i7 : i + 7 ≤ n) (kc ks : Nat) (hk : 30 ≤ kc) (hs : 82420 ≤ ks + usum S 5) {Q : XO → XH → Prop} (kont : KL n i (kc - 30) (ks + usum S 5 - 500) Q) : X mL_law 2265 [xR (99, 0, 0), xR (0, 0, 0), xR (50, 0, 0), xR (90, 0, 0), xR (91, 0, 0), xI i, none, none, none] [] (hp S) kc ks Q := by
  have h6 := wf0_6 hI.1.1
  refine x_aload_n dL_law_2265 rfl ?_
  refine x_callV_r (a := 0) (b := 0) (as := []) (rest := []) ok_X8_conflicts dL_law_2266 wd385 ⟨wd386, wd387⟩ (hp0 S) rfl rfl (c_conflicts S hI.1.1) rfl (Nat.le_of_ble_eq_true rfl) (Nat.le_of_ble_eq_true rfl) (by decide) (by omega) (by omega) ?_
  have q1 := QEq.rf S
  have cb := hI.1
  refine x_aload_n dL_law_2269 rfl ?_
  refine x_callV 0 0 (as := []) (rest := [xI (S.1 (0, 0, 0) 8)]) ok_X9_conflicts dL_law_2270 wd1438 ⟨wd1439, wd1440⟩ (hp50 S) rfl rfl (m_conflicts S S hI.1 cb.1 (hI.2.1.e (MdE.q q1))) rfl (Nat.le_of_ble_eq_true rfl) (Nat.le_of_ble_eq_true rfl) (by decide) (by omega) (by omega) (fun h1 qq => ?_) (fun v h1 qq => ?_) (fun E h1 qq => ?_)
  · obtain ⟨_, _, -, y, -⟩ := qq; cases y
  rotate_left
  · obtain ⟨_, _, -, y, -⟩ := qq; cases y
  obtain ⟨T, z9, rfl, y, hT, wT, hP⟩ := qq
  cases y
  have lT : LwI T := LwI.same hI cb q1 (OutE.rf S) hT wT
  have uT : usum T 5 = usum S 5 := (usum_q hT 5).trans (usum_e (MdE.q q1) 5)
  have nT : T.2.2.2.2.2 = n := by rw [hT.2.2.2.2.2.1, (MdE.q q1).2, hn]
  obtain ⟨-, rfl⟩ := hP
  refine x_icmp_eq (tgt := 2700) dL_law_2273 (by decide) (hI.1.1.1 (0, 0, 0) 8) (hI.1.1.1 (0, 0, 0) 8) (fun _ => ?_) (fun y => absurd rfl y)
  exact kont T _ _ lT nT (by omega) (by rw [uT]; omega)
set_option maxHeartbeats 4000000 in
set_option maxRecDepth 100000 in
theorem lc_hours (S : XS) (hI : LwI S) (n : Nat) (hn : S.2.2.2.2.2 = n) (hn2 : n < 1000000) (i : Int) (i0 : 0 ≤ i) (i7 : i + 7 ≤ n) (kc ks : Nat) (hk : 30 ≤ kc) (hs : 82420 ≤ ks + usum S 5) {Q : XO → XH → Prop} (kont : KL n i (kc - 30) (ks + usum S 5 - 500) Q) : X mL_law 2494 [xR (99, 0, 0), xR (0, 0, 0), xR (50, 0, 0), xR (90, 0, 0), xR (91, 0, 0), xI i, none, none, none] [] (hp S) kc ks Q := by
  have h6 := wf0_6 hI.1.1
  refine x_aload_n dL_law_2494 rfl ?_
  refine x_callV_r (a := 0) (b := 0) (as := []) (rest := []) ok_X8_hours dL_law_2495 wd389 ⟨wd390, wd391⟩ (hp0 S) rfl rfl (c_hours S hI.1.1) rfl (Nat.le_of_ble_eq_true rfl) (Nat.le_of_ble_eq_true rfl) (by decide) (by omega) (by omega) ?_
  have q1 := QEq.rf S
  have cb := hI.1
  refine x_aload_n dL_law_2498 rfl ?_
  refine x_callV 0 0 (as := []) (rest := [xJ (hoursS S.1 (S.1 (0, 0, 0) 6).toNat)]) ok_X9_hours dL_law_2499 wd1454 ⟨wd1455, wd1456⟩ (hp50 S) rfl rfl (m_hours S S hI.1.1 cb.1 (hI.2.1.e (MdE.q q1))) rfl (Nat.le_of_ble_eq_true rfl) (Nat.le_of_ble_eq_true rfl) (by decide) (by omega) (by omega) (fun h1 qq => ?_) (fun v h1 qq => ?_) (fun E h1 qq => ?_)
  · obtain ⟨_, _, -, y, -⟩ := qq; cases y
  rotate_left
  · obtain ⟨_, _, -, y, -⟩ := qq; cases y
  obtain ⟨T, z9, rfl, y, hT, wT, hP⟩ := qq
  cases y
  have lT : LwI T := LwI.same hI cb q1 (OutE.rf S) hT wT
  have uT : usum T 5 = usum S 5 := (usum_q hT 5).trans (usum_e (MdE.q q1) 5)
  have nT : T.2.2.2.2.2 = n := by rw [hT.2.2.2.2.2.1, (MdE.q q1).2, hn]
  obtain ⟨-, rfl⟩ := hP
  refine x_lcmp dL_law_2502 ?_
  refine x_top (lg0.mpr rfl) ?_
  refine x_if_eq (tgt := 2700) dL_law_2503 (by decide) ⟨by decide, by decide⟩ (fun _ => ?_) (fun y => absurd rfl y)
  exact kont T _ _ lT nT (by omega) (by rw [uT]; omega)
set_option maxHeartbeats 4000000 in
set_option maxRecDepth 100000 in
theorem lc_isSound (S : XS) (hI : LwI S) (n : Nat) (hn : S.2.2.2.2.2 = n) (hn2 : n < 1000000) (i : Int) (i0 : 0 ≤ i) (i7 : i + 7 ≤ n) (kc ks : Nat) (hk : 30 ≤ kc) (hs : 82420 ≤ ks + usum S 5) {Q : XO → XH → Prop} (kont : KL n i (kc - 30) (ks + usum S 5 - 500) Q) : X mL_law 2687 [xR (99, 0, 0), xR (0, 0, 0), xR (50, 0, 0), xR (90, 0, 0), xR (91, 0, 0), xI i, none, none, none] [] (hp S) kc ks Q := by
  have h6 := wf0_6 hI.1.1
  refine x_aload_n dL_law_2687 rfl ?_
  refine x_callV 0 0 (as := []) (rest := []) ok_X8_isSound dL_law_2688 wd397 ⟨wd398, wd399⟩ (hp0 S) rfl rfl (c_isSound S hI.1 (hI.2.2.2.1.seal h6.2)) rfl (Nat.le_of_ble_eq_true rfl) (Nat.le_of_ble_eq_true rfl) (by decide) (by omega) (by omega) (fun h1 qq => by cases qq.1) (fun v h1 qq => ?_) (fun E h1 qq => by cases qq.1)
  obtain ⟨y, S1, rfl, q1, cb⟩ := qq
  cases y
  refine x_aload_n dL_law_2691 rfl ?_
  refine x_callV 0 0 (as := []) (rest := [xI 1]) ok_X9_isSound dL_law_2692 wd1470 ⟨wd1471, wd1472⟩ (hp50 S1) rfl rfl (m_isSound S S1 hI.1 cb.1 (hI.2.1.e (MdE.q q1))) rfl (Nat.le_of_ble_eq_true rfl) (Nat.le_of_ble_eq_true rfl) (by decide) (by omega) (by omega) (fun h1 qq => ?_) (fun v h1 qq => ?_) (fun E h1 qq => ?_)
  · obtain ⟨_, _, -, y, -⟩ := qq; cases y
  rotate_left
  · obtain ⟨_, _, -, y, -⟩ := qq; cases y
  obtain ⟨T, z9, rfl, y, hT, wT, hP⟩ := qq
  cases y
  have lT : LwI T := LwI.same hI cb q1 (OutE.rf S1) hT wT
  have uT : usum T 5 = usum S 5 := (usum_q hT 5).trans (usum_e (MdE.q q1) 5)
  have nT : T.2.2.2.2.2 = n := by rw [hT.2.2.2.2.2.1, (MdE.q q1).2, hn]
  obtain ⟨-, rfl⟩ := hP
  refine x_icmp_eq (tgt := 2700) dL_law_2695 (by decide) ⟨by decide, by decide⟩ ⟨by decide, by decide⟩ (fun _ => ?_) (fun y => absurd rfl y)
  exact kont T _ _ lT nT (by omega) (by rw [uT]; omega)
