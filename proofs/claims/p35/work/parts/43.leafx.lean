/-! questions: checks, and what holds -/
theorem x_callS_tv2 {M M' : XM} {pc i n : Nat} {L as rest : List XV} {h h1 : XH} {kc ks a b : Nat} {Q : XO → XH → Prop} {C C2 : Prop} {E E2 : String} {h2 h3 : XH} (hok : xOk M' n) (hd : decode (xmC M) pc = .ok (.invokestatic i, 3)) (hl : Cond.methodLink (xmY M).cls i (xmY M') ∈ xW) (hsw : Cond.static (xmY M') ∈ xW) (hc1 : X M' 0 (xEnt M' (as)) [] h a b (pOr C (pOr C2 (pVoid h1) (pThr E2 h3)) (pThr E h2))) (hn : as.length = n) (hn2 : (xArgs (as)).length ≤ xmL M') (hcat : (rest.map xCat).sum ≤ 8) (hroom : xmF M' + 1 ≤ xmF M ∧ 8 + (xmL M' + 11) + xmO M' ≤ xmO M) (ha : a ≤ kc) (hb : b ≤ ks) (k : C → C2 → X M (pc + 3) L rest h1 (kc - a) (ks - b) Q) (kx : ¬ C → XX M pc L h2 E (kc - a) (ks - b) Q) (kx2 : C → ¬ C2 → XX M pc L h3 E2 (kc - a) (ks - b) Q) : X M pc L (as.reverse ++ rest) h kc ks Q :=
  x_callS a b hok hd hl hsw hc1 hn hn2 hcat hroom ha hb (fun _ q => by rcases q with ⟨c, ⟨c2, _, rfl⟩ | ⟨_, q, _⟩⟩ | ⟨_, q, _⟩; exact k c c2; cases q; cases q) (fun _ _ q => by rcases q with ⟨_, ⟨_, q, _⟩ | ⟨_, q, _⟩⟩ | ⟨_, q, _⟩ <;> cases q) (fun _ _ q => by rcases q with ⟨c, ⟨_, q, _⟩ | ⟨c2, q, rfl⟩⟩ | ⟨c, q, rfl⟩ <;> cases q; exact kx2 c c2; exact kx c)
theorem c_stateZ (S : XS) (hb : CB S) (b : Int) (h1 : 0 ≤ b) (h2 : b < S.1 (0, 0, 0) 6) (n : Int) (n0 : 0 ≤ n) (gn : n ≤ S.1 (9, b, 0) 3) (t : Int) (h3 : 0 ≤ t) (h4 : t < 24) : X mX8_stateOf 0 (xEnt mX8_stateOf [xR (0, 0, 0), xR (9, b, 0), xI n, xI t]) [] (hp S) 0 0 (pSt S b n.toNat t) := by
  have q := c_stateQ S hb b h1 h2 n.toNat (by omega) t h3 h4
  rw [show (n.toNat : Int) = n by omega] at q
  exact q
set_option maxHeartbeats 4000000 in
set_option maxRecDepth 100000 in
theorem c_checkAsked (S : XS) (hw : WI S) (b : Int) (h1 : 0 ≤ b) (h2 : b < 4) (n t q : Int) (za : zR n) (zb : zR t) (zc : zR q) : X mX8_checkAsked 0 (xEnt mX8_checkAsked [xR (9, b, 0), xI n, xI t, xI q]) [] (hp S) 3 18 (pOr (0 ≤ n ∧ n < S.1 (9, b, 0) 3 + 1) (pOr ((0 ≤ t ∧ t < 24) ∧ 0 ≤ q ∧ q < 384) (pVoid (hp S)) (pThr "java/lang/IllegalArgumentException" (hp S))) (pThr "java/lang/IndexOutOfBoundsException" (hp S))) := by
  have za2 := za
  unfold zR at za2
  have zb2 := zb
  unfold zR at zb2
  have zc2 := zc
  unfold zR at zc2
  show X mX8_checkAsked 0 [xR (9, b, 0), xI n, xI t, xI q] [] (hp S) 3 18 _
  refine x_aload_n dX8_checkAsked_0 rfl ?_
  refine x_iload_n dX8_checkAsked_1 rfl ?_
  refine x_callS_tv (a := 1) (b := 6) (as := [xR (9, b, 0), xI n]) (rest := []) ok_X8_checkKnowing dX8_checkAsked_2 wd724 wd725 (c_checkKnowing S hw b (by omega) (by omega) n (by first | exact hz _ _ | exact hw.1 _ _ | exact zR_of _ | exact bI_z _ | assumption | exact ⟨by omega, by omega⟩)) rfl (Nat.le_of_ble_eq_true rfl) (Nat.le_of_ble_eq_true rfl) (by decide) (by omega) (by omega) (fun t2 => ?_) (fun t2 => ?_)
  · refine x_iload_n dX8_checkAsked_5 rfl ?_
    refine x_callS_tv (a := 1) (b := 6) (as := [xI t]) (rest := []) ok_X8_checkHour dX8_checkAsked_6 wd728 wd729 (c_checkHour S hw t (by first | exact hz _ _ | exact hw.1 _ _ | exact zR_of _ | exact bI_z _ | assumption | exact ⟨by omega, by omega⟩)) rfl (Nat.le_of_ble_eq_true rfl) (Nat.le_of_ble_eq_true rfl) (by decide) (by omega) (by omega) (fun t6 => ?_) (fun t6 => ?_)
    · refine x_iload_n dX8_checkAsked_9 rfl ?_
      refine x_callS_tv (a := 1) (b := 6) (as := [xI q]) (rest := []) ok_X8_checkFact dX8_checkAsked_10 wd531 wd532 (c_checkFact S hw q (by first | exact hz _ _ | exact hw.1 _ _ | exact zR_of _ | exact bI_z _ | assumption | exact ⟨by omega, by omega⟩)) rfl (Nat.le_of_ble_eq_true rfl) (Nat.le_of_ble_eq_true rfl) (by decide) (by omega) (by omega) (fun t10 => ?_) (fun t10 => ?_)
      · exact x_vret dX8_checkAsked_13 rfl (Or.inl ⟨by omega, Or.inl ⟨by omega, rfl, rfl⟩⟩)
      · exact XX.out rfl (by first | exact Or.inr ⟨by omega, ⟨rfl, rfl⟩⟩ | exact Or.inl ⟨by omega, Or.inr ⟨by omega, ⟨rfl, rfl⟩⟩⟩ | exact Or.inl ⟨by omega, Or.inl ⟨by omega, Or.inr ⟨by first | omega | assumption, ⟨rfl, rfl⟩⟩⟩⟩)
    · exact XX.out rfl (by first | exact Or.inr ⟨by omega, ⟨rfl, rfl⟩⟩ | exact Or.inl ⟨by omega, Or.inr ⟨by omega, ⟨rfl, rfl⟩⟩⟩ | exact Or.inl ⟨by omega, Or.inl ⟨by omega, Or.inr ⟨by first | omega | assumption, ⟨rfl, rfl⟩⟩⟩⟩)
  · exact XX.out rfl (by first | exact Or.inr ⟨by omega, ⟨rfl, rfl⟩⟩ | exact Or.inl ⟨by omega, Or.inr ⟨by omega, ⟨rfl, rfl⟩⟩⟩ | exact Or.inl ⟨by omega, Or.inl ⟨by omega, Or.inr ⟨by first | omega | assumption, ⟨rfl, rfl⟩⟩⟩⟩)
set_option maxHeartbeats 4000000 in
set_option maxRecDepth 100000 in
theorem c_checkHeld (S : XS) (hw : WI S) (b t : Int) (h1 : 0 ≤ b) (h2 : b < 4) (h3 : 0 ≤ t) (h4 : t < 24) (q : Int) (q0 : 0 ≤ q) (q1 : q < 384) : X mX8_checkHeld 0 (xEnt mX8_checkHeld [xR (8, b, t), xI q]) [] (hp S) 1 6 (pOr (bitJ (S.2.1 (28, b, t) (q / 64)) (q % 64)) (pVoid (hp S)) (pThr "java/util/NoSuchElementException" (hp S))) := by
  show X mX8_checkHeld 0 [xR (8, b, t), xI q] [] (hp S) 1 6 _
  refine x_aload_n dX8_checkHeld_0 rfl ?_
  refine x_iload_n dX8_checkHeld_1 rfl ?_
  refine x_callV_r (a := 0) (b := 0) (as := [xI q]) (rest := []) ok_X6_has dX8_checkHeld_2 wd751 ⟨wd752, wd753⟩ (hp8 S (by omega) (by omega) (by omega) (by omega)) rfl rfl (c_has8 S q (by omega) (by omega) b t (by omega) (by omega) (by omega) (by omega)) rfl (Nat.le_of_ble_eq_true rfl) (Nat.le_of_ble_eq_true rfl) (by decide) (by omega) (by omega) ?_
  by_cases b2 : bitJ (S.2.1 (28, b, t) (q / 64)) (q % 64)
  · refine x_top (bI_t b2) ?_
    refine x_if_ne (tgt := 19) dX8_checkHeld_5 (by decide) ⟨by decide, by decide⟩ (fun _ => ?_) (fun z => absurd z (by decide))
    exact x_vret dX8_checkHeld_19 rfl (Or.inl ⟨by assumption, rfl, rfl⟩)
  · refine x_top (bI_f b2) ?_
    refine x_if_ne (tgt := 19) dX8_checkHeld_5 (by decide) ⟨by decide, by decide⟩ (fun z => absurd z (by decide)) (fun _ => ?_)
    exact x_throwN (thr_RX8_201_358_205) rfl dX8_checkHeld_8 dX8_checkHeld_11 (Or.inr ⟨dX8_checkHeld_12, dX8_checkHeld_15, dX8_checkHeld_18⟩) (by decide) (Nat.le_of_ble_eq_true rfl) (by omega) (by omega) (Or.inr ⟨by assumption, rfl, rfl⟩)
/-- a fact holds in a branch by a knowing in an hour -/
def hB (f : XL → Int → Int) (b : Int) (n : Nat) (t q : Int) : Prop := bitJ (hl f b n t (q / 64)) (q % 64)
theorem hB_of {f : XL → Int → Int} {G : Int → Int64} {b : Int} {n : Nat} {t q : Int} (q0 : 0 ≤ q) (q1 : q < 384) (h : ∀ x : Int, 0 ≤ x → x ≤ 5 → G x = hl f b n t x) : bitJ (G (q / 64)) (q % 64) ↔ hB f b n t q := by
  unfold hB
  rw [h (q / 64) (by omega) (by omega)]
theorem pQb {S0 S : XS} {P P' : Prop} (h : P ↔ P') (q : QEq S0 S) (b : CB S) : pQ S0 (some (xI (bI P'))) (.inl (some (xI (bI P)))) (hp S) := by rw [bI_c h]; exact pQi q b
theorem pQe {S0 S : XS} {v v' : Int} (h : v = v') (q : QEq S0 S) (b : CB S) : pQ S0 (some (xI v')) (.inl (some (xI v))) (hp S) := by rw [h]; exact pQi q b
set_option maxHeartbeats 4000000 in
set_option maxRecDepth 100000 in
theorem c_holds (S : XS) (hb : CB S) (i n t q : Int) (zi : zR i) (zn : zR n) (zt : zR t) (zq : zR q) : X mX8_holds 0 (xEnt mX8_holds [xR (0, 0, 0), xI i, xI n, xI t, xI q]) [] (hp S) 4 24 (pOr ((0 ≤ i ∧ i < S.1 (0, 0, 0) 6) ∧ 0 ≤ n ∧ n < S.1 (9, i, 0) 3 + 1) (pOr ((0 ≤ t ∧ t < 24) ∧ 0 ≤ q ∧ q < 384) (pQ S (some (xI (bI (hB S.1 i n.toNat t q))))) (pX S "java/lang/IllegalArgumentException")) (pX S "java/lang/IndexOutOfBoundsException")) := by
  have hw := hb.1
  have hn6 := wf0_6 hw
  have h93 : 0 ≤ i → i < S.1 (0, 0, 0) 6 → 0 ≤ S.1 (9, i, 0) 3 ∧ S.1 (9, i, 0) 3 ≤ 60 := fun a b => wf9_3 hw a (by omega)
  have zi2 := zi
  unfold zR at zi2
  have zn2 := zn
  unfold zR at zn2
  have zt2 := zt
  unfold zR at zt2
  have zq2 := zq
  unfold zR at zq2
  show X mX8_holds 0 [xR (0, 0, 0), xI i, xI n, xI t, xI q, none] [] (hp S) 4 24 _
  refine x_aload_n dX8_holds_0 rfl ?_
  refine x_iload_n dX8_holds_1 rfl ?_
  refine x_callV_t (a := 1) (b := 6) (as := [xI i]) (rest := []) ok_X8_branchAt dX8_holds_2 wd511 ⟨wd513, wd6⟩ (hp0 S) rfl rfl (c_branchAt S hb.1 i (by first | exact hz _ _ | exact hw.1 _ _ | exact zR_of _ | exact bI_z _ | assumption | exact ⟨by omega, by omega⟩)) rfl (Nat.le_of_ble_eq_true rfl) (Nat.le_of_ble_eq_true rfl) (by decide) (by omega) (by omega) (fun t2 => ?_) (fun t2 => ?_)
  · refine x_astore (L' := [xR (0, 0, 0), xI i, xI n, xI t, xI q, xR (9, i, 0)]) dX8_holds_5 (by decide) rfl ?_
    refine x_aload dX8_holds_7 rfl ?_
    refine x_iload_n dX8_holds_9 rfl ?_
    refine x_iload_n dX8_holds_10 rfl ?_
    refine x_iload dX8_holds_11 rfl ?_
    refine x_callS_tv2 (a := 3) (b := 18) (as := [xR (9, i, 0), xI n, xI t, xI q]) (rest := []) ok_X8_checkAsked dX8_holds_13 wd745 wd746 (c_checkAsked S hb.1 i (by omega) (by omega) n t q (by first | exact hz _ _ | exact hw.1 _ _ | exact zR_of _ | exact bI_z _ | assumption | exact ⟨by omega, by omega⟩) (by first | exact hz _ _ | exact hw.1 _ _ | exact zR_of _ | exact bI_z _ | assumption | exact ⟨by omega, by omega⟩) (by first | exact hz _ _ | exact hw.1 _ _ | exact zR_of _ | exact bI_z _ | assumption | exact ⟨by omega, by omega⟩)) rfl (Nat.le_of_ble_eq_true rfl) (Nat.le_of_ble_eq_true rfl) (by decide) (by omega) (by omega) (fun t13 t13b => ?_) (fun t13 => ?_) (fun t13 t13b => ?_)
    · refine x_aload_n dX8_holds_16 rfl ?_
      refine x_aload dX8_holds_17 rfl ?_
      refine x_iload_n dX8_holds_19 rfl ?_
      refine x_iload_n dX8_holds_20 rfl ?_
      refine x_callV (a := 0) (b := 0) (as := [xR (9, i, 0), xI n, xI t]) (rest := []) ok_X8_stateOf dX8_holds_21 wd350 ⟨wd352, wd1⟩ (hp0 S) rfl rfl (c_stateZ S hb i (by omega) (by omega) n (by omega) (by omega) t (by omega) (by omega)) rfl (Nat.le_of_ble_eq_true rfl) (Nat.le_of_ble_eq_true rfl) (by decide) (by omega) (by omega) (fun _ q => by cases q.1) (fun _ _ q => ?_) (fun _ _ q => by cases q.1)
      obtain ⟨y1, T1, rfl, qq1, bT1, o1, t1, l1⟩ := q
      cases y1
      have qT1 := (QEq.rf S).tr qq1
      have eT16 := congrFun (qT1.1 (0, 0, 0) rfl) 6
      have eT17 := congrFun (qT1.1 (0, 0, 0) rfl) 7
      have eT19 := congrFun (qT1.1 (9, i, 0) rfl) 3
      refine x_iload dX8_holds_24 rfl ?_
      refine x_callV_r (a := 0) (b := 0) (as := [xI q]) (rest := []) ok_X6_has dX8_holds_26 wd751 ⟨wd752, wd753⟩ (hp8 T1 (by omega) (by omega) (by omega) (by omega)) rfl rfl (c_has8 T1 q (by omega) (by omega) i t (by omega) (by omega) (by omega) (by omega)) rfl (Nat.le_of_ble_eq_true rfl) (Nat.le_of_ble_eq_true rfl) (by decide) (by omega) (by omega) ?_
      exact x_zret dX8_holds_29 rfl (bI_01 _) (Or.inl ⟨by omega, Or.inl ⟨by omega, pQb (hB_of (by omega) (by omega) l1) qT1 bT1⟩⟩)
    · exact XX.out rfl (by first | exact Or.inr ⟨by omega, pXi (QEq.rf S) hb⟩ | exact Or.inl ⟨by omega, Or.inr ⟨by omega, pXi (QEq.rf S) hb⟩⟩ | exact Or.inl ⟨by omega, Or.inl ⟨by omega, Or.inr ⟨by first | omega | assumption, pXi (QEq.rf S) hb⟩⟩⟩)
    · exact XX.out rfl (by first | exact Or.inr ⟨by omega, pXi (QEq.rf S) hb⟩ | exact Or.inl ⟨by omega, Or.inr ⟨by omega, pXi (QEq.rf S) hb⟩⟩ | exact Or.inl ⟨by omega, Or.inl ⟨by omega, Or.inr ⟨by first | omega | assumption, pXi (QEq.rf S) hb⟩⟩⟩)
  · exact XX.out rfl (by first | exact Or.inr ⟨by omega, pXi (QEq.rf S) hb⟩ | exact Or.inl ⟨by omega, Or.inr ⟨by omega, pXi (QEq.rf S) hb⟩⟩ | exact Or.inl ⟨by omega, Or.inl ⟨by omega, Or.inr ⟨by first | omega | assumption, pXi (QEq.rf S) hb⟩⟩⟩)
set_option maxHeartbeats 4000000 in
set_option maxRecDepth 100000 in
theorem c_count (S : XS) (hb : CB S) (i n t r : Int) (zi : zR i) (zn : zR n) (zt : zR t) (zr : zR r) : X mX8_count 0 (xEnt mX8_count [xR (0, 0, 0), xI i, xI n, xI t, xI r]) [] (hp S) 5 30 (pOr ((0 ≤ i ∧ i < S.1 (0, 0, 0) 6) ∧ 0 ≤ n ∧ n < S.1 (9, i, 0) 3 + 1) (pOr ((0 ≤ t ∧ t < 24) ∧ 0 ≤ r ∧ r < 6) (pQ S (some (xI (fBits (hl S.1 i n.toNat t r))))) (pX S "java/lang/IllegalArgumentException")) (pX S "java/lang/IndexOutOfBoundsException")) := by
  have hw := hb.1
  have hn6 := wf0_6 hw
  have h93 : 0 ≤ i → i < S.1 (0, 0, 0) 6 → 0 ≤ S.1 (9, i, 0) 3 ∧ S.1 (9, i, 0) 3 ≤ 60 := fun a b => wf9_3 hw a (by omega)
  have zi2 := zi
  unfold zR at zi2
  have zn2 := zn
  unfold zR at zn2
  have zt2 := zt
  unfold zR at zt2
  have zr2 := zr
  unfold zR at zr2
  show X mX8_count 0 [xR (0, 0, 0), xI i, xI n, xI t, xI r, none] [] (hp S) 5 30 _
  refine x_aload_n dX8_count_0 rfl ?_
  refine x_iload_n dX8_count_1 rfl ?_
  refine x_callV_t (a := 1) (b := 6) (as := [xI i]) (rest := []) ok_X8_branchAt dX8_count_2 wd511 ⟨wd513, wd6⟩ (hp0 S) rfl rfl (c_branchAt S hb.1 i (by first | exact hz _ _ | exact hw.1 _ _ | exact zR_of _ | exact bI_z _ | assumption | exact ⟨by omega, by omega⟩)) rfl (Nat.le_of_ble_eq_true rfl) (Nat.le_of_ble_eq_true rfl) (by decide) (by omega) (by omega) (fun t2 => ?_) (fun t2 => ?_)
  · refine x_astore (L' := [xR (0, 0, 0), xI i, xI n, xI t, xI r, xR (9, i, 0)]) dX8_count_5 (by decide) rfl ?_
    refine x_aload dX8_count_7 rfl ?_
    refine x_iload_n dX8_count_9 rfl ?_
    refine x_callS_tv (a := 1) (b := 6) (as := [xR (9, i, 0), xI n]) (rest := []) ok_X8_checkKnowing dX8_count_10 wd724 wd725 (c_checkKnowing S hb.1 i (by omega) (by omega) n (by first | exact hz _ _ | exact hw.1 _ _ | exact zR_of _ | exact bI_z _ | assumption | exact ⟨by omega, by omega⟩)) rfl (Nat.le_of_ble_eq_true rfl) (Nat.le_of_ble_eq_true rfl) (by decide) (by omega) (by omega) (fun t10 => ?_) (fun t10 => ?_)
    · refine x_iload_n dX8_count_13 rfl ?_
      refine x_callS_tv (a := 1) (b := 6) (as := [xI t]) (rest := []) ok_X8_checkHour dX8_count_14 wd728 wd729 (c_checkHour S hb.1 t (by first | exact hz _ _ | exact hw.1 _ _ | exact zR_of _ | exact bI_z _ | assumption | exact ⟨by omega, by omega⟩)) rfl (Nat.le_of_ble_eq_true rfl) (Nat.le_of_ble_eq_true rfl) (by decide) (by omega) (by omega) (fun t14 => ?_) (fun t14 => ?_)
      · refine x_iload dX8_count_17 rfl ?_
        refine x_callS_tv (a := 1) (b := 6) (as := [xI r]) (rest := []) ok_X8_checkRelation dX8_count_19 wd705 wd706 (c_checkRelation S hb.1 r (by first | exact hz _ _ | exact hw.1 _ _ | exact zR_of _ | exact bI_z _ | assumption | exact ⟨by omega, by omega⟩)) rfl (Nat.le_of_ble_eq_true rfl) (Nat.le_of_ble_eq_true rfl) (by decide) (by omega) (by omega) (fun t19 => ?_) (fun t19 => ?_)
        · refine x_aload_n dX8_count_22 rfl ?_
          refine x_aload dX8_count_23 rfl ?_
          refine x_iload_n dX8_count_25 rfl ?_
          refine x_iload_n dX8_count_26 rfl ?_
          refine x_callV (a := 0) (b := 0) (as := [xR (9, i, 0), xI n, xI t]) (rest := []) ok_X8_stateOf dX8_count_27 wd350 ⟨wd352, wd1⟩ (hp0 S) rfl rfl (c_stateZ S hb i (by omega) (by omega) n (by omega) (by omega) t (by omega) (by omega)) rfl (Nat.le_of_ble_eq_true rfl) (Nat.le_of_ble_eq_true rfl) (by decide) (by omega) (by omega) (fun _ q => by cases q.1) (fun _ _ q => ?_) (fun _ _ q => by cases q.1)
          obtain ⟨y1, T1, rfl, qq1, bT1, o1, t1, l1⟩ := q
          cases y1
          have qT1 := (QEq.rf S).tr qq1
          have eT16 := congrFun (qT1.1 (0, 0, 0) rfl) 6
          have eT17 := congrFun (qT1.1 (0, 0, 0) rfl) 7
          have eT19 := congrFun (qT1.1 (9, i, 0) rfl) 3
          refine x_get (v := xR (28, i, t)) dX8_count_30 fl_RX8_173 (hp8 T1 (by omega) (by omega) (by omega) (by omega)) rfl ?_
          refine x_iload dX8_count_33 rfl ?_
          refine x_aldj (f := T1.2.1 (28, i, t)) dX8_count_35 (hp28 T1 (by omega) (by omega) (by omega) (by omega)) (show (28 : Nat) ≠ 99 by decide) (by omega) (by omega) (by decide) ?_
          refine x_callS_r (a := 0) (b := 0) (as := [xJ (T1.2.1 (28, i, t) r)]) (rest := []) ok_J13_bitCount_95d88 dX8_count_36 wd732 wd621 (c_bitCount T1 (T1.2.1 (28, i, t) r)) rfl (Nat.le_of_ble_eq_true rfl) (Nat.le_of_ble_eq_true rfl) (by decide) (by omega) (by omega) ?_
          exact x_iret dX8_count_39 rfl (Or.inl ⟨by omega, Or.inl ⟨by omega, by rw [l1 r (by omega) (by omega)]; exact pQi qT1 bT1⟩⟩)
        · exact XX.out rfl (by first | exact Or.inr ⟨by omega, pXi (QEq.rf S) hb⟩ | exact Or.inl ⟨by omega, Or.inr ⟨by omega, pXi (QEq.rf S) hb⟩⟩ | exact Or.inl ⟨by omega, Or.inl ⟨by omega, Or.inr ⟨by first | omega | assumption, pXi (QEq.rf S) hb⟩⟩⟩)
      · exact XX.out rfl (by first | exact Or.inr ⟨by omega, pXi (QEq.rf S) hb⟩ | exact Or.inl ⟨by omega, Or.inr ⟨by omega, pXi (QEq.rf S) hb⟩⟩ | exact Or.inl ⟨by omega, Or.inl ⟨by omega, Or.inr ⟨by first | omega | assumption, pXi (QEq.rf S) hb⟩⟩⟩)
    · exact XX.out rfl (by first | exact Or.inr ⟨by omega, pXi (QEq.rf S) hb⟩ | exact Or.inl ⟨by omega, Or.inr ⟨by omega, pXi (QEq.rf S) hb⟩⟩ | exact Or.inl ⟨by omega, Or.inl ⟨by omega, Or.inr ⟨by first | omega | assumption, pXi (QEq.rf S) hb⟩⟩⟩)
  · exact XX.out rfl (by first | exact Or.inr ⟨by omega, pXi (QEq.rf S) hb⟩ | exact Or.inl ⟨by omega, Or.inr ⟨by omega, pXi (QEq.rf S) hb⟩⟩ | exact Or.inl ⟨by omega, Or.inl ⟨by omega, Or.inr ⟨by first | omega | assumption, pXi (QEq.rf S) hb⟩⟩⟩)
/-- the first hour of the span -/
noncomputable def spF (P : Nat → Prop) : Nat → Nat
  | 0 => 0
  | n + 1 => haveI := Classical.propDecidable (P n); if P n then spF P n else n + 1
theorem spF_t {P : Nat → Prop} {n : Nat} (h : P n) : spF P (n + 1) = spF P n := if_pos h
theorem spF_f {P : Nat → Prop} {n : Nat} (h : ¬ P n) : spF P (n + 1) = n + 1 := if_neg h
/-- the last hour of the span: d hours may follow -/
noncomputable def spT (P : Nat → Prop) : Nat → Nat
  | 0 => 23
  | d + 1 => haveI := Classical.propDecidable (P (23 - d)); if P (23 - d) then spT P d else 22 - d
theorem spT_t {P : Nat → Prop} {d : Nat} (h : P (23 - d)) : spT P (d + 1) = spT P d := if_pos h
theorem spT_f {P : Nat → Prop} {d : Nat} (h : ¬ P (23 - d)) : spT P (d + 1) = 22 - d := if_neg h
