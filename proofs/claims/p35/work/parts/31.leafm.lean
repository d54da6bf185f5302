/-! reasons: by one rule -/
/-- a rule that is on comes by a way to a fact -/
def Hit (f : XL → Int → Int) (on : Int) (A C : Int → Int64) (r w : Int) (x p : Nat) : Prop := 0 ≤ r ∧ r < f (4, 0, 0) 2 ∧ bitI on r ∧ f (37, r, 0) 0 = x ∧ 0 ≤ w ∧ w < 512 ∧ Fits f A C r w ∧ pairF f (37, r, 0) w = p
def Bef (r' w' r w : Int) : Prop := r' < r ∨ (r' = r ∧ w' < w)
/-- a fact with its rank, not above k, and its reason -/
def RSet (f : XL → Int → Int) (on : Int) (T C : Int → Int64) (k : Nat) (x p : Nat) (rq uq yq : Int) : Prop := ∃ m : Nat, rq = m ∧ m ≤ k ∧ bitJ (levF f on C T m x) p ∧ (∀ m', m' < m → ¬ bitJ (levF f on C T m' x) p) ∧ (0 < m → Hit f on (levF f on C T (m - 1)) C uq yq x p ∧ ∀ r' w', Bef r' w' uq yq → ¬ Hit f on (levF f on C T (m - 1)) C r' w' x p)
/-- in the step n, the rules below i and the ways of i below w done -/
def RInv (f : XL → Int → Int) (on : Int) (T C : Int → Int64) (n : Nat) (i w : Int) (rk ru wy : Int → Int) (G : Int → Int64) : Prop := ∀ x p : Nat, x < 6 → p < 64 →
  (bitJ (levF f on C T (n - 1) x) p ∧ ¬ bitJ (G x) p ∧ RSet f on T C (n - 1) x p (rk (64 * x + p)) (ru (64 * x + p)) (wy (64 * x + p))) ∨
  (¬ bitJ (levF f on C T (n - 1) x) p ∧ ((rk (64 * x + p) = -1 ∧ ¬ bitJ (G x) p ∧ ∀ r' w', Bef r' w' i w → ¬ Hit f on (levF f on C T (n - 1)) C r' w' x p) ∨
    (rk (64 * x + p) = n ∧ bitJ (G x) p ∧ Hit f on (levF f on C T (n - 1)) C (ru (64 * x + p)) (wy (64 * x + p)) x p ∧ ∀ r' w', Bef r' w' (ru (64 * x + p)) (wy (64 * x + p)) → ¬ Hit f on (levF f on C T (n - 1)) C r' w' x p)))
theorem RInv.to {f : XL → Int → Int} {on : Int} {T C : Int → Int64} {n : Nat} {i w i' w' : Int} {rk ru wy : Int → Int} {G : Int → Int64} (h : RInv f on T C n i w rk ru wy G) (k : ∀ r' y' x p, x < 6 → p < 64 → Hit f on (levF f on C T (n - 1)) C r' y' x p → ¬ bitJ (levF f on C T (n - 1) x) p → Bef r' y' i' w' → Bef r' y' i w) : RInv f on T C n i' w' rk ru wy G := by
  intro x p hx hp
  rcases h x p hx hp with q | ⟨q1, ⟨q2, q3, q4⟩ | q⟩
  · exact Or.inl q
  · exact Or.inr ⟨q1, Or.inl ⟨q2, q3, fun r' y' b z => q4 r' y' (k r' y' x p hx hp z q1 b) z⟩⟩
  · exact Or.inr ⟨q1, Or.inr q⟩
/-- the four rows as reach leaves them -/
def rkR (rk : Int → Int) (q n : Int) : Int → Int := if rk q = -1 then xUpd rk q n else rk
def ruR (rk ru : Int → Int) (q r : Int) : Int → Int := if rk q = -1 then xUpd ru q r else ru
def gR (rk : Int → Int) (G : Int → Int64) (q : Int) : Int → Int64 := if rk q = -1 then xUpd G (q / 64) (G (q / 64) ||| jShl 1 (q % 64)) else G
theorem sReach_eq (S : XS) (rk ru wy : Int → Int) (F G : Int → Int64) (q r w n : Int) : sReach S rk ru wy F G q r w n = rS S (rkR rk q n) (ruR rk ru q r) (ruR rk wy q w) F (gR rk G q) := by
  unfold sReach rkR ruR gR
  by_cases c : rk q = -1
  · simp only [if_pos c]
  · simp only [if_neg c]
theorem ROk.reach {rk ru wy : Int → Int} (h : ROk rk ru wy) (q : Int) {n r w : Int} (n0 : 0 ≤ n ∧ n ≤ 384) (r0 : 0 ≤ r ∧ r ≤ 9) (w0 : 0 ≤ w ∧ w ≤ 511) : ROk (rkR rk q n) (ruR rk ru q r) (ruR rk wy q w) := by
  unfold rkR ruR
  by_cases c : rk q = -1
  · simp only [if_pos c]; exact ⟨xUpd_in h.1 ⟨by omega, n0.2⟩, xUpd_in h.2.1 r0, xUpd_in h.2.2 w0⟩
  · simp only [if_neg c]; exact h
theorem RInv.fit {f : XL → Int → Int} {on : Int} {T C : Int → Int64} {n : Nat} {i w : Int} {rk ru wy : Int → Int} {G : Int → Int64} (h : RInv f on T C n i w rk ru wy G) (x0 p0 : Nat) (hx0 : x0 < 6) (hp0 : p0 < 64) (hh : Hit f on (levF f on C T (n - 1)) C i w x0 p0) : RInv f on T C n i (w + 1) (rkR rk (64 * x0 + p0) n) (ruR rk ru (64 * x0 + p0) i) (ruR rk wy (64 * x0 + p0) w) (gR rk G (64 * x0 + p0)) := by
  have hb : ∀ r' w', Bef r' w' i (w + 1) → ¬ Bef r' w' i w → r' = i ∧ w' = w := fun r' w' a b => by
    unfold Bef at a b
    omega
  have hu : ∀ x p : Nat, Hit f on (levF f on C T (n - 1)) C i w x p → x = x0 ∧ p = p0 := fun x p z => by
    have a := z.2.2.2.1
    have b := z.2.2.2.2.2.2.2
    rw [hh.2.2.2.1] at a
    rw [hh.2.2.2.2.2.2.2] at b
    exact ⟨by omega, by omega⟩
  intro x p hx hp
  by_cases e : x = x0 ∧ p = p0
  · obtain ⟨rfl, rfl⟩ := e
    rcases h x p hx hp with ⟨q1, q2, q3⟩ | ⟨q1, ⟨q2, q3, q4⟩ | ⟨q2, q3, q4⟩⟩
    · have c : ¬ rk (64 * x + p) = -1 := fun z => by
        obtain ⟨m, hm, -⟩ := q3
        omega
      simp only [rkR, ruR, gR, if_neg c]
      exact Or.inl ⟨q1, q2, q3⟩
    · simp only [rkR, ruR, gR, if_pos q2]
      refine Or.inr ⟨q1, Or.inr ⟨by simp [xUpd], ?_, ?_, fun r' w' b => ?_⟩⟩
      · have e1 : (64 * (x : Int) + p) / 64 = x := by omega
        have e2 : (64 * (x : Int) + p) % 64 = p := by omega
        rw [e1, e2]
        simp only [xUpd, if_true]
        rw [bitJ_or _ _ _ hp, bitJ_one _ _ hp hp]
        exact Or.inr rfl
      · simp only [xUpd, if_true]; exact hh
      · simp only [xUpd, if_true] at b
        exact q4 r' w' b
    · have c : ¬ rk (64 * x + p) = -1 := by rw [q2]; omega
      simp only [rkR, ruR, gR, if_neg c]
      exact Or.inr ⟨q1, Or.inr ⟨q2, q3, q4⟩⟩
  · have eq : ¬ (64 * (x : Int) + p) = 64 * (x0 : Int) + p0 := fun z => e ⟨by omega, by omega⟩
    have k1 : rkR rk (64 * x0 + p0) n (64 * x + p) = rk (64 * x + p) := by
      unfold rkR; split
      · simp only [xUpd, if_neg eq]
      · rfl
    have k2 : ∀ (u : Int → Int) (v : Int), ruR rk u (64 * x0 + p0) v (64 * x + p) = u (64 * x + p) := fun u v => by
      unfold ruR; split
      · simp only [xUpd, if_neg eq]
      · rfl
    have k3 : bitJ (gR rk G (64 * x0 + p0) x) p ↔ bitJ (G x) p := by
      unfold gR; split
      · have e1 : (64 * (x0 : Int) + p0) / 64 = x0 := by omega
        have e2 : (64 * (x0 : Int) + p0) % 64 = p0 := by omega
        rw [e1, e2]
        simp only [xUpd]
        split
        · next z =>
          rw [bitJ_or _ _ _ hp, bitJ_one _ _ hp0 hp, z]
          have : p ≠ p0 := fun y => e ⟨by omega, y⟩
          exact ⟨fun a => a.elim id (fun b => absurd b this), Or.inl⟩
        · exact Iff.rfl
      · exact Iff.rfl
    rw [k1, k2, k2, k3]
    rcases h x p hx hp with q | ⟨q1, ⟨q2, q3, q4⟩ | q⟩
    · exact Or.inl q
    · refine Or.inr ⟨q1, Or.inl ⟨q2, q3, fun r' w' b z => ?_⟩⟩
      by_cases c : Bef r' w' i w
      · exact q4 r' w' c z
      · obtain ⟨rfl, rfl⟩ := hb r' w' b c
        exact e (hu x p z)
    · exact Or.inr ⟨q1, Or.inr q⟩
theorem Fits_A {f : XL → Int → Int} {A A' B : Int → Int64} {r w : Int} (hf : ∀ i : Nat, (i : Int) < f (34, r, 0) 2 → A (f (36, r, i) 0) = A' (f (36, r, i) 0)) (h : Fits f A B r w) : Fits f A' B r w := by
  refine ⟨h.1, fun i hi => ?_⟩
  have q := h.2 i hi
  unfold condOk at q ⊢
  rw [hf i hi] at q
  exact q
/-- what reachBy leaves -/
def pRB (S : XS) (on : Int) (T C F : Int → Int64) (n : Nat) (i : Int) : XO → XH → Prop := fun o h' => o = .inl none ∧ ∃ rk ru wy G, ROk rk ru wy ∧ RInv S.1 on T C n i 512 rk ru wy G ∧ h' = hp (rS S rk ru wy F G)
set_option maxHeartbeats 4000000 in
set_option maxRecDepth 100000 in
theorem l_reachBy (S : XS) (hw : WI S) (HR : RulesOk S) (on : Int) (T F : Int → Int64) (n : Nat) (n1 : n ≤ 384) (i : Nat) (hi : (i : Int) < S.1 (4, 0, 0) 2) (ho : bitI on i) (hF : ∀ x : Int, 0 ≤ x → x ≤ 5 → F x = levF S.1 on (S.2.1 (27, 0, 0)) T (n - 1) x) : ∀ (nn : Nat) (sk way : Int) (rk ru wy : Int → Int) (G : Int → Int64), 512 - way < (nn : Int) → (0 ≤ way) → (way ≤ 512) → (ROk rk ru wy) → (RInv S.1 on T (S.2.1 (27, 0, 0)) n i way rk ru wy G) → X mX3_reachBy 6 [xR (5, 0, 0), xR (34, (i : Int), 0), xI (i : Int), xI (n : Int), xI sk, xI way] [] (hp (rS S rk ru wy F G)) 0 0 (pRB S on T (S.2.1 (27, 0, 0)) F n i) := by
  intro nn
  induction nn with
  | zero => intro sk way rk ru wy G hm w0 w1 hR hI; exfalso; omega
  | succ nn ih =>
    intro sk way rk ru wy G hm w0 w1 hR hI
    have hr := (HR i hi).1
    have hn4 := wf4_2 hw
    have hd := wf37_0 hw (b := (i : Int)) (by omega) (by omega)
    have hpr : way < 512 → 0 ≤ (pairF S.1 (37, (i : Int), 0) way) ∧ (pairF S.1 (37, (i : Int), 0) way) < 64 := fun z => pairF_in S.1 _ hr.2.1 way w0 (by omega)
    refine x_iload dX3_reachBy_6 rfl ?_
    refine x_sipush (v := 512) dX3_reachBy_8 (by decide) ?_
    refine x_icmp_ge (tgt := 71) dX3_reachBy_11 (by decide) (by first | exact hz _ _ | exact hw.1 _ _ | exact zR_of _ | assumption | exact ⟨by omega, by omega⟩) ⟨by decide, by decide⟩ (fun c11 => ?_) (fun c11 => ?_)
    · exact x_vret dX3_reachBy_71 rfl (by obtain rfl : way = 512 := (by omega); exact ⟨rfl, rk, ru, wy, G, hR, hI, rfl⟩)
    · refine x_aload_n dX3_reachBy_14 rfl ?_
      refine x_iload dX3_reachBy_15 rfl ?_
      refine x_aload_n dX3_reachBy_17 rfl ?_
      refine x_get (v := xR (43, 0, 0)) dX3_reachBy_18 fl_RX3_28 (hp5 (rS S rk ru wy F G)) rfl ?_
      refine x_aload_n dX3_reachBy_21 rfl ?_
      refine x_get (v := xR (7, 0, 0)) dX3_reachBy_22 fl_RX3_12 (hp5 (rS S rk ru wy F G)) rfl ?_
      refine x_get (v := xR (27, 0, 0)) dX3_reachBy_25 fl_RX3_100 (hp7 (rS S rk ru wy F G)) rfl ?_
      refine x_callV (a := 0) (b := 0) (as := [xI way, xR (43, 0, 0), xR (27, 0, 0)]) (rest := []) ok_X4_misfit dX3_reachBy_28 wd788 ⟨wd401, wd402⟩ (hp34 (rS S rk ru wy F G) (by omega) (by omega)) rfl rfl (c_misfit43 (rS S rk ru wy F G) (hw.toR hR) (i : Int) (by omega) (by omega) hr way (by omega) (by omega)) rfl (Nat.le_of_ble_eq_true rfl) (Nat.le_of_ble_eq_true rfl) (by decide) (by omega) (by omega) (fun _ q => by obtain ⟨-, v, q1, -⟩ := q; cases q1) (fun _ _ q => ?_) (fun _ _ q => by obtain ⟨-, v, q1, -⟩ := q; cases q1)
      obtain ⟨rfl, v, q1, q2⟩ := q
      cases q1
      rcases q2 with ⟨rfl, q2⟩ | ⟨v0, v1, q2⟩
      · refine x_istore (L' := [xR (5, 0, 0), xR (34, (i : Int), 0), xI (i : Int), xI (n : Int), xI (-1), xI way]) dX3_reachBy_31 (by decide) rfl ?_
        refine x_iload dX3_reachBy_33 rfl ?_
        refine x_iconst dX3_reachBy_35 ?_
        refine x_icmp_ne (tgt := 59) dX3_reachBy_36 (by decide) ⟨by decide, by decide⟩ ⟨by decide, by decide⟩ (fun z => absurd z (by decide)) (fun _ => ?_)
        refine x_aload_n dX3_reachBy_39 rfl ?_
        refine x_aload_n dX3_reachBy_40 rfl ?_
        refine x_get (v := xR (37, (i : Int), 0)) dX3_reachBy_41 fl_RX3_107 (hp34 (rS S rk ru wy F G) (by omega) (by omega)) rfl ?_
        refine x_iload dX3_reachBy_44 rfl ?_
        refine x_callV_r (a := 0) (b := 0) (as := [xI way]) (rest := [xR (5, 0, 0)]) ok_X2_factOf dX3_reachBy_46 wd789 ⟨wd790, wd791⟩ (hp37 (rS S rk ru wy F G) (by omega) (by omega)) rfl rfl (c_factOf37 (rS S rk ru wy F G) (hw.toR hR) (i : Int) (by omega) (by omega) way) rfl (Nat.le_of_ble_eq_true rfl) (Nat.le_of_ble_eq_true rfl) (by decide) (by omega) (by omega) ?_
        refine x_top (show 64 * (rS S rk ru wy F G).1 (37, (i : Int), 0) 0 + fPair (rS S rk ru wy F G) (37, (i : Int), 0) way = 64 * S.1 (37, (i : Int), 0) 0 + pairF S.1 (37, (i : Int), 0) way from rfl) ?_
        refine x_iload_n dX3_reachBy_49 rfl ?_
        refine x_iload dX3_reachBy_50 rfl ?_
        refine x_iload_n dX3_reachBy_52 rfl ?_
        refine x_callV_v (a := 0) (b := 0) (as := [xI (64 * S.1 (37, (i : Int), 0) 0 + pairF S.1 (37, (i : Int), 0) way), xI (i : Int), xI way, xI (n : Int)]) (rest := []) ok_X3_reach dX3_reachBy_53 wd794 ⟨wd796, wd13⟩ (hp5 (rS S rk ru wy F G)) rfl rfl (c_reach S hw rk ru wy F G hR (64 * S.1 (37, (i : Int), 0) 0 + pairF S.1 (37, (i : Int), 0) way) i way n (by omega) (by omega) (by omega) (by omega) (by omega)) rfl (Nat.le_of_ble_eq_true rfl) (Nat.le_of_ble_eq_true rfl) (by decide) (by omega) (by omega) ?_
        refine x_iconst dX3_reachBy_56 ?_
        refine x_istore (L' := [xR (5, 0, 0), xR (34, (i : Int), 0), xI (i : Int), xI (n : Int), xI 0, xI way]) dX3_reachBy_57 (by decide) rfl ?_
        refine x_iload dX3_reachBy_59 rfl ?_
        refine x_iload dX3_reachBy_61 rfl ?_
        refine x_ior dX3_reachBy_63 ?_
        refine x_iconst dX3_reachBy_64 ?_
        refine x_iadd dX3_reachBy_65 ?_
        refine x_istore (L' := [xR (5, 0, 0), xR (34, (i : Int), 0), xI (i : Int), xI (n : Int), xI 0, xI ((zOr way 0) + 1)]) dX3_reachBy_66 (by decide) rfl ?_
        refine x_goto (tgt := 6) dX3_reachBy_68 (by decide) ?_
        have e := zOr_way w0 (by omega) (show (0 : Int) ≤ 0 by decide) (by decide)
        obtain ⟨a, ha⟩ := Int.eq_ofNat_of_zero_le hd.1
        obtain ⟨c, hc⟩ := Int.eq_ofNat_of_zero_le (hpr (by omega)).1
        have hh : Hit S.1 on (levF S.1 on (S.2.1 (27, 0, 0)) T (n - 1)) (S.2.1 (27, 0, 0)) i way a c := ⟨by omega, hi, ho, ha, w0, by omega, Fits_A (fun k hk => by have r := dl_rel hw hi hk; exact hF _ r.1 r.2) q2, hc⟩
        have k := hI.fit a c (by omega) (by omega) hh
        have e2 : zOr way 0 + 1 = way + 1 := by obtain ⟨m, rfl⟩ := Int.eq_ofNat_of_zero_le w0; rw [zOr_z m (by omega)]
        refine x_heq (show hp (rS S (rkR rk (64 * a + c) n) (ruR rk ru (64 * a + c) i) (ruR rk wy (64 * a + c) way) F (gR rk G (64 * a + c))) = hp (sReach S rk ru wy F G (64 * S.1 (37, (i : Int), 0) 0 + pairF S.1 (37, (i : Int), 0) way) i way n) from by rw [sReach_eq, ha, hc]) ?_
        exact ih _ _ _ _ _ _ (by omega) (by omega) (by omega) (hR.reach _ ⟨by omega, by omega⟩ ⟨by omega, by omega⟩ ⟨by omega, by omega⟩) (by rw [e2]; exact k)
      · refine x_istore (L' := [xR (5, 0, 0), xR (34, (i : Int), 0), xI (i : Int), xI (n : Int), xI v, xI way]) dX3_reachBy_31 (by decide) rfl ?_
        refine x_iload dX3_reachBy_33 rfl ?_
        refine x_iconst dX3_reachBy_35 ?_
        refine x_icmp_ne (tgt := 59) dX3_reachBy_36 (by decide) (by first | exact hz _ _ | exact hw.1 _ _ | exact zR_of _ | assumption | exact ⟨by omega, by omega⟩) ⟨by decide, by decide⟩ (fun c36 => ?_) (fun c36 => by exfalso; omega)
        refine x_iload dX3_reachBy_59 rfl ?_
        refine x_iload dX3_reachBy_61 rfl ?_
        refine x_ior dX3_reachBy_63 ?_
        refine x_iconst dX3_reachBy_64 ?_
        refine x_iadd dX3_reachBy_65 ?_
        refine x_istore (L' := [xR (5, 0, 0), xR (34, (i : Int), 0), xI (i : Int), xI (n : Int), xI v, xI ((zOr way v) + 1)]) dX3_reachBy_66 (by decide) rfl ?_
        refine x_goto (tgt := 6) dX3_reachBy_68 (by decide) ?_
        have e := zOr_way w0 (by omega) v0 v1
        refine ih _ _ _ _ _ _ (by omega) (by omega) (by omega) hR (hI.to (fun r' y' x p hx hp z z2 b => ?_))
        by_cases cc : Bef r' y' i way
        · exact cc
        exfalso
        unfold Bef at b cc
        obtain rfl : r' = (i : Int) := by omega
        exact q2 y' (by omega) (by omega) (Fits_A (fun k hk => by have r := dl_rel hw hi hk; exact (hF _ r.1 r.2).symm) z.2.2.2.2.2.2.1)
set_option maxHeartbeats 4000000 in
set_option maxRecDepth 100000 in
theorem c_reachBy (S : XS) (hw : WI S) (HR : RulesOk S) (on : Int) (T F : Int → Int64) (n : Nat) (n1 : n ≤ 384) (i : Nat) (hi : (i : Int) < S.1 (4, 0, 0) 2) (ho : bitI on i) (hF : ∀ x : Int, 0 ≤ x → x ≤ 5 → F x = levF S.1 on (S.2.1 (27, 0, 0)) T (n - 1) x) (rk ru wy : Int → Int) (G : Int → Int64) (hR : ROk rk ru wy) (hI : RInv S.1 on T (S.2.1 (27, 0, 0)) n i 0 rk ru wy G) : X mX3_reachBy 0 (xEnt mX3_reachBy [xR (5, 0, 0), xR (34, (i : Int), 0), xI (i : Int), xI (n : Int)]) [] (hp (rS S rk ru wy F G)) 0 0 (pRB S on T (S.2.1 (27, 0, 0)) F n i) := by
  show X mX3_reachBy 0 [xR (5, 0, 0), xR (34, (i : Int), 0), xI (i : Int), xI (n : Int), none, none] [] (hp (rS S rk ru wy F G)) 0 0 _
  refine x_iconst dX3_reachBy_0 ?_
  refine x_istore (L' := [xR (5, 0, 0), xR (34, (i : Int), 0), xI (i : Int), xI (n : Int), xI 0, none]) dX3_reachBy_1 (by decide) rfl ?_
  refine x_iconst dX3_reachBy_3 ?_
  refine x_istore (L' := [xR (5, 0, 0), xR (34, (i : Int), 0), xI (i : Int), xI (n : Int), xI 0, xI 0]) dX3_reachBy_4 (by decide) rfl ?_
  exact l_reachBy S hw HR on T F n n1 i hi ho hF 513 0 0 rk ru wy G (by omega) (by omega) (by omega) hR hI
