/-! the calls: reasonFact, proof -/
def pAskF (S : XS) (b : Int) (n : Nat) (t q k : Int) : XO → XH → Prop := fun o h' => ∃ rk ru wy, Rsn S.1 b n t rk ru wy ∧ pOr (premV S.1 rk ru wy q k ≠ -1) (pQ S (some (xI (premV S.1 rk ru wy q k)))) (pX S "java/util/NoSuchElementException") o h'
theorem askF_t {S R : XS} {b : Int} {n : Nat} {t q k v : Int} (r : Rsn S.1 b n t (R.1 (40, 0, 0)) (R.1 (41, 0, 0)) (R.1 (42, 0, 0))) (hq : QEq S R) (hb : CB R) (e : v = premV R.1 (R.1 (40, 0, 0)) (R.1 (41, 0, 0)) (R.1 (42, 0, 0)) q k) (h : v ≠ -1) : pAskF S b n t q k (.inl (some (xI v))) (hp R) := by
  rw [premV_congr hq.rule.symm] at e
  subst e
  exact ⟨_, _, _, r, Or.inl ⟨h, pQi hq hb⟩⟩
theorem askF_f {S R : XS} {b : Int} {n : Nat} {t q k v : Int} (r : Rsn S.1 b n t (R.1 (40, 0, 0)) (R.1 (41, 0, 0)) (R.1 (42, 0, 0))) (hq : QEq S R) (hb : CB R) (e : v = premV R.1 (R.1 (40, 0, 0)) (R.1 (41, 0, 0)) (R.1 (42, 0, 0)) q k) (h : v = -1) : pAskF S b n t q k (.inr "java/util/NoSuchElementException") (hp R) := by
  rw [premV_congr hq.rule.symm] at e
  subst e
  exact ⟨_, _, _, r, Or.inr ⟨fun z => z h, pXi hq hb⟩⟩
theorem prC_congr {f f' : XL → Int → Int} (h : RuleEq f f') (rk ru wy : Int → Int) (q : Int) : prC f rk ru wy q = prC f' rk ru wy q := by
  have e : PrS f rk ru wy q = PrS f' rk ru wy q := by
    funext x
    unfold PrS
    simp only [premV_congr h]
  unfold prC
  rw [e]
theorem premV_zR {S R : XS} (hb : CB S) (hq : QEq S R) {b : Int} {n : Nat} {t q : Int} (r : Rsn S.1 b n t (R.1 (40, 0, 0)) (R.1 (41, 0, 0)) (R.1 (42, 0, 0))) (q0 : 0 ≤ q) (q1 : q < 384) (k : Int) : zR (premV R.1 (R.1 (40, 0, 0)) (R.1 (41, 0, 0)) (R.1 (42, 0, 0)) q k) := by
  rw [premV_congr hq.rule.symm]
  rcases prem_in hb.1 hb.2.1 r q0 q1 k with z | z <;> exact ⟨by omega, by omega⟩
/-! rivals of a fact -/
theorem pairsN_bit (a c : Int) (n : Nat) (hn : n ≤ 64) (p : Nat) (hp : p < 64) : bitJ (pairsN a c n) p ↔ p < n ∧ (a = -1 ∨ a = (p : Int) / 8) ∧ (c = -1 ∨ c = (p : Int) % 8) := by
  induction n with
  | zero => exact ⟨fun z => absurd z (bitJ_0 p hp), fun z => by omega⟩
  | succ n ih =>
    simp only [pairsN]
    split
    · rename_i h
      rw [bitJ_or _ _ _ hp, ih (by omega), bitJ_one _ _ (by omega) hp]
      constructor
      · rintro (z | z)
        · exact ⟨by omega, z.2⟩
        · subst z; exact ⟨by omega, h⟩
      · rintro ⟨z1, z2⟩
        by_cases e : p = n
        · exact Or.inr e
        · exact Or.inl ⟨by omega, z2⟩
    · rename_i h
      rw [ih (by omega)]
      constructor
      · rintro ⟨z1, z2⟩; exact ⟨by omega, z2⟩
      · rintro ⟨z1, z2⟩
        refine ⟨?_, z2⟩
        by_cases e : p = n
        · subst e; exact absurd z2 h
        · omega
theorem bitJ_some {x : Int64} (h : x ≠ 0) : ∃ p : Nat, p < 64 ∧ bitJ x p := by
  apply Classical.byContradiction
  intro z
  apply h
  apply bitJ_ext
  intro p hp
  constructor
  · intro y; exact absurd ⟨p, hp, y⟩ z
  · intro y; exact absurd y (bitJ_0 p hp)
/-- another fact with the same first thing is told in an hour -/
def RivH (f : XL → Int → Int) (b : Int) (n : Nat) (q h : Int) : Prop := ∃ p : Nat, p < 64 ∧ (p : Int) / 8 = q % 64 / 8 ∧ (p : Int) ≠ q % 64 ∧ bitJ (toldN f b h n (q / 64)) p
theorem riv_iff (x : Int64) {q : Int} (q0 : 0 ≤ q) : x &&& (pairsN (q % 64 / 8) (-1) 64 &&& (jShl 1 (q % 64) ^^^ (-1))) ≠ 0 ↔ ∃ p : Nat, p < 64 ∧ (p : Int) / 8 = q % 64 / 8 ∧ (p : Int) ≠ q % 64 ∧ bitJ x p := by
  obtain ⟨r, hr⟩ := Int.eq_ofNat_of_zero_le (show 0 ≤ q % 64 by omega)
  have hr2 : r < 64 := by omega
  rw [hr]
  have k : ∀ p : Nat, p < 64 → (bitJ (x &&& (pairsN ((r : Int) / 8) (-1) 64 &&& (jShl 1 (r : Int) ^^^ (-1)))) p ↔ bitJ x p ∧ (p : Int) / 8 = (r : Int) / 8 ∧ (p : Int) ≠ r) := fun p hp => by
    rw [bitJ_and _ _ _ hp, bitJ_and _ _ _ hp, bitJ_not _ _ hp, bitJ_one _ _ hr2 hp, pairsN_bit _ _ 64 (by omega) p hp]
    constructor
    · rintro ⟨a, ⟨b, c, d⟩, e⟩; exact ⟨a, by omega, by omega⟩
    · rintro ⟨a, b, c⟩; exact ⟨a, ⟨hp, by omega, Or.inl rfl⟩, by omega⟩
  constructor
  · intro h
    obtain ⟨p, hp, hb⟩ := bitJ_some h
    obtain ⟨a, b, c⟩ := (k p hp).mp hb
    exact ⟨p, hp, b, c, a⟩
  · rintro ⟨p, hp, a, b, c⟩ z
    have y := (k p hp).mpr ⟨c, a, b⟩
    rw [z] at y
    exact bitJ_0 p hp y
/-- a fact has a rival in a span, by the present knowing -/
def Riv (f : XL → Int → Int) (b q x y : Int) : Prop := f (3, 0, 0) (q / 64) ≠ 0 ∧ ∃ h : Int, x ≤ h ∧ h ≤ y ∧ RivH f b (f (9, b, 0) 3).toNat q h
theorem QEq.read (S : XS) (b : Int) (n : Nat) (h : Int) : QEq S (sRead S b n h) := ⟨fun l a => by show (if l = _ then _ else _) = _; rw [if_neg (fun z => by rw [z] at a; cases a)]; rfl, fun l a => by show (if l = _ then _ else _) = _; rw [if_neg (fun z => by rw [z] at a; cases a)], rfl⟩
theorem CB.keep {S S' : XS} (hb : CB S) (q : QEq S S') (w : WI S') (e1 : ∀ k x y, (k = 7 ∨ k = 8 ∨ k = 40 ∨ k = 41 ∨ k = 42) → S'.1 (k, x, y) = S.1 (k, x, y)) (e2 : ∀ k x y, (k = 17 ∨ k = 27 ∨ k = 18 ∨ k = 28) → S'.2.1 (k, x, y) = S.2.1 (k, x, y)) : CB S' := by
  refine hb.of q w (fun b' t' a0 a1 a2 a3 => ?_) ?_ ⟨fun b' t' a0 a1 a2 a3 => ?_, ?_⟩
  · rw [e1 8 _ _ (by simp), e2 18 _ _ (by simp), e2 28 _ _ (by simp)]
    exact Stab_eq q.rule (hb.2.2.1 b' t' a0 a1 a2 a3)
  · unfold RGood
    rw [e1 7 _ _ (by simp), e1 40 _ _ (by simp), e1 41 _ _ (by simp), e1 42 _ _ (by simp), e2 17 _ _ (by simp), e2 27 _ _ (by simp)]
    exact ⟨Stab_eq q.rule hb.2.2.2.2.1.1, RFin_eq q.rule hb.2.2.2.2.1.2⟩
  · rw [e1 8 _ _ (by simp)]
    exact (hb.2.2.2.2.2.1.1 b' t' a0 a1 a2 a3).q q
  · rw [e1 7 _ _ (by simp)]
    exact hb.2.2.2.2.2.1.2.q q
theorem CB.read {S : XS} (hb : CB S) (b : Int) (n : Nat) (h : Int) : CB (sRead S b n h) := by
  refine hb.keep (QEq.read S b n h) (wi_read S hb.1 b n h) (fun k x y z => ?_) (fun k x y z => ?_)
  · show (if (k, x, y) = ((6 : Nat), (0 : Int), (0 : Int)) then _ else _) = _
    rw [if_neg (fun e => by injection e with e _; omega)]
    rfl
  · show (if (k, x, y) = ((16 : Nat), (0 : Int), (0 : Int)) then _ else _) = _
    rw [if_neg (fun e => by injection e with e _; omega)]
theorem read_at {S T : XS} (qT : QEq S T) (b : Int) (n : Nat) (h : Int) {x : Int} (x0 : 0 ≤ x) (x1 : x < 6) : (sRead T b n h).2.1 (16, 0, 0) x = toldN S.1 b h n x := by rw [sRead_told T b n h x0 (by omega), qT.toldN]
set_option maxHeartbeats 4000000 in
set_option maxRecDepth 100000 in
theorem l_hasRival (S : XS) (hb : CB S) (b : Int) (h1 : 0 ≤ b) (h2 : b < 4) (q : Int) (q0 : 0 ≤ q) (q1 : q < 384) (x y : Int) (x0 : 0 ≤ x) (x1 : x < 24) (y0 : 0 ≤ y) (y1 : y < 24) (hu : S.1 (3, 0, 0) (q / 64) ≠ 0) : ∀ (nn : Nat) (T : XS) (z : Int), 25 - z < (nn : Int) → (QEq S T) → (CB T) → (x ≤ z) → (z ≤ 24) → (∀ h : Int, x ≤ h → h < z → ¬ RivH S.1 b (S.1 (9, b, 0) 3).toNat q h) → X mX8_hasRival 47 [xR (0, 0, 0), xR (9, b, 0), xI q, xI x, xI y, xI (q / 64), xI (q % 64), xJ (pairsN (q % 64 / 8) (-1) 64 &&& (jShl 1 (q % 64) ^^^ (-1))), none, xI z] [] (hp T) 0 0 (pQ S (some (xI (bI (Riv S.1 b q x y))))) := by
  intro nn
  induction nn with
  | zero => intro T z hm qT bT hz0 hz1 hno; exfalso; omega
  | succ nn ih =>
    intro T z hm qT bT hz0 hz1 hno
    have hw := bT.1
    have f9 := wf9_3 hb.1 h1 h2
    have eT9 := congrFun (qT.1 (9, b, 0) rfl) 3
    refine x_iload dX8_hasRival_47 rfl ?_
    refine x_iload dX8_hasRival_49 rfl ?_
    refine x_icmp_gt (tgt := 94) dX8_hasRival_51 (by decide) (by first | exact hz _ _ | exact hw.1 _ _ | exact zR_of _ | exact bI_z _ | assumption | exact ⟨by omega, by omega⟩) (by first | exact hz _ _ | exact hw.1 _ _ | exact zR_of _ | exact bI_z _ | assumption | exact ⟨by omega, by omega⟩) (fun c51 => ?_) (fun c51 => ?_)
    · refine x_iconst dX8_hasRival_94 ?_
      exact x_zret dX8_hasRival_95 rfl (Or.inl rfl) (by rw [← bI_f (show ¬ Riv S.1 b q x y from fun ⟨_, h, a, c, d⟩ => hno h a (by omega) d)]; exact pQi qT bT)
    · refine x_aload_n dX8_hasRival_54 rfl ?_
      refine x_aload_n dX8_hasRival_55 rfl ?_
      refine x_get (v := xI (T.1 (9, b, 0) 3)) dX8_hasRival_56 fl_RX8_92 (hp9 T (by omega) (by omega)) rfl ?_
      have f56_1 := wf9_3 bT.1 (S := T) (b := b) (by omega) (by omega)
      refine x_iload dX8_hasRival_59 rfl ?_
      refine x_aload_n dX8_hasRival_61 rfl ?_
      refine x_get (v := xR (6, 0, 0)) dX8_hasRival_62 fl_RX8_42 (hp0 T) rfl ?_
      refine x_callV_v (a := 0) (b := 0) (as := [xI (T.1 (9, b, 0) 3), xI z, xR (6, 0, 0)]) (rest := []) ok_X0_read dX8_hasRival_65 wd354 ⟨wd355, wd356⟩ (hp9 T (by omega) (by omega)) rfl rfl (x_nat (e := (T.1 (9, b, 0) 3)) (by omega) (fun n => X mX0_read 0 (xEnt mX0_read [xR (9, b, 0), xI n, xI z, xR (6, 0, 0)]) [] (hp T) 0 0 (pVoid (hp (sRead T b (S.1 (9, b, 0) 3).toNat z)))) (by rw [eT9]; exact c_read T bT.1 b (by omega) (by omega) (S.1 (9, b, 0) 3).toNat (by omega) z (by omega) (by omega))) rfl (Nat.le_of_ble_eq_true rfl) (Nat.le_of_ble_eq_true rfl) (by decide) (by omega) (by omega) ?_
      refine x_aload_n dX8_hasRival_68 rfl ?_
      refine x_get (v := xR (6, 0, 0)) dX8_hasRival_69 fl_RX8_42 (hp0 (sRead T b (S.1 (9, b, 0) 3).toNat z)) rfl ?_
      refine x_get (v := xR (16, 0, 0)) dX8_hasRival_72 fl_RX8_313 (hp6 (sRead T b (S.1 (9, b, 0) 3).toNat z)) rfl ?_
      refine x_iload dX8_hasRival_75 rfl ?_
      refine x_aldj (f := (sRead T b (S.1 (9, b, 0) 3).toNat z).2.1 (16, 0, 0)) dX8_hasRival_77 (hp16 (sRead T b (S.1 (9, b, 0) 3).toNat z)) (show (16 : Nat) ≠ 99 by decide) (by omega) (by omega) (by decide) ?_
      refine x_lload dX8_hasRival_78 rfl ?_
      refine x_land dX8_hasRival_80 ?_
      refine x_lconst (v := 0) dX8_hasRival_81 (by decide) ?_
      refine x_lcmp dX8_hasRival_82 ?_
      refine x_if_eq (tgt := 88) dX8_hasRival_83 (by decide) (by first | exact hz _ _ | exact hw.1 _ _ | exact zR_of _ | exact bI_z _ | assumption | exact ⟨by omega, by omega⟩) (fun c83 => ?_) (fun c83 => ?_)
      · refine x_iinc (L' := [xR (0, 0, 0), xR (9, b, 0), xI q, xI x, xI y, xI (q / 64), xI (q % 64), xJ (pairsN (q % 64 / 8) (-1) 64 &&& (jShl 1 (q % 64) ^^^ (-1))), none, xI (z + 1)]) dX8_hasRival_88 rfl rfl ?_
        refine x_goto (tgt := 47) dX8_hasRival_91 (by decide) ?_
        exact ih (sRead T b (S.1 (9, b, 0) 3).toNat z) (z + 1) (by omega) (qT.tr (QEq.read T b (S.1 (9, b, 0) 3).toNat z)) (bT.read b (S.1 (9, b, 0) 3).toNat z) (by omega) (by omega) (fun h a c d => by rcases Int.lt_or_eq_of_le (show h ≤ z by omega) with e | e; exact hno h a e d; subst e; exact absurd (lg0.mp (by assumption)) ((riv_iff _ q0).mpr (by rw [read_at qT b (S.1 (9, b, 0) 3).toNat h (by omega) (by omega)]; exact d)))
      · refine x_iconst dX8_hasRival_86 ?_
        exact x_zret dX8_hasRival_87 rfl (Or.inr rfl) (by rw [← bI_t (show Riv S.1 b q x y from ⟨hu, z, by omega, by omega, by have k := (riv_iff _ q0).mp (fun e => absurd (lg0.mpr e) (by assumption)); rw [read_at qT b (S.1 (9, b, 0) 3).toNat z (by omega) (by omega)] at k; exact k⟩)]; exact pQi (qT.tr (QEq.read T b (S.1 (9, b, 0) 3).toNat z)) (bT.read b (S.1 (9, b, 0) 3).toNat z))
set_option maxHeartbeats 4000000 in
set_option maxRecDepth 100000 in
theorem c_hasRival (S : XS) (hb : CB S) (b : Int) (h1 : 0 ≤ b) (h2 : b < 4) (q : Int) (q0 : 0 ≤ q) (q1 : q < 384) (x y : Int) (x0 : 0 ≤ x) (x1 : x < 24) (y0 : 0 ≤ y) (y1 : y < 24) : X mX8_hasRival 0 (xEnt mX8_hasRival [xR (0, 0, 0), xR (9, b, 0), xI q, xI x, xI y]) [] (hp S) 0 0 (pQ S (some (xI (bI (Riv S.1 b q x y))))) := by
  have hw := hb.1
  show X mX8_hasRival 0 [xR (0, 0, 0), xR (9, b, 0), xI q, xI x, xI y, none, none, none, none, none] [] (hp S) 0 0 _
  refine x_iload_n dX8_hasRival_0 rfl ?_
  refine x_bipush (v := 64) dX8_hasRival_1 (by decide) ?_
  refine x_idiv dX8_hasRival_3 (by omega) (by omega) (by omega) (by omega) ?_
  refine x_istore (L' := [xR (0, 0, 0), xR (9, b, 0), xI q, xI x, xI y, xI (q / 64), none, none, none, none]) dX8_hasRival_4 (by decide) rfl ?_
  refine x_aload_n dX8_hasRival_6 rfl ?_
  refine x_get (v := xR (3, 0, 0)) dX8_hasRival_7 fl_RX8_21 (hp0 S) rfl ?_
  refine x_iload dX8_hasRival_10 rfl ?_
  refine x_aldz (f := S.1 (3, 0, 0)) dX8_hasRival_12 (hp3 S) (show (3 : Nat) ≠ 99 by decide) (by omega) (by omega) (by decide) ?_
  have f12_1 := wfa3 hb.1 (S := S) (q / 64)
  refine x_if_ne (tgt := 18) dX8_hasRival_13 (by decide) (by first | exact hz _ _ | exact hw.1 _ _ | exact zR_of _ | exact bI_z _ | assumption | exact ⟨by omega, by omega⟩) (fun c13 => ?_) (fun c13 => ?_)
  · refine x_iload_n dX8_hasRival_18 rfl ?_
    refine x_bipush (v := 64) dX8_hasRival_19 (by decide) ?_
    refine x_irem dX8_hasRival_21 (by omega) (by omega) (by omega) (by omega) ?_
    refine x_istore (L' := [xR (0, 0, 0), xR (9, b, 0), xI q, xI x, xI y, xI (q / 64), xI (q % 64), none, none, none]) dX8_hasRival_22 (by decide) rfl ?_
    refine x_iload dX8_hasRival_24 rfl ?_
    refine x_bipush (v := 8) dX8_hasRival_26 (by decide) ?_
    refine x_idiv dX8_hasRival_28 (by omega) (by omega) (by omega) (by omega) ?_
    refine x_iconst dX8_hasRival_29 ?_
    refine x_callS_r (a := 0) (b := 0) (as := [xI ((q % 64) / 8), xI (-1)]) (rest := []) ok_X8_pairsOf dX8_hasRival_30 wd558 wd559 (c_pairsOf S ((q % 64) / 8) (-1) (by first | exact hz _ _ | exact hw.1 _ _ | exact zR_of _ | exact bI_z _ | assumption | exact ⟨by omega, by omega⟩) ⟨by decide, by decide⟩) rfl (Nat.le_of_ble_eq_true rfl) (Nat.le_of_ble_eq_true rfl) (by decide) (by omega) (by omega) ?_
    refine x_lconst (v := 1) dX8_hasRival_33 (by decide) ?_
    refine x_iload dX8_hasRival_34 rfl ?_
    refine x_lshl dX8_hasRival_36 ?_
    refine x_ldc2 (v := (-1)) dX8_hasRival_37 wd561 ?_
    refine x_lxor dX8_hasRival_40 ?_
    refine x_land dX8_hasRival_41 ?_
    refine x_lstore (L' := [xR (0, 0, 0), xR (9, b, 0), xI q, xI x, xI y, xI (q / 64), xI (q % 64), xJ ((pairsN ((q % 64) / 8) (-1) 64) &&& ((jShl 1 (q % 64)) ^^^ (-1))), none, none]) dX8_hasRival_42 (by decide) rfl ?_
    refine x_iload_n dX8_hasRival_44 rfl ?_
    refine x_istore (L' := [xR (0, 0, 0), xR (9, b, 0), xI q, xI x, xI y, xI (q / 64), xI (q % 64), xJ ((pairsN ((q % 64) / 8) (-1) 64) &&& ((jShl 1 (q % 64)) ^^^ (-1))), none, xI x]) dX8_hasRival_45 (by decide) rfl ?_
    exact l_hasRival S hb b h1 h2 q q0 q1 x y x0 x1 y0 y1 (by omega) 26 S x (by omega) (QEq.rf S) hb (by omega) (by omega) (fun h a c => by omega)
  · refine x_iconst dX8_hasRival_16 ?_
    exact x_zret dX8_hasRival_17 rfl (Or.inl rfl) (by rw [← bI_f (show ¬ Riv S.1 b q x y from fun z => z.1 (by omega))]; exact pQi (QEq.rf S) hb)
