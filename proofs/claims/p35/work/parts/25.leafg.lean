/-! layers -/
/-- a row of ints set -/
def rowI (S : XS) (l : XL) (g : Int → Int) (n : Int) : XS := (fun l' => if l' = l then (fun j => if 0 ≤ j ∧ j < n then g j else S.1 l j) else S.1 l', S.2)
theorem rowI_at (S : XS) (l : XL) (g : Int → Int) {n r : Int} (h1 : 0 ≤ r) (h2 : r < n) : (rowI S l g n).1 l r = g r := by simp [rowI, h1, h2]
theorem putI_rowI (S : XS) (l : XL) (g : Int → Int) {n r : Int} (v : Int) (h1 : 0 ≤ r) (h2 : r < n) : putI (rowI S l g n) l r v = rowI S l (xUpd g r v) n := by
  unfold putI rowI
  refine Prod.ext ?_ rfl
  funext l' j
  by_cases e : l' = l
  · subst e
    simp only [if_true, xUpd]
    by_cases e2 : j = r
    · subst e2; simp [h1, h2]
    · simp [e2]
  · simp [e]
theorem rowI_self (S : XS) (l : XL) (n : Int) : rowI S l (S.1 l) n = S := by
  unfold rowI
  refine Prod.ext ?_ rfl
  funext l' j
  by_cases e : l' = l
  · subst e; simp
  · simp [e]
theorem rowI_rowI (S : XS) (l : XL) (f g : Int → Int) (n : Int) : rowI (rowI S l f n) l g n = rowI S l g n := by
  unfold rowI
  refine Prod.ext ?_ rfl
  funext l' j
  by_cases e : l' = l
  · subst e
    simp only [if_true]
    split
    · rfl
    · simp_all
  · simp [e]
def GOk (g : Int → Int) : Prop := ∀ x : Int, 0 ≤ x → x ≤ 5 → 0 ≤ g x ∧ g x ≤ 5
def leastG (f : XL → Int → Int) (g : Int → Int) (r : Int) : Nat → Int
  | 0 => 0
  | n + 1 => let q := if f (36, r, n) 1 = 0 then g (f (36, r, n) 0) else g (f (36, r, n) 0) + 1; if leastG f g r n < q then q else leastG f g r n
/-- g is layers by the rules of a set -/
def Lay (f : XL → Int → Int) (on : Int) (g : Int → Int) : Prop := ∀ j : Nat, (j : Int) < f (4, 0, 0) 2 → bitI on j → leastG f g j (f (34, j, 0) 2).toNat ≤ g (f (37, j, 0) 0)
def Below (f : XL → Int → Int) (on : Int) (g : Int → Int) : Prop := ∀ g' : Int → Int, (∀ x : Int, 0 ≤ x → x ≤ 5 → 0 ≤ g' x) → Lay f on g' → ∀ x : Int, 0 ≤ x → x ≤ 5 → g x ≤ g' x
def gsum (g : Int → Int) : Int := g 0 + g 1 + g 2 + g 3 + g 4 + g 5
def pLay (S : XS) (on : Int) : XO → XH → Prop := fun o h' => ∃ g, GOk g ∧ h' = hp (rowI S (33, 0, 0) g 6) ∧ ((o = .inl (some (xI 1)) ∧ Lay S.1 on g ∧ Below S.1 on g) ∨ (o = .inl (some (xI 0)) ∧ ∀ g', GOk g' → ¬ Lay S.1 on g'))
theorem WI.row33 {S : XS} (hw : WI S) {g : Int → Int} (hg : GOk g) : WI (rowI S (33, 0, 0) g 6) := by
  refine ⟨fun l' k' => ?_, fun l' hd k' => ?_⟩
  · by_cases e : l' = (33, 0, 0)
    · subst e
      simp only [rowI, if_true]
      split
      · have := hg k' (by omega) (by omega)
        exact ⟨by omega, by omega⟩
      · exact hw.1 _ _
    · simp only [rowI, if_neg e]; exact hw.1 l' k'
  · by_cases e : l' = (33, 0, 0)
    · subst e
      simp only [rowI, if_true]
      split
      · exact hg k' (by omega) (by omega)
      · exact hw.2 _ hd k'
    · simp only [rowI, if_neg e]; exact hw.2 l' hd k'
theorem leastN_row (S : XS) (hw : WI S) (g : Int → Int) (r : Int) (h1 : 0 ≤ r) (h2 : r < 10) (n : Nat) (hn : n ≤ 3) : leastN (rowI S (33, 0, 0) g 6).1 r n = leastG S.1 g r n := by
  induction n with
  | zero => rfl
  | succ n ih =>
    have ih := ih (by omega)
    have a := wf36_0 hw h1 h2 (show (0 : Int) ≤ (n : Int) by omega) (by omega)
    have e : (rowI S (33, 0, 0) g 6).1 (36, r, n) = S.1 (36, r, n) := rfl
    simp only [leastN, leastG, ih, e]
    rw [rowI_at S (33, 0, 0) g (r := S.1 (36, r, n) 0) (n := 6) (by omega) (by omega)]
theorem leastG_in (S : XS) (hw : WI S) {g : Int → Int} (hg : GOk g) (r : Int) (h1 : 0 ≤ r) (h2 : r < 10) (n : Nat) (hn : n ≤ 3) : 0 ≤ leastG S.1 g r n ∧ leastG S.1 g r n ≤ 6 := by
  induction n with
  | zero => simp [leastG]
  | succ n ih =>
    have ih := ih (by omega)
    have a := wf36_0 hw h1 h2 (show (0 : Int) ≤ (n : Int) by omega) (by omega)
    have b := hg (S.1 (36, r, n) 0) a.1 a.2
    simp only [leastG]
    (repeat' split) <;> omega
theorem leastG_mono (S : XS) (hw : WI S) {g g' : Int → Int} (hg : ∀ x : Int, 0 ≤ x → x ≤ 5 → g x ≤ g' x) (r : Int) (h1 : 0 ≤ r) (h2 : r < 10) (n : Nat) (hn : n ≤ 3) : leastG S.1 g r n ≤ leastG S.1 g' r n := by
  induction n with
  | zero => simp [leastG]
  | succ n ih =>
    have ih := ih (by omega)
    have a := wf36_0 hw h1 h2 (show (0 : Int) ≤ (n : Int) by omega) (by omega)
    have b := hg (S.1 (36, r, n) 0) a.1 a.2
    simp only [leastG]
    (repeat' split) <;> omega
theorem gsum_up {g : Int → Int} {x v : Int} (h0 : 0 ≤ x) (h1 : x ≤ 5) (hv : g x < v) : gsum g + 1 ≤ gsum (xUpd g x v) := by
  have : x = 0 ∨ x = 1 ∨ x = 2 ∨ x = 3 ∨ x = 4 ∨ x = 5 := by omega
  unfold gsum xUpd
  rcases this with rfl | rfl | rfl | rfl | rfl | rfl <;> simp <;> omega
theorem gsum_le {g : Int → Int} (hg : GOk g) : gsum g ≤ 30 := by
  have a := hg 0 (by decide) (by decide)
  have b := hg 1 (by decide) (by decide)
  have c := hg 2 (by decide) (by decide)
  have d := hg 3 (by decide) (by decide)
  have e := hg 4 (by decide) (by decide)
  have f := hg 5 (by decide) (by decide)
  unfold gsum
  omega
theorem GOk.up {g : Int → Int} (hg : GOk g) {x v : Int} (h0 : 0 ≤ v) (h1 : v ≤ 5) : GOk (xUpd g x v) := by
  intro y y0 y1
  unfold xUpd
  split
  · exact ⟨h0, h1⟩
  · exact hg y y0 y1
theorem Below.up {S : XS} (hw : WI S) {on : Int} {g : Int → Int} (hb : Below S.1 on g) {j : Nat} (hj : (j : Int) < S.1 (4, 0, 0) 2) (ho : bitI on j) : Below S.1 on (xUpd g (S.1 (37, j, 0) 0) (leastG S.1 g j (S.1 (34, j, 0) 2).toNat)) := by
  intro g' h0 hl x x0 x1
  have n := wf4_2 hw
  have m := wf34_2 hw (b := (j : Int)) (by omega) (by omega)
  unfold xUpd
  split
  · next e =>
    subst e
    exact Int.le_trans (leastG_mono S hw (hb g' h0 hl) j (by omega) (by omega) _ (by omega)) (hl j hj ho)
  · exact hb g' h0 hl x x0 x1
theorem Below.no {S : XS} (hw : WI S) {on : Int} {g : Int → Int} (hb : Below S.1 on g) {j : Nat} (hj : (j : Int) < S.1 (4, 0, 0) 2) (ho : bitI on j) (h5 : 5 < leastG S.1 g j (S.1 (34, j, 0) 2).toNat) : ∀ g', GOk g' → ¬ Lay S.1 on g' := by
  intro g' hg hl
  have n := wf4_2 hw
  have m := wf34_2 hw (b := (j : Int)) (by omega) (by omega)
  have k := wf37_0 hw (b := (j : Int)) (by omega) (by omega)
  have a := leastG_mono S hw (hb g' (fun x x0 x1 => (hg x x0 x1).1) hl) j (by omega) (by omega) (S.1 (34, j, 0) 2).toNat (by omega)
  have b := hl j hj ho
  have c := hg _ k.1 k.2
  omega
set_option maxHeartbeats 4000000 in
set_option maxRecDepth 100000 in
theorem l_findLayersI (S : XS) (hw : WI S) (on : Int) (step : Int) (g0 : 0 ≤ step) (g1 : step ≤ 36) (KK : ∀ (g : Int → Int) (rs : Int), GOk g → Below S.1 on g → (rs = 0 ∧ Lay S.1 on g ∨ rs = 1 ∧ step + 1 ≤ gsum g) → X mX5_findLayers 12 [xR (4, 0, 0), xI on, xI rs, xI (step + 1), none, none] [] (hp (rowI S (33, 0, 0) g 6)) 0 0 (pLay S on)) : ∀ (nn : Nat) (i : Nat) (rs : Int) (g : Int → Int), 11 - (i : Int) < (nn : Int) → ((i : Int) ≤ S.1 (4, 0, 0) 2) → ((i : Int) ≤ 10) → (GOk g) → (Below S.1 on g) → (rs = 0 ∨ rs = 1) → (step + rs ≤ gsum g) → (rs = 0 → ∀ j : Nat, j < i → bitI on j → leastG S.1 g j (S.1 (34, j, 0) 2).toNat ≤ g (S.1 (37, j, 0) 0)) → X mX5_findLayers 27 [xR (4, 0, 0), xI on, xI rs, xI step, xI (i : Int), none] [] (hp (rowI S (33, 0, 0) g 6)) 0 0 (pLay S on) := by
  intro nn
  induction nn with
  | zero => intro i rs g hm hi hi2 hg hb hr2 hs hl; exfalso; omega
  | succ nn ih =>
    intro i rs g hm hi hi2 hg hb hr2 hs hl
    have hwg := hw.row33 hg
    have hz := hw.1
    have hn4 := wf4_2 hw
    have hgh : (i : Int) < S.1 (4, 0, 0) 2 → 0 ≤ g (S.1 (37, (i : Int), 0) 0) ∧ g (S.1 (37, (i : Int), 0) 0) ≤ 5 := fun q => by have k := wf37_0 hw (b := (i : Int)) (by omega) (by omega); exact hg _ k.1 k.2
    refine x_iload dX5_findLayers_27 rfl ?_
    refine x_aload_n dX5_findLayers_29 rfl ?_
    refine x_get (v := xI (S.1 (4, 0, 0) 2)) dX5_findLayers_30 fl_RX5_21 (hp4 (rowI S (33, 0, 0) g 6)) rfl ?_
    have f30_1 := wf4_2 hw (S := S)
    refine x_icmp_ge (tgt := 121) dX5_findLayers_33 (by decide) (by first | exact hz _ _ | exact hw.1 _ _ | exact zR_of _ | assumption | exact ⟨by omega, by omega⟩) (by first | exact hz _ _ | exact hw.1 _ _ | exact zR_of _ | assumption | exact ⟨by omega, by omega⟩) (fun c33 => ?_) (fun c33 => ?_)
    · refine x_iinc (L' := [xR (4, 0, 0), xI on, xI rs, xI (step + 1), xI (i : Int), none]) dX5_findLayers_121 rfl rfl ?_
      refine x_goto (tgt := 12) dX5_findLayers_124 (by decide) ?_
      refine X.loc (L' := [xR (4, 0, 0), xI on, xI rs, xI (step + 1), none, none]) ⟨rfl, ⟨rfl, ⟨rfl, ⟨rfl, trivial⟩⟩⟩⟩ ?_
      exact KK g rs hg hb (by rcases hr2 with z | z; exact Or.inl ⟨z, fun j j1 j2 => hl z j (by omega) j2⟩; exact Or.inr ⟨z, by omega⟩)
    · refine x_iload dX5_findLayers_36 rfl ?_
      refine x_iload_n dX5_findLayers_38 rfl ?_
      refine x_callSN_r (a := 0) (b := 0) (as := [xI (i : Int), xI on]) (rest := []) ok_X8_isAmong dX5_findLayers_39 wn382 wd383 (c_isAmong (rowI S (33, 0, 0) g 6) (i : Int) on) rfl (Nat.le_of_ble_eq_true rfl) (Nat.le_of_ble_eq_true rfl) (by decide) (by omega) (by omega) ?_
      by_cases b39 : zAnd (zShr on (i : Int)) 1 ≠ 0
      · refine x_top (bI_t b39) ?_
        refine x_if_eq (tgt := 59) dX5_findLayers_42 (by decide) ⟨by decide, by decide⟩ (fun z => absurd z (by decide)) (fun _ => ?_)
        refine x_aload_n dX5_findLayers_45 rfl ?_
        refine x_aload_n dX5_findLayers_46 rfl ?_
        refine x_get (v := xR (32, 0, 0)) dX5_findLayers_47 fl_RX5_11 (hp4 (rowI S (33, 0, 0) g 6)) rfl ?_
        refine x_iload dX5_findLayers_50 rfl ?_
        refine x_alda (l2 := (34, (i : Int), 0)) dX5_findLayers_52 (hp32 (rowI S (33, 0, 0) g 6)) (show (32 : Nat) ≠ 99 by decide) (by decide) (by decide) (by omega) (by omega) (by decide) rfl ?_
        refine x_callV_r (a := 0) (b := 0) (as := [xR (34, (i : Int), 0)]) (rest := []) ok_X5_leastLayer dX5_findLayers_53 wd385 ⟨wd387, wd2⟩ (hp4 (rowI S (33, 0, 0) g 6)) rfl rfl (c_leastLayer (rowI S (33, 0, 0) g 6) hwg (i : Int) (by omega) (by omega) (S.1 (34, (i : Int), 0) 2).toNat (by have q := wf34_2 hw (b := (i : Int)) (by omega) (by omega); exact (Int.toNat_of_nonneg q.1).symm) (by have q := wf34_2 hw (b := (i : Int)) (by omega) (by omega); omega)) rfl (Nat.le_of_ble_eq_true rfl) (Nat.le_of_ble_eq_true rfl) (by decide) (by omega) (by omega) ?_
        refine x_top (show leastN (rowI S (33, 0, 0) g 6).1 (i : Int) (S.1 (34, (i : Int), 0) 2).toNat = leastG S.1 g (i : Int) (S.1 (34, (i : Int), 0) 2).toNat from leastN_row S hw g _ (by omega) (by omega) _ (by have q := wf34_2 hw (b := (i : Int)) (by omega) (by omega); omega)) ?_
        have hll := leastG_in S hw hg (i : Int) (by omega) (by omega) (S.1 (34, (i : Int), 0) 2).toNat (by have q := wf34_2 hw (b := (i : Int)) (by omega) (by omega); omega)
        refine x_goto (tgt := 60) dX5_findLayers_56 (by decide) ?_
        refine x_istore (L' := [xR (4, 0, 0), xI on, xI rs, xI step, xI (i : Int), xI (leastG S.1 g (i : Int) (S.1 (34, (i : Int), 0) 2).toNat)]) dX5_findLayers_60 (by decide) rfl ?_
        refine x_iload dX5_findLayers_62 rfl ?_
        refine x_iconst dX5_findLayers_64 ?_
        refine x_icmp_le (tgt := 70) dX5_findLayers_65 (by decide) (by first | exact hz _ _ | exact hw.1 _ _ | exact zR_of _ | assumption | exact ⟨by omega, by omega⟩) ⟨by decide, by decide⟩ (fun c65 => ?_) (fun c65 => ?_)
        · refine x_iload dX5_findLayers_70 rfl ?_
          refine x_aload_n dX5_findLayers_72 rfl ?_
          refine x_get (v := xR (33, 0, 0)) dX5_findLayers_73 fl_RX5_17 (hp4 (rowI S (33, 0, 0) g 6)) rfl ?_
          refine x_aload_n dX5_findLayers_76 rfl ?_
          refine x_get (v := xR (32, 0, 0)) dX5_findLayers_77 fl_RX5_11 (hp4 (rowI S (33, 0, 0) g 6)) rfl ?_
          refine x_iload dX5_findLayers_80 rfl ?_
          refine x_alda (l2 := (34, (i : Int), 0)) dX5_findLayers_82 (hp32 (rowI S (33, 0, 0) g 6)) (show (32 : Nat) ≠ 99 by decide) (by decide) (by decide) (by omega) (by omega) (by decide) rfl ?_
          refine x_get (v := xR (37, (i : Int), 0)) dX5_findLayers_83 fl_RX5_48 (hp34 (rowI S (33, 0, 0) g 6) (by omega) (by omega)) rfl ?_
          refine x_get (v := xI (S.1 (37, (i : Int), 0) 0)) dX5_findLayers_86 fl_RX5_52 (hp37 (rowI S (33, 0, 0) g 6) (by omega) (by omega)) rfl ?_
          have f86_2 := wf37_0 hw (S := S) (b := (i : Int)) (by omega) (by omega)
          refine x_aldi (f := (rowI S (33, 0, 0) g 6).1 (33, 0, 0)) dX5_findLayers_89 (hp33 (rowI S (33, 0, 0) g 6)) (show (33 : Nat) ≠ 99 by decide) (by omega) (by omega) (by decide) ?_
          have f89_3 := wfa33 hwg (S := rowI S (33, 0, 0) g 6) (S.1 (37, (i : Int), 0) 0)
          refine x_top (show (rowI S (33, 0, 0) g 6).1 (33, 0, 0) (S.1 (37, (i : Int), 0) 0) = g (S.1 (37, (i : Int), 0) 0) from rowI_at _ _ _ (by omega) (by omega)) ?_
          refine x_icmp_le (tgt := 115) dX5_findLayers_90 (by decide) (by first | exact hz _ _ | exact hw.1 _ _ | exact zR_of _ | assumption | exact ⟨by omega, by omega⟩) (by first | exact hz _ _ | exact hw.1 _ _ | exact zR_of _ | assumption | exact ⟨by omega, by omega⟩) (fun c90 => ?_) (fun c90 => ?_)
          · refine x_iinc (L' := [xR (4, 0, 0), xI on, xI rs, xI step, xI ((i : Int) + 1), xI (leastG S.1 g (i : Int) (S.1 (34, (i : Int), 0) 2).toNat)]) dX5_findLayers_115 rfl rfl ?_
            refine x_goto (tgt := 27) dX5_findLayers_118 (by decide) ?_
            refine X.loc (L' := [xR (4, 0, 0), xI on, xI rs, xI step, xI ((i : Int) + 1), none]) ⟨rfl, ⟨rfl, ⟨rfl, ⟨rfl, ⟨rfl, trivial⟩⟩⟩⟩⟩ ?_
            refine ih (i + 1) rs g (by omega) (by omega) (by omega) hg hb hr2 hs (fun z j j1 j2 => ?_)
            rcases Nat.lt_or_eq_of_le (show j ≤ i by omega) with q | q
            · exact hl z j q j2
            subst q; first | omega | exact absurd j2 (by assumption)
          · refine x_aload_n dX5_findLayers_93 rfl ?_
            refine x_get (v := xR (33, 0, 0)) dX5_findLayers_94 fl_RX5_17 (hp4 (rowI S (33, 0, 0) g 6)) rfl ?_
            refine x_aload_n dX5_findLayers_97 rfl ?_
            refine x_get (v := xR (32, 0, 0)) dX5_findLayers_98 fl_RX5_11 (hp4 (rowI S (33, 0, 0) g 6)) rfl ?_
            refine x_iload dX5_findLayers_101 rfl ?_
            refine x_alda (l2 := (34, (i : Int), 0)) dX5_findLayers_103 (hp32 (rowI S (33, 0, 0) g 6)) (show (32 : Nat) ≠ 99 by decide) (by decide) (by decide) (by omega) (by omega) (by decide) rfl ?_
            refine x_get (v := xR (37, (i : Int), 0)) dX5_findLayers_104 fl_RX5_48 (hp34 (rowI S (33, 0, 0) g 6) (by omega) (by omega)) rfl ?_
            refine x_get (v := xI (S.1 (37, (i : Int), 0) 0)) dX5_findLayers_107 fl_RX5_52 (hp37 (rowI S (33, 0, 0) g 6) (by omega) (by omega)) rfl ?_
            have f107_4 := wf37_0 hw (S := S) (b := (i : Int)) (by omega) (by omega)
            refine x_iload dX5_findLayers_110 rfl ?_
            refine x_asti dX5_findLayers_112 (hp33 (rowI S (33, 0, 0) g 6)) (show (33 : Nat) ≠ 99 by decide) (by omega) (by omega) (by decide) ?_
            refine x_heq (pa33 (rowI S (33, 0, 0) g 6) (S.1 (37, (i : Int), 0) 0) (leastG S.1 g (i : Int) (S.1 (34, (i : Int), 0) 2).toNat)) ?_
            have hw112_5 : WI (putI (rowI S (33, 0, 0) g 6) (33, 0, 0) (S.1 (37, (i : Int), 0) 0) (leastG S.1 g (i : Int) (S.1 (34, (i : Int), 0) 2).toNat)) := wpa33 hwg (by omega)
            refine x_iconst dX5_findLayers_113 ?_
            refine x_istore_n (L' := [xR (4, 0, 0), xI on, xI 1, xI step, xI (i : Int), xI (leastG S.1 g (i : Int) (S.1 (34, (i : Int), 0) 2).toNat)]) dX5_findLayers_114 (by decide) rfl ?_
            refine x_iinc (L' := [xR (4, 0, 0), xI on, xI 1, xI step, xI ((i : Int) + 1), xI (leastG S.1 g (i : Int) (S.1 (34, (i : Int), 0) 2).toNat)]) dX5_findLayers_115 rfl rfl ?_
            refine x_goto (tgt := 27) dX5_findLayers_118 (by decide) ?_
            refine X.loc (L' := [xR (4, 0, 0), xI on, xI 1, xI step, xI ((i : Int) + 1), none]) ⟨rfl, ⟨rfl, ⟨rfl, ⟨rfl, ⟨rfl, trivial⟩⟩⟩⟩⟩ ?_
            refine x_heq (show hp (rowI S (33, 0, 0) (xUpd g (S.1 (37, (i : Int), 0) 0) (leastG S.1 g (i : Int) (S.1 (34, (i : Int), 0) 2).toNat)) 6) = hp (putI (rowI S (33, 0, 0) g 6) (33, 0, 0) (S.1 (37, (i : Int), 0) 0) (leastG S.1 g (i : Int) (S.1 (34, (i : Int), 0) 2).toNat)) from by rw [putI_rowI _ _ _ _ (by omega) (by omega)]) ?_
            have qs := gsum_up (g := g) (x := S.1 (37, (i : Int), 0) 0) (v := leastG S.1 g (i : Int) (S.1 (34, (i : Int), 0) 2).toNat) (by omega) (by omega) (by omega)
            exact ih (i + 1) 1 _ (by omega) (by omega) (by omega) (hg.up (by omega) (by omega)) (Below.up hw hb (by omega) (by assumption)) (Or.inr rfl) (by omega) (fun z => absurd z (by decide))
        · refine x_iconst dX5_findLayers_68 ?_
          exact x_zret dX5_findLayers_69 rfl (Or.inl rfl) ⟨g, hg, rfl, Or.inr ⟨rfl, Below.no hw hb (by omega) (by assumption) (by omega)⟩⟩
      · refine x_top (bI_f b39) ?_
        refine x_if_eq (tgt := 59) dX5_findLayers_42 (by decide) ⟨by decide, by decide⟩ (fun _ => ?_) (fun z => absurd z (by decide))
        refine x_iconst dX5_findLayers_59 ?_
        refine x_istore (L' := [xR (4, 0, 0), xI on, xI rs, xI step, xI (i : Int), xI 0]) dX5_findLayers_60 (by decide) rfl ?_
        refine x_iload dX5_findLayers_62 rfl ?_
        refine x_iconst dX5_findLayers_64 ?_
        refine x_icmp_le (tgt := 70) dX5_findLayers_65 (by decide) ⟨by decide, by decide⟩ ⟨by decide, by decide⟩ (fun _ => ?_) (fun z => absurd z (by decide))
        refine x_iload dX5_findLayers_70 rfl ?_
        refine x_aload_n dX5_findLayers_72 rfl ?_
        refine x_get (v := xR (33, 0, 0)) dX5_findLayers_73 fl_RX5_17 (hp4 (rowI S (33, 0, 0) g 6)) rfl ?_
        refine x_aload_n dX5_findLayers_76 rfl ?_
        refine x_get (v := xR (32, 0, 0)) dX5_findLayers_77 fl_RX5_11 (hp4 (rowI S (33, 0, 0) g 6)) rfl ?_
        refine x_iload dX5_findLayers_80 rfl ?_
        refine x_alda (l2 := (34, (i : Int), 0)) dX5_findLayers_82 (hp32 (rowI S (33, 0, 0) g 6)) (show (32 : Nat) ≠ 99 by decide) (by decide) (by decide) (by omega) (by omega) (by decide) rfl ?_
        refine x_get (v := xR (37, (i : Int), 0)) dX5_findLayers_83 fl_RX5_48 (hp34 (rowI S (33, 0, 0) g 6) (by omega) (by omega)) rfl ?_
        refine x_get (v := xI (S.1 (37, (i : Int), 0) 0)) dX5_findLayers_86 fl_RX5_52 (hp37 (rowI S (33, 0, 0) g 6) (by omega) (by omega)) rfl ?_
        have f86_6 := wf37_0 hw (S := S) (b := (i : Int)) (by omega) (by omega)
        refine x_aldi (f := (rowI S (33, 0, 0) g 6).1 (33, 0, 0)) dX5_findLayers_89 (hp33 (rowI S (33, 0, 0) g 6)) (show (33 : Nat) ≠ 99 by decide) (by omega) (by omega) (by decide) ?_
        have f89_7 := wfa33 hwg (S := rowI S (33, 0, 0) g 6) (S.1 (37, (i : Int), 0) 0)
        refine x_top (show (rowI S (33, 0, 0) g 6).1 (33, 0, 0) (S.1 (37, (i : Int), 0) 0) = g (S.1 (37, (i : Int), 0) 0) from rowI_at _ _ _ (by omega) (by omega)) ?_
        refine x_icmp_le (tgt := 115) dX5_findLayers_90 (by decide) ⟨by decide, by decide⟩ (by first | exact hz _ _ | exact hw.1 _ _ | exact zR_of _ | assumption | exact ⟨by omega, by omega⟩) (fun c90 => ?_) (fun c90 => ?_)
        · refine x_iinc (L' := [xR (4, 0, 0), xI on, xI rs, xI step, xI ((i : Int) + 1), xI 0]) dX5_findLayers_115 rfl rfl ?_
          refine x_goto (tgt := 27) dX5_findLayers_118 (by decide) ?_
          refine X.loc (L' := [xR (4, 0, 0), xI on, xI rs, xI step, xI ((i : Int) + 1), none]) ⟨rfl, ⟨rfl, ⟨rfl, ⟨rfl, ⟨rfl, trivial⟩⟩⟩⟩⟩ ?_
          refine ih (i + 1) rs g (by omega) (by omega) (by omega) hg hb hr2 hs (fun z j j1 j2 => ?_)
          rcases Nat.lt_or_eq_of_le (show j ≤ i by omega) with q | q
          · exact hl z j q j2
          subst q; first | omega | exact absurd j2 (by assumption)
        · refine x_aload_n dX5_findLayers_93 rfl ?_
          refine x_get (v := xR (33, 0, 0)) dX5_findLayers_94 fl_RX5_17 (hp4 (rowI S (33, 0, 0) g 6)) rfl ?_
          refine x_aload_n dX5_findLayers_97 rfl ?_
          refine x_get (v := xR (32, 0, 0)) dX5_findLayers_98 fl_RX5_11 (hp4 (rowI S (33, 0, 0) g 6)) rfl ?_
          refine x_iload dX5_findLayers_101 rfl ?_
          refine x_alda (l2 := (34, (i : Int), 0)) dX5_findLayers_103 (hp32 (rowI S (33, 0, 0) g 6)) (show (32 : Nat) ≠ 99 by decide) (by decide) (by decide) (by omega) (by omega) (by decide) rfl ?_
          refine x_get (v := xR (37, (i : Int), 0)) dX5_findLayers_104 fl_RX5_48 (hp34 (rowI S (33, 0, 0) g 6) (by omega) (by omega)) rfl ?_
          refine x_get (v := xI (S.1 (37, (i : Int), 0) 0)) dX5_findLayers_107 fl_RX5_52 (hp37 (rowI S (33, 0, 0) g 6) (by omega) (by omega)) rfl ?_
          have f107_8 := wf37_0 hw (S := S) (b := (i : Int)) (by omega) (by omega)
          refine x_iload dX5_findLayers_110 rfl ?_
          refine x_asti dX5_findLayers_112 (hp33 (rowI S (33, 0, 0) g 6)) (show (33 : Nat) ≠ 99 by decide) (by omega) (by omega) (by decide) ?_
          refine x_heq (pa33 (rowI S (33, 0, 0) g 6) (S.1 (37, (i : Int), 0) 0) 0) ?_
          have hw112_9 : WI (putI (rowI S (33, 0, 0) g 6) (33, 0, 0) (S.1 (37, (i : Int), 0) 0) 0) := wpa33 hwg (by omega)
          refine x_iconst dX5_findLayers_113 ?_
          refine x_istore_n (L' := [xR (4, 0, 0), xI on, xI 1, xI step, xI (i : Int), xI 0]) dX5_findLayers_114 (by decide) rfl ?_
          refine x_iinc (L' := [xR (4, 0, 0), xI on, xI 1, xI step, xI ((i : Int) + 1), xI 0]) dX5_findLayers_115 rfl rfl ?_
          refine x_goto (tgt := 27) dX5_findLayers_118 (by decide) ?_
          refine X.loc (L' := [xR (4, 0, 0), xI on, xI 1, xI step, xI ((i : Int) + 1), none]) ⟨rfl, ⟨rfl, ⟨rfl, ⟨rfl, ⟨rfl, trivial⟩⟩⟩⟩⟩ ?_
          exfalso
          have := hgh (by omega)
          omega
set_option maxHeartbeats 4000000 in
set_option maxRecDepth 100000 in
theorem l_findLayers (S : XS) (hw : WI S) (on : Int) : ∀ (nn : Nat) (step rs : Int) (g : Int → Int), 38 - step < (nn : Int) → (0 ≤ step) → (step ≤ 37) → (GOk g) → (Below S.1 on g) → (rs = 0 ∧ Lay S.1 on g ∨ rs = 1 ∧ step ≤ gsum g) → X mX5_findLayers 12 [xR (4, 0, 0), xI on, xI rs, xI step, none, none] [] (hp (rowI S (33, 0, 0) g 6)) 0 0 (pLay S on) := by
  intro nn
  induction nn with
  | zero => intro step rs g hm g0 g1 hg hb hr2; exfalso; omega
  | succ nn ih =>
    intro step rs g hm g0 g1 hg hb hr2
    have hle := gsum_le hg
    refine x_iload_n dX5_findLayers_12 rfl ?_
    refine x_if_eq (tgt := 127) dX5_findLayers_13 (by decide) (by first | exact hz _ _ | exact hw.1 _ _ | exact zR_of _ | assumption | exact ⟨by omega, by omega⟩) (fun c13 => ?_) (fun c13 => ?_)
    · refine x_iconst dX5_findLayers_127 ?_
      exact x_zret dX5_findLayers_128 rfl (Or.inr rfl) (by rcases hr2 with ⟨z1, z2⟩ | ⟨z1, z2⟩; exact ⟨g, hg, rfl, Or.inl ⟨rfl, z2, hb⟩⟩; exfalso; omega)
    · refine x_iload_n dX5_findLayers_16 rfl ?_
      refine x_bipush (v := 36) dX5_findLayers_17 (by decide) ?_
      refine x_icmp_gt (tgt := 127) dX5_findLayers_19 (by decide) (by first | exact hz _ _ | exact hw.1 _ _ | exact zR_of _ | assumption | exact ⟨by omega, by omega⟩) ⟨by decide, by decide⟩ (fun c19 => ?_) (fun c19 => ?_)
      · refine x_iconst dX5_findLayers_127 ?_
        exact x_zret dX5_findLayers_128 rfl (Or.inr rfl) (by rcases hr2 with ⟨z1, z2⟩ | ⟨z1, z2⟩; exact ⟨g, hg, rfl, Or.inl ⟨rfl, z2, hb⟩⟩; exfalso; omega)
      · refine x_iconst dX5_findLayers_22 ?_
        refine x_istore_n (L' := [xR (4, 0, 0), xI on, xI 0, xI step, none, none]) dX5_findLayers_23 (by decide) rfl ?_
        refine x_iconst dX5_findLayers_24 ?_
        refine x_istore (L' := [xR (4, 0, 0), xI on, xI 0, xI step, xI 0, none]) dX5_findLayers_25 (by decide) rfl ?_
        refine l_findLayersI S hw on step g0 (by omega) (fun g2 rs2 a1 a2 a3 => ih (step + 1) rs2 g2 (by omega) (by omega) (by omega) a1 a2 a3) 12 0 0 g (by omega) (by have := (wf4_2 hw).1; omega) (by omega) hg hb (Or.inl rfl) (by omega) (fun _ j j1 => by omega)
set_option maxHeartbeats 4000000 in
set_option maxRecDepth 100000 in
theorem c_findLayers (S : XS) (hw : WI S) (on : Int) : X mX5_findLayers 0 (xEnt mX5_findLayers [xR (4, 0, 0), xI on]) [] (hp S) 0 0 (pLay S on) := by
  show X mX5_findLayers 0 [xR (4, 0, 0), xI on, none, none, none, none] [] (hp S) 0 0 _
  refine x_aload_n dX5_findLayers_0 rfl ?_
  refine x_get (v := xR (33, 0, 0)) dX5_findLayers_1 fl_RX5_17 (hp4 S) rfl ?_
  refine x_iconst dX5_findLayers_4 ?_
  refine x_callS_v (a := 0) (b := 0) (as := [xR (33, 0, 0), xI 0]) (rest := []) ok_J7_fill_53178 dX5_findLayers_5 wd381 wd168 (c_fillI33 S 0) rfl (Nat.le_of_ble_eq_true rfl) (Nat.le_of_ble_eq_true rfl) (by decide) (by omega) (by omega) ?_
  refine x_iconst dX5_findLayers_8 ?_
  refine x_istore_n (L' := [xR (4, 0, 0), xI on, xI 1, none, none, none]) dX5_findLayers_9 (by decide) rfl ?_
  refine x_iconst dX5_findLayers_10 ?_
  refine x_istore_n (L' := [xR (4, 0, 0), xI on, xI 1, xI 0, none, none]) dX5_findLayers_11 (by decide) rfl ?_
  refine x_heq (show hp (rowI S (33, 0, 0) (fun _ => 0) 6) = _ from rfl) ?_
  exact l_findLayers S hw on 39 0 1 _ (by omega) (by omega) (by omega) (fun x _ _ => ⟨by decide, by decide⟩) (fun g' h0 _ x x0 x1 => h0 x x0 x1) (Or.inr ⟨rfl, by decide⟩)
