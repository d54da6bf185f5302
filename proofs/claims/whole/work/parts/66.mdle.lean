/-! the reference: goes -/
/-- ranks and things alone are changed -/
def Ex2 (S T : XS) : Prop := (∀ l' : XL, l' ≠ (73, 0, 0) → l' ≠ (74, 0, 0) → T.1 l' = S.1 l') ∧ T.2 = S.2
theorem Ex2.rf (S : XS) : Ex2 S S := ⟨fun _ _ _ => rfl, rfl⟩
theorem Ex2.tr {S T U : XS} (h : Ex2 S T) (k : Ex2 T U) : Ex2 S U := ⟨fun l' a b => (k.1 l' a b).trans (h.1 l' a b), k.2.trans h.2⟩
theorem Ex2.p3 {S T : XS} (h : Ex2 S T) (k v : Int) : Ex2 S (putI T (73, 0, 0) k v) := ⟨fun l' a b => (putI_o a).trans (h.1 l' a b), h.2⟩
theorem Ex2.p4 {S T : XS} (h : Ex2 S T) (k v : Int) : Ex2 S (putI T (74, 0, 0) k v) := ⟨fun l' a b => (putI_o b).trans (h.1 l' a b), h.2⟩
theorem Ex2.md {S T : XS} (h : Ex2 S T) : MdQ S T := ⟨fun l' a _ => h.1 l' (fun z => by rw [z] at a; cases a) (fun z => by rw [z] at a; cases a), fun k _ => by rw [h.1 _ (by decide) (by decide)], by rw [h.2], by rw [h.2], by rw [h.2], by rw [h.2], Int.le_of_eq (by rw [h.2])⟩
theorem th3_74 (T : XS) (x y z : Int) : (putI (putI (putI T (74, 0, 0) 0 x) (74, 0, 0) 1 y) (74, 0, 0) 2 z).1 (74, 0, 0) = xUpd (xUpd (xUpd (T.1 (74, 0, 0)) 0 x) 1 y) 2 z := by simp [putI]
theorem th3_73 (T : XS) (x y z : Int) : (putI (putI (putI T (74, 0, 0) 0 x) (74, 0, 0) 1 y) (74, 0, 0) 2 z).1 (73, 0, 0) = T.1 (73, 0, 0) := by simp [putI]
theorem wG_3 (g : Int → Int) (x y z : Int) : wG (xUpd (xUpd (xUpd g 0 x) 1 y) 2 z) = 64 * x + 8 * y + z := rfl
theorem hfact_g (C : XS) {g : Int → Int} {r v u : Int} (hg : ∀ k, 0 ≤ g k ∧ g k ≤ 7) (hv : C.1 (37, r, 0) 2 = 3 * (2 - v) ∧ 0 ≤ v ∧ v ≤ 2) (hu : C.1 (37, r, 0) 3 = 3 * (2 - u) ∧ 0 ≤ u ∧ u ≤ 2) : 64 * C.1 (37, r, 0) 0 + 8 * g v + g u = hfact C.1 r (wG g) := by
  unfold hfact
  rw [pair_g C.1 hg hv hu]
  omega
/-- in a pass over the ways -/
def GI (C S : XS) (on : Int) (H K : Int → Int64) (g : Int → Int) (L : Int) (r : Nat) (b c z : Int) (i : Nat) (rk : Int → Int) : Prop := FI C on H K g L rk ∧ (z = 0 ∨ z = 1) ∧ (z = 0 → rk = S.1 (73, 0, 0) ∧ ∀ j : Nat, j < i → rk (hfact C.1 r (wayI b c j)) ≤ gvV C.1 rk r (wayI b c j) (C.1 (34, r, 0) 2).toNat) ∧ (z = 1 → rsum rk 384 < rsum (S.1 (73, 0, 0)) 384)
theorem GI.low {C S : XS} (hC : WI C) (HR : RulesOk C) {on : Int} {H K : Int → Int64} {g : Int → Int} (hg : GOk g) (hl : Lay C.1 on g) (hS : Stab C.1 on H K) {L : Int} {r : Nat} (hr : (r : Int) < C.1 (4, 0, 0) 2) (ho : bitI on r) (hL : g (C.1 (37, r, 0) 0) = L) {b c z : Int} {i : Nat} {rk : Int → Int} (h : GI C S on H K g L r b c z i rk) (w0 : 0 ≤ wayI b c i) (w1 : wayI b c i ≤ 511) (hi : zAnd (wayI b c i) (C.1 (34, r, 0) 4) = 0) (hn : gvV C.1 rk r (wayI b c i) (C.1 (34, r, 0) 2).toNat < rk (hfact C.1 r (wayI b c i))) : GI C S on H K g L r b c 1 (i + 1) (xUpd rk (hfact C.1 r (wayI b c i)) (gvV C.1 rk r (wayI b c i) (C.1 (34, r, 0) 2).toNat)) := by
  obtain ⟨h1, h2, h3, h4⟩ := h
  have f := hfact_in hC (r := (r : Int)) (by omega) hr (HR r hr).1 w0 w1
  have u := rsum_upd rk (v := gvV C.1 rk r (wayI b c i) (C.1 (34, r, 0) 2).toNat) f.1 384
  rw [if_pos (show hfact C.1 r (wayI b c i) < ((384 : Nat) : Int) from f.2)] at u
  refine ⟨h1.low hC HR hg hl hS hr ho hL w0 w1 hi hn, Or.inr rfl, (fun q => by cases q), fun _ => ?_⟩
  rcases h2 with q | q
  · rw [(h3 q).1] at u hn ⊢; omega
  · have := h4 q; omega
theorem GI.same {C S : XS} {on : Int} {H K : Int → Int64} {g : Int → Int} {L : Int} {r : Nat} {b c z : Int} {i : Nat} {rk : Int → Int} (h : GI C S on H K g L r b c z i rk) (hn : rk (hfact C.1 r (wayI b c i)) ≤ gvV C.1 rk r (wayI b c i) (C.1 (34, r, 0) 2).toNat) : GI C S on H K g L r b c z (i + 1) rk := by
  obtain ⟨h1, h2, h3, h4⟩ := h
  refine ⟨h1, h2, fun q => ⟨(h3 q).1, fun j hj => ?_⟩, h4⟩
  rcases Nat.lt_or_eq_of_le (show j ≤ i by omega) with y | y
  · exact (h3 q).2 j y
  · rw [y]; exact hn
def pGo (C S : XS) (on : Int) (H K : Int → Int64) (g : Int → Int) (L : Int) (r : Nat) : XO → XH → Prop := fun o h' => ∃ T z, h' = hp T ∧ o = .inl (some (xI z)) ∧ (z = 0 ∨ z = 1) ∧ Ex2 S T ∧ WI T ∧ FI C on H K g L (T.1 (73, 0, 0)) ∧ (z = 0 → T.1 (73, 0, 0) = S.1 (73, 0, 0) ∧ Clo C on g L (T.1 (73, 0, 0)) r) ∧ (z = 1 → rsum (T.1 (73, 0, 0)) 384 < rsum (S.1 (73, 0, 0)) 384)
theorem div_c {c j : Int} (hc : c = 1 ∨ c = 8) (j0 : 0 ≤ j) (j1 : j ≤ 512) : 0 ≤ j / c ∧ j / c ≤ 512 := by
  rcases hc with rfl | rfl <;> omega
def TrOk (m v a : Int) : Prop := a = 1 ∧ zAnd m (zShl 7 v) ≠ 0 ∨ a = 8 ∧ zAnd m (zShl 7 v) = 0
theorem GI.done {C S : XS} {on : Int} {H K : Int → Int64} {g : Int → Int} {L : Int} {r : Nat} (hR : RuleOk C.1 r) {a b c z : Int} {i : Nat} {rk : Int → Int} (h : GI C S on H K g L r b c z i rk) (ha : TrOk (C.1 (34, r, 0) 4) 6 a) (hb : TrOk (C.1 (34, r, 0) 4) 3 b) (hc : TrOk (C.1 (34, r, 0) 4) 0 c) (hi : a * b * c ≤ i) : (z = 0 → rk = S.1 (73, 0, 0) ∧ Clo C on g L rk r) := by
  obtain ⟨h1, h2, h3, h4⟩ := h
  intro q
  refine ⟨(h3 q).1, fun _ _ w w0 w1 hw => ?_⟩
  obtain ⟨j, j1, j2⟩ := way_all hR.1 ha hb hc w0 w1 hw
  have k := (h3 q).2 j (by omega)
  rw [j2] at k
  exact k
theorem tr_ok {C S : XS} (hr : MRr C S) {r v s : Int} (r0 : 0 ≤ r) (r1 : r < C.1 (4, 0, 0) 2) (v0 : 0 ≤ v) (v1 : v ≤ 2) (hs : s = 3 * (2 - v)) : TrOk (C.1 (34, r, 0) 4) s (tr8 S r v (C.1 (34, r, 0) 2).toNat) := by
  obtain ⟨-, -, -, -, -, -, q⟩ := hr r r0 r1
  have k := q v v0 v1
  subst hs
  by_cases u : UsN S r v (C.1 (34, r, 0) 2).toNat
  · exact Or.inr ⟨tr8_t u, k.mpr u⟩
  · exact Or.inl ⟨tr8_f u, fun z => u (k.mp z)⟩
set_option maxHeartbeats 4000000 in
set_option maxRecDepth 100000 in
theorem l_goes (C S : XS) (hC : WI C) (HR : RulesOk C) (hr : MRr C S) (on : Int) (H K : Int → Int64) (g : Int → Int) (hg : GOk g) (hl : Lay C.1 on g) (hS : Stab C.1 on H K) (L : Int) (r : Nat) (r1 : (r : Int) < C.1 (4, 0, 0) 2) (ho : bitI on r) (hL : g (C.1 (37, r, 0) 0) = L) (a b c : Int) (ha : TrOk (C.1 (34, r, 0) 4) 6 a) (hb : TrOk (C.1 (34, r, 0) 4) 3 b) (hc : TrOk (C.1 (34, r, 0) 4) 0 c) : ∀ (nn : Nat) (T : XS) (z : Int) (i : Nat), a * b * c - i < (nn : Int) → (Ex2 S T) → (WI T) → (GI C S on H K g L r b c z i (T.1 (73, 0, 0))) → ((i : Int) ≤ a * b * c) → X mX9_goes 28 [xR (50, 0, 0), xI (r : Int), xI z, xI a, xI b, xI c, xI (i : Int), none, none] [] (hp T) 0 0 (pGo C S on H K g L r) := by
  intro nn
  induction nn with
  | zero => intro T z i hm eT wT hG hi; exfalso; omega
  | succ nn ih =>
    intro T z i hm eT wT hG hi
    have c4 := wf4_2 hC
    have c34 := wf34_2 hC (b := (r : Int)) (by omega) (by omega)
    have hR := (HR r r1).1
    have hz := wT.1
    have hz1 := hG.2.1
    have o62 := eT.1 (62, 0, 0) (by decide) (by decide)
    have hrT := hr.q eT.md
    obtain ⟨q1, q2, q3, -, -, -, -⟩ := hrT r (by omega) r1
    have ha1 : a = 1 ∨ a = 8 := ha.imp (fun z => z.1) (fun z => z.1)
    have hb1 : b = 1 ∨ b = 8 := hb.imp (fun z => z.1) (fun z => z.1)
    have hc1 : c = 1 ∨ c = 8 := hc.imp (fun z => z.1) (fun z => z.1)
    have abc := ways_abc ha1 hb1 hc1
    refine x_iload dX9_goes_28 rfl ?_
    refine x_iload_n dX9_goes_30 rfl ?_
    refine x_iload dX9_goes_31 rfl ?_
    refine x_imul dX9_goes_33 ?_
    refine x_iload dX9_goes_34 rfl ?_
    refine x_imul dX9_goes_36 ?_
    refine x_icmp_ge (tgt := 174) dX9_goes_37 (by decide) (by first | exact hz _ _ | exact hw.1 _ _ | exact zR_of _ | exact bI_z _ | assumption | exact ⟨by omega, by omega⟩) (by first | exact hz _ _ | exact hw.1 _ _ | exact zR_of _ | exact bI_z _ | assumption | exact ⟨by omega, by omega⟩) (fun c37 => ?_) (fun c37 => ?_)
    · refine x_iload_n dX9_goes_174 rfl ?_
      exact x_zret dX9_goes_175 rfl hz1 ⟨T, z, rfl, rfl, hz1, eT, wT, hG.1, hG.done hR ha hb hc (by omega), hG.2.2.2⟩
    · have dc := div_c hc1 (j := (i : Int)) (by omega) (by omega)
      obtain ⟨d1, d2, d3, -, -, -⟩ := ways_in ha1 hb1 hc1 (j := (i : Int)) (by omega) (by omega)
      have wk := way_ok hR.1 ha hb hc (j := (i : Int)) (by omega) (by omega)
      have hin := hfact_in hC (r := (r : Int)) (by omega) r1 hR wk.2.1 wk.2.2
      have rin := wfa73 wT (hfact C.1 r (wayI b c (i : Int)))
      have gin := gvV_in (f := C.1) (rk := T.1 (73, 0, 0)) (fun k => wfa73 wT k) r (wayI b c (i : Int)) (C.1 (34, r, 0) 2).toNat
      refine x_aload_n dX9_goes_40 rfl ?_
      refine x_get (v := xR (74, 0, 0)) dX9_goes_41 fl_RX9_90 (hp50 T) rfl ?_
      refine x_iconst dX9_goes_44 ?_
      refine x_iload dX9_goes_45 rfl ?_
      refine x_iload dX9_goes_47 rfl ?_
      refine x_iload dX9_goes_49 rfl ?_
      refine x_imul dX9_goes_51 ?_
      refine x_idiv dX9_goes_52 (by omega) (by omega) (by omega) (by omega) ?_
      refine x_asti dX9_goes_53 (hp74 T) (show (74 : Nat) ≠ 99 by decide) (by omega) (by omega) (by decide) ?_
      refine x_heq (pa74 T 0 ((i : Int) / (b * c))) ?_
      have hw53_1 : WI (putI T (74, 0, 0) 0 ((i : Int) / (b * c))) := wpa74 wT (by omega)
      refine x_aload_n dX9_goes_54 rfl ?_
      refine x_get (v := xR (74, 0, 0)) dX9_goes_55 fl_RX9_90 (hp50 (putI T (74, 0, 0) 0 ((i : Int) / (b * c)))) rfl ?_
      refine x_iconst dX9_goes_58 ?_
      refine x_iload dX9_goes_59 rfl ?_
      refine x_iload dX9_goes_61 rfl ?_
      refine x_idiv dX9_goes_63 (by omega) (by omega) (by omega) (by omega) ?_
      refine x_iload dX9_goes_64 rfl ?_
      refine x_irem dX9_goes_66 (by omega) (by omega) (by omega) (by omega) ?_
      refine x_asti dX9_goes_67 (hp74 (putI T (74, 0, 0) 0 ((i : Int) / (b * c)))) (show (74 : Nat) ≠ 99 by decide) (by omega) (by omega) (by decide) ?_
      refine x_heq (pa74 (putI T (74, 0, 0) 0 ((i : Int) / (b * c))) 1 (((i : Int) / c) % b)) ?_
      have hw67_2 : WI (putI (putI T (74, 0, 0) 0 ((i : Int) / (b * c))) (74, 0, 0) 1 (((i : Int) / c) % b)) := wpa74 hw53_1 (by omega)
      refine x_aload_n dX9_goes_68 rfl ?_
      refine x_get (v := xR (74, 0, 0)) dX9_goes_69 fl_RX9_90 (hp50 (putI (putI T (74, 0, 0) 0 ((i : Int) / (b * c))) (74, 0, 0) 1 (((i : Int) / c) % b))) rfl ?_
      refine x_iconst dX9_goes_72 ?_
      refine x_iload dX9_goes_73 rfl ?_
      refine x_iload dX9_goes_75 rfl ?_
      refine x_irem dX9_goes_77 (by omega) (by omega) (by omega) (by omega) ?_
      refine x_asti dX9_goes_78 (hp74 (putI (putI T (74, 0, 0) 0 ((i : Int) / (b * c))) (74, 0, 0) 1 (((i : Int) / c) % b))) (show (74 : Nat) ≠ 99 by decide) (by omega) (by omega) (by decide) ?_
      refine x_heq (pa74 (putI (putI T (74, 0, 0) 0 ((i : Int) / (b * c))) (74, 0, 0) 1 (((i : Int) / c) % b)) 2 ((i : Int) % c)) ?_
      have hw78_3 : WI (putI (putI (putI T (74, 0, 0) 0 ((i : Int) / (b * c))) (74, 0, 0) 1 (((i : Int) / c) % b)) (74, 0, 0) 2 ((i : Int) % c)) := wpa74 hw67_2 (by omega)
      refine x_aload_n dX9_goes_79 rfl ?_
      refine x_get (v := xR (62, 0, 0)) dX9_goes_80 fl_RX9_49 (hp50 (putI (putI (putI T (74, 0, 0) 0 ((i : Int) / (b * c))) (74, 0, 0) 1 (((i : Int) / c) % b)) (74, 0, 0) 2 ((i : Int) % c))) rfl ?_
      refine x_iconst dX9_goes_83 ?_
      refine x_iload_n dX9_goes_84 rfl ?_
      refine x_imul dX9_goes_85 ?_
      refine x_aldi (f := T.1 (62, 0, 0)) dX9_goes_86 (hp62 (putI (putI (putI T (74, 0, 0) 0 ((i : Int) / (b * c))) (74, 0, 0) 1 (((i : Int) / c) % b)) (74, 0, 0) 2 ((i : Int) % c))) (show (62 : Nat) ≠ 99 by decide) (by omega) (by omega) (by decide) ?_
      have f86_4 := wfa62 wT (S := T) (3 * (r : Int))
      refine x_aload_n dX9_goes_87 rfl ?_
      refine x_get (v := xR (74, 0, 0)) dX9_goes_88 fl_RX9_90 (hp50 (putI (putI (putI T (74, 0, 0) 0 ((i : Int) / (b * c))) (74, 0, 0) 1 (((i : Int) / c) % b)) (74, 0, 0) 2 ((i : Int) % c))) rfl ?_
      refine x_aload_n dX9_goes_91 rfl ?_
      refine x_get (v := xR (62, 0, 0)) dX9_goes_92 fl_RX9_49 (hp50 (putI (putI (putI T (74, 0, 0) 0 ((i : Int) / (b * c))) (74, 0, 0) 1 (((i : Int) / c) % b)) (74, 0, 0) 2 ((i : Int) % c))) rfl ?_
      refine x_iconst dX9_goes_95 ?_
      refine x_iload_n dX9_goes_96 rfl ?_
      refine x_imul dX9_goes_97 ?_
      refine x_iconst dX9_goes_98 ?_
      refine x_iadd dX9_goes_99 ?_
      refine x_aldi (f := T.1 (62, 0, 0)) dX9_goes_100 (hp62 (putI (putI (putI T (74, 0, 0) 0 ((i : Int) / (b * c))) (74, 0, 0) 1 (((i : Int) / c) % b)) (74, 0, 0) 2 ((i : Int) % c))) (show (62 : Nat) ≠ 99 by decide) (by omega) (by omega) (by decide) ?_
      have f100_5 := wfa62 wT (S := T) ((3 * (r : Int)) + 1)
      refine x_aldi (f := (putI (putI (putI T (74, 0, 0) 0 ((i : Int) / (b * c))) (74, 0, 0) 1 (((i : Int) / c) % b)) (74, 0, 0) 2 ((i : Int) % c)).1 (74, 0, 0)) dX9_goes_101 (hp74 (putI (putI (putI T (74, 0, 0) 0 ((i : Int) / (b * c))) (74, 0, 0) 1 (((i : Int) / c) % b)) (74, 0, 0) 2 ((i : Int) % c))) (show (74 : Nat) ≠ 99 by decide) (by omega) (by omega) (by decide) ?_
      have f101_6 := wfa74 hw78_3 (S := putI (putI (putI T (74, 0, 0) 0 ((i : Int) / (b * c))) (74, 0, 0) 1 (((i : Int) / c) % b)) (74, 0, 0) 2 ((i : Int) % c)) (T.1 (62, 0, 0) ((3 * (r : Int)) + 1))
      refine x_aload_n dX9_goes_102 rfl ?_
      refine x_get (v := xR (74, 0, 0)) dX9_goes_103 fl_RX9_90 (hp50 (putI (putI (putI T (74, 0, 0) 0 ((i : Int) / (b * c))) (74, 0, 0) 1 (((i : Int) / c) % b)) (74, 0, 0) 2 ((i : Int) % c))) rfl ?_
      refine x_aload_n dX9_goes_106 rfl ?_
      refine x_get (v := xR (62, 0, 0)) dX9_goes_107 fl_RX9_49 (hp50 (putI (putI (putI T (74, 0, 0) 0 ((i : Int) / (b * c))) (74, 0, 0) 1 (((i : Int) / c) % b)) (74, 0, 0) 2 ((i : Int) % c))) rfl ?_
      refine x_iconst dX9_goes_110 ?_
      refine x_iload_n dX9_goes_111 rfl ?_
      refine x_imul dX9_goes_112 ?_
      refine x_iconst dX9_goes_113 ?_
      refine x_iadd dX9_goes_114 ?_
      refine x_aldi (f := T.1 (62, 0, 0)) dX9_goes_115 (hp62 (putI (putI (putI T (74, 0, 0) 0 ((i : Int) / (b * c))) (74, 0, 0) 1 (((i : Int) / c) % b)) (74, 0, 0) 2 ((i : Int) % c))) (show (62 : Nat) ≠ 99 by decide) (by omega) (by omega) (by decide) ?_
      have f115_7 := wfa62 wT (S := T) ((3 * (r : Int)) + 2)
      refine x_aldi (f := (putI (putI (putI T (74, 0, 0) 0 ((i : Int) / (b * c))) (74, 0, 0) 1 (((i : Int) / c) % b)) (74, 0, 0) 2 ((i : Int) % c)).1 (74, 0, 0)) dX9_goes_116 (hp74 (putI (putI (putI T (74, 0, 0) 0 ((i : Int) / (b * c))) (74, 0, 0) 1 (((i : Int) / c) % b)) (74, 0, 0) 2 ((i : Int) % c))) (show (74 : Nat) ≠ 99 by decide) (by omega) (by omega) (by decide) ?_
      have f116_8 := wfa74 hw78_3 (S := putI (putI (putI T (74, 0, 0) 0 ((i : Int) / (b * c))) (74, 0, 0) 1 (((i : Int) / c) % b)) (74, 0, 0) 2 ((i : Int) % c)) (T.1 (62, 0, 0) ((3 * (r : Int)) + 2))
      refine x_callS_r (a := 0) (b := 0) (as := [xI (T.1 (62, 0, 0) (3 * (r : Int))), xI ((putI (putI (putI T (74, 0, 0) 0 ((i : Int) / (b * c))) (74, 0, 0) 1 (((i : Int) / c) % b)) (74, 0, 0) 2 ((i : Int) % c)).1 (74, 0, 0) (T.1 (62, 0, 0) ((3 * (r : Int)) + 1))), xI ((putI (putI (putI T (74, 0, 0) 0 ((i : Int) / (b * c))) (74, 0, 0) 1 (((i : Int) / c) % b)) (74, 0, 0) 2 ((i : Int) % c)).1 (74, 0, 0) (T.1 (62, 0, 0) ((3 * (r : Int)) + 2)))]) (rest := []) ok_X9_factOf dX9_goes_117 wd1270 wd1271 (m_factOf (putI (putI (putI T (74, 0, 0) 0 ((i : Int) / (b * c))) (74, 0, 0) 1 (((i : Int) / c) % b)) (74, 0, 0) 2 ((i : Int) % c)) (T.1 (62, 0, 0) (3 * (r : Int))) ((putI (putI (putI T (74, 0, 0) 0 ((i : Int) / (b * c))) (74, 0, 0) 1 (((i : Int) / c) % b)) (74, 0, 0) 2 ((i : Int) % c)).1 (74, 0, 0) (T.1 (62, 0, 0) ((3 * (r : Int)) + 1))) ((putI (putI (putI T (74, 0, 0) 0 ((i : Int) / (b * c))) (74, 0, 0) 1 (((i : Int) / c) % b)) (74, 0, 0) 2 ((i : Int) % c)).1 (74, 0, 0) (T.1 (62, 0, 0) ((3 * (r : Int)) + 2))) (by omega) (by omega) (by omega)) rfl (Nat.le_of_ble_eq_true rfl) (Nat.le_of_ble_eq_true rfl) (by decide) (by omega) (by omega) ?_
      refine x_top (show 64 * (T.1 (62, 0, 0) (3 * (r : Int))) + 8 * ((putI (putI (putI T (74, 0, 0) 0 ((i : Int) / (b * c))) (74, 0, 0) 1 (((i : Int) / c) % b)) (74, 0, 0) 2 ((i : Int) % c)).1 (74, 0, 0) (T.1 (62, 0, 0) ((3 * (r : Int)) + 1))) + ((putI (putI (putI T (74, 0, 0) 0 ((i : Int) / (b * c))) (74, 0, 0) 1 (((i : Int) / c) % b)) (74, 0, 0) 2 ((i : Int) % c)).1 (74, 0, 0) (T.1 (62, 0, 0) ((3 * (r : Int)) + 2))) = hfact C.1 r (wayI b c (i : Int)) from by have k := hfact_g C (g := (putI (putI (putI T (74, 0, 0) 0 ((i : Int) / (b * c))) (74, 0, 0) 1 ((i : Int) / c % b)) (74, 0, 0) 2 ((i : Int) % c)).1 (74, 0, 0)) (r := (r : Int)) (fun k => wfa74 (show WI (putI (putI (putI T (74, 0, 0) 0 ((i : Int) / (b * c))) (74, 0, 0) 1 ((i : Int) / c % b)) (74, 0, 0) 2 ((i : Int) % c)) by assumption) k) q2 q3; rw [th3_74, wG_3] at k; rw [th3_74, q1]; exact k) ?_
      refine x_istore (L' := [xR (50, 0, 0), xI (r : Int), xI z, xI a, xI b, xI c, xI (i : Int), xI (hfact C.1 r (wayI b c (i : Int))), none]) dX9_goes_120 (by decide) rfl ?_
      refine x_aload_n dX9_goes_122 rfl ?_
      refine x_iload_n dX9_goes_123 rfl ?_
      refine x_callV_r (a := 0) (b := 0) (as := [xI (r : Int)]) (rest := []) ok_X9_given dX9_goes_124 wd1273 ⟨wd1275, wd32⟩ (hp50 (putI (putI (putI T (74, 0, 0) 0 ((i : Int) / (b * c))) (74, 0, 0) 1 (((i : Int) / c) % b)) (74, 0, 0) 2 ((i : Int) % c))) rfl rfl (m_given C (putI (putI (putI T (74, 0, 0) 0 ((i : Int) / (b * c))) (74, 0, 0) 1 (((i : Int) / c) % b)) (74, 0, 0) 2 ((i : Int) % c)) hC hw78_3 (hr.q ((((eT.p4 _ _).p4 _ _).p4 _ _).md)) (r : Int) (by omega) (by omega) hR (C.1 (34, r, 0) 2).toNat (by omega)) rfl (Nat.le_of_ble_eq_true rfl) (Nat.le_of_ble_eq_true rfl) (by decide) (by omega) (by omega) ?_
      refine x_top (show gvV C.1 ((putI (putI (putI T (74, 0, 0) 0 ((i : Int) / (b * c))) (74, 0, 0) 1 (((i : Int) / c) % b)) (74, 0, 0) 2 ((i : Int) % c)).1 (73, 0, 0)) (r : Int) (wG ((putI (putI (putI T (74, 0, 0) 0 ((i : Int) / (b * c))) (74, 0, 0) 1 (((i : Int) / c) % b)) (74, 0, 0) 2 ((i : Int) % c)).1 (74, 0, 0))) (C.1 (34, r, 0) 2).toNat = gvV C.1 (T.1 (73, 0, 0)) r (wayI b c (i : Int)) (C.1 (34, r, 0) 2).toNat from by rw [th3_73, th3_74, wG_3]; rfl) ?_
      refine x_istore (L' := [xR (50, 0, 0), xI (r : Int), xI z, xI a, xI b, xI c, xI (i : Int), xI (hfact C.1 r (wayI b c (i : Int))), xI (gvV C.1 (T.1 (73, 0, 0)) r (wayI b c (i : Int)) (C.1 (34, r, 0) 2).toNat)]) dX9_goes_127 (by decide) rfl ?_
      refine x_iload_n dX9_goes_129 rfl ?_
      refine x_iload dX9_goes_130 rfl ?_
      refine x_aload_n dX9_goes_132 rfl ?_
      refine x_get (v := xR (73, 0, 0)) dX9_goes_133 fl_RX9_87 (hp50 (putI (putI (putI T (74, 0, 0) 0 ((i : Int) / (b * c))) (74, 0, 0) 1 (((i : Int) / c) % b)) (74, 0, 0) 2 ((i : Int) % c))) rfl ?_
      refine x_iload dX9_goes_136 rfl ?_
      refine x_aldi (f := T.1 (73, 0, 0)) dX9_goes_138 (hp73 (putI (putI (putI T (74, 0, 0) 0 ((i : Int) / (b * c))) (74, 0, 0) 1 (((i : Int) / c) % b)) (74, 0, 0) 2 ((i : Int) % c))) (show (73 : Nat) ≠ 99 by decide) (by omega) (by omega) (by decide) ?_
      have f138_9 := wfa73 wT (S := T) (hfact C.1 r (wayI b c (i : Int)))
      refine x_icmp_ge (tgt := 146) dX9_goes_139 (by decide) (by first | exact hz _ _ | exact hw.1 _ _ | exact zR_of _ | exact bI_z _ | assumption | exact ⟨by omega, by omega⟩) (by first | exact hz _ _ | exact hw.1 _ _ | exact zR_of _ | exact bI_z _ | assumption | exact ⟨by omega, by omega⟩) (fun c139 => ?_) (fun c139 => ?_)
      · refine x_iconst dX9_goes_146 ?_
        refine x_ior dX9_goes_147 ?_
        refine x_istore_n (L' := [xR (50, 0, 0), xI (r : Int), xI (zOr z 0), xI a, xI b, xI c, xI (i : Int), xI (hfact C.1 r (wayI b c (i : Int))), xI (gvV C.1 (T.1 (73, 0, 0)) r (wayI b c (i : Int)) (C.1 (34, r, 0) 2).toNat)]) dX9_goes_148 (by decide) rfl ?_
        refine x_aload_n dX9_goes_149 rfl ?_
        refine x_get (v := xR (73, 0, 0)) dX9_goes_150 fl_RX9_87 (hp50 (putI (putI (putI T (74, 0, 0) 0 ((i : Int) / (b * c))) (74, 0, 0) 1 (((i : Int) / c) % b)) (74, 0, 0) 2 ((i : Int) % c))) rfl ?_
        refine x_iload dX9_goes_153 rfl ?_
        refine x_aload_n dX9_goes_155 rfl ?_
        refine x_get (v := xR (73, 0, 0)) dX9_goes_156 fl_RX9_87 (hp50 (putI (putI (putI T (74, 0, 0) 0 ((i : Int) / (b * c))) (74, 0, 0) 1 (((i : Int) / c) % b)) (74, 0, 0) 2 ((i : Int) % c))) rfl ?_
        refine x_iload dX9_goes_159 rfl ?_
        refine x_aldi (f := T.1 (73, 0, 0)) dX9_goes_161 (hp73 (putI (putI (putI T (74, 0, 0) 0 ((i : Int) / (b * c))) (74, 0, 0) 1 (((i : Int) / c) % b)) (74, 0, 0) 2 ((i : Int) % c))) (show (73 : Nat) ≠ 99 by decide) (by omega) (by omega) (by decide) ?_
        have f161_10 := wfa73 wT (S := T) (hfact C.1 r (wayI b c (i : Int)))
        refine x_iload dX9_goes_162 rfl ?_
        refine x_mmin dX9_goes_164 wd1281 ⟨wd1282, wd70, wd1283⟩ (by decide) (Nat.le_of_ble_eq_true rfl) (by first | exact hz _ _ | exact hw.1 _ _ | exact zR_of _ | exact bI_z _ | assumption | exact ⟨by omega, by omega⟩) (by first | exact hz _ _ | exact hw.1 _ _ | exact zR_of _ | exact bI_z _ | assumption | exact ⟨by omega, by omega⟩) ?_
        refine x_asti dX9_goes_167 (hp73 (putI (putI (putI T (74, 0, 0) 0 ((i : Int) / (b * c))) (74, 0, 0) 1 (((i : Int) / c) % b)) (74, 0, 0) 2 ((i : Int) % c))) (show (73 : Nat) ≠ 99 by decide) (by omega) (by omega) (by decide) ?_
        refine x_heq (pa73 (putI (putI (putI T (74, 0, 0) 0 ((i : Int) / (b * c))) (74, 0, 0) 1 (((i : Int) / c) % b)) (74, 0, 0) 2 ((i : Int) % c)) (hfact C.1 r (wayI b c (i : Int))) (if (gvV C.1 (T.1 (73, 0, 0)) r (wayI b c (i : Int)) (C.1 (34, r, 0) 2).toNat) < (T.1 (73, 0, 0) (hfact C.1 r (wayI b c (i : Int)))) then (gvV C.1 (T.1 (73, 0, 0)) r (wayI b c (i : Int)) (C.1 (34, r, 0) 2).toNat) else (T.1 (73, 0, 0) (hfact C.1 r (wayI b c (i : Int)))))) ?_
        have hw167_11 : WI (putI (putI (putI (putI T (74, 0, 0) 0 ((i : Int) / (b * c))) (74, 0, 0) 1 (((i : Int) / c) % b)) (74, 0, 0) 2 ((i : Int) % c)) (73, 0, 0) (hfact C.1 r (wayI b c (i : Int))) (if (gvV C.1 (T.1 (73, 0, 0)) r (wayI b c (i : Int)) (C.1 (34, r, 0) 2).toNat) < (T.1 (73, 0, 0) (hfact C.1 r (wayI b c (i : Int)))) then (gvV C.1 (T.1 (73, 0, 0)) r (wayI b c (i : Int)) (C.1 (34, r, 0) 2).toNat) else (T.1 (73, 0, 0) (hfact C.1 r (wayI b c (i : Int)))))) := wpa73 hw78_3 (by omega)
        refine x_iinc (L' := [xR (50, 0, 0), xI (r : Int), xI (zOr z 0), xI a, xI b, xI c, xI ((i : Int) + 1), xI (hfact C.1 r (wayI b c (i : Int))), xI (gvV C.1 (T.1 (73, 0, 0)) r (wayI b c (i : Int)) (C.1 (34, r, 0) 2).toNat)]) dX9_goes_168 rfl rfl ?_
        refine x_goto (tgt := 28) dX9_goes_171 (by decide) ?_
        refine X.loc (L' := [xR (50, 0, 0), xI (r : Int), xI (zOr z 0), xI a, xI b, xI c, xI ((i : Int) + 1), none, none]) ⟨rfl, ⟨rfl, ⟨rfl, ⟨rfl, ⟨rfl, ⟨rfl, ⟨rfl, trivial⟩⟩⟩⟩⟩⟩⟩ ?_
        rw [(zOr01 hz1).2]
        exact ih (putI (putI (putI (putI T (74, 0, 0) 0 ((i : Int) / (b * c))) (74, 0, 0) 1 (((i : Int) / c) % b)) (74, 0, 0) 2 ((i : Int) % c)) (73, 0, 0) (hfact C.1 r (wayI b c (i : Int))) (if (gvV C.1 (T.1 (73, 0, 0)) r (wayI b c (i : Int)) (C.1 (34, r, 0) 2).toNat) < (T.1 (73, 0, 0) (hfact C.1 r (wayI b c (i : Int)))) then (gvV C.1 (T.1 (73, 0, 0)) r (wayI b c (i : Int)) (C.1 (34, r, 0) 2).toNat) else (T.1 (73, 0, 0) (hfact C.1 r (wayI b c (i : Int)))))) z (i + 1) (by omega) ((((eT.p4 _ _).p4 _ _).p4 _ _).p3 _ _) (by assumption) (by rw [putI_row, th3_73]; rw [if_neg (by omega), xUpd_self]; exact hG.same (by omega)) (by omega)
      · refine x_iconst dX9_goes_142 ?_
        refine x_goto (tgt := 147) dX9_goes_143 (by decide) ?_
        refine x_ior dX9_goes_147 ?_
        refine x_istore_n (L' := [xR (50, 0, 0), xI (r : Int), xI (zOr z 1), xI a, xI b, xI c, xI (i : Int), xI (hfact C.1 r (wayI b c (i : Int))), xI (gvV C.1 (T.1 (73, 0, 0)) r (wayI b c (i : Int)) (C.1 (34, r, 0) 2).toNat)]) dX9_goes_148 (by decide) rfl ?_
        refine x_aload_n dX9_goes_149 rfl ?_
        refine x_get (v := xR (73, 0, 0)) dX9_goes_150 fl_RX9_87 (hp50 (putI (putI (putI T (74, 0, 0) 0 ((i : Int) / (b * c))) (74, 0, 0) 1 (((i : Int) / c) % b)) (74, 0, 0) 2 ((i : Int) % c))) rfl ?_
        refine x_iload dX9_goes_153 rfl ?_
        refine x_aload_n dX9_goes_155 rfl ?_
        refine x_get (v := xR (73, 0, 0)) dX9_goes_156 fl_RX9_87 (hp50 (putI (putI (putI T (74, 0, 0) 0 ((i : Int) / (b * c))) (74, 0, 0) 1 (((i : Int) / c) % b)) (74, 0, 0) 2 ((i : Int) % c))) rfl ?_
        refine x_iload dX9_goes_159 rfl ?_
        refine x_aldi (f := T.1 (73, 0, 0)) dX9_goes_161 (hp73 (putI (putI (putI T (74, 0, 0) 0 ((i : Int) / (b * c))) (74, 0, 0) 1 (((i : Int) / c) % b)) (74, 0, 0) 2 ((i : Int) % c))) (show (73 : Nat) ≠ 99 by decide) (by omega) (by omega) (by decide) ?_
        have f161_12 := wfa73 wT (S := T) (hfact C.1 r (wayI b c (i : Int)))
        refine x_iload dX9_goes_162 rfl ?_
        refine x_mmin dX9_goes_164 wd1281 ⟨wd1282, wd70, wd1283⟩ (by decide) (Nat.le_of_ble_eq_true rfl) (by first | exact hz _ _ | exact hw.1 _ _ | exact zR_of _ | exact bI_z _ | assumption | exact ⟨by omega, by omega⟩) (by first | exact hz _ _ | exact hw.1 _ _ | exact zR_of _ | exact bI_z _ | assumption | exact ⟨by omega, by omega⟩) ?_
        refine x_asti dX9_goes_167 (hp73 (putI (putI (putI T (74, 0, 0) 0 ((i : Int) / (b * c))) (74, 0, 0) 1 (((i : Int) / c) % b)) (74, 0, 0) 2 ((i : Int) % c))) (show (73 : Nat) ≠ 99 by decide) (by omega) (by omega) (by decide) ?_
        refine x_heq (pa73 (putI (putI (putI T (74, 0, 0) 0 ((i : Int) / (b * c))) (74, 0, 0) 1 (((i : Int) / c) % b)) (74, 0, 0) 2 ((i : Int) % c)) (hfact C.1 r (wayI b c (i : Int))) (if (gvV C.1 (T.1 (73, 0, 0)) r (wayI b c (i : Int)) (C.1 (34, r, 0) 2).toNat) < (T.1 (73, 0, 0) (hfact C.1 r (wayI b c (i : Int)))) then (gvV C.1 (T.1 (73, 0, 0)) r (wayI b c (i : Int)) (C.1 (34, r, 0) 2).toNat) else (T.1 (73, 0, 0) (hfact C.1 r (wayI b c (i : Int)))))) ?_
        have hw167_13 : WI (putI (putI (putI (putI T (74, 0, 0) 0 ((i : Int) / (b * c))) (74, 0, 0) 1 (((i : Int) / c) % b)) (74, 0, 0) 2 ((i : Int) % c)) (73, 0, 0) (hfact C.1 r (wayI b c (i : Int))) (if (gvV C.1 (T.1 (73, 0, 0)) r (wayI b c (i : Int)) (C.1 (34, r, 0) 2).toNat) < (T.1 (73, 0, 0) (hfact C.1 r (wayI b c (i : Int)))) then (gvV C.1 (T.1 (73, 0, 0)) r (wayI b c (i : Int)) (C.1 (34, r, 0) 2).toNat) else (T.1 (73, 0, 0) (hfact C.1 r (wayI b c (i : Int)))))) := wpa73 hw78_3 (by omega)
        refine x_iinc (L' := [xR (50, 0, 0), xI (r : Int), xI (zOr z 1), xI a, xI b, xI c, xI ((i : Int) + 1), xI (hfact C.1 r (wayI b c (i : Int))), xI (gvV C.1 (T.1 (73, 0, 0)) r (wayI b c (i : Int)) (C.1 (34, r, 0) 2).toNat)]) dX9_goes_168 rfl rfl ?_
        refine x_goto (tgt := 28) dX9_goes_171 (by decide) ?_
        refine X.loc (L' := [xR (50, 0, 0), xI (r : Int), xI (zOr z 1), xI a, xI b, xI c, xI ((i : Int) + 1), none, none]) ⟨rfl, ⟨rfl, ⟨rfl, ⟨rfl, ⟨rfl, ⟨rfl, ⟨rfl, trivial⟩⟩⟩⟩⟩⟩⟩ ?_
        rw [(zOr01 hz1).1]
        exact ih (putI (putI (putI (putI T (74, 0, 0) 0 ((i : Int) / (b * c))) (74, 0, 0) 1 (((i : Int) / c) % b)) (74, 0, 0) 2 ((i : Int) % c)) (73, 0, 0) (hfact C.1 r (wayI b c (i : Int))) (if (gvV C.1 (T.1 (73, 0, 0)) r (wayI b c (i : Int)) (C.1 (34, r, 0) 2).toNat) < (T.1 (73, 0, 0) (hfact C.1 r (wayI b c (i : Int)))) then (gvV C.1 (T.1 (73, 0, 0)) r (wayI b c (i : Int)) (C.1 (34, r, 0) 2).toNat) else (T.1 (73, 0, 0) (hfact C.1 r (wayI b c (i : Int)))))) 1 (i + 1) (by omega) ((((eT.p4 _ _).p4 _ _).p4 _ _).p3 _ _) (by assumption) (by rw [putI_row, th3_73]; rw [if_pos (by omega)]; exact hG.low hC HR hg hl hS r1 ho hL wk.2.1 wk.2.2 wk.1 (by omega)) (by omega)
theorem tr_abc {C S : XS} (hr : MRr C S) {r : Nat} (r1 : (r : Int) < C.1 (4, 0, 0) 2) : 1 ≤ tr8 S r 0 (C.1 (34, r, 0) 2).toNat * tr8 S r 1 (C.1 (34, r, 0) 2).toNat * tr8 S r 2 (C.1 (34, r, 0) 2).toNat ∧ tr8 S r 0 (C.1 (34, r, 0) 2).toNat * tr8 S r 1 (C.1 (34, r, 0) 2).toNat * tr8 S r 2 (C.1 (34, r, 0) 2).toNat ≤ 512 := by
  have k := fun v s => tr_ok (C := C) (S := S) hr (r := (r : Int)) (v := v) (s := s) (by omega) r1
  have h : ∀ v s : Int, 0 ≤ v → v ≤ 2 → s = 3 * (2 - v) → tr8 S r v (C.1 (34, r, 0) 2).toNat = 1 ∨ tr8 S r v (C.1 (34, r, 0) 2).toNat = 8 := fun v s a b c => (k v s a b c).imp (fun z => z.1) (fun z => z.1)
  have := ways_abc (h 0 6 (by decide) (by decide) (by decide)) (h 1 3 (by decide) (by decide) (by decide)) (h 2 0 (by decide) (by decide) (by decide))
  exact this.2.2
set_option maxHeartbeats 4000000 in
set_option maxRecDepth 100000 in
theorem m_goes (C S : XS) (hC : WI C) (HR : RulesOk C) (hr : MRr C S) (on : Int) (H K : Int → Int64) (g : Int → Int) (hg : GOk g) (hl : Lay C.1 on g) (hS : Stab C.1 on H K) (L : Int) (r : Nat) (r1 : (r : Int) < C.1 (4, 0, 0) 2) (ho : bitI on r) (hL : g (C.1 (37, r, 0) 0) = L) (hw : WI S) (hF : FI C on H K g L (S.1 (73, 0, 0))) : X mX9_goes 0 (xEnt mX9_goes [xR (50, 0, 0), xI (r : Int)]) [] (hp S) 0 0 (pGo C S on H K g L r) := by
  have c4 := wf4_2 hC
  have c34 := wf34_2 hC (b := (r : Int)) (by omega) (by omega)
  show X mX9_goes 0 [xR (50, 0, 0), xI (r : Int), none, none, none, none, none, none, none] [] (hp S) 0 0 _
  refine x_iconst dX9_goes_0 ?_
  refine x_istore_n (L' := [xR (50, 0, 0), xI (r : Int), xI 0, none, none, none, none, none, none]) dX9_goes_1 (by decide) rfl ?_
  refine x_aload_n dX9_goes_2 rfl ?_
  refine x_iload_n dX9_goes_3 rfl ?_
  refine x_iconst dX9_goes_4 ?_
  refine x_callV_r (a := 0) (b := 0) (as := [xI (r : Int), xI 0]) (rest := []) ok_X9_tried dX9_goes_5 wd1262 ⟨wd1264, wd30⟩ (hp50 S) rfl rfl (m_tried C S hC hw hr (r : Int) 0 (by omega) (by omega) (by omega) (by omega) (C.1 (34, r, 0) 2).toNat (by omega)) rfl (Nat.le_of_ble_eq_true rfl) (Nat.le_of_ble_eq_true rfl) (by decide) (by omega) (by omega) ?_
  refine x_istore_n (L' := [xR (50, 0, 0), xI (r : Int), xI 0, xI (tr8 S (r : Int) 0 (C.1 (34, r, 0) 2).toNat), none, none, none, none, none]) dX9_goes_8 (by decide) rfl ?_
  refine x_aload_n dX9_goes_9 rfl ?_
  refine x_iload_n dX9_goes_10 rfl ?_
  refine x_iconst dX9_goes_11 ?_
  refine x_callV_r (a := 0) (b := 0) (as := [xI (r : Int), xI 1]) (rest := []) ok_X9_tried dX9_goes_12 wd1262 ⟨wd1264, wd30⟩ (hp50 S) rfl rfl (m_tried C S hC hw hr (r : Int) 1 (by omega) (by omega) (by omega) (by omega) (C.1 (34, r, 0) 2).toNat (by omega)) rfl (Nat.le_of_ble_eq_true rfl) (Nat.le_of_ble_eq_true rfl) (by decide) (by omega) (by omega) ?_
  refine x_istore (L' := [xR (50, 0, 0), xI (r : Int), xI 0, xI (tr8 S (r : Int) 0 (C.1 (34, r, 0) 2).toNat), xI (tr8 S (r : Int) 1 (C.1 (34, r, 0) 2).toNat), none, none, none, none]) dX9_goes_15 (by decide) rfl ?_
  refine x_aload_n dX9_goes_17 rfl ?_
  refine x_iload_n dX9_goes_18 rfl ?_
  refine x_iconst dX9_goes_19 ?_
  refine x_callV_r (a := 0) (b := 0) (as := [xI (r : Int), xI 2]) (rest := []) ok_X9_tried dX9_goes_20 wd1262 ⟨wd1264, wd30⟩ (hp50 S) rfl rfl (m_tried C S hC hw hr (r : Int) 2 (by omega) (by omega) (by omega) (by omega) (C.1 (34, r, 0) 2).toNat (by omega)) rfl (Nat.le_of_ble_eq_true rfl) (Nat.le_of_ble_eq_true rfl) (by decide) (by omega) (by omega) ?_
  refine x_istore (L' := [xR (50, 0, 0), xI (r : Int), xI 0, xI (tr8 S (r : Int) 0 (C.1 (34, r, 0) 2).toNat), xI (tr8 S (r : Int) 1 (C.1 (34, r, 0) 2).toNat), xI (tr8 S (r : Int) 2 (C.1 (34, r, 0) 2).toNat), none, none, none]) dX9_goes_23 (by decide) rfl ?_
  refine x_iconst dX9_goes_25 ?_
  refine x_istore (L' := [xR (50, 0, 0), xI (r : Int), xI 0, xI (tr8 S (r : Int) 0 (C.1 (34, r, 0) 2).toNat), xI (tr8 S (r : Int) 1 (C.1 (34, r, 0) 2).toNat), xI (tr8 S (r : Int) 2 (C.1 (34, r, 0) 2).toNat), xI 0, none, none]) dX9_goes_26 (by decide) rfl ?_
  exact l_goes C S hC HR hr on H K g hg hl hS L r r1 ho hL (tr8 S (r : Int) 0 (C.1 (34, r, 0) 2).toNat) (tr8 S (r : Int) 1 (C.1 (34, r, 0) 2).toNat) (tr8 S (r : Int) 2 (C.1 (34, r, 0) 2).toNat) (tr_ok hr (by omega) r1 (by decide) (by decide) (by decide)) (tr_ok hr (by omega) r1 (by decide) (by decide) (by decide)) (tr_ok hr (by omega) r1 (by decide) (by decide) (by decide)) 513 S 0 0 (by have := tr_abc hr r1; omega) (Ex2.rf _) hw ⟨hF, Or.inl rfl, fun _ => ⟨rfl, fun j hj => by omega⟩, fun q => by cases q⟩ (by have := tr_abc hr r1; omega)
