/-! the reference: proof -/
theorem dm82 (S : XS) {b : Int} (h1 : 0 ≤ b) (h2 : b < S.2.2.2.2.1) : xdm S.2.2.2 (82, b, 0) := ⟨h1, h2, rfl⟩
theorem hp82 (S : XS) {b : Int} (h1 : 0 ≤ b) (h2 : b < S.2.2.2.2.1) : hp S (82, b, 0) = some (.inr (2, 384, .inl (S.1 (82, b, 0)))) := hp_of (dm82 S h1 h2)
theorem pa82 (S : XS) {b : Int} (h1 : 0 ≤ b) (h2 : b < S.2.2.2.2.1) (i v : Int) : hp (putI S (82, b, 0) i v) = xUp (hp S) (82, b, 0) (.inr (2, 384, .inl (xUpd (S.1 (82, b, 0)) i v))) := hp_putI (dm82 S h1 h2) rfl
theorem wfa82 {S : XS} (hw : WI S) {b : Int} (h1 : 0 ≤ b) (h2 : b < S.2.2.2.2.1) (i : Int) : S.1 (82, b, 0) i = 0 ∨ S.1 (82, b, 0) i = 1 := hw.2 _ (dm82 S h1 h2) i
theorem wpa82 {S : XS} (hw : WI S) {b : Int} (h1 : 0 ≤ b) (h2 : b < S.2.2.2.2.1) {i v : Int} (hv : v = 0 ∨ v = 1) : WI (putI S (82, b, 0) i v) := hw.put ⟨by omega, by omega⟩ hv
/-- things and a scratch row alone are changed -/
def EP (g : Int) (S T : XS) : Prop := (∀ l : XL, l ≠ (74, 0, 0) → l ≠ (82, g, 0) → T.1 l = S.1 l) ∧ T.2 = S.2
theorem EP.rf (g : Int) (S : XS) : EP g S S := ⟨fun _ _ _ => rfl, rfl⟩
theorem EP.p8 {g : Int} {S T : XS} (h : EP g S T) (k v : Int) : EP g S (putI T (82, g, 0) k v) := ⟨fun l' a b => (putI_o b).trans (h.1 l' a b), h.2⟩
theorem EP.th {g : Int} {S T U : XS} (h : EP g S T) (k : Ex1 (74, 0, 0) T U) : EP g S U := ⟨fun l' a b => (k.1 l' a).trans (h.1 l' a b), k.2.trans h.2⟩
theorem EP.md {g : Int} {S T : XS} (h : EP g S T) : MdQ S T := ⟨fun l' a _ => h.1 l' (fun z => by rw [z] at a; cases a) (fun z => by rw [z] at a; cases a), fun k _ => by rw [h.1 _ (fun z => by cases z) (fun z => by cases z)], by rw [h.2], by rw [h.2], by rw [h.2], by rw [h.2], Int.le_of_eq (by rw [h.2])⟩
theorem EP.at {g : Int} {S T : XS} (h : EP g S T) {k : Nat} (h1 : k ≠ 74) (h2 : k ≠ 82) : T.1 (k, 0, 0) = S.1 (k, 0, 0) := h.1 _ (fun z => h1 (congrArg (fun x : XL => x.1) z)) (fun z => h2 (congrArg (fun x : XL => x.1) z))
theorem EP.g1 {g : Int} {S T : XS} (h : EP g S T) (k : g < S.2.2.2.2.1) : g < T.2.2.2.2.1 := by rw [h.2]; exact k
theorem scr_at {S : XS} {k : Nat} (h : k ≠ 82) : (sScr S).1 (k, 0, 0) = S.1 (k, 0, 0) := by show (if (k, 0, 0) = _ then _ else _) = _; rw [if_neg (fun z => h (congrArg (fun x : XL => x.1) z))]
theorem MdQ.scr {S : XS} : MdQ S (sScr S) := ⟨fun l a _ => by show (if l = _ then _ else _) = _; rw [if_neg (fun z => by rw [z] at a; cases a)], fun k _ => congrFun (scr_at (k := 50) (by decide)) k, rfl, rfl, rfl, rfl, by show S.2.2.2.2.1 ≤ S.2.2.2.2.1 + 1; omega⟩
theorem scr_0 (S : XS) (x : Int) : (sScr S).1 (82, S.2.2.2.2.1, 0) x = 0 := by show (if _ = _ then _ else _ : Int → Int) x = 0; rw [if_pos rfl]
theorem scr_wi {S : XS} (h : WI S) : WI (sScr S) := by
  refine ⟨fun l k => ?_, fun l hd k => ?_⟩
  · show zR ((if l = _ then _ else _ : Int → Int) k)
    split
    · show zR 0; exact ⟨by decide, by decide⟩
    · exact h.1 l k
  · by_cases e : l = (82, S.2.2.2.2.1, 0)
    · subst e
      rw [scr_0]
      exact Or.inl rfl
    · have he : (sScr S).1 l = S.1 l := by show (if l = _ then _ else _) = _; rw [if_neg e]
      rw [he]
      refine h.2 l ?_ k
      obtain ⟨k, b, t⟩ := l
      by_cases k82 : k = 82
      · subst k82
        obtain ⟨a, c, d⟩ : 0 ≤ b ∧ b < S.2.2.2.2.1 + 1 ∧ t = 0 := hd
        refine ⟨a, ?_, d⟩
        rcases Int.lt_or_eq_of_le (show b ≤ S.2.2.2.2.1 by omega) with y | y
        · exact y
        · subst y; subst d; exact absurd rfl e
      · revert hd
        unfold xdm sScr
        split <;> first | exact id | (rename_i h; exact absurd (congrArg (fun x : XL => x.1) h) k82)
theorem cl_next {f : XL → Int → Int} {r w x v u : Int} {c : Nat} {P : Prop} {A : Int} (h : A ≠ 0 ↔ P ∨ ∃ j : Nat, (j : Int) < c ∧ f (36, r, j) 1 = 0 ∧ x = cfact f r w j) (hv : (f (36, r, c) 1 = 0 ∧ v = 1) ∨ (f (36, r, c) 1 ≠ 0 ∧ v = u)) (hu : x = cfact f r w c → u = A) : (if x = cfact f r w c then v else A) ≠ 0 ↔ P ∨ ∃ j : Nat, (j : Int) < ((c + 1 : Nat) : Int) ∧ f (36, r, j) 1 = 0 ∧ x = cfact f r w j := by
  constructor
  · intro z
    by_cases e : x = cfact f r w c
    · rcases hv with ⟨a, b⟩ | ⟨a, b⟩
      · exact Or.inr ⟨c, by omega, a, e⟩
      · rw [if_pos e, b, hu e] at z
        rcases h.mp z with y | ⟨j, j1, j2⟩
        · exact Or.inl y
        · exact Or.inr ⟨j, by omega, j2⟩
    · rw [if_neg e] at z
      rcases h.mp z with y | ⟨j, j1, j2⟩
      · exact Or.inl y
      · exact Or.inr ⟨j, by omega, j2⟩
  · intro z
    have k : x ≠ cfact f r w c ∨ f (36, r, c) 1 ≠ 0 → A ≠ 0 := fun y => by
      rcases z with z | ⟨j, j1, j2, j3⟩
      · exact h.mpr (Or.inl z)
      · rcases Nat.lt_or_eq_of_le (show j ≤ c by omega) with l | l
        · exact h.mpr (Or.inr ⟨j, by omega, j2, j3⟩)
        · subst l
          rcases y with y | y
          · exact absurd j3 y
          · exact absurd j2 y
    by_cases e : x = cfact f r w c
    · rw [if_pos e]
      rcases hv with ⟨a, b⟩ | ⟨a, b⟩
      · omega
      · rw [b, hu e]; exact k (Or.inr a)
    · rw [if_neg e]; exact k (Or.inl e)
set_option maxHeartbeats 4000000 in
set_option maxRecDepth 100000 in
theorem l9_prf3 (C T0 : XS) (hC : CB C) (hM : MR C T0) (g : Int) (hg0 : 0 ≤ g) (hgg : g < T0.2.2.2.2.1) (i n t q : Int) (i0 : 0 ≤ i) (i1 : i < C.1 (0, 0, 0) 6) (n0 : 0 ≤ n) (n1 : n ≤ C.1 (9, i, 0) 3) (q0 : 0 ≤ q) (q1 : q < 384) (hF : FinR C i n.toNat t (T0.1 (73, 0, 0))) (hO : OnRow T0 (onN C.1 i n.toNat)) (hrk : ∀ k, 0 ≤ T0.1 (73, 0, 0) k ∧ T0.1 (73, 0, 0) k ≤ 9999) (z hi : Int) (f : Int) (r w : Int) (r0 : 0 ≤ r) (r1 : r < C.1 (4, 0, 0) 2) (I0 : Int → Prop) (KK3 : ∀ T : XS, EP g T0 T → WI T → (∀ x : Int, T.1 (82, g, 0) x ≠ 0 ↔ I0 x ∨ ∃ j : Nat, (j : Int) < (C.1 (34, r, 0) 2) ∧ C.1 (36, r, j) 1 = 0 ∧ x = cfact C.1 r w j) → X mX9_proof 47 [xR (50, 0, 0), xI i, xI n, xI t, xI q, xR (82, g, 0), xI z, xI hi, xI (f + 1), none, none] [] (hp T) 0 0 (pM T0 (fun kk z _T => kk = T0.1 (50, 0, 0) 25 ∧ z = ((cntN (fun x : Nat => PrB C i n.toNat t (T0.1 (73, 0, 0)) q x) 384 : Nat) : Int)))) : ∀ (nn : Nat) (T : XS) (c : Nat), (C.1 (34, r, 0) 2) - c + 1 < (nn : Int) → (EP g T0 T) → (WI T) → (wG (T.1 (74, 0, 0)) = w) → ((c : Int) ≤ (C.1 (34, r, 0) 2)) → ((∀ x : Int, T.1 (82, g, 0) x ≠ 0 ↔ I0 x ∨ ∃ j : Nat, (j : Int) < c ∧ C.1 (36, r, j) 1 = 0 ∧ x = cfact C.1 r w j)) → X mX9_proof 89 [xR (50, 0, 0), xI i, xI n, xI t, xI q, xR (82, g, 0), xI z, xI hi, xI f, xI r, xI (c : Int)] [] (hp T) 0 0 (pM T0 (fun kk z _T => kk = T0.1 (50, 0, 0) 25 ∧ z = ((cntN (fun x : Nat => PrB C i n.toNat t (T0.1 (73, 0, 0)) q x) 384 : Nat) : Int))) := by
  intro nn
  induction nn with
  | zero => intro T c hm eT wT h74 hc hI; exfalso; omega
  | succ nn ih =>
    intro T c hm eT wT h74 hc hI
    have hg1 := eT.g1 hgg
    have hz := wT.1
    have c4 := wf4_2 hC.1
    have hMT := hM.q eT.md
    have c34 := wf34_2 hC.1 r0 (show r < 10 by omega)
    have hR : RuleOk C.1 r := by obtain ⟨r2, rfl⟩ := Int.eq_ofNat_of_zero_le r0; exact (hC.2.1 r2 r1).1
    obtain ⟨-, -, -, q4, -, q6, -⟩ := hMT.2.2.1 r r0 r1
    have gw := wG_in (g := T.1 (74, 0, 0)) (fun k => wfa74 wT k)
    refine x_iload dX9_proof_89 rfl ?_
    refine x_if_lt (tgt := 146) dX9_proof_91 (by decide) (by first | exact hz _ _ | exact hw.1 _ _ | exact zR_of _ | exact bI_z _ | assumption | exact ⟨by omega, by omega⟩) (fun c91 => ?_) (fun c91 => ?_)
    · refine x_iinc (L' := [xR (50, 0, 0), xI i, xI n, xI t, xI q, xR (82, g, 0), xI z, xI hi, xI (f + 1), xI r, xI (c : Int)]) dX9_proof_146 rfl rfl ?_
      refine x_goto (tgt := 47) dX9_proof_149 (by decide) ?_
      refine X.loc (L' := [xR (50, 0, 0), xI i, xI n, xI t, xI q, xR (82, g, 0), xI z, xI hi, xI (f + 1), none, none]) ⟨rfl, ⟨rfl, ⟨rfl, ⟨rfl, ⟨rfl, ⟨rfl, ⟨rfl, ⟨rfl, ⟨rfl, trivial⟩⟩⟩⟩⟩⟩⟩⟩⟩ ?_
      exact KK3 T eT wT (by rw [show (C.1 (34, r, 0) 2) = (c : Int) by omega]; exact hI)
    · refine x_iload dX9_proof_94 rfl ?_
      refine x_aload_n dX9_proof_96 rfl ?_
      refine x_get (v := xR (64, 0, 0)) dX9_proof_97 fl_RX9_55 (hp50 T) rfl ?_
      refine x_iload dX9_proof_100 rfl ?_
      refine x_aldi (f := T.1 (64, 0, 0)) dX9_proof_102 (hp64 T) (show (64 : Nat) ≠ 99 by decide) (by omega) (by omega) (by decide) ?_
      have f102_1 := wfa64 wT (S := T) r
      refine x_icmp_ge (tgt := 146) dX9_proof_103 (by decide) (by first | exact hz _ _ | exact hw.1 _ _ | exact zR_of _ | exact bI_z _ | assumption | exact ⟨by omega, by omega⟩) (by first | exact hz _ _ | exact hw.1 _ _ | exact zR_of _ | exact bI_z _ | assumption | exact ⟨by omega, by omega⟩) (fun c103 => ?_) (fun c103 => ?_)
      · refine x_iinc (L' := [xR (50, 0, 0), xI i, xI n, xI t, xI q, xR (82, g, 0), xI z, xI hi, xI (f + 1), xI r, xI (c : Int)]) dX9_proof_146 rfl rfl ?_
        refine x_goto (tgt := 47) dX9_proof_149 (by decide) ?_
        refine X.loc (L' := [xR (50, 0, 0), xI i, xI n, xI t, xI q, xR (82, g, 0), xI z, xI hi, xI (f + 1), none, none]) ⟨rfl, ⟨rfl, ⟨rfl, ⟨rfl, ⟨rfl, ⟨rfl, ⟨rfl, ⟨rfl, ⟨rfl, trivial⟩⟩⟩⟩⟩⟩⟩⟩⟩ ?_
        exact KK3 T eT wT (by rw [show (C.1 (34, r, 0) 2) = (c : Int) by omega]; exact hI)
      · obtain ⟨u1, u2, u3, u4⟩ := q6 (c : Int) (by omega) (by omega)
        have cin := cfact_in hC.1 r0 r1 hR (c := (c : Int)) (by omega) (by omega) gw.1 gw.2
        rw [h74] at cin
        have wa := wfa82 wT hg0 hg1 (cfact C.1 r w (c : Int))
        refine x_aload dX9_proof_106 rfl ?_
        refine x_aload_n dX9_proof_108 rfl ?_
        refine x_iload dX9_proof_109 rfl ?_
        refine x_iload dX9_proof_111 rfl ?_
        refine x_callV_r (a := 0) (b := 0) (as := [xI r, xI (c : Int)]) (rest := [xR (82, g, 0)]) ok_X9_factAt dX9_proof_113 wd1277 ⟨wd1279, wd33⟩ (hp50 T) rfl rfl (m_factAt C T hC.1 wT hMT.2.2.1 r (c : Int) (by omega) (by omega) (by omega) (by omega)) rfl (Nat.le_of_ble_eq_true rfl) (Nat.le_of_ble_eq_true rfl) (by decide) (by omega) (by omega) ?_
        refine x_top (show cfact C.1 r (wG (T.1 (74, 0, 0))) (c : Int) = cfact C.1 r w (c : Int) from by rw [h74]) ?_
        refine x_dup2 dX9_proof_116 rfl rfl ?_
        refine x_aldz (f := T.1 (82, g, 0)) dX9_proof_117 (hp82 T (by first | omega | exact hg0) (by first | omega | exact hg1)) (show (82 : Nat) ≠ 99 by decide) (by omega) (by omega) (by decide) ?_
        have f117_2 := wfa82 wT (S := T) (b := g) (by first | omega | exact hg0) (by first | omega | exact hg1) (cfact C.1 r w (c : Int))
        refine x_aload_n dX9_proof_118 rfl ?_
        refine x_get (v := xR (65, 0, 0)) dX9_proof_119 fl_RX9_58 (hp50 T) rfl ?_
        refine x_iconst dX9_proof_122 ?_
        refine x_iload dX9_proof_123 rfl ?_
        refine x_imul dX9_proof_125 ?_
        refine x_iload dX9_proof_126 rfl ?_
        refine x_iadd dX9_proof_128 ?_
        refine x_aldz (f := T.1 (65, 0, 0)) dX9_proof_129 (hp65 T) (show (65 : Nat) ≠ 99 by decide) (by omega) (by omega) (by decide) ?_
        have f129_3 := wfa65 wT (S := T) ((3 * r) + (c : Int))
        refine x_if_ne (tgt := 137) dX9_proof_130 (by decide) (by first | exact hz _ _ | exact hw.1 _ _ | exact zR_of _ | exact bI_z _ | assumption | exact ⟨by omega, by omega⟩) (fun c130 => ?_) (fun c130 => ?_)
        · refine x_iconst dX9_proof_137 ?_
          refine x_ior dX9_proof_138 ?_
          refine x_astz dX9_proof_139 (hp82 T (by first | omega | exact hg0) (by first | omega | exact hg1)) (show (82 : Nat) ≠ 99 by decide) (by omega) (by omega) (by decide) (by first | exact Or.inr (zOr01 wa).1 | (rw [(zOr01 wa).2]; exact wa)) ?_
          refine x_heq (pa82 T (by first | omega | exact hg0) (by first | omega | exact hg1) (cfact C.1 r w (c : Int)) (zOr (T.1 (82, g, 0) (cfact C.1 r w (c : Int))) 0)) ?_
          have hw139_4 : WI (putI T (82, g, 0) (cfact C.1 r w (c : Int)) (zOr (T.1 (82, g, 0) (cfact C.1 r w (c : Int))) 0)) := wpa82 wT (by first | omega | exact hg0) (by first | omega | exact hg1) (by first | exact Or.inr (zOr01 wa).1 | (rw [(zOr01 wa).2]; exact wa))
          refine x_iinc (L' := [xR (50, 0, 0), xI i, xI n, xI t, xI q, xR (82, g, 0), xI z, xI hi, xI f, xI r, xI ((c : Int) + 1)]) dX9_proof_140 rfl rfl ?_
          refine x_goto (tgt := 89) dX9_proof_143 (by decide) ?_
          exact ih (putI T (82, g, 0) (cfact C.1 r w (c : Int)) (zOr (T.1 (82, g, 0) (cfact C.1 r w (c : Int))) 0)) (c + 1) (by omega) (eT.p8 _ _) (by assumption) (by rw [putI_o (fun y => by cases y)]; exact h74) (by omega) (fun x => by rw [putI_at]; exact cl_next (hI x) (Or.inr ⟨by omega, (zOr01 wa).2⟩) (fun e => by rw [e]))
        · refine x_iconst dX9_proof_133 ?_
          refine x_goto (tgt := 138) dX9_proof_134 (by decide) ?_
          refine x_ior dX9_proof_138 ?_
          refine x_astz dX9_proof_139 (hp82 T (by first | omega | exact hg0) (by first | omega | exact hg1)) (show (82 : Nat) ≠ 99 by decide) (by omega) (by omega) (by decide) (by first | exact Or.inr (zOr01 wa).1 | (rw [(zOr01 wa).2]; exact wa)) ?_
          refine x_heq (pa82 T (by first | omega | exact hg0) (by first | omega | exact hg1) (cfact C.1 r w (c : Int)) (zOr (T.1 (82, g, 0) (cfact C.1 r w (c : Int))) 1)) ?_
          have hw139_5 : WI (putI T (82, g, 0) (cfact C.1 r w (c : Int)) (zOr (T.1 (82, g, 0) (cfact C.1 r w (c : Int))) 1)) := wpa82 wT (by first | omega | exact hg0) (by first | omega | exact hg1) (by first | exact Or.inr (zOr01 wa).1 | (rw [(zOr01 wa).2]; exact wa))
          refine x_iinc (L' := [xR (50, 0, 0), xI i, xI n, xI t, xI q, xR (82, g, 0), xI z, xI hi, xI f, xI r, xI ((c : Int) + 1)]) dX9_proof_140 rfl rfl ?_
          refine x_goto (tgt := 89) dX9_proof_143 (by decide) ?_
          exact ih (putI T (82, g, 0) (cfact C.1 r w (c : Int)) (zOr (T.1 (82, g, 0) (cfact C.1 r w (c : Int))) 1)) (c + 1) (by omega) (eT.p8 _ _) (by assumption) (by rw [putI_o (fun y => by cases y)]; exact h74) (by omega) (fun x => by rw [putI_at]; exact cl_next (hI x) (Or.inl ⟨by omega, (zOr01 wa).1⟩) (fun e => by rw [e]))
set_option maxHeartbeats 4000000 in
set_option maxRecDepth 100000 in
theorem l9_prf30 (C T0 : XS) (hC : CB C) (hM : MR C T0) (g : Int) (hg0 : 0 ≤ g) (hgg : g < T0.2.2.2.2.1) (i n t q : Int) (i0 : 0 ≤ i) (i1 : i < C.1 (0, 0, 0) 6) (n0 : 0 ≤ n) (n1 : n ≤ C.1 (9, i, 0) 3) (q0 : 0 ≤ q) (q1 : q < 384) (hF : FinR C i n.toNat t (T0.1 (73, 0, 0))) (hO : OnRow T0 (onN C.1 i n.toNat)) (hrk : ∀ k, 0 ≤ T0.1 (73, 0, 0) k ∧ T0.1 (73, 0, 0) k ≤ 9999) (z hi f : Int) (T : XS) (KK : X mX9_proof 47 [xR (50, 0, 0), xI i, xI n, xI t, xI q, xR (82, g, 0), xI z, xI hi, xI (f + 1), none, none] [] (hp T) 0 0 (pM T0 (fun kk z _T => kk = T0.1 (50, 0, 0) 25 ∧ z = ((cntN (fun x : Nat => PrB C i n.toNat t (T0.1 (73, 0, 0)) q x) 384 : Nat) : Int)))) : X mX9_proof 89 [xR (50, 0, 0), xI i, xI n, xI t, xI q, xR (82, g, 0), xI z, xI hi, xI f, xI (-1), xI 0] [] (hp T) 0 0 (pM T0 (fun kk z _T => kk = T0.1 (50, 0, 0) 25 ∧ z = ((cntN (fun x : Nat => PrB C i n.toNat t (T0.1 (73, 0, 0)) q x) 384 : Nat) : Int))) := by
  refine x_iload dX9_proof_89 rfl ?_
  refine x_if_lt (tgt := 146) dX9_proof_91 (by decide) ⟨by decide, by decide⟩ (fun _ => ?_) (fun z => absurd z (by decide))
  refine x_iinc (L' := [xR (50, 0, 0), xI i, xI n, xI t, xI q, xR (82, g, 0), xI z, xI hi, xI (f + 1), xI (-1), xI 0]) dX9_proof_146 rfl rfl ?_
  refine x_goto (tgt := 47) dX9_proof_149 (by decide) ?_
  refine X.loc (L' := [xR (50, 0, 0), xI i, xI n, xI t, xI q, xR (82, g, 0), xI z, xI hi, xI (f + 1), none, none]) ⟨rfl, ⟨rfl, ⟨rfl, ⟨rfl, ⟨rfl, ⟨rfl, ⟨rfl, ⟨rfl, ⟨rfl, trivial⟩⟩⟩⟩⟩⟩⟩⟩⟩ ?_
  exact KK
set_option maxHeartbeats 4000000 in
set_option maxRecDepth 100000 in
theorem l9_prf2 (C T0 : XS) (hC : CB C) (hM : MR C T0) (g : Int) (hg0 : 0 ≤ g) (hgg : g < T0.2.2.2.2.1) (i n t q : Int) (i0 : 0 ≤ i) (i1 : i < C.1 (0, 0, 0) 6) (n0 : 0 ≤ n) (n1 : n ≤ C.1 (9, i, 0) 3) (q0 : 0 ≤ q) (q1 : q < 384) (hF : FinR C i n.toNat t (T0.1 (73, 0, 0))) (hO : OnRow T0 (onN C.1 i n.toNat)) (hrk : ∀ k, 0 ≤ T0.1 (73, 0, 0) k ∧ T0.1 (73, 0, 0) k ≤ 9999) (hi : Int) (h0 : 0 ≤ hi) (h9 : hi < 9999) (KK2 : ∀ (T : XS) (z : Int), EP g T0 T → WI T → PI C i n.toNat t (T0.1 (73, 0, 0)) q (fun x => T.1 (82, g, 0) x ≠ 0) hi 384 z → X mX9_proof 39 [xR (50, 0, 0), xI i, xI n, xI t, xI q, xR (82, g, 0), xI z, xI (hi + -1), none, none, none] [] (hp T) 0 0 (pM T0 (fun kk z _T => kk = T0.1 (50, 0, 0) 25 ∧ z = ((cntN (fun x : Nat => PrB C i n.toNat t (T0.1 (73, 0, 0)) q x) 384 : Nat) : Int)))) : ∀ (nn : Nat) (T : XS) (f : Nat) (z : Int), 385 - (f : Int) < (nn : Int) → (EP g T0 T) → (WI T) → (PI C i n.toNat t (T0.1 (73, 0, 0)) q (fun x => T.1 (82, g, 0) x ≠ 0) hi f z) → (f ≤ 384) → X mX9_proof 47 [xR (50, 0, 0), xI i, xI n, xI t, xI q, xR (82, g, 0), xI z, xI hi, xI (f : Int), none, none] [] (hp T) 0 0 (pM T0 (fun kk z _T => kk = T0.1 (50, 0, 0) 25 ∧ z = ((cntN (fun x : Nat => PrB C i n.toNat t (T0.1 (73, 0, 0)) q x) 384 : Nat) : Int))) := by
  intro nn
  induction nn with
  | zero => intro T f z hm eT wT hP hf; exfalso; omega
  | succ nn ih =>
    intro T f z hm eT wT hP hf
    have hg1 := eT.g1 hgg
    have hz := wT.1
    have c4 := wf4_2 hC.1
    have hMT := hM.q eT.md
    have e73 := eT.at (k := 73) (by decide) (by decide)
    refine x_iload dX9_proof_47 rfl ?_
    refine x_sipush (v := 384) dX9_proof_49 (by decide) ?_
    refine x_icmp_ge (tgt := 152) dX9_proof_52 (by decide) (by first | exact hz _ _ | exact hw.1 _ _ | exact zR_of _ | exact bI_z _ | assumption | exact ⟨by omega, by omega⟩) ⟨by decide, by decide⟩ (fun c52 => ?_) (fun c52 => ?_)
    · refine x_iinc (L' := [xR (50, 0, 0), xI i, xI n, xI t, xI q, xR (82, g, 0), xI z, xI (hi + (-1)), xI (f : Int), none, none]) dX9_proof_152 rfl rfl ?_
      refine x_goto (tgt := 39) dX9_proof_155 (by decide) ?_
      refine X.loc (L' := [xR (50, 0, 0), xI i, xI n, xI t, xI q, xR (82, g, 0), xI z, xI (hi + (-1)), none, none, none]) ⟨rfl, ⟨rfl, ⟨rfl, ⟨rfl, ⟨rfl, ⟨rfl, ⟨rfl, ⟨rfl, trivial⟩⟩⟩⟩⟩⟩⟩⟩ ?_
      exact KK2 T z eT wT (by obtain rfl : f = 384 := (by omega); exact hP)
    · refine x_aload dX9_proof_55 rfl ?_
      refine x_iload dX9_proof_57 rfl ?_
      refine x_aldz (f := T.1 (82, g, 0)) dX9_proof_59 (hp82 T (by first | omega | exact hg0) (by first | omega | exact hg1)) (show (82 : Nat) ≠ 99 by decide) (by omega) (by omega) (by decide) ?_
      have f59_1 := wfa82 wT (S := T) (b := g) (by first | omega | exact hg0) (by first | omega | exact hg1) (f : Int)
      refine x_if_eq (tgt := 146) dX9_proof_60 (by decide) (by first | exact hz _ _ | exact hw.1 _ _ | exact zR_of _ | exact bI_z _ | assumption | exact ⟨by omega, by omega⟩) (fun c60 => ?_) (fun c60 => ?_)
      · refine x_iinc (L' := [xR (50, 0, 0), xI i, xI n, xI t, xI q, xR (82, g, 0), xI z, xI hi, xI ((f : Int) + 1), none, none]) dX9_proof_146 rfl rfl ?_
        refine x_goto (tgt := 47) dX9_proof_149 (by decide) ?_
        exact ih T (f + 1) z (by omega) eT wT (hP.skip (fun y => by have y1 := y.1; have y2 := y.2; rw [← e73] at y2; omega)) (by omega)
      · refine x_aload_n dX9_proof_63 rfl ?_
        refine x_get (v := xR (73, 0, 0)) dX9_proof_64 fl_RX9_87 (hp50 T) rfl ?_
        refine x_iload dX9_proof_67 rfl ?_
        refine x_aldi (f := T.1 (73, 0, 0)) dX9_proof_69 (hp73 T) (show (73 : Nat) ≠ 99 by decide) (by omega) (by omega) (by decide) ?_
        have f69_2 := wfa73 wT (S := T) (f : Int)
        refine x_iload dX9_proof_70 rfl ?_
        refine x_icmp_ne (tgt := 146) dX9_proof_72 (by decide) (by first | exact hz _ _ | exact hw.1 _ _ | exact zR_of _ | exact bI_z _ | assumption | exact ⟨by omega, by omega⟩) (by first | exact hz _ _ | exact hw.1 _ _ | exact zR_of _ | exact bI_z _ | assumption | exact ⟨by omega, by omega⟩) (fun c72 => ?_) (fun c72 => ?_)
        · refine x_iinc (L' := [xR (50, 0, 0), xI i, xI n, xI t, xI q, xR (82, g, 0), xI z, xI hi, xI ((f : Int) + 1), none, none]) dX9_proof_146 rfl rfl ?_
          refine x_goto (tgt := 47) dX9_proof_149 (by decide) ?_
          exact ih T (f + 1) z (by omega) eT wT (hP.skip (fun y => by have y1 := y.1; have y2 := y.2; rw [← e73] at y2; omega)) (by omega)
        · refine x_iinc (L' := [xR (50, 0, 0), xI i, xI n, xI t, xI q, xR (82, g, 0), xI (z + 1), xI hi, xI (f : Int), none, none]) dX9_proof_75 rfl rfl ?_
          refine x_aload_n dX9_proof_78 rfl ?_
          refine x_iload dX9_proof_79 rfl ?_
          refine x_callV (a := 0) (b := 0) (as := [xI (f : Int)]) (rest := []) ok_X9_because dX9_proof_81 wd1388 ⟨wd1390, wd43⟩ (hp50 T) rfl rfl (m_because C T hC wT hMT.2.2.1 hMT.2.1 i i0 i1 n.toNat (by omega) t (by rw [e73]; exact hF) (hO.q (eT.at (by decide) (by decide))) (f : Int) (by omega) (by omega) (by omega)) rfl (Nat.le_of_ble_eq_true rfl) (Nat.le_of_ble_eq_true rfl) (by decide) (by omega) (by omega) (fun _ q => by obtain ⟨_, _, _, y, _⟩ := q; cases y) (fun _ _ q => ?_) (fun _ _ q => by obtain ⟨_, _, _, y, _⟩ := q; cases y)
          obtain ⟨U, zr, rfl, y, rU, eU, wU, vU⟩ := q
          cases y
          refine x_istore (L' := [xR (50, 0, 0), xI i, xI n, xI t, xI q, xR (82, g, 0), xI (z + 1), xI hi, xI (f : Int), xI zr, none]) dX9_proof_84 (by decide) rfl ?_
          refine x_iconst dX9_proof_86 ?_
          refine x_istore (L' := [xR (50, 0, 0), xI i, xI n, xI t, xI q, xR (82, g, 0), xI (z + 1), xI hi, xI (f : Int), xI zr, xI 0]) dX9_proof_87 (by decide) rfl ?_
          rw [e73] at vU
          have c34 := wf4_2 hC.1
          have stp : ∀ V : XS, (∀ x : Int, V.1 (82, g, 0) x ≠ 0 ↔ T.1 (82, g, 0) x ≠ 0 ∨ (0 ≤ zr ∧ ∃ j : Nat, (j : Int) < C.1 (34, zr, 0) 2 ∧ C.1 (36, zr, j) 1 = 0 ∧ x = cfact C.1 zr (wG (U.1 (74, 0, 0))) j)) → PI C i n.toNat t (T0.1 (73, 0, 0)) q (fun x => V.1 (82, g, 0) x ≠ 0) hi ((f : Int) + 1) (z + 1) := fun V hV => hP.step hC i0 i1 (by omega) hF hrk (by omega) (by omega) (by rw [← e73]; omega) vU hV
          by_cases r0 : 0 ≤ zr
          · have c34 := wf34_2 hC.1 r0 (show zr < 10 by omega)
            exact l9_prf3 C T0 hC hM g hg0 hgg i n t q i0 i1 n0 n1 q0 q1 hF hO hrk (z + 1) hi f zr (wG (U.1 (74, 0, 0))) r0 rU.2 (fun x => T.1 (82, g, 0) x ≠ 0) (fun V e1 e2 e3 => ih V (f + 1) (z + 1) (by omega) e1 e2 (stp V (fun x => (e3 x).trans ⟨fun y => y.imp id (fun y => ⟨r0, y⟩), fun y => y.imp id (fun y => y.2)⟩)) (by omega)) 6 U 0 (by omega) (eT.th eU) wU rfl (by omega) (fun x => by rw [eU.1 _ (fun y => by cases y)]; exact ⟨Or.inl, fun y => y.elim id (fun y => by obtain ⟨j, j1, -⟩ := y; omega)⟩)
          · have r1 : zr = -1 := by omega
            rw [r1]
            exact l9_prf30 C T0 hC hM g hg0 hgg i n t q i0 i1 n0 n1 q0 q1 hF hO hrk (z + 1) hi f U (ih U (f + 1) (z + 1) (by omega) (eT.th eU) wU (stp U (fun x => by rw [eU.1 _ (fun y => by cases y)]; exact ⟨Or.inl, fun y => y.elim id (fun y => absurd y.1 r0)⟩)) (by omega))
set_option maxHeartbeats 4000000 in
set_option maxRecDepth 100000 in
theorem l9_prf1 (C T0 : XS) (hC : CB C) (hM : MR C T0) (g : Int) (hg0 : 0 ≤ g) (hgg : g < T0.2.2.2.2.1) (i n t q : Int) (i0 : 0 ≤ i) (i1 : i < C.1 (0, 0, 0) 6) (n0 : 0 ≤ n) (n1 : n ≤ C.1 (9, i, 0) 3) (q0 : 0 ≤ q) (q1 : q < 384) (hF : FinR C i n.toNat t (T0.1 (73, 0, 0))) (hO : OnRow T0 (onN C.1 i n.toNat)) (hrk : ∀ k, 0 ≤ T0.1 (73, 0, 0) k ∧ T0.1 (73, 0, 0) k ≤ 9999) : ∀ (nn : Nat) (T : XS) (hi z : Int), hi + 1 < (nn : Int) → (EP g T0 T) → (WI T) → (PI C i n.toNat t (T0.1 (73, 0, 0)) q (fun x => T.1 (82, g, 0) x ≠ 0) hi 0 z) → (-1 ≤ hi) → (hi < 9999) → X mX9_proof 39 [xR (50, 0, 0), xI i, xI n, xI t, xI q, xR (82, g, 0), xI z, xI hi, none, none, none] [] (hp T) 0 0 (pM T0 (fun kk z _T => kk = T0.1 (50, 0, 0) 25 ∧ z = ((cntN (fun x : Nat => PrB C i n.toNat t (T0.1 (73, 0, 0)) q x) 384 : Nat) : Int))) := by
  intro nn
  induction nn with
  | zero => intro T hi z hm eT wT hP h1 h9; exfalso; omega
  | succ nn ih =>
    intro T hi z hm eT wT hP h1 h9
    have hg1 := eT.g1 hgg
    have hz := wT.1
    have c4 := wf4_2 hC.1
    have hMT := hM.q eT.md
    refine x_iload dX9_proof_39 rfl ?_
    refine x_if_lt (tgt := 158) dX9_proof_41 (by decide) (by first | exact hz _ _ | exact hw.1 _ _ | exact zR_of _ | exact bI_z _ | assumption | exact ⟨by omega, by omega⟩) (fun c41 => ?_) (fun c41 => ?_)
    · refine x_iload dX9_proof_158 rfl ?_
      exact x_iret dX9_proof_160 rfl (pM_of eT.md wT ⟨by rw [eT.at (by decide) (by decide)], hP.last hC i0 i1 (by omega) hF hrk q0 q1 (by omega)⟩)
    · refine x_iconst dX9_proof_44 ?_
      refine x_istore (L' := [xR (50, 0, 0), xI i, xI n, xI t, xI q, xR (82, g, 0), xI z, xI hi, xI 0, none, none]) dX9_proof_45 (by decide) rfl ?_
      exact l9_prf2 C T0 hC hM g hg0 hgg i n t q i0 i1 n0 n1 q0 q1 hF hO hrk hi (by omega) (by omega) (fun U z2 e1 e2 e3 => ih U (hi - 1) z2 (by omega) e1 e2 e3.down (by omega) (by omega)) 386 T 0 z (by omega) eT wT hP (by omega)
set_option maxHeartbeats 4000000 in
set_option maxRecDepth 100000 in
theorem l9_prf0 (C T0 : XS) (hC : CB C) (hM : MR C T0) (g : Int) (hg0 : 0 ≤ g) (hgg : g < T0.2.2.2.2.1) (i n t q : Int) (i0 : 0 ≤ i) (i1 : i < C.1 (0, 0, 0) 6) (n0 : 0 ≤ n) (n1 : n ≤ C.1 (9, i, 0) 3) (q0 : 0 ≤ q) (q1 : q < 384) (hF : FinR C i n.toNat t (T0.1 (73, 0, 0))) (hO : OnRow T0 (onN C.1 i n.toNat)) (hrk : ∀ k, 0 ≤ T0.1 (73, 0, 0) k ∧ T0.1 (73, 0, 0) k ≤ 9999) (w0 : WI T0) (h82 : ∀ x, T0.1 (82, g, 0) x = 0) (h9 : T0.1 (73, 0, 0) q < 9999) : X mX9_proof 21 [xR (50, 0, 0), xI i, xI n, xI t, xI q, xR (82, g, 0), none, none, none, none, none] [] (hp T0) 0 0 (pM T0 (fun kk z _T => kk = T0.1 (50, 0, 0) 25 ∧ z = ((cntN (fun x : Nat => PrB C i n.toNat t (T0.1 (73, 0, 0)) q x) 384 : Nat) : Int))) := by
  have hg1 := hgg
  have hz := w0.1
  have rin := hrk q
  refine x_aload dX9_proof_21 rfl ?_
  refine x_iload dX9_proof_23 rfl ?_
  refine x_iconst dX9_proof_25 ?_
  refine x_astz dX9_proof_26 (hp82 T0 (by first | omega | exact hg0) (by first | omega | exact hg1)) (show (82 : Nat) ≠ 99 by decide) (by omega) (by omega) (by decide) (Or.inr rfl) ?_
  refine x_heq (pa82 T0 (by first | omega | exact hg0) (by first | omega | exact hg1) q 1) ?_
  have hw26_1 : WI (putI T0 (82, g, 0) q 1) := wpa82 w0 (by first | omega | exact hg0) (by first | omega | exact hg1) (Or.inr rfl)
  refine x_iconst dX9_proof_27 ?_
  refine x_istore (L' := [xR (50, 0, 0), xI i, xI n, xI t, xI q, xR (82, g, 0), xI 0, none, none, none, none]) dX9_proof_28 (by decide) rfl ?_
  refine x_aload_n dX9_proof_30 rfl ?_
  refine x_get (v := xR (73, 0, 0)) dX9_proof_31 fl_RX9_87 (hp50 (putI T0 (82, g, 0) q 1)) rfl ?_
  refine x_iload dX9_proof_34 rfl ?_
  refine x_aldi (f := T0.1 (73, 0, 0)) dX9_proof_36 (hp73 (putI T0 (82, g, 0) q 1)) (show (73 : Nat) ≠ 99 by decide) (by omega) (by omega) (by decide) ?_
  have f36_2 := wfa73 w0 (S := T0) q
  refine x_istore (L' := [xR (50, 0, 0), xI i, xI n, xI t, xI q, xR (82, g, 0), xI 0, xI (T0.1 (73, 0, 0) q), none, none, none]) dX9_proof_37 (by decide) rfl ?_
  exact l9_prf1 C T0 hC hM g hg0 hgg i n t q i0 i1 n0 n1 q0 q1 hF hO hrk 10000 (putI T0 (82, g, 0) q 1) (T0.1 (73, 0, 0) q) 0 (by omega) ((EP.rf g T0).p8 _ _) (by assumption) (PI.first (fun x => by rw [putI_at]; by_cases e : x = q; (rw [if_pos e]; exact ⟨fun _ => e, fun _ => by decide⟩); (rw [if_neg e]; exact ⟨fun y => absurd (h82 x) y, fun y => absurd y e⟩))) (by have := (hrk q).1; omega) h9
set_option maxHeartbeats 4000000 in
set_option maxRecDepth 100000 in
theorem m_proof (C S : XS) (hC : CB C) (hw : WI S) (hM : MR C S) (hs : 0 ≤ S.2.2.2.2.1) (i n t q : Int) (zi : zR i) (zn : zR n) (zt : zR t) (zq : zR q) : X mX9_proof 0 (xEnt mX9_proof [xR (50, 0, 0), xI i, xI n, xI t, xI q]) [] (hp S) 1 384 (pM S (fun kk z _T => (z = 0 ∧ ((kk = 1 ∧ ¬ ((0 ≤ i ∧ i < C.1 (0, 0, 0) 6) ∧ 0 ≤ n ∧ n < C.1 (9, i, 0) 3 + 1)) ∨ (kk = 2 ∧ ((0 ≤ i ∧ i < C.1 (0, 0, 0) 6) ∧ 0 ≤ n ∧ n < C.1 (9, i, 0) 3 + 1) ∧ ¬ ((0 ≤ t ∧ t < 24) ∧ 0 ≤ q ∧ q < 384)) ∨ (kk = 3 ∧ ((0 ≤ i ∧ i < C.1 (0, 0, 0) 6) ∧ 0 ≤ n ∧ n < C.1 (9, i, 0) 3 + 1) ∧ ((0 ≤ t ∧ t < 24) ∧ 0 ≤ q ∧ q < 384) ∧ ¬ (bI (hB C.1 i n.toNat t q) = 1)))) ∨ (kk = 0 ∧ ((0 ≤ i ∧ i < C.1 (0, 0, 0) 6) ∧ 0 ≤ n ∧ n < C.1 (9, i, 0) 3 + 1) ∧ ((0 ≤ t ∧ t < 24) ∧ 0 ≤ q ∧ q < 384) ∧ (bI (hB C.1 i n.toNat t q) = 1) ∧ ∃ rk, FinR C i n.toNat t rk ∧ (∀ k, 0 ≤ rk k ∧ rk k ≤ 9999) ∧ z = ((cntN (fun x : Nat => PrB C i n.toNat t rk q x) 384 : Nat) : Int)))) := by
  have c6 := wf0_6 hC.1
  have c4 := wf4_2 hC.1
  have h93 : 0 ≤ i → i < C.1 (0, 0, 0) 6 → 0 ≤ C.1 (9, i, 0) 3 ∧ C.1 (9, i, 0) 3 ≤ 60 := fun a b => wf9_3 hC.1 a (by omega)
  obtain ⟨n11, n12, n13, n24⟩ := hM.2.1
  have hz := hw.1
  show X mX9_proof 0 [xR (50, 0, 0), xI i, xI n, xI t, xI q, none, none, none, none, none, none] [] (hp S) 1 384 _
  refine x_aload_n dX9_proof_0 rfl ?_
  refine x_iload_n dX9_proof_1 rfl ?_
  refine x_iload_n dX9_proof_2 rfl ?_
  refine x_iload_n dX9_proof_3 rfl ?_
  refine x_iload dX9_proof_4 rfl ?_
  refine x_callV (a := 0) (b := 0) (as := [xI i, xI n, xI t, xI q]) (rest := []) ok_X9_isNot dX9_proof_6 wd1368 ⟨wd1370, wd42⟩ (hp50 S) rfl rfl (m_isNot C S hC hw (hM.q (MdQ.rf S)) i n t q (by first | exact hz _ _ | exact hw.1 _ _ | exact zR_of _ | exact bI_z _ | assumption | exact ⟨by omega, by omega⟩) (by first | exact hz _ _ | exact hw.1 _ _ | exact zR_of _ | exact bI_z _ | assumption | exact ⟨by omega, by omega⟩) (by first | exact hz _ _ | exact hw.1 _ _ | exact zR_of _ | exact bI_z _ | assumption | exact ⟨by omega, by omega⟩) (by first | exact hz _ _ | exact hw.1 _ _ | exact zR_of _ | exact bI_z _ | assumption | exact ⟨by omega, by omega⟩)) rfl (Nat.le_of_ble_eq_true rfl) (Nat.le_of_ble_eq_true rfl) (by decide) (by omega) (by omega) (fun _ q => by obtain ⟨_, _, _, y, _⟩ := q; cases y) (fun _ _ q => ?_) (fun _ _ q => by obtain ⟨_, _, _, y, _⟩ := q; cases y)
  obtain ⟨U1, z1, rfl, y1, qU1, wU1, hU1⟩ := q
  cases y1
  have sU1 := (MdQ.rf S).tr qU1
  rcases hU1 with ⟨rfl, hU1⟩ | ⟨rfl, kU1, bkU1, hfU1, hbU1, fU1, oU1⟩
  · refine x_if_eq (tgt := 14) dX9_proof_9 (by decide) ⟨by decide, by decide⟩ (fun z => absurd z (by decide)) (fun _ => ?_)
    refine x_iconst dX9_proof_12 ?_
    exact x_iret dX9_proof_13 rfl (pM_of sU1 wU1 (Or.inl ⟨rfl, by omega⟩))
  · refine x_if_eq (tgt := 14) dX9_proof_9 (by decide) ⟨by decide, by decide⟩ (fun _ => ?_) (fun z => absurd z (by decide))
    refine x_sipush (v := 384) dX9_proof_14 (by decide) ?_
    have k93 := h93 (by omega) (by omega)
    have hs1 : 0 ≤ U1.2.2.2.2.1 := Int.le_trans hs sU1.2.2.2.2.2.2
    refine x_newarray (82, U1.2.2.2.2.1, 0) (t := 2) (n := 384) (N := 384) dX9_proof_17 rfl wd123 (hp_no (fun z => by have := z.2.1; omega)) (show (82 : Nat) ≠ 99 by decide) rfl (by decide) (by omega) (by omega) ?_
    refine x_heq (hp_scr hs1) ?_
    refine x_astore (L' := [xR (50, 0, 0), xI i, xI n, xI t, xI q, xR (82, U1.2.2.2.2.1, 0), none, none, none, none, none]) dX9_proof_19 (by decide) rfl ?_
    have fb := (fU1.hb hC (show 0 ≤ i by omega) (by omega) (show (n.toNat : Int) ≤ C.1 (9, i, 0) 3 by omega) (q := q) (by omega) (by omega)).1.mpr (bI_1.mp (by omega))
    refine X.weak (l9_prf0 C (sScr U1) hC (hM.q (sU1.tr MdQ.scr)) U1.2.2.2.2.1 hs1 (by show U1.2.2.2.2.1 < U1.2.2.2.2.1 + 1; omega) i n t q (by omega) (by omega) (by omega) (by omega) (by omega) (by omega) (by rw [scr_at (by decide)]; exact fU1) (oU1.q (scr_at (by decide))) (fun k => by rw [scr_at (by decide)]; exact wfa73 wU1 k) (scr_wi wU1) (scr_0 U1) (by rw [scr_at (by decide)]; exact fb)) (Nat.zero_le _) (Nat.zero_le _) (fun o h' q => ?_)
    obtain ⟨T, z, rfl, rfl, qT, wT, e1, e2⟩ := q
    rw [scr_at (by decide)] at e1 e2
    exact pM_of ((sU1.tr MdQ.scr).tr qT) wT (Or.inr ⟨by omega, by omega, by omega, by omega, U1.1 (73, 0, 0), fU1, fun k => wfa73 wU1 k, e2⟩)
