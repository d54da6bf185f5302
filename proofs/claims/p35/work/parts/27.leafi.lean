/-! a layer of what follows -/
def OnAt (S : XS) (L : Int) (j : Nat) : Prop := (j : Int) < S.1 (4, 0, 0) 2 ∧ bitI (S.1 (6, 0, 0) 2) j ∧ S.1 (33, 0, 0) (S.1 (37, j, 0) 0) = L
def RulesOk (S : XS) : Prop := ∀ j : Nat, (j : Int) < S.1 (4, 0, 0) 2 → RuleOk S.1 j ∧ StrOk S.1 j
def DLInv (S : XS) (L : Int) (F0 F : Int → Int64) : Prop := (∀ x : Int, 0 ≤ x → x ≤ 5 → S.1 (33, 0, 0) x ≠ L → F x = F0 x) ∧ Sub F0 F ∧ ∀ X : Int → Int64, Sub F0 X → (∀ j : Nat, OnAt S L j → Cls S.1 X F0 j) → Sub F X
def DLq (S : XS) (L : Int) (F : Int → Int64) (G N : Int) (i : Nat) : Prop := ∀ j : Nat, OnAt S L j → (i ≤ j ∧ zAnd (S.1 (34, j, 0) 3) G ≠ 0) ∨ zAnd (S.1 (34, j, 0) 3) N ≠ 0 ∨ Cls S.1 F F j
def pDL (S : XS) (L : Int) (F0 : Int → Int64) : XO → XH → Prop := fun o h' => o = .inl none ∧ ∃ F, h' = hp (rowJ S (26, 0, 0) F 6) ∧ DLInv S L F0 F ∧ ∀ j : Nat, OnAt S L j → Cls S.1 F F j
/-- what a rule's head gets -/
noncomputable def dlV (S : XS) (F : Int → Int64) (i : Nat) : Int64 := F (S.1 (37, i, 0) 0) ||| headsF S.1 F F i
noncomputable def dlF (S : XS) (F : Int → Int64) (i : Nat) : Int → Int64 := xUpd F (S.1 (37, i, 0) 0) (dlV S F i)
theorem dlF_sub (S : XS) (F : Int → Int64) (i : Nat) : Sub F (dlF S F i) := by
  intro x x0 x1 p hp h
  unfold dlF xUpd
  split
  · next e => rw [dlV, bitJ_or _ _ _ hp, ← e]; exact Or.inl h
  · exact h
theorem Sub.rf (A : Int → Int64) : Sub A A := fun _ _ _ _ _ h => h
theorem Sub.tr {A B C : Int → Int64} (h : Sub A B) (k : Sub B C) : Sub A C := fun x x0 x1 p hp q => k x x0 x1 p hp (h x x0 x1 p hp q)
theorem dl_rel {S : XS} (hw : WI S) {j i : Nat} (hj : (j : Int) < S.1 (4, 0, 0) 2) (hi : (i : Int) < S.1 (34, j, 0) 2) : 0 ≤ S.1 (36, j, i) 0 ∧ S.1 (36, j, i) 0 ≤ 5 := by
  have a := wf4_2 hw
  have b := wf34_2 hw (b := (j : Int)) (by omega) (by omega)
  exact wf36_0 hw (b := (j : Int)) (t := (i : Int)) (by omega) (by omega) (by omega) (by omega)
theorem DLInv.up {S : XS} (hw : WI S) (HR : RulesOk S) {L : Int} {F0 F : Int → Int64} (h : DLInv S L F0 F) {i : Nat} (hi : OnAt S L i) : DLInv S L F0 (dlF S F i) := by
  obtain ⟨h1, h2, h3⟩ := h
  refine ⟨fun x x0 x1 hx => ?_, h2.tr (dlF_sub S F i), fun X hX hc => ?_⟩
  · unfold dlF xUpd
    split
    · next e => exact absurd (e ▸ hi.2.2) hx
    · exact h1 x x0 x1 hx
  · have hs := h3 X hX hc
    intro x x0 x1 p hp q
    unfold dlF xUpd at q
    split at q
    · next e =>
      subst e
      rw [dlV, bitJ_or _ _ _ hp] at q
      rcases q with q | q
      · exact hs _ x0 x1 p hp q
      · refine hc i hi p hp (heads_mono (HR i hi.1).1 (fun k hk _ p hp z => ?_) (fun k hk _ p hp z => ?_) hp q)
        · have r := dl_rel hw hi.1 hk
          exact hs _ r.1 r.2 p hp z
        · have r := dl_rel hw hi.1 hk
          exact h2 _ r.1 r.2 p hp z
    · exact hs x x0 x1 p hp q
theorem leastG_ge (f : XL → Int → Int) (g : Int → Int) (r : Int) (n : Nat) (i : Nat) (hi : i < n) : (f (36, r, i) 1 = 0 → g (f (36, r, i) 0) ≤ leastG f g r n) ∧ (f (36, r, i) 1 ≠ 0 → g (f (36, r, i) 0) + 1 ≤ leastG f g r n) := by
  induction n with
  | zero => omega
  | succ n ih =>
    rcases Nat.lt_or_eq_of_le (show i ≤ n by omega) with z | z
    · have ih := ih z
      simp only [leastG]
      constructor <;> intro c
      · have := ih.1 c
        (repeat' split) <;> omega
      · have := ih.2 c
        (repeat' split) <;> omega
    · subst z
      simp only [leastG]
      constructor <;> intro c
      · rw [if_pos c]; split <;> omega
      · rw [if_neg c]; split <;> omega
/-- a rule that does not read what changed comes to no more -/
theorem dl_frame {S : XS} (hw : WI S) (HR : RulesOk S) (HL : Lay S.1 (S.1 (6, 0, 0) 2) (S.1 (33, 0, 0))) {L : Int} {F : Int → Int64} {i j : Nat} (hi : OnAt S L i) (hj : OnAt S L j) (hn : ¬ bitI (S.1 (34, j, 0) 3) (S.1 (37, i, 0) 0)) {p : Nat} (hp : p < 64) (q : bitJ (headsF S.1 (dlF S F i) (dlF S F i) j) p) : bitJ (headsF S.1 F F j) p := by
  have a := wf4_2 hw
  have hd := wf37_0 hw (b := (i : Int)) (by omega) (by have := hi.1; omega)
  have sz := wf34_2 hw (b := (j : Int)) (by omega) (by have := hj.1; omega)
  refine heads_mono (HR j hj.1).1 (fun k hk c p hp z => ?_) (fun k hk c p hp z => ?_) hp q
  · have e : S.1 (36, j, k) 0 ≠ S.1 (37, i, 0) 0 := fun e => hn (by
      have r := dl_rel hw hj.1 hk
      rw [← e]
      obtain ⟨x, hx⟩ := Int.eq_ofNat_of_zero_le r.1
      rw [hx]
      exact ((HR j hj.1).2.1 x (by omega)).mpr ⟨k, hk, c, hx⟩)
    unfold dlF xUpd at z
    rw [if_neg e] at z
    exact z
  · have e : S.1 (36, j, k) 0 ≠ S.1 (37, i, 0) 0 := fun e => by
      have y := HL j hj.1 hj.2.1
      have w := (leastG_ge S.1 (S.1 (33, 0, 0)) j (S.1 (34, j, 0) 2).toNat k (by omega)).2 c
      rw [e, hi.2.2] at w
      rw [hj.2.2] at y
      omega
    unfold dlF xUpd
    rw [if_neg e]
    exact z
theorem or63 {N h : Int} (n0 : 0 ≤ N) (n1 : N ≤ 63) (h0 : 0 ≤ h) (h1 : h ≤ 5) : 0 ≤ zOr N (zShl 1 h) ∧ zOr N (zShl 1 h) ≤ 63 ∧ zOr N (zShl 1 h) ≠ 0 ∧ ∀ x : Nat, x < 6 → (bitI (zOr N (zShl 1 h)) x ↔ bitI N x ∨ (x : Int) = h) := by
  have a := or_63 ⟨n0, n1⟩ ⟨h0, h1⟩
  have b := zShl1_in h h0 h1
  have c := zOr_in 6 (by decide) N (zShl 1 h) n0 (by omega) (by omega) (by omega)
  exact ⟨a.1, a.2, by omega, fun x hx => bitI_orI N h x n0 (by omega) h0 (by omega) (by omega) (by omega)⟩
theorem zOr_N0 {N : Int} (n0 : 0 ≤ N) (n1 : N ≤ 63) : zOr N 0 = N := by
  obtain ⟨n, rfl⟩ := Int.eq_ofNat_of_zero_le n0
  exact zOr_z n (by omega)
theorem str_in {S : XS} (hw : WI S) {j : Nat} (hj : (j : Int) < S.1 (4, 0, 0) 2) : 0 ≤ S.1 (34, j, 0) 3 ∧ S.1 (34, j, 0) 3 ≤ 63 := by
  have a := wf4_2 hw
  exact wf34_3 hw (b := (j : Int)) (by omega) (by omega)
theorem DLq.changed {S : XS} (hw : WI S) (HR : RulesOk S) (HL : Lay S.1 (S.1 (6, 0, 0) 2) (S.1 (33, 0, 0))) {L : Int} {F : Int → Int64} {G N : Int} {i : Nat} (n0 : 0 ≤ N) (n1 : N ≤ 63) (h : DLq S L F G N i) (hi : OnAt S L i) : DLq S L (dlF S F i) G (zOr N (zShl 1 (S.1 (37, i, 0) 0))) (i + 1) := by
  intro j hj
  have a := wf4_2 hw
  have hd := wf37_0 hw (b := (i : Int)) (by omega) (by have := hi.1; omega)
  have st := str_in hw hj.1
  obtain ⟨o0, o1, -, o2⟩ := or63 n0 n1 hd.1 hd.2
  by_cases c : bitI (S.1 (34, j, 0) 3) (S.1 (37, i, 0) 0)
  · right; left
    rw [zAnd_bit _ _ st.1 st.2 o0 o1]
    obtain ⟨x, hx⟩ := Int.eq_ofNat_of_zero_le hd.1
    refine ⟨x, by omega, by rw [← hx]; exact c, (o2 x (by omega)).mpr (Or.inr hx.symm)⟩
  · rcases h j hj with ⟨q1, q2⟩ | q | q
    · by_cases e : i = j
      · subst e
        right; right
        intro p hp z
        have y := dl_frame hw HR HL hi hj c hp z
        unfold dlF xUpd
        rw [if_pos rfl, dlV, bitJ_or _ _ _ hp]
        exact Or.inr y
      · left; exact ⟨by omega, q2⟩
    · right; left
      rw [zAnd_bit _ _ st.1 st.2 o0 o1]
      rw [zAnd_bit _ _ st.1 st.2 n0 n1] at q
      obtain ⟨x, x0, x1, x2⟩ := q
      exact ⟨x, x0, x1, (o2 x x0).mpr (Or.inl x2)⟩
    · right; right
      intro p hp z
      have hdj := wf37_0 hw (b := (j : Int)) (by omega) (by have := hj.1; omega)
      exact dlF_sub S F i _ hdj.1 hdj.2 p hp (q p hp (dl_frame hw HR HL hi hj c hp z))
theorem dlF_same {S : XS} {F : Int → Int64} {i : Nat} (h : dlV S F i = F (S.1 (37, i, 0) 0)) : dlF S F i = F := by
  funext x
  unfold dlF xUpd
  split
  · next e => rw [h, e]
  · rfl
theorem DLq.same {S : XS} {L : Int} {F : Int → Int64} {G N : Int} {i : Nat} (h : DLq S L F G N i) (hv : dlV S F i = F (S.1 (37, i, 0) 0)) : DLq S L F G N (i + 1) := by
  intro j hj
  rcases h j hj with ⟨q1, q2⟩ | q | q
  · by_cases e : i = j
    · subst e
      right; right
      intro p hp z
      rw [← hv, dlV, bitJ_or _ _ _ hp]
      exact Or.inr z
    · left; exact ⟨by omega, q2⟩
  · exact Or.inr (Or.inl q)
  · exact Or.inr (Or.inr q)
theorem DLq.skip {S : XS} {L : Int} {F : Int → Int64} {G N : Int} {i : Nat} (h : DLq S L F G N i) (hv : ¬ (OnAt S L i ∧ zAnd (S.1 (34, i, 0) 3) G ≠ 0)) : DLq S L F G N (i + 1) := by
  intro j hj
  rcases h j hj with ⟨q1, q2⟩ | q | q
  · by_cases e : i = j
    · subst e; exact absurd ⟨hj, q2⟩ hv
    · left; exact ⟨by omega, q2⟩
  · exact Or.inr (Or.inl q)
  · exact Or.inr (Or.inr q)
theorem heads_row {S : XS} (hw : WI S) (HR : RulesOk S) {F : Int → Int64} {i : Nat} (hi : (i : Int) < S.1 (4, 0, 0) 2) : headsF S.1 ((rowJ S (26, 0, 0) F 6).2.1 (26, 0, 0)) ((rowJ S (26, 0, 0) F 6).2.1 (26, 0, 0)) i = headsF S.1 F F i := by
  apply bitJ_ext
  intro p hp
  have e : ∀ k : Nat, (k : Int) < S.1 (34, i, 0) 2 → (rowJ S (26, 0, 0) F 6).2.1 (26, 0, 0) (S.1 (36, i, k) 0) = F (S.1 (36, i, k) 0) := fun k hk => by
    have r := dl_rel hw hi hk
    exact rowJ_at S _ F (n := 6) r.1 (by omega)
  constructor
  · exact heads_mono (HR i hi).1 (fun k hk _ p hp z => by rw [← e k hk]; exact z) (fun k hk _ p hp z => by rw [e k hk]; exact z) hp
  · exact heads_mono (HR i hi).1 (fun k hk _ p hp z => by rw [e k hk]; exact z) (fun k hk _ p hp z => by rw [← e k hk]; exact z) hp
theorem str_63 {S : XS} (hw : WI S) (HR : RulesOk S) {j : Nat} (hj : (j : Int) < S.1 (4, 0, 0) 2) : zAnd (S.1 (34, j, 0) 3) 63 ≠ 0 := by
  have st := str_in hw hj
  have q := (HR j hj).2
  have r := dl_rel hw (i := 0) hj q.2.1
  obtain ⟨x, hx⟩ := Int.eq_ofNat_of_zero_le r.1
  rw [zAnd_bit _ _ st.1 st.2 (by decide) (by decide)]
  have hx6 : x < 6 := by omega
  refine ⟨x, hx6, (q.1 x hx6).mpr ⟨0, q.2.1, q.2.2, hx⟩, ?_⟩
  rw [show (63 : Int) = ((63 : Nat) : Int) from rfl, bitI_nat 63 x (by decide) (by omega)]
  have : x = 0 ∨ x = 1 ∨ x = 2 ∨ x = 3 ∨ x = 4 ∨ x = 5 := by omega
  rcases this with rfl | rfl | rfl | rfl | rfl | rfl <;> decide
theorem zAnd_0 (a : Int) : zAnd a 0 = 0 := by
  show ((zI a) &&& (zI 0)).toInt = 0
  rw [zI_0, Int32.and_zero]
  rfl
set_option maxHeartbeats 4000000 in
set_option maxRecDepth 100000 in
theorem l_deriveLayerI (S : XS) (hw : WI S) (HR : RulesOk S) (HL : Lay S.1 (S.1 (6, 0, 0) 2) (S.1 (33, 0, 0))) (L : Int) (g0 : 0 ≤ L) (g1 : L ≤ 5) (F0 : Int → Int64) (step : Int) (s0 : 0 ≤ step) (s1 : step ≤ 384) (G : Int) (KK : ∀ (F : Int → Int64) (N : Int), 0 ≤ N → N ≤ 63 → DLInv S L F0 F → (∀ j : Nat, OnAt S L j → zAnd (S.1 (34, j, 0) 3) N ≠ 0 ∨ Cls S.1 F F j) → (N ≠ 0 → step + 1 ≤ cntF F) → X mX5_deriveLayer 6 [xR (4, 0, 0), xR (6, 0, 0), xI L, xI N, xI (step + 1), none, none, none, none, none, none] [] (hp (rowJ S (26, 0, 0) F 6)) 0 0 (pDL S L F0)) : ∀ (nn : Nat) (i : Nat) (N : Int) (F : Int → Int64), 11 - (i : Int) < (nn : Int) → ((i : Int) ≤ S.1 (4, 0, 0) 2) → ((i : Int) ≤ 10) → (0 ≤ N) → (N ≤ 63) → (DLInv S L F0 F) → (DLq S L F G N i) → (step ≤ cntF F) → (N ≠ 0 → step + 1 ≤ cntF F) → X mX5_deriveLayer 26 [xR (4, 0, 0), xR (6, 0, 0), xI L, xI N, xI step, xI G, xI (i : Int), none, none, none, none] [] (hp (rowJ S (26, 0, 0) F 6)) 0 0 (pDL S L F0) := by
  intro nn
  induction nn with
  | zero => intro i N F hm hi hi2 n0 n1 hI hq hc hc2; exfalso; omega
  | succ nn ih =>
    intro i N F hm hi hi2 n0 n1 hI hq hc hc2
    have hz := hw.1
    have hn4 := wf4_2 hw
    refine x_iload dX5_deriveLayer_26 rfl ?_
    refine x_aload_n dX5_deriveLayer_28 rfl ?_
    refine x_get (v := xI (S.1 (4, 0, 0) 2)) dX5_deriveLayer_29 fl_RX5_21 (hp4 (rowJ S (26, 0, 0) F 6)) rfl ?_
    have f29_1 := wf4_2 hw (S := S)
    refine x_icmp_ge (tgt := 146) dX5_deriveLayer_32 (by decide) (by first | exact hz _ _ | exact hw.1 _ _ | exact zR_of _ | assumption | exact ⟨by omega, by omega⟩) (by first | exact hz _ _ | exact hw.1 _ _ | exact zR_of _ | assumption | exact ⟨by omega, by omega⟩) (fun c32 => ?_) (fun c32 => ?_)
    · refine x_iinc (L' := [xR (4, 0, 0), xR (6, 0, 0), xI L, xI N, xI (step + 1), xI G, xI (i : Int), none, none, none, none]) dX5_deriveLayer_146 rfl rfl ?_
      refine x_goto (tgt := 6) dX5_deriveLayer_149 (by decide) ?_
      refine X.loc (L' := [xR (4, 0, 0), xR (6, 0, 0), xI L, xI N, xI (step + 1), none, none, none, none, none, none]) ⟨rfl, ⟨rfl, ⟨rfl, ⟨rfl, ⟨rfl, trivial⟩⟩⟩⟩⟩ ?_
      exact KK F N n0 n1 hI (fun j hj => by rcases hq j hj with ⟨z, -⟩ | z | z; exact absurd hj.1 (by omega); exact Or.inl z; exact Or.inr z) hc2
    · refine x_aload_n dX5_deriveLayer_35 rfl ?_
      refine x_get (v := xR (32, 0, 0)) dX5_deriveLayer_36 fl_RX5_11 (hp4 (rowJ S (26, 0, 0) F 6)) rfl ?_
      refine x_iload dX5_deriveLayer_39 rfl ?_
      refine x_alda (l2 := (34, (i : Int), 0)) dX5_deriveLayer_41 (hp32 (rowJ S (26, 0, 0) F 6)) (show (32 : Nat) ≠ 99 by decide) (by decide) (by decide) (by omega) (by omega) (by decide) rfl ?_
      refine x_astore (L' := [xR (4, 0, 0), xR (6, 0, 0), xI L, xI N, xI step, xI G, xI (i : Int), xR (34, (i : Int), 0), none, none, none]) dX5_deriveLayer_42 (by decide) rfl ?_
      refine x_aload dX5_deriveLayer_44 rfl ?_
      refine x_get (v := xR (37, (i : Int), 0)) dX5_deriveLayer_46 fl_RX5_48 (hp34 (rowJ S (26, 0, 0) F 6) (by omega) (by omega)) rfl ?_
      refine x_get (v := xI (S.1 (37, (i : Int), 0) 0)) dX5_deriveLayer_49 fl_RX5_52 (hp37 (rowJ S (26, 0, 0) F 6) (by omega) (by omega)) rfl ?_
      have f49_2 := wf37_0 hw (S := S) (b := (i : Int)) (by omega) (by omega)
      refine x_istore (L' := [xR (4, 0, 0), xR (6, 0, 0), xI L, xI N, xI step, xI G, xI (i : Int), xR (34, (i : Int), 0), xI (S.1 (37, (i : Int), 0) 0), none, none]) dX5_deriveLayer_52 (by decide) rfl ?_
      refine x_iload dX5_deriveLayer_54 rfl ?_
      refine x_aload_n dX5_deriveLayer_56 rfl ?_
      refine x_get (v := xI (S.1 (6, 0, 0) 2)) dX5_deriveLayer_57 fl_RX5_87 (hp6 (rowJ S (26, 0, 0) F 6)) rfl ?_
      refine x_callSN_r (a := 0) (b := 0) (as := [xI (i : Int), xI (S.1 (6, 0, 0) 2)]) (rest := []) ok_X8_isAmong dX5_deriveLayer_60 wn382 wd383 (c_isAmong (rowJ S (26, 0, 0) F 6) (i : Int) (S.1 (6, 0, 0) 2)) rfl (Nat.le_of_ble_eq_true rfl) (Nat.le_of_ble_eq_true rfl) (by decide) (by omega) (by omega) ?_
      by_cases b60 : zAnd (zShr (S.1 (6, 0, 0) 2) (i : Int)) 1 ≠ 0
      · refine x_top (bI_t b60) ?_
        refine x_if_eq (tgt := 140) dX5_deriveLayer_63 (by decide) ⟨by decide, by decide⟩ (fun z => absurd z (by decide)) (fun _ => ?_)
        refine x_aload_n dX5_deriveLayer_66 rfl ?_
        refine x_get (v := xR (33, 0, 0)) dX5_deriveLayer_67 fl_RX5_17 (hp4 (rowJ S (26, 0, 0) F 6)) rfl ?_
        refine x_iload dX5_deriveLayer_70 rfl ?_
        refine x_aldi (f := S.1 (33, 0, 0)) dX5_deriveLayer_72 (hp33 (rowJ S (26, 0, 0) F 6)) (show (33 : Nat) ≠ 99 by decide) (by omega) (by omega) (by decide) ?_
        have f72_3 := wfa33 hw (S := S) (S.1 (37, (i : Int), 0) 0)
        refine x_iload_n dX5_deriveLayer_73 rfl ?_
        refine x_icmp_ne (tgt := 140) dX5_deriveLayer_74 (by decide) (by first | exact hz _ _ | exact hw.1 _ _ | exact zR_of _ | assumption | exact ⟨by omega, by omega⟩) (by first | exact hz _ _ | exact hw.1 _ _ | exact zR_of _ | assumption | exact ⟨by omega, by omega⟩) (fun c74 => ?_) (fun c74 => ?_)
        · refine x_iinc (L' := [xR (4, 0, 0), xR (6, 0, 0), xI L, xI N, xI step, xI G, xI ((i : Int) + 1), xR (34, (i : Int), 0), xI (S.1 (37, (i : Int), 0) 0), none, none]) dX5_deriveLayer_140 rfl rfl ?_
          refine x_goto (tgt := 26) dX5_deriveLayer_143 (by decide) ?_
          refine X.loc (L' := [xR (4, 0, 0), xR (6, 0, 0), xI L, xI N, xI step, xI G, xI ((i : Int) + 1), none, none, none, none]) ⟨rfl, ⟨rfl, ⟨rfl, ⟨rfl, ⟨rfl, ⟨rfl, ⟨rfl, trivial⟩⟩⟩⟩⟩⟩⟩ ?_
          refine ih (i + 1) N F (by omega) (by omega) (by omega) n0 n1 hI (hq.skip ?_) hc hc2
          rintro ⟨⟨z1, z2, z3⟩, z4⟩
          first | exact absurd z2 (by assumption) | exact absurd z3 (by assumption) | exact absurd z4 (by omega)
        · refine x_aload dX5_deriveLayer_77 rfl ?_
          refine x_get (v := xI (S.1 (34, (i : Int), 0) 3)) dX5_deriveLayer_79 fl_RX5_94 (hp34 (rowJ S (26, 0, 0) F 6) (by omega) (by omega)) rfl ?_
          have f79_4 := wf34_3 hw (S := S) (b := (i : Int)) (by omega) (by omega)
          refine x_iload dX5_deriveLayer_82 rfl ?_
          refine x_iand dX5_deriveLayer_84 ?_
          refine x_if_eq (tgt := 140) dX5_deriveLayer_85 (by decide) (by first | exact hz _ _ | exact hw.1 _ _ | exact zR_of _ | assumption | exact ⟨by omega, by omega⟩) (fun c85 => ?_) (fun c85 => ?_)
          · refine x_iinc (L' := [xR (4, 0, 0), xR (6, 0, 0), xI L, xI N, xI step, xI G, xI ((i : Int) + 1), xR (34, (i : Int), 0), xI (S.1 (37, (i : Int), 0) 0), none, none]) dX5_deriveLayer_140 rfl rfl ?_
            refine x_goto (tgt := 26) dX5_deriveLayer_143 (by decide) ?_
            refine X.loc (L' := [xR (4, 0, 0), xR (6, 0, 0), xI L, xI N, xI step, xI G, xI ((i : Int) + 1), none, none, none, none]) ⟨rfl, ⟨rfl, ⟨rfl, ⟨rfl, ⟨rfl, ⟨rfl, ⟨rfl, trivial⟩⟩⟩⟩⟩⟩⟩ ?_
            refine ih (i + 1) N F (by omega) (by omega) (by omega) n0 n1 hI (hq.skip ?_) hc hc2
            rintro ⟨⟨z1, z2, z3⟩, z4⟩
            first | exact absurd z2 (by assumption) | exact absurd z3 (by assumption) | exact absurd z4 (by omega)
          · refine x_aload_n dX5_deriveLayer_88 rfl ?_
            refine x_get (v := xR (26, 0, 0)) dX5_deriveLayer_89 fl_RX5_78 (hp6 (rowJ S (26, 0, 0) F 6)) rfl ?_
            refine x_iload dX5_deriveLayer_92 rfl ?_
            refine x_aldj (f := (rowJ S (26, 0, 0) F 6).2.1 (26, 0, 0)) dX5_deriveLayer_94 (hp26 (rowJ S (26, 0, 0) F 6)) (show (26 : Nat) ≠ 99 by decide) (by omega) (by omega) (by decide) ?_
            refine x_topJ (show (rowJ S (26, 0, 0) F 6).2.1 (26, 0, 0) (S.1 (37, (i : Int), 0) 0) = F (S.1 (37, (i : Int), 0) 0) from rowJ_at _ _ _ (by omega) (by omega)) ?_
            refine x_lstore (L' := [xR (4, 0, 0), xR (6, 0, 0), xI L, xI N, xI step, xI G, xI (i : Int), xR (34, (i : Int), 0), xI (S.1 (37, (i : Int), 0) 0), xJ (F (S.1 (37, (i : Int), 0) 0)), none]) dX5_deriveLayer_95 (by decide) rfl ?_
            refine x_aload_n dX5_deriveLayer_97 rfl ?_
            refine x_get (v := xR (26, 0, 0)) dX5_deriveLayer_98 fl_RX5_78 (hp6 (rowJ S (26, 0, 0) F 6)) rfl ?_
            refine x_iload dX5_deriveLayer_101 rfl ?_
            refine x_dup2 dX5_deriveLayer_103 rfl rfl ?_
            refine x_aldj (f := (rowJ S (26, 0, 0) F 6).2.1 (26, 0, 0)) dX5_deriveLayer_104 (hp26 (rowJ S (26, 0, 0) F 6)) (show (26 : Nat) ≠ 99 by decide) (by omega) (by omega) (by decide) ?_
            refine x_topJ (show (rowJ S (26, 0, 0) F 6).2.1 (26, 0, 0) (S.1 (37, (i : Int), 0) 0) = F (S.1 (37, (i : Int), 0) 0) from rowJ_at _ _ _ (by omega) (by omega)) ?_
            refine x_aload dX5_deriveLayer_105 rfl ?_
            refine x_aload_n dX5_deriveLayer_107 rfl ?_
            refine x_get (v := xR (26, 0, 0)) dX5_deriveLayer_108 fl_RX5_78 (hp6 (rowJ S (26, 0, 0) F 6)) rfl ?_
            have hr := (HR i (by omega)).1
            refine x_callV_r (a := 0) (b := 0) (as := [xR (26, 0, 0)]) (rest := [xJ (F (S.1 (37, (i : Int), 0) 0)), xI (S.1 (37, (i : Int), 0) 0), xR (26, 0, 0)]) ok_X4_headsFrom dX5_deriveLayer_111 wd396 ⟨wd397, wd398⟩ (hp34 (rowJ S (26, 0, 0) F 6) (by omega) (by omega)) rfl rfl (c_headsFrom (rowJ S (26, 0, 0) F 6) (WI.row hw) (i : Int) (by omega) (by omega) hr) rfl (Nat.le_of_ble_eq_true rfl) (Nat.le_of_ble_eq_true rfl) (by decide) (by omega) (by omega) ?_
            refine x_topJ (show headsF S.1 ((rowJ S (26, 0, 0) F 6).2.1 (26, 0, 0)) ((rowJ S (26, 0, 0) F 6).2.1 (26, 0, 0)) (i : Int) = headsF S.1 F F i from heads_row hw HR (by omega)) ?_
            refine x_lor dX5_deriveLayer_114 ?_
            refine x_astj dX5_deriveLayer_115 (hp26 (rowJ S (26, 0, 0) F 6)) (show (26 : Nat) ≠ 99 by decide) (by omega) (by omega) (by decide) ?_
            refine x_heq (pa26 (rowJ S (26, 0, 0) F 6) (S.1 (37, (i : Int), 0) 0) ((F (S.1 (37, (i : Int), 0) 0)) ||| (headsF S.1 F F i))) ?_
            have hw115_5 : WI (putJ (rowJ S (26, 0, 0) F 6) (26, 0, 0) (S.1 (37, (i : Int), 0) 0) ((F (S.1 (37, (i : Int), 0) 0)) ||| (headsF S.1 F F i))) := (WI.row hw).puJ
            refine x_heq (show hp (rowJ S (26, 0, 0) (dlF S F i) 6) = hp (putJ (rowJ S (26, 0, 0) F 6) (26, 0, 0) (S.1 (37, (i : Int), 0) 0) ((F (S.1 (37, (i : Int), 0) 0)) ||| (headsF S.1 F F i))) from by rw [putJ_rowJ _ _ _ _ (by omega) (by omega)]; rfl) ?_
            refine x_iload_n dX5_deriveLayer_116 rfl ?_
            refine x_aload_n dX5_deriveLayer_117 rfl ?_
            refine x_get (v := xR (26, 0, 0)) dX5_deriveLayer_118 fl_RX5_78 (hp6 (rowJ S (26, 0, 0) (dlF S F i) 6)) rfl ?_
            refine x_iload dX5_deriveLayer_121 rfl ?_
            refine x_aldj (f := (rowJ S (26, 0, 0) (dlF S F i) 6).2.1 (26, 0, 0)) dX5_deriveLayer_123 (hp26 (rowJ S (26, 0, 0) (dlF S F i) 6)) (show (26 : Nat) ≠ 99 by decide) (by omega) (by omega) (by decide) ?_
            refine x_topJ (show (rowJ S (26, 0, 0) (dlF S F i) 6).2.1 (26, 0, 0) (S.1 (37, (i : Int), 0) 0) = dlV S F i from (rowJ_at _ _ _ (by omega) (by omega)).trans (by unfold dlF xUpd; rw [if_pos rfl])) ?_
            refine x_lload dX5_deriveLayer_124 rfl ?_
            refine x_lcmp dX5_deriveLayer_126 ?_
            refine x_if_ne (tgt := 134) dX5_deriveLayer_127 (by decide) (by first | exact hz _ _ | exact hw.1 _ _ | exact zR_of _ | assumption | exact ⟨by omega, by omega⟩) (fun c127 => ?_) (fun c127 => ?_)
            · refine x_iconst dX5_deriveLayer_134 ?_
              refine x_iload dX5_deriveLayer_135 rfl ?_
              refine x_ishl dX5_deriveLayer_137 ?_
              refine x_ior dX5_deriveLayer_138 ?_
              refine x_istore_n (L' := [xR (4, 0, 0), xR (6, 0, 0), xI L, xI (zOr N (zShl 1 (S.1 (37, (i : Int), 0) 0))), xI step, xI G, xI (i : Int), xR (34, (i : Int), 0), xI (S.1 (37, (i : Int), 0) 0), xJ (F (S.1 (37, (i : Int), 0) 0)), none]) dX5_deriveLayer_139 (by decide) rfl ?_
              refine x_iinc (L' := [xR (4, 0, 0), xR (6, 0, 0), xI L, xI (zOr N (zShl 1 (S.1 (37, (i : Int), 0) 0))), xI step, xI G, xI ((i : Int) + 1), xR (34, (i : Int), 0), xI (S.1 (37, (i : Int), 0) 0), xJ (F (S.1 (37, (i : Int), 0) 0)), none]) dX5_deriveLayer_140 rfl rfl ?_
              refine x_goto (tgt := 26) dX5_deriveLayer_143 (by decide) ?_
              refine X.loc (L' := [xR (4, 0, 0), xR (6, 0, 0), xI L, xI (zOr N (zShl 1 (S.1 (37, (i : Int), 0) 0))), xI step, xI G, xI ((i : Int) + 1), none, none, none, none]) ⟨rfl, ⟨rfl, ⟨rfl, ⟨rfl, ⟨rfl, ⟨rfl, ⟨rfl, trivial⟩⟩⟩⟩⟩⟩⟩ ?_
              have o := or63 n0 n1 (h := (S.1 (37, (i : Int), 0) 0)) (by omega) (by omega)
              have ho : OnAt S L i := ⟨by omega, by assumption, by assumption⟩
              have k := cntF_lt (dlF_sub S F i) (x := (S.1 (37, (i : Int), 0) 0)) (by omega) (by omega) (fun z => c127 (lg0.mpr (by rw [z]; unfold dlF xUpd; rw [if_pos rfl])))
              exact ih (i + 1) _ _ (by omega) (by omega) (by omega) o.1 o.2.1 (hI.up hw HR ho) (hq.changed hw HR HL n0 n1 ho) (by omega) (fun _ => by omega)
            · refine x_iconst dX5_deriveLayer_130 ?_
              refine x_goto (tgt := 138) dX5_deriveLayer_131 (by decide) ?_
              refine x_ior dX5_deriveLayer_138 ?_
              refine x_istore_n (L' := [xR (4, 0, 0), xR (6, 0, 0), xI L, xI (zOr N 0), xI step, xI G, xI (i : Int), xR (34, (i : Int), 0), xI (S.1 (37, (i : Int), 0) 0), xJ (F (S.1 (37, (i : Int), 0) 0)), none]) dX5_deriveLayer_139 (by decide) rfl ?_
              refine x_iinc (L' := [xR (4, 0, 0), xR (6, 0, 0), xI L, xI (zOr N 0), xI step, xI G, xI ((i : Int) + 1), xR (34, (i : Int), 0), xI (S.1 (37, (i : Int), 0) 0), xJ (F (S.1 (37, (i : Int), 0) 0)), none]) dX5_deriveLayer_140 rfl rfl ?_
              refine x_goto (tgt := 26) dX5_deriveLayer_143 (by decide) ?_
              refine X.loc (L' := [xR (4, 0, 0), xR (6, 0, 0), xI L, xI (zOr N 0), xI step, xI G, xI ((i : Int) + 1), none, none, none, none]) ⟨rfl, ⟨rfl, ⟨rfl, ⟨rfl, ⟨rfl, ⟨rfl, ⟨rfl, trivial⟩⟩⟩⟩⟩⟩⟩ ?_
              have e := dlF_same (lg0.mp c127)
              refine x_heq (show hp (rowJ S (26, 0, 0) F 6) = _ from by rw [e]) ?_
              have e2 := zOr_N0 n0 n1
              exact ih (i + 1) _ F (by omega) (by omega) (by omega) (by omega) (by omega) hI (by rw [e2]; exact hq.same (lg0.mp c127)) hc (by rw [e2]; exact hc2)
      · refine x_top (bI_f b60) ?_
        refine x_if_eq (tgt := 140) dX5_deriveLayer_63 (by decide) ⟨by decide, by decide⟩ (fun _ => ?_) (fun z => absurd z (by decide))
        refine x_iinc (L' := [xR (4, 0, 0), xR (6, 0, 0), xI L, xI N, xI step, xI G, xI ((i : Int) + 1), xR (34, (i : Int), 0), xI (S.1 (37, (i : Int), 0) 0), none, none]) dX5_deriveLayer_140 rfl rfl ?_
        refine x_goto (tgt := 26) dX5_deriveLayer_143 (by decide) ?_
        refine X.loc (L' := [xR (4, 0, 0), xR (6, 0, 0), xI L, xI N, xI step, xI G, xI ((i : Int) + 1), none, none, none, none]) ⟨rfl, ⟨rfl, ⟨rfl, ⟨rfl, ⟨rfl, ⟨rfl, ⟨rfl, trivial⟩⟩⟩⟩⟩⟩⟩ ?_
        refine ih (i + 1) N F (by omega) (by omega) (by omega) n0 n1 hI (hq.skip ?_) hc hc2
        rintro ⟨⟨z1, z2, z3⟩, z4⟩
        first | exact absurd z2 (by assumption) | exact absurd z3 (by assumption) | exact absurd z4 (by omega)
set_option maxHeartbeats 4000000 in
set_option maxRecDepth 100000 in
theorem l_deriveLayer (S : XS) (hw : WI S) (HR : RulesOk S) (HL : Lay S.1 (S.1 (6, 0, 0) 2) (S.1 (33, 0, 0))) (L : Int) (g0 : 0 ≤ L) (g1 : L ≤ 5) (F0 : Int → Int64) : ∀ (nn : Nat) (step N : Int) (F : Int → Int64), 386 - step < (nn : Int) → (0 ≤ step) → (step ≤ 385) → (0 ≤ N) → (N ≤ 63) → (DLInv S L F0 F) → (∀ j : Nat, OnAt S L j → zAnd (S.1 (34, j, 0) 3) N ≠ 0 ∨ Cls S.1 F F j) → (N ≠ 0 → step ≤ cntF F) → X mX5_deriveLayer 6 [xR (4, 0, 0), xR (6, 0, 0), xI L, xI N, xI step, none, none, none, none, none, none] [] (hp (rowJ S (26, 0, 0) F 6)) 0 0 (pDL S L F0) := by
  intro nn
  induction nn with
  | zero => intro step N F hm s0 s1 n0 n1 hI hq hc; exfalso; omega
  | succ nn ih =>
    intro step N F hm s0 s1 n0 n1 hI hq hc
    have hle := cntF_le F
    have hz := hw.1
    refine x_iload_n dX5_deriveLayer_6 rfl ?_
    refine x_if_eq (tgt := 152) dX5_deriveLayer_7 (by decide) (by first | exact hz _ _ | exact hw.1 _ _ | exact zR_of _ | assumption | exact ⟨by omega, by omega⟩) (fun c7 => ?_) (fun c7 => ?_)
    · exact x_vret dX5_deriveLayer_152 rfl (by
      have hN : N = 0 := by
        first
        | assumption
        | (exfalso; have := hc (by assumption); omega)
      subst hN
      refine ⟨rfl, F, rfl, hI, fun j hj => ?_⟩
      rcases hq j hj with z | z
      · exact absurd (by rw [zAnd_0]) z
      · exact z)
    · refine x_iload dX5_deriveLayer_10 rfl ?_
      refine x_sipush (v := 384) dX5_deriveLayer_12 (by decide) ?_
      refine x_icmp_gt (tgt := 152) dX5_deriveLayer_15 (by decide) (by first | exact hz _ _ | exact hw.1 _ _ | exact zR_of _ | assumption | exact ⟨by omega, by omega⟩) ⟨by decide, by decide⟩ (fun c15 => ?_) (fun c15 => ?_)
      · exact x_vret dX5_deriveLayer_152 rfl (by
      have hN : N = 0 := by
        first
        | assumption
        | (exfalso; have := hc (by assumption); omega)
      subst hN
      refine ⟨rfl, F, rfl, hI, fun j hj => ?_⟩
      rcases hq j hj with z | z
      · exact absurd (by rw [zAnd_0]) z
      · exact z)
      · refine x_iload_n dX5_deriveLayer_18 rfl ?_
        refine x_istore (L' := [xR (4, 0, 0), xR (6, 0, 0), xI L, xI N, xI step, xI N, none, none, none, none, none]) dX5_deriveLayer_19 (by decide) rfl ?_
        refine x_iconst dX5_deriveLayer_21 ?_
        refine x_istore_n (L' := [xR (4, 0, 0), xR (6, 0, 0), xI L, xI 0, xI step, xI N, none, none, none, none, none]) dX5_deriveLayer_22 (by decide) rfl ?_
        refine x_iconst dX5_deriveLayer_23 ?_
        refine x_istore (L' := [xR (4, 0, 0), xR (6, 0, 0), xI L, xI 0, xI step, xI N, xI 0, none, none, none, none]) dX5_deriveLayer_24 (by decide) rfl ?_
        exact l_deriveLayerI S hw HR HL L g0 g1 F0 step s0 (by omega) N (fun F2 N2 a1 a2 a3 a4 a5 => ih (step + 1) N2 F2 (by omega) (by omega) (by omega) a1 a2 a3 a4 a5) 12 0 0 F (by omega) (by have := (wf4_2 hw).1; omega) (by omega) (by decide) (by decide) hI (fun j hj => by rcases hq j hj with z | z; exact Or.inl ⟨Nat.zero_le _, z⟩; exact Or.inr (Or.inr z)) (hc (by assumption)) (fun z => absurd rfl z)
set_option maxHeartbeats 4000000 in
set_option maxRecDepth 100000 in
theorem c_deriveLayer (S : XS) (hw : WI S) (HR : RulesOk S) (HL : Lay S.1 (S.1 (6, 0, 0) 2) (S.1 (33, 0, 0))) (L : Int) (g0 : 0 ≤ L) (g1 : L ≤ 5) (F0 : Int → Int64) : X mX5_deriveLayer 0 (xEnt mX5_deriveLayer [xR (4, 0, 0), xR (6, 0, 0), xI L]) [] (hp (rowJ S (26, 0, 0) F0 6)) 0 0 (pDL S L F0) := by
  show X mX5_deriveLayer 0 [xR (4, 0, 0), xR (6, 0, 0), xI L, none, none, none, none, none, none, none, none] [] (hp (rowJ S (26, 0, 0) F0 6)) 0 0 _
  refine x_bipush (v := 63) dX5_deriveLayer_0 (by decide) ?_
  refine x_istore_n (L' := [xR (4, 0, 0), xR (6, 0, 0), xI L, xI 63, none, none, none, none, none, none, none]) dX5_deriveLayer_2 (by decide) rfl ?_
  refine x_iconst dX5_deriveLayer_3 ?_
  refine x_istore (L' := [xR (4, 0, 0), xR (6, 0, 0), xI L, xI 63, xI 0, none, none, none, none, none, none]) dX5_deriveLayer_4 (by decide) rfl ?_
  exact l_deriveLayer S hw HR HL L g0 g1 F0 387 0 63 F0 (by omega) (by omega) (by omega) (by decide) (by decide) ⟨fun _ _ _ _ => rfl, Sub.rf _, fun X h _ => h⟩ (fun j hj => Or.inl (str_63 hw HR hj.1)) (fun _ => by omega)
