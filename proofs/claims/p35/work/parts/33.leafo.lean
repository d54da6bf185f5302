/-! reasons: read, its loops -/
/-- rules that nothing new feeds come to nothing new -/
def Fed (S : XS) (on : Int) (T C : Int → Int64) (k : Nat) (N : Int) : Prop := ∀ j : Nat, (j : Int) < S.1 (4, 0, 0) 2 → bitI on j → zAnd (S.1 (34, j, 0) 3) N = 0 → ∀ p : Nat, p < 64 → bitJ (headsF S.1 (levF S.1 on C T k) C j) p → bitJ (levF S.1 on C T k (S.1 (37, j, 0) 0)) p

theorem lev_row {S : XS} {on : Int} {T C : Int → Int64} {k : Nat} {rk ru wy : Int → Int} {F G : Int → Int64} {i : Int} (hi : S.1 (4, 0, 0) 2 ≤ i) (h : RInv S.1 on T C (k + 1) i 0 rk ru wy G) (hF : ∀ x : Int, 0 ≤ x → x ≤ 5 → F x = levF S.1 on C T k x) : ∀ x : Int, 0 ≤ x → x ≤ 5 → endF F G 6 x = levF S.1 on C T (k + 1) x := by
  intro x x0 x1
  obtain ⟨n, rfl⟩ := Int.eq_ofNat_of_zero_le x0
  apply bitJ_ext
  intro p hp
  rw [endF_lt F G 6 x0 (by omega), bitJ_or _ _ _ hp, hF n x0 x1, lev_next hi h n p (by omega) hp]
theorem lev_same {S : XS} {on : Int} {T C : Int → Int64} {k : Nat} {rk ru wy : Int → Int} {G : Int → Int64} {i : Int} (hi : S.1 (4, 0, 0) 2 ≤ i) (h : RInv S.1 on T C (k + 1) i 0 rk ru wy G) {x : Nat} (hx : x < 6) (hG : G x = 0) {p : Nat} (hp : p < 64) (q : bitJ (levF S.1 on C T (k + 1) x) p) : bitJ (levF S.1 on C T k x) p := by
  rcases (lev_next hi h x p hx hp).mp q with z | z
  · exact z
  · rw [hG] at z; exact absurd z (bitJ_0 p hp)
theorem fed_next {S : XS} (hw : WI S) (HR : RulesOk S) {on : Int} {T C : Int → Int64} {k : Nat} {rk ru wy : Int → Int} {G : Int → Int64} {i : Int} (hi : S.1 (4, 0, 0) 2 ≤ i) (h : RInv S.1 on T C (k + 1) i 0 rk ru wy G) : Fed S on T C (k + 1) (endG G 6) := by
  intro j hj ho hz p hp q
  obtain ⟨a, b, c⟩ := endG_bit G 6 (Nat.le_refl _)
  have st := str_in hw hj
  rw [levF, stepF_bit _ _ _ _ _ _ hp]
  refine Or.inr ⟨j, hj, ho, rfl, heads_mono (HR j hj).1 (fun m hm cm p hp z => ?_) (fun _ _ _ _ _ z => z) hp q⟩
  have r := dl_rel hw hj hm
  obtain ⟨x, hx⟩ := Int.eq_ofNat_of_zero_le r.1
  have hx6 : x < 6 := by omega
  have hb : bitI (S.1 (34, j, 0) 3) x := ((HR j hj).2.1 x hx6).mpr ⟨m, hm, cm, hx⟩
  have hG : G x = 0 := by
    apply Classical.byContradiction
    intro y
    have w : zAnd (S.1 (34, j, 0) 3) (endG G 6) ≠ 0 := (zAnd_bit _ _ st.1 st.2 a b).mpr ⟨x, hx6, hb, (c x hx6).mpr ⟨hx6, y⟩⟩
    exact w hz
  rw [hx] at z ⊢
  exact lev_same hi h hx6 hG hp z
theorem cnt_next {S : XS} {on : Int} {T C : Int → Int64} {k : Nat} {rk ru wy : Int → Int} {G : Int → Int64} {i : Int} (hi : S.1 (4, 0, 0) 2 ≤ i) (h : RInv S.1 on T C (k + 1) i 0 rk ru wy G) (hn : endG G 6 ≠ 0) : cntF (levF S.1 on C T k) + 1 ≤ cntF (levF S.1 on C T (k + 1)) := by
  have : ∃ x : Nat, x < 6 ∧ G x ≠ 0 := by
    apply Classical.byContradiction
    intro z
    have g : ∀ x : Nat, x < 6 → G x = 0 := fun x hx => Classical.byContradiction fun y => z ⟨x, hx, y⟩
    apply hn
    simp only [endG]
    rw [if_pos (g 0 (by decide)), if_pos (g 1 (by decide)), if_pos (g 2 (by decide)), if_pos (g 3 (by decide)), if_pos (g 4 (by decide)), if_pos (g 5 (by decide))]
    decide
  obtain ⟨x, hx, hG⟩ := this
  refine cntF_lt (fun y y0 y1 p hp q => levF_le _ _ _ _ k (k + 1) (Nat.le_succ k) y p hp q) (x := x) (by omega) (by omega) (fun e => hG ?_)
  apply bitJ_ext
  intro p hp
  constructor
  · intro q
    have q2 := (lev_next hi h x p hx hp).mpr (Or.inr q)
    rw [← e] at q2
    rcases h x p hx hp with ⟨-, z, -⟩ | ⟨z, -⟩
    · exact absurd q z
    · exact absurd q2 z
  · intro q; exact absurd q (bitJ_0 p hp)
theorem RInv.rule {f : XL → Int → Int} {on : Int} {T C : Int → Int64} {n : Nat} {i : Int} {rk ru wy : Int → Int} {G : Int → Int64} (h : RInv f on T C n i 512 rk ru wy G) : RInv f on T C n (i + 1) 0 rk ru wy G := h.to fun r' y' x p _ _ z _ b => by
  have z1 := z.2.2.2.2.1
  have z2 := z.2.2.2.2.2.1
  unfold Bef at b ⊢
  omega
theorem RInv.skip {S : XS} {on : Int} {T C : Int → Int64} {k : Nat} {N : Int} {i : Nat} {rk ru wy : Int → Int} {G : Int → Int64} (h : RInv S.1 on T C (k + 1) i 0 rk ru wy G) (hf : Fed S on T C k N) (hn : ¬ (bitI on i ∧ zAnd (S.1 (34, i, 0) 3) N ≠ 0)) : RInv S.1 on T C (k + 1) ((i : Int) + 1) 0 rk ru wy G := h.to fun r' y' x p _ hp z zn b => by
  by_cases e : r' = i
  · exfalso
    subst e
    obtain ⟨z1, z2, z3, z4, z5, z6, z7, z8⟩ := z
    have q : zAnd (S.1 (34, (i : Int), 0) 3) N = 0 := Classical.byContradiction fun y => hn ⟨z3, y⟩
    refine zn ?_
    rw [← z4]
    exact hf i z2 z3 q p hp ((heads_bit _ _ _ _ p hp).mpr ⟨y', z5, z6, z7, z8⟩)
  · have z5 := z.2.2.2.2.1
    unfold Bef at b ⊢
    omega
/-- what the loops of read leave -/
def pRL (S : XS) : XO → XH → Prop := fun o h' => o = .inl none ∧ ∃ rk ru wy F G, ROk rk ru wy ∧ RFin S.1 (S.1 (7, 0, 0) 2) (S.2.1 (17, 0, 0)) (S.2.1 (27, 0, 0)) rk ru wy ∧ h' = hp (rS S rk ru wy F G)
set_option maxHeartbeats 4000000 in
set_option maxRecDepth 100000 in
theorem l_readI (S : XS) (hw : WI S) (HR : RulesOk S) (k : Nat) (k1 : k < 384) (N : Int) (F : Int → Int64) (hF : ∀ x : Int, 0 ≤ x → x ≤ 5 → F x = levF S.1 (S.1 (7, 0, 0) 2) (S.2.1 (27, 0, 0)) (S.2.1 (17, 0, 0)) k x) (hN : 0 ≤ N ∧ N ≤ 63) (hc : k ≤ cntF (levF S.1 (S.1 (7, 0, 0) 2) (S.2.1 (27, 0, 0)) (S.2.1 (17, 0, 0)) k)) (hf : Fed S (S.1 (7, 0, 0) 2) (S.2.1 (17, 0, 0)) (S.2.1 (27, 0, 0)) k N) (KK : ∀ (N : Int) (rk ru wy : Int → Int) (F G : Int → Int64), (ROk rk ru wy) → (RInv S.1 (S.1 (7, 0, 0) 2) (S.2.1 (17, 0, 0)) (S.2.1 (27, 0, 0)) (k + 2) 0 0 rk ru wy G) → (∀ x p : Nat, x < 6 → p < 64 → ¬ bitJ (G x) p) → (∀ x : Int, 0 ≤ x → x ≤ 5 → F x = levF S.1 (S.1 (7, 0, 0) 2) (S.2.1 (27, 0, 0)) (S.2.1 (17, 0, 0)) (k + 1) x) → (0 ≤ N ∧ N ≤ 63) → (N = 0 → ∀ m x p : Nat, x < 6 → p < 64 → bitJ (levF S.1 (S.1 (7, 0, 0) 2) (S.2.1 (27, 0, 0)) (S.2.1 (17, 0, 0)) m x) p → bitJ (levF S.1 (S.1 (7, 0, 0) 2) (S.2.1 (27, 0, 0)) (S.2.1 (17, 0, 0)) (k + 1) x) p) → (N ≠ 0 → k + 1 ≤ cntF (levF S.1 (S.1 (7, 0, 0) 2) (S.2.1 (27, 0, 0)) (S.2.1 (17, 0, 0)) (k + 1))) → (Fed S (S.1 (7, 0, 0) 2) (S.2.1 (17, 0, 0)) (S.2.1 (27, 0, 0)) (k + 1) N) → X mX3_read 30 [xR (5, 0, 0), xR (4, 0, 0), none, xI N, xI ((k : Int) + 1 + 1), none] [] (hp (rS S rk ru wy F G)) 0 0 (pRL S)) : ∀ (nn : Nat) (i : Nat) (rk ru wy : Int → Int) (G : Int → Int64), 11 - (i : Int) < (nn : Int) → ((i : Int) ≤ S.1 (4, 0, 0) 2) → ((i : Int) ≤ 10) → (ROk rk ru wy) → (RInv S.1 (S.1 (7, 0, 0) 2) (S.2.1 (17, 0, 0)) (S.2.1 (27, 0, 0)) (k + 1) i 0 rk ru wy G) → X mX3_read 45 [xR (5, 0, 0), xR (4, 0, 0), none, xI N, xI ((k : Int) + 1), xI (i : Int)] [] (hp (rS S rk ru wy F G)) 0 0 (pRL S) := by
  intro nn
  induction nn with
  | zero => intro i rk ru wy G hm hi hi2 hR hI; exfalso; omega
  | succ nn ih =>
    intro i rk ru wy G hm hi hi2 hR hI
    have hz := hw.1
    have hn4 := wf4_2 hw
    refine x_iload dX3_read_45 rfl ?_
    refine x_aload_n dX3_read_47 rfl ?_
    refine x_get (v := xI (S.1 (4, 0, 0) 2)) dX3_read_48 fl_RX3_58 (hp4 (rS S rk ru wy F G)) rfl ?_
    have f48_1 := wf4_2 hw (S := S)
    refine x_icmp_ge (tgt := 105) dX3_read_51 (by decide) (by first | exact hz _ _ | exact hw.1 _ _ | exact zR_of _ | assumption | exact ⟨by omega, by omega⟩) (by first | exact hz _ _ | exact hw.1 _ _ | exact zR_of _ | assumption | exact ⟨by omega, by omega⟩) (fun c51 => ?_) (fun c51 => ?_)
    · refine x_aload_n dX3_read_105 rfl ?_
      refine x_callV_r (a := 0) (b := 0) (as := []) (rest := []) ok_X3_endStep dX3_read_106 wd798 ⟨wd800, wd14⟩ (hp5 (rS S rk ru wy F G)) rfl rfl (c_endStep S hw rk ru wy F G hR) rfl (Nat.le_of_ble_eq_true rfl) (Nat.le_of_ble_eq_true rfl) (by decide) (by omega) (by omega) ?_
      refine x_istore_n (L' := [xR (5, 0, 0), xR (4, 0, 0), none, xI (endG G 6), xI ((k : Int) + 1), xI (i : Int)]) dX3_read_109 (by decide) rfl ?_
      refine x_iinc (L' := [xR (5, 0, 0), xR (4, 0, 0), none, xI (endG G 6), xI (((k : Int) + 1) + 1), xI (i : Int)]) dX3_read_110 rfl rfl ?_
      refine x_goto (tgt := 30) dX3_read_113 (by decide) ?_
      refine X.loc (L' := [xR (5, 0, 0), xR (4, 0, 0), none, xI (endG G 6), xI (((k : Int) + 1) + 1), none]) ⟨rfl, ⟨rfl, ⟨rfl, ⟨rfl, trivial⟩⟩⟩⟩ ?_
      have hsz : S.1 (4, 0, 0) 2 ≤ (i : Int) := by omega
      obtain ⟨eb0, eb1, eb2⟩ := endG_bit G 6 (Nat.le_refl _)
      refine KK (endG G 6) rk ru wy (endF F G 6) (endA G 6) hR (hI.next hsz ?_) ?_ (lev_row hsz hI hF) ⟨eb0, eb1⟩ (fun z m x p hx hp q => ?_) (fun z => ?_) (fed_next hw HR hsz hI)
      · intro x p hx hp; rw [endA_lt G 6 (by omega) (by omega)]; exact bitJ_0 p hp
      · intro x p hx hp; rw [endA_lt G 6 (by omega) (by omega)]; exact bitJ_0 p hp
      · refine levF_le _ _ _ _ k (k + 1) (Nat.le_succ k) x p hp (lev_fix hw HR (fun y y0 y1 p hp q => ?_) m x (by omega) (by omega) p hp q)
        obtain ⟨y, rfl⟩ := Int.eq_ofNat_of_zero_le y0
        exact lev_same hsz hI (by omega) (endG_0 z y (by omega)) hp q
      · have a := cnt_next hsz hI z
        have b := hc
        omega
    · refine x_iload dX3_read_54 rfl ?_
      refine x_aload_n dX3_read_56 rfl ?_
      refine x_get (v := xR (7, 0, 0)) dX3_read_57 fl_RX3_12 (hp5 (rS S rk ru wy F G)) rfl ?_
      refine x_get (v := xI (S.1 (7, 0, 0) 2)) dX3_read_60 fl_RX3_64 (hp7 (rS S rk ru wy F G)) rfl ?_
      refine x_callSN_r (a := 0) (b := 0) (as := [xI (i : Int), xI (S.1 (7, 0, 0) 2)]) (rest := []) ok_X8_isAmong dX3_read_63 wn783 wd383 (c_isAmong (rS S rk ru wy F G) (i : Int) (S.1 (7, 0, 0) 2)) rfl (Nat.le_of_ble_eq_true rfl) (Nat.le_of_ble_eq_true rfl) (by decide) (by omega) (by omega) ?_
      by_cases b63 : zAnd (zShr (S.1 (7, 0, 0) 2) (i : Int)) 1 ≠ 0
      · refine x_top (bI_t b63) ?_
        refine x_if_eq (tgt := 99) dX3_read_66 (by decide) ⟨by decide, by decide⟩ (fun z => absurd z (by decide)) (fun _ => ?_)
        refine x_aload_n dX3_read_69 rfl ?_
        refine x_get (v := xR (32, 0, 0)) dX3_read_70 fl_RX3_71 (hp4 (rS S rk ru wy F G)) rfl ?_
        refine x_iload dX3_read_73 rfl ?_
        refine x_alda (l2 := (34, (i : Int), 0)) dX3_read_75 (hp32 (rS S rk ru wy F G)) (show (32 : Nat) ≠ 99 by decide) (by decide) (by decide) (by omega) (by omega) (by decide) rfl ?_
        refine x_get (v := xI (S.1 (34, (i : Int), 0) 3)) dX3_read_76 fl_RX3_75 (hp34 (rS S rk ru wy F G) (by omega) (by omega)) rfl ?_
        have f76_2 := wf34_3 hw (S := S) (b := (i : Int)) (by omega) (by omega)
        refine x_iload_n dX3_read_79 rfl ?_
        refine x_iand dX3_read_80 ?_
        refine x_if_eq (tgt := 99) dX3_read_81 (by decide) (by first | exact hz _ _ | exact hw.1 _ _ | exact zR_of _ | assumption | exact ⟨by omega, by omega⟩) (fun c81 => ?_) (fun c81 => ?_)
        · refine x_iinc (L' := [xR (5, 0, 0), xR (4, 0, 0), none, xI N, xI ((k : Int) + 1), xI ((i : Int) + 1)]) dX3_read_99 rfl rfl ?_
          refine x_goto (tgt := 45) dX3_read_102 (by decide) ?_
          refine ih (i + 1) rk ru wy G (by omega) (by omega) (by omega) hR (hI.skip hf ?_)
          rintro ⟨z1, z2⟩
          first | exact absurd z1 (by assumption) | exact absurd z2 (by omega)
        · refine x_aload_n dX3_read_84 rfl ?_
          refine x_aload_n dX3_read_85 rfl ?_
          refine x_get (v := xR (32, 0, 0)) dX3_read_86 fl_RX3_71 (hp4 (rS S rk ru wy F G)) rfl ?_
          refine x_iload dX3_read_89 rfl ?_
          refine x_alda (l2 := (34, (i : Int), 0)) dX3_read_91 (hp32 (rS S rk ru wy F G)) (show (32 : Nat) ≠ 99 by decide) (by decide) (by decide) (by omega) (by omega) (by decide) rfl ?_
          refine x_iload dX3_read_92 rfl ?_
          refine x_iload dX3_read_94 rfl ?_
          refine x_callV (a := 0) (b := 0) (as := [xR (34, (i : Int), 0), xI (i : Int), xI ((k : Int) + 1)]) (rest := []) ok_X3_reachBy dX3_read_96 wd784 ⟨wd786, wd12⟩ (hp5 (rS S rk ru wy F G)) rfl rfl (c_reachBy S hw HR (S.1 (7, 0, 0) 2) (S.2.1 (17, 0, 0)) F (k + 1) (by omega) i (by omega) (by assumption) hF rk ru wy G hR hI) rfl (Nat.le_of_ble_eq_true rfl) (Nat.le_of_ble_eq_true rfl) (by decide) (by omega) (by omega) (fun _ q => ?_) (fun _ _ q => by cases q.1) (fun _ _ q => by cases q.1)
          obtain ⟨-, rk', ru', wy', G', hR', hI', rfl⟩ := q
          refine x_iinc (L' := [xR (5, 0, 0), xR (4, 0, 0), none, xI N, xI ((k : Int) + 1), xI ((i : Int) + 1)]) dX3_read_99 rfl rfl ?_
          refine x_goto (tgt := 45) dX3_read_102 (by decide) ?_
          exact ih (i + 1) rk' ru' wy' G' (by omega) (by omega) (by omega) hR' hI'.rule
      · refine x_top (bI_f b63) ?_
        refine x_if_eq (tgt := 99) dX3_read_66 (by decide) ⟨by decide, by decide⟩ (fun _ => ?_) (fun z => absurd z (by decide))
        refine x_iinc (L' := [xR (5, 0, 0), xR (4, 0, 0), none, xI N, xI ((k : Int) + 1), xI ((i : Int) + 1)]) dX3_read_99 rfl rfl ?_
        refine x_goto (tgt := 45) dX3_read_102 (by decide) ?_
        refine ih (i + 1) rk ru wy G (by omega) (by omega) (by omega) hR (hI.skip hf ?_)
        rintro ⟨z1, z2⟩
        first | exact absurd z1 (by assumption) | exact absurd z2 (by omega)
set_option maxHeartbeats 4000000 in
set_option maxRecDepth 100000 in
theorem l_readO (S : XS) (hw : WI S) (HR : RulesOk S) : ∀ (nn : Nat) (k : Nat) (N : Int) (rk ru wy : Int → Int) (F G : Int → Int64), 385 - (k : Int) < (nn : Int) → (k ≤ 384) → (ROk rk ru wy) → (RInv S.1 (S.1 (7, 0, 0) 2) (S.2.1 (17, 0, 0)) (S.2.1 (27, 0, 0)) (k + 1) 0 0 rk ru wy G) → (∀ x p : Nat, x < 6 → p < 64 → ¬ bitJ (G x) p) → (∀ x : Int, 0 ≤ x → x ≤ 5 → F x = levF S.1 (S.1 (7, 0, 0) 2) (S.2.1 (27, 0, 0)) (S.2.1 (17, 0, 0)) k x) → (0 ≤ N ∧ N ≤ 63) → (N = 0 → ∀ m x p : Nat, x < 6 → p < 64 → bitJ (levF S.1 (S.1 (7, 0, 0) 2) (S.2.1 (27, 0, 0)) (S.2.1 (17, 0, 0)) m x) p → bitJ (levF S.1 (S.1 (7, 0, 0) 2) (S.2.1 (27, 0, 0)) (S.2.1 (17, 0, 0)) k x) p) → (N ≠ 0 → k ≤ cntF (levF S.1 (S.1 (7, 0, 0) 2) (S.2.1 (27, 0, 0)) (S.2.1 (17, 0, 0)) k)) → (Fed S (S.1 (7, 0, 0) 2) (S.2.1 (17, 0, 0)) (S.2.1 (27, 0, 0)) k N) → X mX3_read 30 [xR (5, 0, 0), xR (4, 0, 0), none, xI N, xI ((k : Int) + 1), none] [] (hp (rS S rk ru wy F G)) 0 0 (pRL S) := by
  intro nn
  induction nn with
  | zero => intro k N rk ru wy F G hm hk hR hI hG hF hN hN0 hc hf; exfalso; omega
  | succ nn ih =>
    intro k N rk ru wy F G hm hk hR hI hG hF hN hN0 hc hf
    have hz := hw.1
    have hle := cntF_le (levF S.1 (S.1 (7, 0, 0) 2) (S.2.1 (27, 0, 0)) (S.2.1 (17, 0, 0)) k)
    refine x_iload_n dX3_read_30 rfl ?_
    refine x_if_eq (tgt := 116) dX3_read_31 (by decide) (by first | exact hz _ _ | exact hw.1 _ _ | exact zR_of _ | assumption | exact ⟨by omega, by omega⟩) (fun c31 => ?_) (fun c31 => ?_)
    · exact x_vret dX3_read_116 rfl (by
      refine ⟨rfl, rk, ru, wy, F, G, hR, hI.fin hG ?_, rfl⟩
      by_cases hz0 : N = 0
      · exact hN0 hz0
      · intro m x p hx hp _
        have := hc hz0
        exact cntF_full (by omega) x p hx hp)
    · refine x_iload dX3_read_34 rfl ?_
      refine x_sipush (v := 384) dX3_read_36 (by decide) ?_
      refine x_icmp_gt (tgt := 116) dX3_read_39 (by decide) (by first | exact hz _ _ | exact hw.1 _ _ | exact zR_of _ | assumption | exact ⟨by omega, by omega⟩) ⟨by decide, by decide⟩ (fun c39 => ?_) (fun c39 => ?_)
      · exact x_vret dX3_read_116 rfl (by
      refine ⟨rfl, rk, ru, wy, F, G, hR, hI.fin hG ?_, rfl⟩
      by_cases hz0 : N = 0
      · exact hN0 hz0
      · intro m x p hx hp _
        have := hc hz0
        exact cntF_full (by omega) x p hx hp)
      · refine x_iconst dX3_read_42 ?_
        refine x_istore (L' := [xR (5, 0, 0), xR (4, 0, 0), none, xI N, xI ((k : Int) + 1), xI 0]) dX3_read_43 (by decide) rfl ?_
        exact l_readI S hw HR k (by omega) N F hF hN (hc (by assumption)) hf (fun N2 rk2 ru2 wy2 F2 G2 a1 a2 a3 a4 a5 a6 a7 a8 => ih (k + 1) N2 rk2 ru2 wy2 F2 G2 (by omega) (by omega) a1 a2 a3 a4 a5 a6 a7 a8) 12 0 rk ru wy G (by omega) (by have := (wf4_2 hw).1; omega) (by omega) hR hI
