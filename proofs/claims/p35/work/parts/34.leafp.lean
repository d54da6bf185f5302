/-! reasons: read -/
theorem levF_ext {S : XS} (hw : WI S) (HR : RulesOk S) {on : Int} {C C' T T' : Int → Int64} (hT : ∀ x : Int, 0 ≤ x → x ≤ 5 → T x = T' x) (hC : ∀ x : Int, 0 ≤ x → x ≤ 5 → C x = C' x) (n : Nat) : ∀ x : Int, 0 ≤ x → x ≤ 5 → levF S.1 on C T n x = levF S.1 on C' T' n x := by
  intro x x0 x1
  apply bitJ_ext
  intro p hp
  exact ⟨levF_T hw HR hT hC n x x0 x1 p hp, levF_T hw HR (fun x x0 x1 => (hT x x0 x1).symm) (fun x x0 x1 => (hC x x0 x1).symm) n x x0 x1 p hp⟩
theorem Fits_AB {f : XL → Int → Int} {A A' B B' : Int → Int64} {r w : Int} (ha : ∀ i : Nat, (i : Int) < f (34, r, 0) 2 → A (f (36, r, i) 0) = A' (f (36, r, i) 0)) (hb : ∀ i : Nat, (i : Int) < f (34, r, 0) 2 → B (f (36, r, i) 0) = B' (f (36, r, i) 0)) (h : Fits f A B r w) : Fits f A' B' r w := by
  refine ⟨h.1, fun i hi => ?_⟩
  have q := h.2 i hi
  unfold condOk at q ⊢
  rw [ha i hi, hb i hi] at q
  exact q
theorem Hit_congr {S : XS} (hw : WI S) {on : Int} {A A' B B' : Int → Int64} (ha : ∀ x : Int, 0 ≤ x → x ≤ 5 → A x = A' x) (hb : ∀ x : Int, 0 ≤ x → x ≤ 5 → B x = B' x) {r w : Int} {x p : Nat} (h : Hit S.1 on A B r w x p) : Hit S.1 on A' B' r w x p := by
  obtain ⟨a1, a2, a3, a4, a5, a6, a7, a8⟩ := h
  obtain ⟨j, rfl⟩ := Int.eq_ofNat_of_zero_le a1
  exact ⟨a1, a2, a3, a4, a5, a6, Fits_AB (fun i hi => by have r := dl_rel hw a2 hi; exact ha _ r.1 r.2) (fun i hi => by have r := dl_rel hw a2 hi; exact hb _ r.1 r.2) a7, a8⟩
theorem RFin.congr {S : XS} (hw : WI S) (HR : RulesOk S) {on : Int} {C C' T T' : Int → Int64} {rk ru wy : Int → Int} (hT : ∀ x : Int, 0 ≤ x → x ≤ 5 → T x = T' x) (hC : ∀ x : Int, 0 ≤ x → x ≤ 5 → C x = C' x) (h : RFin S.1 on T C rk ru wy) : RFin S.1 on T' C' rk ru wy := by
  intro x p hx hp
  have e := fun n => levF_ext hw HR (on := on) hT hC n
  have ex := fun n => e n x (by omega) (by omega)
  rcases h x p hx hp with ⟨k, m, m1, m2, m3, m4, m5⟩ | ⟨q1, q2⟩
  · refine Or.inl ⟨k, m, m1, m2, by rw [← ex]; exact m3, fun m' hm z => m4 m' hm (by rw [ex]; exact z), fun hm => ?_⟩
    obtain ⟨a, b⟩ := m5 hm
    exact ⟨Hit_congr hw (e _) hC a, fun r' w' c z => b r' w' c (Hit_congr hw (fun x x0 x1 => (e _ x x0 x1).symm) (fun x x0 x1 => (hC x x0 x1).symm) z)⟩
  · exact Or.inr ⟨q1, fun m z => q2 m (by rw [ex]; exact z)⟩
theorem Hit_eq {f f' : XL → Int → Int} (h : RuleEq f f') {on : Int} {A B : Int → Int64} {r w : Int} {x p : Nat} (k : Hit f on A B r w x p) : Hit f' on A B r w x p := by
  unfold Hit Fits condOk pairF at k ⊢
  simp only [h.1, h.2.1, h.2.2.1, h.2.2.2] at k
  exact k
theorem RFin_eq {f f' : XL → Int → Int} (h : RuleEq f f') {on : Int} {T C : Int → Int64} {rk ru wy : Int → Int} (k : RFin f on T C rk ru wy) : RFin f' on T C rk ru wy := by
  intro x p hx hp
  have e := fun n => levF_eq h on C T n
  rcases k x p hx hp with ⟨k, m, m1, m2, m3, m4, m5⟩ | ⟨q1, q2⟩
  · refine Or.inl ⟨k, m, m1, m2, by rw [← e]; exact m3, fun m' hm z => m4 m' hm (by rw [e]; exact z), fun hm => ?_⟩
    obtain ⟨a, b⟩ := m5 hm
    rw [← e]
    exact ⟨Hit_eq h a, fun r' w' c z => b r' w' c (Hit_eq h.symm z)⟩
  · exact Or.inr ⟨q1, fun m z => q2 m (by rw [e]; exact z)⟩
/-- the reasons that are kept are those of the state that they were read of -/
def RGood (S : XS) : Prop := Stab S.1 (S.1 (7, 0, 0) 2) (S.2.1 (17, 0, 0)) (S.2.1 (27, 0, 0)) ∧ RFin S.1 (S.1 (7, 0, 0) 2) (S.2.1 (17, 0, 0)) (S.2.1 (27, 0, 0)) (S.1 (40, 0, 0)) (S.1 (41, 0, 0)) (S.1 (42, 0, 0))
/-- alike but for the reasons' own cells -/
def REq (S S' : XS) : Prop := (∀ l : XL, l.1 ≠ 7 → l.1 ≠ 40 → l.1 ≠ 41 → l.1 ≠ 42 → l.1 ≠ 46 → S'.1 l = S.1 l) ∧ (∀ l : XL, l.1 ≠ 17 → l.1 ≠ 27 → l.1 ≠ 43 → l.1 ≠ 44 → l.1 ≠ 45 → S'.2.1 l = S.2.1 l) ∧ S'.2.2 = S.2.2
def pRead (S : XS) (b t : Int) : XO → XH → Prop := fun o h' => o = .inl none ∧ ∃ S', h' = hp S' ∧ REq S S' ∧ WI S' ∧ RGood S' ∧ RFin S.1 (S.1 (8, b, t) 2) (S.2.1 (18, b, t)) (S.2.1 (28, b, t)) (S'.1 (40, 0, 0)) (S'.1 (41, 0, 0)) (S'.1 (42, 0, 0))
/-- after begin: the first step's invariant -/
theorem RInv.first (f : XL → Int → Int) (on : Int) (T C : Int → Int64) {F : Int → Int64} (hF : ∀ x : Int, 0 ≤ x → x ≤ 5 → F x = T x) (rk ru wy : Int → Int) {G : Int → Int64} (hG : ∀ x p : Nat, x < 6 → p < 64 → ¬ bitJ (G x) p) : RInv f on T C 1 0 0 (begN F rk 384) ru wy G := by
  intro x p hx hp
  have a := begN_at F rk 384 (64 * x + p) (by omega)
  have e1 : ((64 * x + p : Nat) : Int) / 64 = x := by omega
  have e2 : ((64 * x + p : Nat) : Int) % 64 = p := by omega
  have e3 : ((64 * x + p : Nat) : Int) = 64 * (x : Int) + p := by omega
  rw [e1, e2, hF x (by omega) (by omega), e3] at a
  by_cases c : bitJ (T x) p
  · exact Or.inl ⟨c, hG x p hx hp, 0, a.1 c, Nat.le_refl _, c, fun m' hm => by omega, fun hm => by omega⟩
  · refine Or.inr ⟨c, Or.inl ⟨a.2 c, hG x p hx hp, fun r' w' b z => ?_⟩⟩
    have z1 := z.1
    have z2 := z.2.2.2.2.1
    unfold Bef at b
    omega
theorem REq.rule {S S' : XS} (h : REq S S') : RuleEq S.1 S'.1 := ⟨fun r => (h.1 (34, r, 0) (show (34 : Nat) ≠ 7 by decide) (show (34 : Nat) ≠ 40 by decide) (show (34 : Nat) ≠ 41 by decide) (show (34 : Nat) ≠ 42 by decide) (show (34 : Nat) ≠ 46 by decide)).symm, fun r i => (h.1 (36, r, i) (show (36 : Nat) ≠ 7 by decide) (show (36 : Nat) ≠ 40 by decide) (show (36 : Nat) ≠ 41 by decide) (show (36 : Nat) ≠ 42 by decide) (show (36 : Nat) ≠ 46 by decide)).symm, fun r => (h.1 (37, r, 0) (show (37 : Nat) ≠ 7 by decide) (show (37 : Nat) ≠ 40 by decide) (show (37 : Nat) ≠ 41 by decide) (show (37 : Nat) ≠ 42 by decide) (show (37 : Nat) ≠ 46 by decide)).symm, (h.1 (4, 0, 0) (show (4 : Nat) ≠ 7 by decide) (show (4 : Nat) ≠ 40 by decide) (show (4 : Nat) ≠ 41 by decide) (show (4 : Nat) ≠ 42 by decide) (show (4 : Nat) ≠ 46 by decide)).symm⟩
theorem rd_like {S : XS} (hw : WI S) (HR : RulesOk S) (HK : KOk S) (HG : RGood S) {b t : Int} (h1 : 0 ≤ b) (h2 : b < 4) (h3 : 0 ≤ t) (h4 : t < 24) (HT : ∃ g, GOk g ∧ Lay S.1 (S.1 (8, b, t) 2) g) (hl : fLike (S.2.1 (17, 0, 0)) (S.2.1 (18, b, t)) (S.1 (7, 0, 0) 2) (S.1 (8, b, t) 2)) : pRead S b t (.inl none) (hp S) := by
  obtain ⟨g, hg, hy⟩ := HT
  have k := HK b t h1 h2 h3 h4
  obtain ⟨q1, q2⟩ := HG
  have hT : ∀ x : Int, 0 ≤ x → x ≤ 5 → S.2.1 (17, 0, 0) x = S.2.1 (18, b, t) x := fun x x0 x1 => hl.1 x x0 (by omega)
  refine ⟨rfl, S, rfl, ⟨fun _ _ _ _ _ _ => rfl, fun _ _ _ _ _ _ => rfl, rfl⟩, hw, ⟨q1, q2⟩, ?_⟩
  rw [hl.2] at q1 q2
  have k2 := k.congr hw HR (fun x x0 x1 => (hT x x0 x1).symm) (fun _ _ _ => rfl)
  exact q2.congr hw HR hT (Stab_unique hw HR hg hy q1 k2)
theorem sc_T (S : XS) (b t : Int) {x : Int} (x0 : 0 ≤ x) (x1 : x ≤ 5) : (sCopy S 7 8 0 0 b t).2.1 (17, 0, 0) x = S.2.1 (18, b, t) x ∧ (sCopy S 7 8 0 0 b t).2.1 (27, 0, 0) x = S.2.1 (28, b, t) x := by
  have x2 : x < 6 := by omega
  simp [sCopy, putI, rowJ, x0, x2]
theorem sc_on (S : XS) (b t : Int) : (sCopy S 7 8 0 0 b t).1 (7, 0, 0) 2 = S.1 (8, b, t) 2 := by simp [sCopy, putI, xUpd, rowJ]
theorem sc_rule (S : XS) (b t : Int) : RuleEq S.1 (sCopy S 7 8 0 0 b t).1 := ⟨fun _ => rfl, fun _ _ => rfl, fun _ => rfl, rfl⟩
theorem rd_new {S : XS} (hw : WI S) (HR : RulesOk S) (HK : KOk S) {b t : Int} (h1 : 0 ≤ b) (h2 : b < 4) (h3 : 0 ≤ t) (h4 : t < 24) (o : XO) (h' : XH) (q : pRL (sCopy S 7 8 0 0 b t) o h') : pRead S b t o h' := by
  have hw1 := wi_copy7 S hw b t h1 h2 h3 h4
  obtain ⟨rfl, rk, ru, wy, F, G, hR, hF, rfl⟩ := q
  have e1 : ∀ l : XL, l.1 ≠ 7 → l.1 ≠ 40 → l.1 ≠ 41 → l.1 ≠ 42 → (rS (sCopy S 7 8 0 0 b t) rk ru wy F G).1 l = S.1 l := fun l a1 a2 a3 a4 => by
    show (if l = (40, 0, 0) then _ else if l = (41, 0, 0) then _ else if l = (42, 0, 0) then _ else if l = (7, 0, 0) then _ else S.1 l) = S.1 l
    rw [if_neg (fun z => a2 (by rw [z])), if_neg (fun z => a3 (by rw [z])), if_neg (fun z => a4 (by rw [z])), if_neg (fun z => a1 (by rw [z]))]
  have e2 : ∀ l : XL, l.1 ≠ 17 → l.1 ≠ 27 → l.1 ≠ 43 → l.1 ≠ 44 → (rS (sCopy S 7 8 0 0 b t) rk ru wy F G).2.1 l = S.2.1 l := fun l a1 a2 a3 a4 => by
    show (if l = (43, 0, 0) then _ else if l = (44, 0, 0) then _ else if l = (27, 0, 0) then _ else if l = (17, 0, 0) then _ else S.2.1 l) = S.2.1 l
    rw [if_neg (fun z => a3 (by rw [z])), if_neg (fun z => a4 (by rw [z])), if_neg (fun z => a2 (by rw [z])), if_neg (fun z => a1 (by rw [z]))]
  have hq : REq S (rS (sCopy S 7 8 0 0 b t) rk ru wy F G) := ⟨fun l a1 a2 a3 a4 _ => e1 l a1 a2 a3 a4, fun l a1 a2 a3 a4 _ => e2 l a1 a2 a3 a4, rfl⟩
  have k := HK b t h1 h2 h3 h4
  have k2 : Stab S.1 ((sCopy S 7 8 0 0 b t).1 (7, 0, 0) 2) ((sCopy S 7 8 0 0 b t).2.1 (17, 0, 0)) ((sCopy S 7 8 0 0 b t).2.1 (27, 0, 0)) := by
    rw [sc_on]
    exact k.congr hw HR (fun x x0 x1 => (sc_T S b t x0 x1).1.symm) (fun x x0 x1 => (sc_T S b t x0 x1).2.symm)
  have f2 := RFin_eq (sc_rule S b t).symm hF
  refine ⟨rfl, _, rfl, hq, hw1.toR hR, ⟨Stab_eq hq.rule k2, RFin_eq hq.rule f2⟩, ?_⟩
  rw [sc_on] at f2
  exact f2.congr hw HR (fun x x0 x1 => (sc_T S b t x0 x1).1) (fun x x0 x1 => (sc_T S b t x0 x1).2)
set_option maxHeartbeats 4000000 in
set_option maxRecDepth 100000 in
theorem c_readR (S : XS) (hw : WI S) (HR : RulesOk S) (HK : KOk S) (HG : RGood S) (b t : Int) (h1 : 0 ≤ b) (h2 : b < 4) (h3 : 0 ≤ t) (h4 : t < 24) (HT : ∃ g, GOk g ∧ Lay S.1 (S.1 (8, b, t) 2) g) : X mX3_read 0 (xEnt mX3_read [xR (5, 0, 0), xR (4, 0, 0), xR (8, b, t)]) [] (hp S) 0 0 (pRead S b t) := by
  show X mX3_read 0 [xR (5, 0, 0), xR (4, 0, 0), xR (8, b, t), none, none, none] [] (hp S) 0 0 _
  refine x_aload_n dX3_read_0 rfl ?_
  refine x_get (v := xR (7, 0, 0)) dX3_read_1 fl_RX3_12 (hp5 S) rfl ?_
  refine x_aload_n dX3_read_4 rfl ?_
  refine x_callV_r (a := 0) (b := 0) (as := [xR (8, b, t)]) (rest := []) ok_X6_isLike dX3_read_5 wd775 ⟨wd367, wd368⟩ (hp7 S) rfl rfl (c_isLike7 S hw b t (by omega) (by omega) (by omega) (by omega)) rfl (Nat.le_of_ble_eq_true rfl) (Nat.le_of_ble_eq_true rfl) (by decide) (by omega) (by omega) ?_
  by_cases b5 : fLike (S.2.1 (17, 0, 0)) (S.2.1 (18, b, t)) (S.1 (7, 0, 0) 2) (S.1 (8, b, t) 2)
  · refine x_top (bI_t b5) ?_
    refine x_if_eq (tgt := 12) dX3_read_8 (by decide) ⟨by decide, by decide⟩ (fun z => absurd z (by decide)) (fun _ => ?_)
    exact x_vret dX3_read_11 rfl (rd_like hw HR HK HG h1 h2 h3 h4 HT (by assumption))
  · refine x_top (bI_f b5) ?_
    refine x_if_eq (tgt := 12) dX3_read_8 (by decide) ⟨by decide, by decide⟩ (fun _ => ?_) (fun z => absurd z (by decide))
    refine x_aload_n dX3_read_12 rfl ?_
    refine x_get (v := xR (7, 0, 0)) dX3_read_13 fl_RX3_12 (hp5 S) rfl ?_
    refine x_aload_n dX3_read_16 rfl ?_
    refine x_callV_v (a := 0) (b := 0) (as := [xR (8, b, t)]) (rest := []) ok_X6_copy dX3_read_17 wd776 ⟨wd413, wd414⟩ (hp7 S) rfl rfl (c_copy7 S hw b t (by omega) (by omega) (by omega) (by omega)) rfl (Nat.le_of_ble_eq_true rfl) (Nat.le_of_ble_eq_true rfl) (by decide) (by omega) (by omega) ?_
    refine x_aload_n dX3_read_20 rfl ?_
    refine x_callV_v (a := 0) (b := 0) (as := []) (rest := []) ok_X3_begin dX3_read_21 wd777 ⟨wd779, wd11⟩ (hp5 (sCopy S 7 8 0 0 b t)) rfl rfl (c_begin (sCopy S 7 8 0 0 b t) (wi_copy7 S hw b t (by omega) (by omega) (by omega) (by omega))) rfl (Nat.le_of_ble_eq_true rfl) (Nat.le_of_ble_eq_true rfl) (by decide) (by omega) (by omega) ?_
    refine x_bipush (v := 63) dX3_read_24 (by decide) ?_
    refine x_istore_n (L' := [xR (5, 0, 0), xR (4, 0, 0), xR (8, b, t), xI 63, none, none]) dX3_read_26 (by decide) rfl ?_
    refine x_iconst dX3_read_27 ?_
    refine x_istore (L' := [xR (5, 0, 0), xR (4, 0, 0), xR (8, b, t), xI 63, xI 1, none]) dX3_read_28 (by decide) rfl ?_
    refine X.loc (L' := [xR (5, 0, 0), xR (4, 0, 0), none, xI 63, xI 1, none]) ⟨rfl, ⟨rfl, ⟨rfl, ⟨rfl, trivial⟩⟩⟩⟩ ?_
    have hw1 := wi_copy7 S hw b t h1 h2 h3 h4
    have HR1 := RulesOk_eq (sc_rule S b t) HR
    refine X.weak (l_readO (sCopy S 7 8 0 0 b t) hw1 HR1 386 0 63 _ _ _ _ _ (by omega) (by omega) ⟨begN_in _ (ROk.of hw1).1 384, (ROk.of hw1).2⟩ (RInv.first _ _ _ _ (fun x x0 x1 => by simp only [bl]; rw [if_pos ⟨x0, by omega⟩]) _ _ _ ?_) ?_ (fun x x0 x1 => by simp only [bl, levF]; rw [if_pos ⟨x0, by omega⟩]) ⟨by decide, by decide⟩ (fun z => absurd z (by decide)) (fun _ => Nat.zero_le _) (fun j hj _ z => absurd z (str_63 hw1 HR1 hj))) (Nat.le_refl _) (Nat.le_refl _) (rd_new hw HR HK h1 h2 h3 h4)
    · intro x p hx hp; simp only [bl]; rw [if_pos ⟨by omega, by omega⟩]; exact bitJ_0 p hp
    · intro x p hx hp; simp only [bl]; rw [if_pos ⟨by omega, by omega⟩]; exact bitJ_0 p hp
