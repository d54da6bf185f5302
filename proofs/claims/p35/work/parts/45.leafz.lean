/-! reasons: premises of any index, proofs -/
theorem x_if_ne_nz {M : XM} {pc : Nat} {L st : List XV} {h : XH} {kc ks : Nat} {Q : XO → XH → Prop} {a : Int} {off : Int} {tgt : Nat} (hd : decode (xmC M) pc = .ok (.ifCond .ne off, 3)) (ht : (pc : Int) + off = (tgt : Int)) (h1 : zI a ≠ 0) (kt : X M tgt L st h kc ks Q) : X M pc L (xI a :: st) h kc ks Q := by
  refine x_of2 (P := True) (pf := tgt) (fun _ => kt) (fun z => absurd trivial z) ?_
  intro p l e R s m args below meth c D dA base ad H locs cells slots QQ ls stv F hst gt gf
  obtain ⟨w0, r0, rfl, e0, hst⟩ := hst
  cases e0
  exact lv_if_ne F.1 F.2.1 hd ht (fun z => gt _ hst trivial) (fun z => absurd z h1)
theorem x_if_eq_nz {M : XM} {pc : Nat} {L st : List XV} {h : XH} {kc ks : Nat} {Q : XO → XH → Prop} {a : Int} {off : Int} (hd : decode (xmC M) pc = .ok (.ifCond .eq off, 3)) {tgt : Nat} (ht : (pc : Int) + off = (tgt : Int)) (h1 : zI a ≠ 0) (kt : X M (pc + 3) L st h kc ks Q) : X M pc L (xI a :: st) h kc ks Q := by
  refine x_of2 (P := True) (pt := pc + 3) (pf := pc + 3) (fun _ => kt) (fun z => absurd trivial z) ?_
  intro p l e R s m args below meth c D dA base ad H locs cells slots QQ ls stv F hst gt gf
  obtain ⟨w0, r0, rfl, e0, hst⟩ := hst
  cases e0
  exact lv_if_eq F.1 F.2.1 hd ht (fun z => absurd z h1) (fun z => gt _ hst trivial)
theorem zI_wrap (e : Int) : zI (e + 4294967296) = zI e := by rw [← zI_add, show zI 4294967296 = 0 by decide, Int32.add_zero]
theorem zI_nz {e : Int} (h1 : -4294967296 < e) (h2 : e < 0) : zI e ≠ 0 := by
  rw [← zI_0]
  by_cases q : -2147483648 ≤ e
  · intro z
    have := (zI_eq ⟨q, by omega⟩ zR_0).mp z
    omega
  · rw [← zI_wrap e]
    intro z
    have := (zI_eq (a := e + 4294967296) ⟨by omega, by omega⟩ zR_0).mp z
    omega
/-- the fact of a reason's straight condition, or -1 -/
def premV (f : XL → Int → Int) (rk ru wy : Int → Int) (q k : Int) : Int := if 0 < rk q then premN f (ru q) (wy q) k (f (34, ru q, 0) 2).toNat else -1
theorem premN_cases (f : XL → Int → Int) (r w k : Int) (n : Nat) : premN f r w k n = -1 ∨ ∃ i : Nat, i < n ∧ f (36, r, i) 1 = 0 ∧ strN f r i = k ∧ premN f r w k n = 64 * f (36, r, i) 0 + pairF f (36, r, i) w := by
  induction n with
  | zero => exact Or.inl rfl
  | succ n ih =>
    simp only [premN]
    split
    · rename_i h
      exact Or.inr ⟨n, by omega, h.1, h.2, rfl⟩
    · rcases ih with h | ⟨i, h1, h2, h3, h4⟩
      · exact Or.inl h
      · exact Or.inr ⟨i, by omega, h2, h3, h4⟩
theorem RFin.hit {f : XL → Int → Int} {on : Int} {T C : Int → Int64} {rk ru wy : Int → Int} (h : RFin f on T C rk ru wy) {q : Int} (q0 : 0 ≤ q) (q1 : q < 384) (hr : 0 < rk q) : ∃ m : Nat, rk q = ((m + 1 : Nat) : Int) ∧ Hit f on (levF f on C T m) C (ru q) (wy q) (q / 64).toNat (q % 64).toNat := by
  have e : 64 * (((q / 64).toNat : Nat) : Int) + (((q % 64).toNat : Nat) : Int) = q := by omega
  rcases h (q / 64).toNat (q % 64).toNat (by omega) (by omega) with ⟨k, m, m1, m2, m3, m4, m5⟩ | ⟨h1, h2⟩
  · rw [e] at m1 m5
    obtain ⟨m', rfl⟩ : ∃ m', m = m' + 1 := ⟨m - 1, by omega⟩
    exact ⟨m', m1, (m5 (by omega)).1⟩
  · rw [e] at h1
    omega
theorem prem_in {S : XS} (hw : WI S) (HR : RulesOk S) {on : Int} {T C : Int → Int64} {rk ru wy : Int → Int} (h : RFin S.1 on T C rk ru wy) {q : Int} (q0 : 0 ≤ q) (q1 : q < 384) (k : Int) : premV S.1 rk ru wy q k = -1 ∨ 0 ≤ premV S.1 rk ru wy q k ∧ premV S.1 rk ru wy q k < 384 := by
  unfold premV
  split
  · rename_i hr
    obtain ⟨m, -, g1, g2, -, -, g3, g4, -⟩ := h.hit q0 q1 hr
    obtain ⟨j, hj⟩ := Int.eq_ofNat_of_zero_le g1
    rcases premN_cases S.1 (ru q) (wy q) k (S.1 (34, ru q, 0) 2).toNat with e | ⟨i, i1, -, -, e⟩
    · exact Or.inl e
    · right
      rw [e]
      rw [hj] at g2 i1 ⊢
      have hs := wf34_2 hw (b := (j : Int)) (by omega) (by have := wf4_2 hw; omega)
      have a := dl_rel hw g2 (show (i : Int) < S.1 (34, (j : Int), 0) 2 by omega)
      have b := pairF_in S.1 (36, (j : Int), i) ((HR j g2).1.2.2 i (by omega)) (wy q) g3 (by omega)
      omega
  · exact Or.inl rfl
/-- the facts of a proof -/
def PrS (f : XL → Int → Int) (rk ru wy : Int → Int) (q0 x : Int) : Prop := ∀ P : Int → Prop, P q0 → (∀ a k : Int, 0 ≤ k → k < 3 → P a → premV f rk ru wy a k ≠ -1 → P (premV f rk ru wy a k)) → P x
theorem PrS.rf (f : XL → Int → Int) (rk ru wy : Int → Int) (q0 : Int) : PrS f rk ru wy q0 q0 := fun _ h _ => h
theorem PrS.st {f : XL → Int → Int} {rk ru wy : Int → Int} {q0 a : Int} (h : PrS f rk ru wy q0 a) {k : Int} (k0 : 0 ≤ k) (k1 : k < 3) (hn : premV f rk ru wy a k ≠ -1) : PrS f rk ru wy q0 (premV f rk ru wy a k) := fun P p s => s a k k0 k1 (h P p s) hn
noncomputable def prC (f : XL → Int → Int) (rk ru wy : Int → Int) (q0 : Int) : Nat := cntN (fun x => PrS f rk ru wy q0 x) 384
def sB (se : Int → Int64) (x : Int) : Prop := bitJ (se (x / 64)) (x % 64)
theorem sB_upd (se : Int → Int64) {x y : Int} (x0 : 0 ≤ x) (x1 : x < 384) (y0 : 0 ≤ y) (y1 : y < 384) : sB (xUpd se (x / 64) (se (x / 64) ||| jShl 1 (x % 64))) y ↔ sB se y ∨ y = x := by
  unfold sB xUpd
  obtain ⟨a, ha⟩ := Int.eq_ofNat_of_zero_le (show 0 ≤ y % 64 by omega)
  obtain ⟨b, hb⟩ := Int.eq_ofNat_of_zero_le (show 0 ≤ x % 64 by omega)
  by_cases e : y / 64 = x / 64
  · rw [if_pos e, ha, hb, bitJ_or _ _ _ (by omega), bitJ_one _ _ (by omega) (by omega), e]
    constructor
    · rintro (h | h)
      · exact Or.inl h
      · right; omega
    · rintro (h | h)
      · exact Or.inl h
      · right; omega
  · rw [if_neg e]
    constructor
    · exact Or.inl
    · rintro (h | h)
      · exact h
      · rw [h] at e; exact absurd rfl e
theorem cnt_one {P P' : Nat → Prop} {m : Nat} (hm : ¬ P m) : ∀ n : Nat, (∀ k, k < n → (P' k ↔ P k ∨ k = m)) → cntN P' n = cntN P n + (if m < n then 1 else 0)
  | 0, _ => by simp [cntN]
  | n + 1, h => by
    have ih := cnt_one (P' := P') hm n (fun k hk => h k (by omega))
    have hn := h n (by omega)
    by_cases e : n = m
    · subst e
      rw [cntN_t (hn.mpr (Or.inr rfl)), cntN_f hm, ih, if_neg (by omega), if_pos (by omega)]
    · by_cases p : P n
      · rw [cntN_t (hn.mpr (Or.inl p)), cntN_t p, ih]
        by_cases z : m < n
        · rw [if_pos z, if_pos (by omega)]
        · rw [if_neg z, if_neg (by omega)]
      · rw [cntN_f (fun z => (hn.mp z).elim p e), cntN_f p, ih]
        by_cases z : m < n
        · rw [if_pos z, if_pos (by omega)]
        · rw [if_neg z, if_neg (by omega)]
theorem cntF_sB (se : Int → Int64) : cntF se = cntN (fun x => sB se x) 384 := by
  unfold cntF sB
  congr 1
/-- the queue of a proof holds just what is seen; all that is seen is of the proof -/
def QI (f : XL → Int → Int) (rk ru wy : Int → Int) (q0 : Int) (se : Int → Int64) (qu : Int → Int) (n : Int) : Prop :=
  (∀ x : Int, 0 ≤ x → x < 384 → sB se x → PrS f rk ru wy q0 x ∧ ∃ j : Int, 0 ≤ j ∧ j < n ∧ qu j = x) ∧ (∀ j : Int, 0 ≤ j → j < n → 0 ≤ qu j ∧ qu j < 384 ∧ sB se (qu j)) ∧ (cntF se : Int) = n
theorem QI.no {f : XL → Int → Int} {rk ru wy : Int → Int} {q0 : Int} {S : XS} {qu : Int → Int} {n x : Int} (h : QI f rk ru wy q0 (S.2.1 (45, 0, 0)) qu n) (x0 : 0 ≤ x) (x1 : x < 384) (hn : enqNo S x n) : sB (S.2.1 (45, 0, 0)) x := by
  rcases hn with z | z
  · exact z
  · have a := cntF_full (F := S.2.1 (45, 0, 0)) (by have := h.2.2; omega) (x / 64).toNat (x % 64).toNat (by omega) (by omega)
    unfold sB
    rw [show ((x / 64).toNat : Int) = x / 64 by omega, show ((x % 64).toNat : Int) = x % 64 by omega] at a
    exact a
theorem QI.add {f : XL → Int → Int} {rk ru wy : Int → Int} {q0 : Int} {se : Int → Int64} {qu : Int → Int} {n x : Int} (h : QI f rk ru wy q0 se qu n) (x0 : 0 ≤ x) (x1 : x < 384) (hn : ¬ sB se x) (hp : PrS f rk ru wy q0 x) : QI f rk ru wy q0 (xUpd se (x / 64) (se (x / 64) ||| jShl 1 (x % 64))) (xUpd qu n x) (n + 1) := by
  obtain ⟨h1, h2, h3⟩ := h
  refine ⟨fun y y0 y1 z => ?_, fun j j0 j1 => ?_, ?_⟩
  · rcases (sB_upd se x0 x1 y0 y1).mp z with z | z
    · obtain ⟨a, j, b, c, d⟩ := h1 y y0 y1 z
      exact ⟨a, j, b, by omega, by simp only [xUpd]; rw [if_neg (by omega)]; exact d⟩
    · subst z
      exact ⟨hp, n, by omega, by omega, by simp only [xUpd, if_true]⟩
  · by_cases e : j = n
    · subst e
      simp only [xUpd, if_true]
      exact ⟨x0, x1, (sB_upd se x0 x1 x0 x1).mpr (Or.inr rfl)⟩
    · obtain ⟨a, b, c⟩ := h2 j j0 (by omega)
      have e2 : xUpd qu n x j = qu j := by simp only [xUpd]; rw [if_neg e]
      rw [e2]
      exact ⟨a, b, (sB_upd se x0 x1 a b).mpr (Or.inl c)⟩
  · rw [cntF_sB] at h3 ⊢
    obtain ⟨m, rfl⟩ := Int.eq_ofNat_of_zero_le x0
    rw [cnt_one (P := fun x : Nat => sB se x) (m := m) hn 384 (fun k hk => (sB_upd se x0 x1 (by omega) (by omega)).trans ⟨fun z => z.imp id (fun y => by omega), fun z => z.imp id (fun y => by omega)⟩), if_pos (by omega)]
    omega
theorem QI.full {f : XL → Int → Int} {rk ru wy : Int → Int} {q0 : Int} {se : Int → Int64} {qu : Int → Int} {n : Int} (h : QI f rk ru wy q0 se qu n) (hq : sB se q0) (q00 : 0 ≤ q0) (q01 : q0 < 384) (hin : ∀ q k : Int, 0 ≤ q → q < 384 → premV f rk ru wy q k = -1 ∨ 0 ≤ premV f rk ru wy q k ∧ premV f rk ru wy q k < 384) (hc : ∀ j : Int, 0 ≤ j → j < n → ∀ k : Int, 0 ≤ k → k < 3 → premV f rk ru wy (qu j) k ≠ -1 → sB se (premV f rk ru wy (qu j) k)) : n = prC f rk ru wy q0 := by
  obtain ⟨h1, h2, h3⟩ := h
  have e : ∀ k : Nat, k < 384 → (sB se k ↔ PrS f rk ru wy q0 k) := fun k hk => by
    constructor
    · intro z; exact (h1 k (by omega) (by omega) z).1
    · intro z
      have q := z (fun x => 0 ≤ x ∧ x < 384 ∧ sB se x) ⟨q00, q01, hq⟩ (fun a k k0 k1 ha hn => by
        obtain ⟨a0, a1, a2⟩ := ha
        obtain ⟨j, j0, j1, rfl⟩ := (h1 a a0 a1 a2).2
        rcases hin (qu j) k a0 a1 with z | z
        · exact absurd z hn
        · exact ⟨z.1, z.2, hc j j0 j1 k k0 k1 hn⟩)
      exact q.2.2
  rw [← h3, cntF_sB]
  unfold prC
  have a := cntN_mono 384 (fun k hk z => (e k hk).mp z)
  have b := cntN_mono 384 (fun k hk z => (e k hk).mpr z)
  omega
/-- reading the reasons, with the set that they were read of -/
def pRead7 (S : XS) (b t : Int) : XO → XH → Prop := fun o h' => o = .inl none ∧ ∃ S', h' = hp S' ∧ REq S S' ∧ WI S' ∧ RGood S' ∧ S'.1 (7, 0, 0) 2 = S.1 (8, b, t) 2 ∧ RFin S.1 (S.1 (8, b, t) 2) (S.2.1 (18, b, t)) (S.2.1 (28, b, t)) (S'.1 (40, 0, 0)) (S'.1 (41, 0, 0)) (S'.1 (42, 0, 0))
theorem rd_likeK {S : XS} (hw : WI S) (HR : RulesOk S) (HK : KOk S) (HG : RGood S) {b t : Int} (h1 : 0 ≤ b) (h2 : b < 4) (h3 : 0 ≤ t) (h4 : t < 24) (HT : ∃ g, GOk g ∧ Lay S.1 (S.1 (8, b, t) 2) g) (hl : fLike (S.2.1 (17, 0, 0)) (S.2.1 (18, b, t)) (S.1 (7, 0, 0) 2) (S.1 (8, b, t) 2)) : pRead7 S b t (.inl none) (hp S) := by
  obtain ⟨g, hg, hy⟩ := HT
  have k := HK b t h1 h2 h3 h4
  obtain ⟨q1, q2⟩ := HG
  have hT : ∀ x : Int, 0 ≤ x → x ≤ 5 → S.2.1 (17, 0, 0) x = S.2.1 (18, b, t) x := fun x x0 x1 => hl.1 x x0 (by omega)
  refine ⟨rfl, S, rfl, ⟨fun _ _ _ _ _ _ => rfl, fun _ _ _ _ _ _ => rfl, rfl⟩, hw, ⟨q1, q2⟩, hl.2, ?_⟩
  rw [hl.2] at q1 q2
  have k2 := k.congr hw HR (fun x x0 x1 => (hT x x0 x1).symm) (fun _ _ _ => rfl)
  exact q2.congr hw HR hT (Stab_unique hw HR hg hy q1 k2)
theorem rd_newK {S : XS} (hw : WI S) (HR : RulesOk S) (HK : KOk S) {b t : Int} (h1 : 0 ≤ b) (h2 : b < 4) (h3 : 0 ≤ t) (h4 : t < 24) (o : XO) (h' : XH) (q : pRL (sCopy S 7 8 0 0 b t) o h') : pRead7 S b t o h' := by
  have hw1 := wi_copy7 S hw b t h1 h2 h3 h4
  obtain ⟨rfl, rk, ru, wy, F, G, hR, hF, rfl⟩ := q
  have e1 : ∀ l : XL, l.1 ≠ 7 → l.1 ≠ 40 → l.1 ≠ 41 → l.1 ≠ 42 → (rS (sCopy S 7 8 0 0 b t) rk ru wy F G).1 l = S.1 l := fun l a1 a2 a3 a4 => by
    show (if l = (40, 0, 0) then _ else if l = (41, 0, 0) then _ else if l = (42, 0, 0) then _ else if l = (7, 0, 0) then _ else S.1 l) = S.1 l
    rw [if_neg (fun z => a2 (by rw [z])), if_neg (fun z => a3 (by rw [z])), if_neg (fun z => a4 (by rw [z])), if_neg (fun z => a1 (by rw [z]))]
  have e2 : ∀ l : XL, l.1 ≠ 17 → l.1 ≠ 27 → l.1 ≠ 43 → l.1 ≠ 44 → (rS (sCopy S 7 8 0 0 b t) rk ru wy F G).2.1 l = S.2.1 l := fun l a1 a2 a3 a4 => by
    show (if l = (43, 0, 0) then _ else if l = (44, 0, 0) then _ else if l = (27, 0, 0) then _ else if l = (17, 0, 0) then _ else S.2.1 l) = S.2.1 l
    rw [if_neg (fun z => a3 (by rw [z])), if_neg (fun z => a4 (by rw [z])), if_neg (fun z => a2 (by rw [z])), if_neg (fun z => a1 (by rw [z]))]
  have hq : REq S (rS (sCopy S 7 8 0 0 b t) rk ru wy F G) := ⟨fun l a1 a2 a3 a4 _ => e1 l a1 a2 a3 a4, fun l a1 a2 a3 a4 _ => e2 l a1 a2 a3 a4, rfl⟩
  have k := HK b t h1 h2 h3 h4
  have k2 : Stab S.1 ((sCopy S 7 8 0 0 b t).1 (7, 0, 0) 2) ((sCopy S 7 8 0 0 b t).2.1 (17, 0, 0)) ((sCopy S 7 8 0 0 b t).2.1 (27, 0, 0)) := by
    rw [sc_on]
    exact k.congr hw HR (fun x x0 x1 => (sc_T S b t x0 x1).1.symm) (fun x x0 x1 => (sc_T S b t x0 x1).2.symm)
  have f2 := RFin_eq (sc_rule S b t).symm hF
  refine ⟨rfl, _, rfl, hq, hw1.toR hR, ⟨Stab_eq hq.rule k2, RFin_eq hq.rule f2⟩, (by have := sc_on S b t; simpa [rS] using this), ?_⟩
  rw [sc_on] at f2
  exact f2.congr hw HR (fun x x0 x1 => (sc_T S b t x0 x1).1) (fun x x0 x1 => (sc_T S b t x0 x1).2)

set_option maxHeartbeats 4000000 in
set_option maxRecDepth 100000 in
theorem c_readK (S : XS) (hw : WI S) (HR : RulesOk S) (HK : KOk S) (HG : RGood S) (b t : Int) (h1 : 0 ≤ b) (h2 : b < 4) (h3 : 0 ≤ t) (h4 : t < 24) (HT : ∃ g, GOk g ∧ Lay S.1 (S.1 (8, b, t) 2) g) : X mX3_read 0 (xEnt mX3_read [xR (5, 0, 0), xR (4, 0, 0), xR (8, b, t)]) [] (hp S) 0 0 (pRead7 S b t) := by
  show X mX3_read 0 [xR (5, 0, 0), xR (4, 0, 0), xR (8, b, t), none, none, none] [] (hp S) 0 0 _
  refine x_aload_n dX3_read_0 rfl ?_
  refine x_get (v := xR (7, 0, 0)) dX3_read_1 fl_RX3_12 (hp5 S) rfl ?_
  refine x_aload_n dX3_read_4 rfl ?_
  refine x_callV_r (a := 0) (b := 0) (as := [xR (8, b, t)]) (rest := []) ok_X6_isLike dX3_read_5 wd775 ⟨wd367, wd368⟩ (hp7 S) rfl rfl (c_isLike7 S hw b t (by omega) (by omega) (by omega) (by omega)) rfl (Nat.le_of_ble_eq_true rfl) (Nat.le_of_ble_eq_true rfl) (by decide) (by omega) (by omega) ?_
  by_cases b5 : fLike (S.2.1 (17, 0, 0)) (S.2.1 (18, b, t)) (S.1 (7, 0, 0) 2) (S.1 (8, b, t) 2)
  · refine x_top (bI_t b5) ?_
    refine x_if_eq (tgt := 12) dX3_read_8 (by decide) ⟨by decide, by decide⟩ (fun z => absurd z (by decide)) (fun _ => ?_)
    exact x_vret dX3_read_11 rfl (rd_likeK hw HR HK HG h1 h2 h3 h4 HT (by assumption))
  · refine x_top (bI_f b5) ?_
    refine x_if_eq (tgt := 12) dX3_read_8 (by decide) ⟨by decide, by decide⟩ (fun _ => ?_) (fun z => absurd z (by decide))
    refine x_aload_n dX3_read_12 rfl ?_
    refine x_get (v := xR (7, 0, 0)) dX3_read_13 fl_RX3_12 (hp5 S) rfl ?_
    refine x_aload_n dX3_read_16 rfl ?_
    refine x_callV_v (a := 0) (b := 0) (as := [xR (8, b, t)]) (rest := []) ok_X6_copy dX3_read_17 wd776 ⟨wd413, wd414⟩ (hp7 S) rfl rfl (c_copy7 S hw b t (by omega) (by omega) (by omega) (by omega)) rfl (Nat.le_of_ble_eq_true rfl) (Nat.le_of_ble_eq_true rfl) (by decide) (by omega) (by omega) ?_
    refine x_aload_n dX3_read_20 rfl ?_
    refine x_callV_v (a := 0) (b := 0) (as := []) (rest := []) ok_X3_begin dX3_read_21 wd777 ⟨wd779, wd11⟩ (hp5 (sCopy S 7 8 0 0 b t)) rfl rfl (c_begin (sCopy S 7 8 0 0 b t) (wi_copy7 S hw b t (by omega) (by omega) (by omega) (by omega))) rfl (Nat.le_of_ble_eq_true rfl) (Nat.le_of_ble_eq_true rfl) (by decide) (by omega) (by omega) ?_
    refine x_bipush (v := 63) dX3_read_24 (by decide) ?_
    refine x_istore_n (L' := [xR (5, 0, 0), xR (4, 0, 0), xR (8, b, t), xI 63, none, none]) dX3_read_26 (by decide) rfl ?_
    refine x_iconst dX3_read_27 ?_
    refine x_istore (L' := [xR (5, 0, 0), xR (4, 0, 0), xR (8, b, t), xI 63, xI 1, none]) dX3_read_28 (by decide) rfl ?_
    refine X.loc (L' := [xR (5, 0, 0), xR (4, 0, 0), none, xI 63, xI 1, none]) ⟨rfl, ⟨rfl, ⟨rfl, ⟨rfl, trivial⟩⟩⟩⟩ ?_
    have hw1 := wi_copy7 S hw b t h1 h2 h3 h4
    have HR1 := RulesOk_eq (sc_rule S b t) HR
    refine X.weak (l_readO (sCopy S 7 8 0 0 b t) hw1 HR1 386 0 63 _ _ _ _ _ (by omega) (by omega) ⟨begN_in _ (ROk.of hw1).1 384, (ROk.of hw1).2⟩ (RInv.first _ _ _ _ (fun x x0 x1 => by simp only [bl]; rw [if_pos ⟨x0, by omega⟩]) _ _ _ ?_) ?_ (fun x x0 x1 => by simp only [bl, levF]; rw [if_pos ⟨x0, by omega⟩]) ⟨by decide, by decide⟩ (fun z => absurd z (by decide)) (fun _ => Nat.zero_le _) (fun j hj _ z => absurd z (str_63 hw1 HR1 hj))) (Nat.le_refl _) (Nat.le_refl _) (rd_newK hw HR HK h1 h2 h3 h4)
    · intro x p hx hp; simp only [bl]; rw [if_pos ⟨by omega, by omega⟩]; exact bitJ_0 p hp
    · intro x p hx hp; simp only [bl]; rw [if_pos ⟨by omega, by omega⟩]; exact bitJ_0 p hp
/-- the reasons of what holds in a branch by a knowing in an hour -/
def Rsn (f : XL → Int → Int) (b : Int) (n : Nat) (t : Int) (rk ru wy : Int → Int) : Prop := RFin f (onN f b n) (toldN f b t n) (hl f b n t) rk ru wy
def pRs (S : XS) (b : Int) (n : Nat) (t : Int) : XO → XH → Prop := fun o h' => o = .inl none ∧ ∃ S', h' = hp S' ∧ QEq S S' ∧ CB S' ∧ Rsn S.1 b n t (S'.1 (40, 0, 0)) (S'.1 (41, 0, 0)) (S'.1 (42, 0, 0))
theorem rs_of {S T S' : XS} (hb : CB S) (q : QEq S T) (bT : CB T) {b t : Int} {n : Nat} (h1 : 0 ≤ b) (h2 : b < 4) (h3 : 0 ≤ t) (h4 : t < 24) (o1 : T.1 (8, b, t) 2 = onN S.1 b n) (t1 : ∀ x : Int, 0 ≤ x → x ≤ 5 → T.2.1 (18, b, t) x = toldN S.1 b t n x) (l1 : ∀ x : Int, 0 ≤ x → x ≤ 5 → T.2.1 (28, b, t) x = hl S.1 b n t x)
    (e : REq T S') (w : WI S') (g : RGood S') (e7 : S'.1 (7, 0, 0) 2 = T.1 (8, b, t) 2) (r : RFin T.1 (T.1 (8, b, t) 2) (T.2.1 (18, b, t)) (T.2.1 (28, b, t)) (S'.1 (40, 0, 0)) (S'.1 (41, 0, 0)) (S'.1 (42, 0, 0))) : QEq S S' ∧ CB S' ∧ Rsn S.1 b n t (S'.1 (40, 0, 0)) (S'.1 (41, 0, 0)) (S'.1 (42, 0, 0)) := by
  refine ⟨q.tr e.q, bT.of e.q w (e.kept bT.2.2.1) g ⟨fun b' t' a0 a1 a2 a3 => ?_, ?_⟩, ?_⟩
  · rw [e.1 (8, b', t') (show (8 : Nat) ≠ 7 by decide) (show (8 : Nat) ≠ 40 by decide) (show (8 : Nat) ≠ 41 by decide) (show (8 : Nat) ≠ 42 by decide) (show (8 : Nat) ≠ 46 by decide)]
    exact (bT.2.2.2.2.2.1.1 b' t' a0 a1 a2 a3).q e.q
  · rw [e7]
    exact (bT.2.2.2.2.2.1.1 b t h1 h2 h3 h4).q e.q
  · rw [o1] at r
    exact (RFin_eq q.rule.symm r).congr hb.1 hb.2.1 t1 l1
theorem lay_on {S T : XS} (hb : CB S) (q : QEq S T) {b t : Int} {n : Nat} (o1 : T.1 (8, b, t) 2 = onN S.1 b n) (h1 : 0 ≤ b) (h2 : b < S.1 (0, 0, 0) 6) (hn : (n : Int) ≤ S.1 (9, b, 0) 3) : ∃ g, GOk g ∧ Lay T.1 (T.1 (8, b, t) 2) g := by
  obtain ⟨g, g1, g2⟩ := hb.2.2.2.1 b h1 h2 n hn
  rw [o1]
  exact ⟨g, g1, Lay_eq q.rule g2⟩
set_option maxHeartbeats 4000000 in
set_option maxRecDepth 100000 in
theorem c_findReason (S : XS) (hb : CB S) (i n t q : Int) (zi : zR i) (zn : zR n) (zt : zR t) (zq : zR q) : X mX8_findReason 0 (xEnt mX8_findReason [xR (0, 0, 0), xI i, xI n, xI t, xI q]) [] (hp S) 5 30 (pOr ((0 ≤ i ∧ i < S.1 (0, 0, 0) 6) ∧ 0 ≤ n ∧ n < S.1 (9, i, 0) 3 + 1) (pOr ((0 ≤ t ∧ t < 24) ∧ 0 ≤ q ∧ q < 384) (pOr (hB S.1 i n.toNat t q) (pRs S i n.toNat t) (pX S "java/util/NoSuchElementException")) (pX S "java/lang/IllegalArgumentException")) (pX S "java/lang/IndexOutOfBoundsException")) := by
  have hw := hb.1
  have hn6 := wf0_6 hw
  have h93 : 0 ≤ i → i < S.1 (0, 0, 0) 6 → 0 ≤ S.1 (9, i, 0) 3 ∧ S.1 (9, i, 0) 3 ≤ 60 := fun a b => wf9_3 hw a (by omega)
  have zi2 := zi
  unfold zR at zi2
  have zn2 := zn
  unfold zR at zn2
  have zt2 := zt
  unfold zR at zt2
  have zq2 := zq
  unfold zR at zq2
  show X mX8_findReason 0 [xR (0, 0, 0), xI i, xI n, xI t, xI q, none, none] [] (hp S) 5 30 _
  refine x_aload_n dX8_findReason_0 rfl ?_
  refine x_iload_n dX8_findReason_1 rfl ?_
  refine x_callV_t (a := 1) (b := 6) (as := [xI i]) (rest := []) ok_X8_branchAt dX8_findReason_2 wd511 ⟨wd513, wd6⟩ (hp0 S) rfl rfl (c_branchAt S hb.1 i (by first | exact hz _ _ | exact hw.1 _ _ | exact zR_of _ | exact bI_z _ | assumption | exact ⟨by omega, by omega⟩)) rfl (Nat.le_of_ble_eq_true rfl) (Nat.le_of_ble_eq_true rfl) (by decide) (by omega) (by omega) (fun t2 => ?_) (fun t2 => ?_)
  · refine x_astore (L' := [xR (0, 0, 0), xI i, xI n, xI t, xI q, xR (9, i, 0), none]) dX8_findReason_5 (by decide) rfl ?_
    refine x_aload dX8_findReason_7 rfl ?_
    refine x_iload_n dX8_findReason_9 rfl ?_
    refine x_iload_n dX8_findReason_10 rfl ?_
    refine x_iload dX8_findReason_11 rfl ?_
    refine x_callS_tv2 (a := 3) (b := 18) (as := [xR (9, i, 0), xI n, xI t, xI q]) (rest := []) ok_X8_checkAsked dX8_findReason_13 wd745 wd746 (c_checkAsked S hb.1 i (by omega) (by omega) n t q (by first | exact hz _ _ | exact hw.1 _ _ | exact zR_of _ | exact bI_z _ | assumption | exact ⟨by omega, by omega⟩) (by first | exact hz _ _ | exact hw.1 _ _ | exact zR_of _ | exact bI_z _ | assumption | exact ⟨by omega, by omega⟩) (by first | exact hz _ _ | exact hw.1 _ _ | exact zR_of _ | exact bI_z _ | assumption | exact ⟨by omega, by omega⟩)) rfl (Nat.le_of_ble_eq_true rfl) (Nat.le_of_ble_eq_true rfl) (by decide) (by omega) (by omega) (fun t13 t13b => ?_) (fun t13 => ?_) (fun t13 t13b => ?_)
    · refine x_aload_n dX8_findReason_16 rfl ?_
      refine x_aload dX8_findReason_17 rfl ?_
      refine x_iload_n dX8_findReason_19 rfl ?_
      refine x_iload_n dX8_findReason_20 rfl ?_
      refine x_callV (a := 0) (b := 0) (as := [xR (9, i, 0), xI n, xI t]) (rest := []) ok_X8_stateOf dX8_findReason_21 wd350 ⟨wd352, wd1⟩ (hp0 S) rfl rfl (c_stateZ S hb i (by omega) (by omega) n (by omega) (by omega) t (by omega) (by omega)) rfl (Nat.le_of_ble_eq_true rfl) (Nat.le_of_ble_eq_true rfl) (by decide) (by omega) (by omega) (fun _ q => by cases q.1) (fun _ _ q => ?_) (fun _ _ q => by cases q.1)
      obtain ⟨y1, T1, rfl, qq1, bT1, o1, t1, l1⟩ := q
      cases y1
      have qT1 := (QEq.rf S).tr qq1
      have eT16 := congrFun (qT1.1 (0, 0, 0) rfl) 6
      have eT17 := congrFun (qT1.1 (0, 0, 0) rfl) 7
      have eT19 := congrFun (qT1.1 (9, i, 0) rfl) 3
      refine x_astore (L' := [xR (0, 0, 0), xI i, xI n, xI t, xI q, xR (9, i, 0), xR (8, i, t)]) dX8_findReason_24 (by decide) rfl ?_
      refine x_aload dX8_findReason_26 rfl ?_
      refine x_iload dX8_findReason_28 rfl ?_
      refine x_callS_tv (a := 1) (b := 6) (as := [xR (8, i, t), xI q]) (rest := []) ok_X8_checkHeld dX8_findReason_30 wd748 wd749 (c_checkHeld T1 bT1.1 i t (by omega) (by omega) (by omega) (by omega) q (by omega) (by omega)) rfl (Nat.le_of_ble_eq_true rfl) (Nat.le_of_ble_eq_true rfl) (by decide) (by omega) (by omega) (fun t30 => ?_) (fun t30 => ?_)
      · refine x_aload_n dX8_findReason_33 rfl ?_
        refine x_get (v := xR (5, 0, 0)) dX8_findReason_34 fl_RX8_35 (hp0 T1) rfl ?_
        refine x_aload_n dX8_findReason_37 rfl ?_
        refine x_get (v := xR (4, 0, 0)) dX8_findReason_38 fl_RX8_28 (hp0 T1) rfl ?_
        refine x_aload dX8_findReason_41 rfl ?_
        refine x_callV (a := 0) (b := 0) (as := [xR (4, 0, 0), xR (8, i, t)]) (rest := []) ok_X3_read dX8_findReason_43 wd771 ⟨wd772, wd773⟩ (hp5 T1) rfl rfl (c_readK T1 bT1.1 bT1.2.1 bT1.2.2.1 bT1.2.2.2.2.1 i t (by omega) (by omega) (by omega) (by omega) (lay_on hb qT1 o1 (by omega) (by omega) (by omega))) rfl (Nat.le_of_ble_eq_true rfl) (Nat.le_of_ble_eq_true rfl) (by decide) (by omega) (by omega) (fun _ q => ?_) (fun _ _ q => by cases q.1) (fun _ _ q => by cases q.1)
        obtain ⟨-, R1, rfl, eR, wR, gR, e7, rR⟩ := q
        obtain ⟨qR1, bR1, sR1⟩ := rs_of hb qT1 bT1 (by omega) (by omega) (by omega) (by omega) o1 t1 l1 eR wR gR e7 rR
        exact x_vret dX8_findReason_46 rfl (Or.inl ⟨by omega, Or.inl ⟨by omega, Or.inl ⟨(hB_of (by omega) (by omega) l1).mp (by assumption), rfl, R1, rfl, qR1, bR1, sR1⟩⟩⟩)
      · exact XX.out rfl (Or.inl ⟨by omega, Or.inl ⟨by omega, Or.inr ⟨fun z => absurd ((hB_of (by omega) (by omega) l1).mpr z) (by assumption), pXi qT1 bT1⟩⟩⟩)
    · exact XX.out rfl (by first | exact Or.inr ⟨by omega, pXi (QEq.rf S) hb⟩ | exact Or.inl ⟨by omega, Or.inr ⟨by omega, pXi (QEq.rf S) hb⟩⟩ | exact Or.inl ⟨by omega, Or.inl ⟨by omega, Or.inr ⟨by first | omega | assumption, pXi (QEq.rf S) hb⟩⟩⟩)
    · exact XX.out rfl (by first | exact Or.inr ⟨by omega, pXi (QEq.rf S) hb⟩ | exact Or.inl ⟨by omega, Or.inr ⟨by omega, pXi (QEq.rf S) hb⟩⟩ | exact Or.inl ⟨by omega, Or.inl ⟨by omega, Or.inr ⟨by first | omega | assumption, pXi (QEq.rf S) hb⟩⟩⟩)
  · exact XX.out rfl (by first | exact Or.inr ⟨by omega, pXi (QEq.rf S) hb⟩ | exact Or.inl ⟨by omega, Or.inr ⟨by omega, pXi (QEq.rf S) hb⟩⟩ | exact Or.inl ⟨by omega, Or.inl ⟨by omega, Or.inr ⟨by first | omega | assumption, pXi (QEq.rf S) hb⟩⟩⟩)
theorem REq.rf (S : XS) : REq S S := ⟨fun _ _ _ _ _ _ => rfl, fun _ _ _ _ _ _ => rfl, rfl⟩
/-- alike but for the queue of a proof -/
def PEq (S S' : XS) : Prop := (∀ l : XL, l.1 ≠ 46 → S'.1 l = S.1 l) ∧ (∀ l : XL, l.1 ≠ 45 → S'.2.1 l = S.2.1 l) ∧ S'.2.2 = S.2.2
theorem PEq.q {S S' : XS} (h : PEq S S') : QEq S S' := ⟨fun l a => h.1 l (ki_ne a rfl), fun l a => h.2.1 l (kj_ne a rfl), h.2.2⟩
theorem PEq.cb {S S' : XS} (h : PEq S S') (w : WI S') (b : CB S) : CB S' := by
  have n : ∀ k : Nat, k ≠ 46 → ∀ x y : Int, S'.1 (k, x, y) = S.1 (k, x, y) := fun k hk x y => h.1 (k, x, y) hk
  have m : ∀ k : Nat, k ≠ 45 → ∀ x y : Int, S'.2.1 (k, x, y) = S.2.1 (k, x, y) := fun k hk x y => h.2.1 (k, x, y) hk
  refine b.of h.q w (fun b' t' a0 a1 a2 a3 => ?_) ?_ ⟨fun b' t' a0 a1 a2 a3 => ?_, ?_⟩
  · rw [n 8 (by decide), m 18 (by decide), m 28 (by decide)]
    exact Stab_eq h.q.rule (b.2.2.1 b' t' a0 a1 a2 a3)
  · unfold RGood
    rw [n 7 (by decide), n 40 (by decide), n 41 (by decide), n 42 (by decide), m 17 (by decide), m 27 (by decide)]
    exact ⟨Stab_eq h.q.rule b.2.2.2.2.1.1, RFin_eq h.q.rule b.2.2.2.2.1.2⟩
  · rw [n 8 (by decide)]
    exact (b.2.2.2.2.2.1.1 b' t' a0 a1 a2 a3).q h.q
  · rw [n 7 (by decide)]
    exact b.2.2.2.2.2.1.2.q h.q
theorem PEq.rk {S S' : XS} (h : PEq S S') : S'.1 (40, 0, 0) = S.1 (40, 0, 0) ∧ S'.1 (41, 0, 0) = S.1 (41, 0, 0) ∧ S'.1 (42, 0, 0) = S.1 (42, 0, 0) := ⟨h.1 (40, 0, 0) (show (40 : Nat) ≠ 46 by decide), h.1 (41, 0, 0) (show (41 : Nat) ≠ 46 by decide), h.1 (42, 0, 0) (show (42 : Nat) ≠ 46 by decide)⟩
theorem premN_congr {f f' : XL → Int → Int} {r : Int} (h : ∀ i : Int, f (36, r, i) = f' (36, r, i)) (w k : Int) (n : Nat) : premN f r w k n = premN f' r w k n := by
  have s : ∀ n, strN f r n = strN f' r n := fun n => by
    induction n with
    | zero => rfl
    | succ n ih => simp only [strN, h, ih]
  induction n with
  | zero => rfl
  | succ n ih => simp only [premN, h, ih, s, pairF]
theorem premV_congr {f f' : XL → Int → Int} (h : RuleEq f f') (rk ru wy : Int → Int) (q k : Int) : premV f rk ru wy q k = premV f' rk ru wy q k := by
  unfold premV
  rw [premN_congr (fun i => h.2.1 (ru q) i), h.1]
theorem PEq.prem {S S' : XS} (h : PEq S S') (q k : Int) : premV S'.1 (S'.1 (40, 0, 0)) (S'.1 (41, 0, 0)) (S'.1 (42, 0, 0)) q k = premV S.1 (S.1 (40, 0, 0)) (S.1 (41, 0, 0)) (S.1 (42, 0, 0)) q k := by
  rw [h.rk.1, h.rk.2.1, h.rk.2.2]
  exact premV_congr h.q.rule.symm _ _ _ q k
theorem PEq.tr {S S' S2 : XS} (h : PEq S S') (k : PEq S' S2) : PEq S S2 := ⟨fun l a => (k.1 l a).trans (h.1 l a), fun l a => (k.2.1 l a).trans (h.2.1 l a), k.2.2.trans h.2.2⟩
theorem PEq.rf (S : XS) : PEq S S := ⟨fun _ _ => rfl, fun _ _ => rfl, rfl⟩
theorem PEq.enq (S : XS) (q n : Int) : PEq S (sEnq S q n) := ⟨fun l a => by show (if l = _ then _ else _) = _; rw [if_neg (fun z => a (by rw [z]))]; rfl, fun l a => by show (if l = _ then _ else _) = _; rw [if_neg (fun z => a (by rw [z]))], rfl⟩
theorem PEq.fill (S : XS) (f : Int → Int64) : PEq S (rowJ S (45, 0, 0) f 6) := ⟨fun l a => rfl, fun l a => by show (if l = _ then _ else _) = _; rw [if_neg (fun z => a (by rw [z]))], rfl⟩
theorem wi_enq {S : XS} (hw : WI S) {q n : Int} (q0 : 0 ≤ q) (q1 : q < 384) : WI (sEnq S q n) := wpa46 (WI.puJ hw) (by omega)
theorem enq_45 (S : XS) (q n : Int) : (sEnq S q n).2.1 (45, 0, 0) = xUpd (S.2.1 (45, 0, 0)) (q / 64) (S.2.1 (45, 0, 0) (q / 64) ||| jShl 1 (q % 64)) := by simp [sEnq, putI, putJ]
theorem enq_46 (S : XS) (q n : Int) : (sEnq S q n).1 (46, 0, 0) = xUpd (S.1 (46, 0, 0)) n q := by simp [sEnq, putI, putJ]
/-- the queue at work: of the state S, with its first i done, and of the next the premises below j -/
def QW (S : XS) (q0 : Int) (T : XS) (n i j : Int) : Prop := PEq S T ∧ WI T ∧ QI S.1 (S.1 (40, 0, 0)) (S.1 (41, 0, 0)) (S.1 (42, 0, 0)) q0 (T.2.1 (45, 0, 0)) (T.1 (46, 0, 0)) n ∧ sB (T.2.1 (45, 0, 0)) q0 ∧ ∀ i' k : Int, 0 ≤ i' → i' < n → 0 ≤ k → k < 3 → (i' < i ∨ i' = i ∧ k < j) → premV S.1 (S.1 (40, 0, 0)) (S.1 (41, 0, 0)) (S.1 (42, 0, 0)) (T.1 (46, 0, 0) i') k ≠ -1 → sB (T.2.1 (45, 0, 0)) (premV S.1 (S.1 (40, 0, 0)) (S.1 (41, 0, 0)) (S.1 (42, 0, 0)) (T.1 (46, 0, 0) i') k)
theorem QW.skip {S T : XS} {q0 n i j : Int} (h : QW S q0 T n i j) (hp : premV S.1 (S.1 (40, 0, 0)) (S.1 (41, 0, 0)) (S.1 (42, 0, 0)) (T.1 (46, 0, 0) i) j = -1) : QW S q0 T n i (j + 1) := by
  obtain ⟨h1, h2, h3, h4, h5⟩ := h
  refine ⟨h1, h2, h3, h4, fun i' k a b c d e z => ?_⟩
  by_cases y : i' = i ∧ k = j
  · obtain ⟨rfl, rfl⟩ := y
    exact absurd hp z
  · exact h5 i' k a b c d (by omega) z
theorem QW.seen {S T : XS} {q0 n i j : Int} (h : QW S q0 T n i j) (hp : sB (T.2.1 (45, 0, 0)) (premV S.1 (S.1 (40, 0, 0)) (S.1 (41, 0, 0)) (S.1 (42, 0, 0)) (T.1 (46, 0, 0) i) j)) : QW S q0 T n i (j + 1) := by
  obtain ⟨h1, h2, h3, h4, h5⟩ := h
  refine ⟨h1, h2, h3, h4, fun i' k a b c d e z => ?_⟩
  by_cases y : i' = i ∧ k = j
  · obtain ⟨rfl, rfl⟩ := y
    exact hp
  · exact h5 i' k a b c d (by omega) z
theorem QW.add {S T : XS} (hin : ∀ q k : Int, 0 ≤ q → q < 384 → premV S.1 (S.1 (40, 0, 0)) (S.1 (41, 0, 0)) (S.1 (42, 0, 0)) q k = -1 ∨ 0 ≤ premV S.1 (S.1 (40, 0, 0)) (S.1 (41, 0, 0)) (S.1 (42, 0, 0)) q k ∧ premV S.1 (S.1 (40, 0, 0)) (S.1 (41, 0, 0)) (S.1 (42, 0, 0)) q k < 384) {q0 n i j x : Int} (h : QW S q0 T n i j) (hx : x = premV S.1 (S.1 (40, 0, 0)) (S.1 (41, 0, 0)) (S.1 (42, 0, 0)) (T.1 (46, 0, 0) i) j) (i0 : 0 ≤ i) (i1 : i < n) (j0 : 0 ≤ j) (j1 : j < 3) (x0 : 0 ≤ x) (x1 : x < 384) (hn : ¬ sB (T.2.1 (45, 0, 0)) x) (q00 : 0 ≤ q0) (q01 : q0 < 384) : QW S q0 (sEnq T x n) (n + 1) i (j + 1) := by
  obtain ⟨h1, h2, h3, h4, h5⟩ := h
  obtain ⟨a0, a1, a2⟩ := h3.2.1 i i0 i1
  have hp : PrS S.1 (S.1 (40, 0, 0)) (S.1 (41, 0, 0)) (S.1 (42, 0, 0)) q0 x := by
    rw [hx]
    exact ((h3.1 _ a0 a1 a2).1).st j0 j1 (by omega)
  refine ⟨h1.tr (PEq.enq T x n), wi_enq h2 x0 x1, ?_, ?_, fun i' k a b c d e z => ?_⟩
  · rw [enq_45, enq_46]
    exact h3.add x0 x1 hn hp
  · rw [enq_45]
    exact (sB_upd _ x0 x1 q00 q01).mpr (Or.inl h4)
  · rw [enq_46] at z ⊢
    rw [enq_45]
    have e2 : xUpd (T.1 (46, 0, 0)) n x i' = T.1 (46, 0, 0) i' := by simp only [xUpd]; rw [if_neg (by omega)]
    rw [e2] at z ⊢
    by_cases y : i' = i ∧ k = j
    · obtain ⟨rfl, rfl⟩ := y
      rw [← hx]
      exact (sB_upd _ x0 x1 x0 x1).mpr (Or.inr rfl)
    · by_cases y2 : i' = n
      · omega
      · have s := h5 i' k a (by omega) c d (by omega) z
        obtain ⟨c0, c1, c2⟩ := h3.2.1 i' a (by omega)
        have r := (hin (T.1 (46, 0, 0) i') k c0 c1).resolve_left z
        exact (sB_upd _ x0 x1 r.1 r.2).mpr (Or.inl s)
