/-! constructors: rows of references, rules -/
/-- what a row of references says beyond its end is nothing -/
theorem x_full {M : XM} {pc : Nat} {L st : List XV} {h : XH} {kc ks : Nat} {Q : XO → XH → Prop} {l : XL} {t n : Nat} {f : Int → Option XL} (f' : Int → Option XL) (h1 : h l = some (.inr (t, n, .inr (.inr (.inr f))))) (h99 : l.1 ≠ 99) (e : ∀ j : Nat, j < n → f' j = f j) (k : X M pc L st (xUp h l (.inr (t, n, .inr (.inr (.inr f'))))) kc ks Q) : X M pc L st h kc ks Q := by
  intro p l0 e0 R s m args below meth c D dA base ad0 h0 ad H locs cells slots ls stv F hE h9 hH hS hL hst hc hs
  have hx2 := xUp_ex (ad := ad) (c := .inr (t, n, .inr (.inr (.inr f')))) (show h l ≠ none by rw [h1]; simp) h99
  obtain ⟨⟨g, u1, q⟩, gb⟩ := hH.1 l _ h1 h99
  refine k p l0 e0 R s m args below meth c D dA base ad0 h0 ad H locs cells slots ls stv F (hE.tr hx2) (h9.ex hx2) (hH.put (show h l ≠ none by rw [h1]; simp) h99 rfl (fun _ _ => rfl) ⟨g, fun j hj => ⟨fun z => (u1 j hj).1 (by rw [← e j hj]; exact z), fun l3 z => ?_⟩, q⟩) hS (hL.mono hx2) (hst.mono hx2) hc hs
  obtain ⟨z1, z2⟩ := (u1 j hj).2 l3 (by rw [← e j hj]; exact z)
  exact ⟨(hx2.1 l3 z1).1, z2⟩
/-- the first i references of a row -/
def rwF (f : Int → XL) (i : Int) : Int → Option XL := fun j => if 0 ≤ j ∧ j < i then some (f j) else none
theorem rwF_0 (f : Int → XL) : (fun _ => none) = rwF f 0 := by
  funext j
  unfold rwF
  rw [if_neg (by omega)]
theorem rwF_s (f : Int → XL) {i : Int} (h : 0 ≤ i) : xUpd (rwF f i) i (some (f i)) = rwF f (i + 1) := by
  funext j
  unfold rwF
  by_cases e : j = i
  · subst e
    simp only [xUpd, if_true]
    rw [if_pos ⟨h, by omega⟩]
  · simp only [xUpd, if_neg e]
    by_cases y : 0 ≤ j ∧ j < i
    · rw [if_pos y, if_pos ⟨y.1, by omega⟩]
    · rw [if_neg y, if_neg (fun z => y ⟨z.1, by omega⟩)]
theorem rwF_n (f : Int → XL) (n : Nat) (j : Nat) (hj : j < n) : some (f j) = rwF f n j := by
  unfold rwF
  rw [if_pos ⟨by omega, by omega⟩]
/-- the world at the start: n ints of script -/
def iS (n : Nat) (sc : Int → Int) : XS := (fun l k => match l.1 with
  | 0 => if k = 6 then 1 else 0
  | 11 => if k = 0 then 1 else 0
  | 34 => if k = 4 then 511 else 0
  | 40 => if 0 ≤ k ∧ k < 384 then -1 else 0
  | 99 => sc k
  | _ => 0, fun _ _ => 0, 0, (fun _ => 0), 0, n)
noncomputable def z0 : XH := hp (iS 0 (fun _ => 0))
theorem z0_eq (n : Nat) (sc : Int → Int) {l : XL} (h : l.1 ≠ 99) : hp (iS n sc) l = z0 l := by
  obtain ⟨k, a, b⟩ := l
  unfold z0 hp
  have d : xdm (iS n sc).2.2.2 (k, a, b) ↔ xdm (iS 0 (fun _ => 0)).2.2.2 (k, a, b) := by
    unfold xdm iS
    split <;> exact Iff.rfl
  have e : (iS n sc).1 (k, a, b) = (iS 0 (fun _ => 0)).1 (k, a, b) := by
    funext j
    have h' : k ≠ 99 := h
    simp only [iS]
    split <;> first | rfl | exact absurd rfl h' | omega
  by_cases x : xdm (iS n sc).2.2.2 (k, a, b)
  · rw [if_pos x, if_pos (d.mp x), e]
    have h' : k ≠ 99 := h
    show xsh ((fun _ => 0), 0, n) 0 (k, a, b) _ _ = xsh ((fun _ => 0), 0, 0) 0 (k, a, b) _ _
    unfold xsh
    split <;> first | rfl | (rename_i q; exact absurd (congrArg (fun x : XL => x.1) q) h') | simp_all
  · rw [if_neg x, if_neg (fun z => x (d.mpr z))]
def nRu (r : Int) (l : XL) : Prop := (34 ≤ l.1 ∧ l.1 ≤ 37) ∧ (l.2.1 = r) ∧ dzz l
set_option maxHeartbeats 4000000 in
set_option maxRecDepth 100000 in
theorem l_init4 (g0 : XH) (r : Int) (r0 : 0 ≤ r) (r1 : r < 10) : ∀ (nn : Nat) (i : Int) (g : XH) (kc ks : Nat), 3 - i < (nn : Int) → 0 ≤ i → i ≤ 3 → (3 - i ≤ (kc : Int) ∧ 4 * (3 - i) ≤ (ks : Int)) → (g (34, r, 0) = some (.inl (4, [xR (37, r, 0), xR (35, r, 0), xI 0, xI 0, xI 511, xI 0]))) → (g (37, r, 0) = some (.inl (2, [xI 0, xI 0, xI 0, xI 0]))) → (g (35, r, 0) = some (.inr (9, 3, .inr (.inr (.inr (rwF (fun k : Int => ((36, r, k) : XL)) i)))))) → (∀ l : XL, ((l.1 = 36) ∧ (l.2.1 = r) ∧ (l.2.2 < i) ∧ dzz l) → g l = some (.inl (2, [xI 0, xI 0, xI 0, xI 0]))) → (∀ l : XL, ((l.1 = 36) ∧ (l.2.1 = r) ∧ (i ≤ l.2.2) ∧ dzz l) → g l = none) → (∀ l : XL, ¬ ((34 ≤ l.1 ∧ l.1 ≤ 37) ∧ (l.2.1 = r) ∧ dzz l) → g l = g0 l) → X mX4_init 47 [xR (34, r, 0), xI i] [] g kc ks (fun o h' => o = .inl none ∧ (∀ l : XL, nRu r l → h' l = z0 l) ∧ ∀ l : XL, ¬ nRu r l → h' l = g0 l) := by
  intro nn
  induction nn with
  | zero => intro i g kc ks hm i0 i1 hk; exfalso; omega
  | succ nn ih =>
    intro i g kc ks hm i0 i1 hk v34 v37 v35 dd ff fr
    refine x_iload_n dX4_init_47 rfl ?_
    refine x_iconst dX4_init_48 ?_
    refine x_icmp_ge (tgt := 71) dX4_init_49 (by decide) ⟨by omega, by omega⟩ ⟨by decide, by decide⟩ (fun c49 => ?_) (fun c49 => ?_)
    · have e3 : i = 3 := by omega
      subst e3
      refine x_full (fun k : Int => some ((36, r, k) : XL)) v35 (show (35 : Nat) ≠ 99 by decide) (fun j hj => rwF_n (fun k : Int => ((36, r, k) : XL)) 3 j hj) ?_
      refine x_hg (fun g3_1 eg3_1 => ?_)
      have v34_g3_1 : g3_1 (34, r, 0) = some (.inl (4, [xR (37, r, 0), xR (35, r, 0), xI 0, xI 0, xI 511, xI 0])) := by rw [eg3_1]; exact (xu_o (nK (by decide) _ _ _ _)).trans v34
      have v37_g3_1 : g3_1 (37, r, 0) = some (.inl (2, [xI 0, xI 0, xI 0, xI 0])) := by rw [eg3_1]; exact (xu_o (nK (by decide) _ _ _ _)).trans v37
      have dd_g3_1 : ∀ l : XL, ((l.1 = 36) ∧ (l.2.1 = r) ∧ (l.2.2 < 3) ∧ dzz l) → g3_1 l = some (.inl (2, [xI 0, xI 0, xI 0, xI 0])) := by rw [eg3_1]; exact fun l hl => (xu_o (fun z => (fun z => by have z0 : (35 : Nat) = 36 := z.1; have z1 : (r : Int) = r := z.2.1; have z2 : (0 : Int) < 3 := z.2.2.1; omega) (by rw [z] at hl; exact hl))).trans (dd l hl)
      have ff_g3_1 : ∀ l : XL, ((l.1 = 36) ∧ (l.2.1 = r) ∧ (3 ≤ l.2.2) ∧ dzz l) → g3_1 l = none := by rw [eg3_1]; exact fun l hl => (xu_o (fun z => (fun z => by have z0 : (35 : Nat) = 36 := z.1; have z1 : (r : Int) = r := z.2.1; have z2 : 3 ≤ (0 : Int) := z.2.2.1; omega) (by rw [z] at hl; exact hl))).trans (ff l hl)
      have fr_g3_1 : ∀ l : XL, ¬ ((34 ≤ l.1 ∧ l.1 ≤ 37) ∧ (l.2.1 = r) ∧ dzz l) → g3_1 l = g0 l := by rw [eg3_1]; exact fun l hl => (xu_o (fun z => hl (by rw [z]; exact ⟨(show 34 ≤ (35 : Nat) ∧ (35 : Nat) ≤ 37 by omega), (show (r : Int) = r by omega), (show (0 : Int) ≤ r ∧ r < 10 ∧ (0 : Int) = 0 by omega)⟩))).trans (fr l hl)
      have v35_g3_1 : g3_1 (35, r, 0) = some (.inr (9, 3, .inr (.inr (.inr (fun k : Int => some ((36, r, k) : XL)))))) := by rw [eg3_1]; exact xu_at
      exact x_vret dX4_init_71 rfl ⟨rfl, fun l hl => (by
        obtain ⟨k, a, b⟩ := l
        obtain ⟨hk, ha, hd⟩ := hl
        have ha' : a = r := ha
        subst ha'
        have hk2 : 34 ≤ k ∧ k ≤ 37 := hk
        have hk' : k = 34 ∨ k = 35 ∨ k = 36 ∨ k = 37 := by omega
        rcases hk' with rfl | rfl | rfl | rfl
        · obtain ⟨d1, d2, d3⟩ : 0 ≤ a ∧ a < 10 ∧ b = 0 := hd
          subst d3; rw [v34_g3_1]; exact (hp34 (iS 0 (fun _ => 0)) d1 d2).symm
        · obtain ⟨d1, d2, d3⟩ : 0 ≤ a ∧ a < 10 ∧ b = 0 := hd
          subst d3; rw [v35_g3_1]; exact (hp35 (iS 0 (fun _ => 0)) d1 d2).symm
        · obtain ⟨d1, d2, d3, d4⟩ : 0 ≤ a ∧ a < 10 ∧ 0 ≤ b ∧ b < 3 := hd
          rw [dd_g3_1 (36, a, b) ⟨rfl, rfl, (show b < 3 by omega), (show 0 ≤ a ∧ a < 10 ∧ 0 ≤ b ∧ b < 3 from ⟨d1, d2, d3, d4⟩)⟩]; exact (hp36 (iS 0 (fun _ => 0)) d1 d2 d3 d4).symm
        · obtain ⟨d1, d2, d3⟩ : 0 ≤ a ∧ a < 10 ∧ b = 0 := hd
          subst d3; rw [v37_g3_1]; exact (hp37 (iS 0 (fun _ => 0)) d1 d2).symm), fun l hl => fr_g3_1 l hl⟩
    · refine x_aload_n dX4_init_52 rfl ?_
      refine x_get (v := xR (35, r, 0)) dX4_init_53 fl_RX4_18 v34 rfl ?_
      refine x_iload_n dX4_init_56 rfl ?_
      refine x_newN (n := 4) (36, r, i) [xI 0, xI 0, xI 0, xI 0] dX4_init_57 (r := (RX2, TX2, 4)) rfl rfl wd65 (ff _ ⟨(show (36 : Nat) = 36 by omega), (show (r : Int) = r by omega), (show i ≤ (i : Int) by omega), (show (0 : Int) ≤ r ∧ r < 10 ∧ 0 ≤ i ∧ i < 3 by omega)⟩) (show (36 : Nat) ≠ 99 by decide) (by omega) (by omega) dfl_2 ?_
      refine x_hg (fun g3_3 eg3_3 => ?_)
      have v34_g3_3 : g3_3 (34, r, 0) = some (.inl (4, [xR (37, r, 0), xR (35, r, 0), xI 0, xI 0, xI 511, xI 0])) := by rw [eg3_3]; exact (xu_o (nK (by decide) _ _ _ _)).trans v34
      have v37_g3_3 : g3_3 (37, r, 0) = some (.inl (2, [xI 0, xI 0, xI 0, xI 0])) := by rw [eg3_3]; exact (xu_o (nK (by decide) _ _ _ _)).trans v37
      have v35_g3_3 : g3_3 (35, r, 0) = some (.inr (9, 3, .inr (.inr (.inr (rwF (fun k : Int => ((36, r, k) : XL)) i))))) := by rw [eg3_3]; exact (xu_o (nK (by decide) _ _ _ _)).trans v35
      have dd_g3_3 : ∀ l : XL, ((l.1 = 36) ∧ (l.2.1 = r) ∧ (l.2.2 < i) ∧ dzz l) → g3_3 l = some (.inl (2, [xI 0, xI 0, xI 0, xI 0])) := by rw [eg3_3]; exact fun l hl => (xu_o (fun z => (fun z => by have z0 : (36 : Nat) = 36 := z.1; have z1 : (r : Int) = r := z.2.1; have z2 : (i : Int) < i := z.2.2.1; omega) (by rw [z] at hl; exact hl))).trans (dd l hl)
      have ff_g3_3 : ∀ l : XL, ((l.1 = 36) ∧ (l.2.1 = r) ∧ (i ≤ l.2.2) ∧ dzz l) → l ≠ (36, r, i) → g3_3 l = none := by rw [eg3_3]; exact fun l hl nx => (xu_o nx).trans (ff l hl)
      have fr_g3_3 : ∀ l : XL, ¬ ((34 ≤ l.1 ∧ l.1 ≤ 37) ∧ (l.2.1 = r) ∧ dzz l) → g3_3 l = g0 l := by rw [eg3_3]; exact fun l hl => (xu_o (fun z => hl (by rw [z]; exact ⟨(show 34 ≤ (36 : Nat) ∧ (36 : Nat) ≤ 37 by omega), (show (r : Int) = r by omega), (show (0 : Int) ≤ r ∧ r < 10 ∧ 0 ≤ i ∧ i < 3 by omega)⟩))).trans (fr l hl)
      have v36_g3_3 : g3_3 (36, r, i) = some (.inl (2, [xI 0, xI 0, xI 0, xI 0])) := by rw [eg3_3]; exact xu_at
      refine x_dup dX4_init_60 rfl ?_
      refine x_callIN 0 0 (as := []) (rest := [xR (36, r, i), xI i, xR (35, r, 0)]) ok_X2_init rfl rfl dX4_init_61 wn67 wd68 (c_init2 g3_3 (36, r, i) (by rw [v36_g3_3]; simp)) (fun _ _ z => by cases z.1) rfl (Nat.le_of_ble_eq_true rfl) (Nat.le_of_ble_eq_true rfl) (by decide) (by omega) (by omega) (fun h q => ?_) (fun _ _ z => by cases z.1)
      obtain ⟨-, rfl⟩ := q
      refine x_asta (r := (RX2, TX2, 4)) dX4_init_64 v35_g3_3 (show (35 : Nat) ≠ 99 by decide) (by decide) rfl rfl v36_g3_3 (by omega) (by omega) (by decide) ?_
      refine x_hg (fun g3_4 eg3_4 => ?_)
      have v34_g3_4 : g3_4 (34, r, 0) = some (.inl (4, [xR (37, r, 0), xR (35, r, 0), xI 0, xI 0, xI 511, xI 0])) := by rw [eg3_4]; exact (xu_o (nK (by decide) _ _ _ _)).trans v34_g3_3
      have v37_g3_4 : g3_4 (37, r, 0) = some (.inl (2, [xI 0, xI 0, xI 0, xI 0])) := by rw [eg3_4]; exact (xu_o (nK (by decide) _ _ _ _)).trans v37_g3_3
      have dd_g3_4 : ∀ l : XL, ((l.1 = 36) ∧ (l.2.1 = r) ∧ (l.2.2 < i) ∧ dzz l) → g3_4 l = some (.inl (2, [xI 0, xI 0, xI 0, xI 0])) := by rw [eg3_4]; exact fun l hl => (xu_o (fun z => (fun z => by have z0 : (35 : Nat) = 36 := z.1; have z1 : (r : Int) = r := z.2.1; have z2 : (0 : Int) < i := z.2.2.1; omega) (by rw [z] at hl; exact hl))).trans (dd_g3_3 l hl)
      have ff_g3_4 : ∀ l : XL, ((l.1 = 36) ∧ (l.2.1 = r) ∧ (i ≤ l.2.2) ∧ dzz l) → l ≠ (36, r, i) → g3_4 l = none := by rw [eg3_4]; exact fun l hl n0 => (xu_o (fun z => (fun z => by have z0 : (35 : Nat) = 36 := z.1; have z1 : (r : Int) = r := z.2.1; have z2 : i ≤ (0 : Int) := z.2.2.1; omega) (by rw [z] at hl; exact hl))).trans (ff_g3_3 l hl n0)
      have fr_g3_4 : ∀ l : XL, ¬ ((34 ≤ l.1 ∧ l.1 ≤ 37) ∧ (l.2.1 = r) ∧ dzz l) → g3_4 l = g0 l := by rw [eg3_4]; exact fun l hl => (xu_o (fun z => hl (by rw [z]; exact ⟨(show 34 ≤ (35 : Nat) ∧ (35 : Nat) ≤ 37 by omega), (show (r : Int) = r by omega), (show (0 : Int) ≤ r ∧ r < 10 ∧ (0 : Int) = 0 by omega)⟩))).trans (fr_g3_3 l hl)
      have v36_g3_4 : g3_4 (36, r, i) = some (.inl (2, [xI 0, xI 0, xI 0, xI 0])) := by rw [eg3_4]; exact (xu_o (nK (by decide) _ _ _ _)).trans v36_g3_3
      have v35_g3_4 : g3_4 (35, r, 0) = some (.inr (9, 3, .inr (.inr (.inr (xUpd (rwF (fun k : Int => ((36, r, k) : XL)) i) i (some (36, r, i))))))) := by rw [eg3_4]; exact xu_at
      have v35_g3_4x : g3_4 (35, r, 0) = some (.inr (9, 3, .inr (.inr (.inr (rwF (fun k : Int => ((36, r, k) : XL)) (i + 1)))))) := by rw [v35_g3_4, rwF_s (fun k : Int => ((36, r, k) : XL)) (by omega)]
      refine x_iinc (L' := [xR (34, r, 0), xI (i + 1)]) dX4_init_65 rfl rfl ?_
      refine x_goto (tgt := 47) dX4_init_68 (by decide) ?_
      exact ih (i + 1) g3_4 (kc - 1) (ks - 4) (by omega) (by omega) (by omega) (by omega) v34_g3_4 v37_g3_4 v35_g3_4x (fun l hl => by
          by_cases y : l.2.2 = i
          · obtain ⟨k, a, b⟩ := l; obtain ⟨q1, q2, q3, q4⟩ := hl; have q1 : k = 36 := q1; have q2 : a = r := q2; have y : b = i := y; subst q1; subst q2; subst y; exact v36_g3_4
          · exact dd_g3_4 l ⟨hl.1, hl.2.1, (by have := hl.2.2.1; omega), hl.2.2.2⟩) (fun l hl => ff_g3_4 l ⟨hl.1, hl.2.1, (by have := hl.2.2.1; omega), hl.2.2.2⟩ (fun z => by have := hl.2.2.1; rw [z] at this; have t : i + 1 ≤ i := this; omega)) (fun l hl => fr_g3_4 l hl)
set_option maxHeartbeats 4000000 in
set_option maxRecDepth 100000 in
theorem c_init4 (g0 : XH) (r : Int) (r0 : 0 ≤ r) (r1 : r < 10) (v34 : g0 (34, r, 0) = some (.inl (4, [xN, xN, xI 0, xI 0, xI 0, xI 0]))) (ff : ∀ l : XL, nRu r l → l ≠ (34, r, 0) → g0 l = none) : X mX4_init 0 (xEnt mX4_init [xR (34, r, 0)]) [] g0 5 19 (fun o h' => o = .inl none ∧ (∀ l : XL, nRu r l → h' l = z0 l) ∧ ∀ l : XL, ¬ nRu r l → h' l = g0 l) := by
  show X mX4_init 0 [xR (34, r, 0), none] [] g0 5 19 _
  have fr : ∀ l : XL, ¬ ((34 ≤ l.1 ∧ l.1 ≤ 37) ∧ (l.2.1 = r) ∧ dzz l) → g0 l = g0 l := fun _ _ => rfl
  refine x_aload_n dX4_init_0 rfl ?_
  refine x_objInit dX4_init_1 wd64 wd46 wd47 (by decide) (Nat.le_of_ble_eq_true rfl) ?_
  refine x_aload_n dX4_init_4 rfl ?_
  refine x_newN (n := 4) (37, r, 0) [xI 0, xI 0, xI 0, xI 0] dX4_init_5 (r := (RX2, TX2, 4)) rfl rfl wd65 (ff _ ⟨(show 34 ≤ (37 : Nat) ∧ (37 : Nat) ≤ 37 by omega), (show (r : Int) = r by omega), (show (0 : Int) ≤ r ∧ r < 10 ∧ (0 : Int) = 0 by omega)⟩ (nK (by decide) _ _ _ _)) (show (37 : Nat) ≠ 99 by decide) (by omega) (by omega) dfl_2 ?_
  refine x_hg (fun g1_1 eg1_1 => ?_)
  have v34_g1_1 : g1_1 (34, r, 0) = some (.inl (4, [xN, xN, xI 0, xI 0, xI 0, xI 0])) := by rw [eg1_1]; exact (xu_o (nK (by decide) _ _ _ _)).trans v34
  have ff_g1_1 : ∀ l : XL, ((34 ≤ l.1 ∧ l.1 ≤ 37) ∧ (l.2.1 = r) ∧ dzz l) → l ≠ (34, r, 0) → l ≠ (37, r, 0) → g1_1 l = none := by rw [eg1_1]; exact fun l hl n0 nx => (xu_o nx).trans (ff l hl n0)
  have fr_g1_1 : ∀ l : XL, ¬ ((34 ≤ l.1 ∧ l.1 ≤ 37) ∧ (l.2.1 = r) ∧ dzz l) → g1_1 l = g0 l := by rw [eg1_1]; exact fun l hl => (xu_o (fun z => hl (by rw [z]; exact ⟨(show 34 ≤ (37 : Nat) ∧ (37 : Nat) ≤ 37 by omega), (show (r : Int) = r by omega), (show (0 : Int) ≤ r ∧ r < 10 ∧ (0 : Int) = 0 by omega)⟩))).trans (fr l hl)
  have v37_g1_1 : g1_1 (37, r, 0) = some (.inl (2, [xI 0, xI 0, xI 0, xI 0])) := by rw [eg1_1]; exact xu_at
  refine x_dup dX4_init_8 rfl ?_
  refine x_callIN 0 0 (as := []) (rest := [xR (37, r, 0), xR (34, r, 0)]) ok_X2_init rfl rfl dX4_init_9 wn67 wd68 (c_init2 g1_1 (37, r, 0) (by rw [v37_g1_1]; simp)) (fun _ _ z => by cases z.1) rfl (Nat.le_of_ble_eq_true rfl) (Nat.le_of_ble_eq_true rfl) (by decide) (by omega) (by omega) (fun h q => ?_) (fun _ _ z => by cases z.1)
  obtain ⟨-, rfl⟩ := q
  refine x_putF dX4_init_12 fl_RX4_12 (fun r hr => by cases hr; exact ⟨rfl, rfl⟩) v34_g1_1 xfit_o (Nat.le_of_ble_eq_true rfl) rfl rfl ?_
  refine x_hg (fun g1_2 eg1_2 => ?_)
  have ff_g1_2 : ∀ l : XL, ((34 ≤ l.1 ∧ l.1 ≤ 37) ∧ (l.2.1 = r) ∧ dzz l) → l ≠ (34, r, 0) → l ≠ (37, r, 0) → g1_2 l = none := by rw [eg1_2]; exact fun l hl n0 n1 => (xu_o n0).trans (ff_g1_1 l hl n0 n1)
  have fr_g1_2 : ∀ l : XL, ¬ ((34 ≤ l.1 ∧ l.1 ≤ 37) ∧ (l.2.1 = r) ∧ dzz l) → g1_2 l = g0 l := by rw [eg1_2]; exact fun l hl => (xu_o (fun z => hl (by rw [z]; exact ⟨(show 34 ≤ (34 : Nat) ∧ (34 : Nat) ≤ 37 by omega), (show (r : Int) = r by omega), (show (0 : Int) ≤ r ∧ r < 10 ∧ (0 : Int) = 0 by omega)⟩))).trans (fr_g1_1 l hl)
  have v37_g1_2 : g1_2 (37, r, 0) = some (.inl (2, [xI 0, xI 0, xI 0, xI 0])) := by rw [eg1_2]; exact (xu_o (nK (by decide) _ _ _ _)).trans v37_g1_1
  have v34_g1_2 : g1_2 (34, r, 0) = some (.inl (4, [xR (37, r, 0), xN, xI 0, xI 0, xI 0, xI 0])) := by rw [eg1_2]; exact xu_at
  refine x_aload_n dX4_init_15 rfl ?_
  refine x_iconst dX4_init_16 ?_
  refine x_anewarray (35, r, 0) (t := 9) (n := 3) (N := 3) (C := "Versefold$Pattern") dX4_init_17 rfl (by decide) (by decide) wd65 (ff_g1_2 _ ⟨(show 34 ≤ (35 : Nat) ∧ (35 : Nat) ≤ 37 by omega), (show (r : Int) = r by omega), (show (0 : Int) ≤ r ∧ r < 10 ∧ (0 : Int) = 0 by omega)⟩ (nK (by decide) _ _ _ _) (nK (by decide) _ _ _ _)) (show (35 : Nat) ≠ 99 by decide) rfl (by decide) (by omega) (by omega) ?_
  refine x_hg (fun g1_3 eg1_3 => ?_)
  have ff_g1_3 : ∀ l : XL, ((34 ≤ l.1 ∧ l.1 ≤ 37) ∧ (l.2.1 = r) ∧ dzz l) → l ≠ (34, r, 0) → l ≠ (37, r, 0) → l ≠ (35, r, 0) → g1_3 l = none := by rw [eg1_3]; exact fun l hl n0 n1 nx => (xu_o nx).trans (ff_g1_2 l hl n0 n1)
  have fr_g1_3 : ∀ l : XL, ¬ ((34 ≤ l.1 ∧ l.1 ≤ 37) ∧ (l.2.1 = r) ∧ dzz l) → g1_3 l = g0 l := by rw [eg1_3]; exact fun l hl => (xu_o (fun z => hl (by rw [z]; exact ⟨(show 34 ≤ (35 : Nat) ∧ (35 : Nat) ≤ 37 by omega), (show (r : Int) = r by omega), (show (0 : Int) ≤ r ∧ r < 10 ∧ (0 : Int) = 0 by omega)⟩))).trans (fr_g1_2 l hl)
  have v37_g1_3 : g1_3 (37, r, 0) = some (.inl (2, [xI 0, xI 0, xI 0, xI 0])) := by rw [eg1_3]; exact (xu_o (nK (by decide) _ _ _ _)).trans v37_g1_2
  have v34_g1_3 : g1_3 (34, r, 0) = some (.inl (4, [xR (37, r, 0), xN, xI 0, xI 0, xI 0, xI 0])) := by rw [eg1_3]; exact (xu_o (nK (by decide) _ _ _ _)).trans v34_g1_2
  have v35_g1_3 : g1_3 (35, r, 0) = some (.inr (9, 3, .inr (.inr (.inr (fun _ => none))))) := by rw [eg1_3]; exact xu_at
  refine x_putF dX4_init_20 fl_RX4_18 (fun r hr => by cases hr; exact ⟨rfl, rfl⟩) v34_g1_3 xfit_a (Nat.le_of_ble_eq_true rfl) rfl rfl ?_
  refine x_hg (fun g1_4 eg1_4 => ?_)
  have ff_g1_4 : ∀ l : XL, ((34 ≤ l.1 ∧ l.1 ≤ 37) ∧ (l.2.1 = r) ∧ dzz l) → l ≠ (34, r, 0) → l ≠ (37, r, 0) → l ≠ (35, r, 0) → g1_4 l = none := by rw [eg1_4]; exact fun l hl n0 n1 n2 => (xu_o n0).trans (ff_g1_3 l hl n0 n1 n2)
  have fr_g1_4 : ∀ l : XL, ¬ ((34 ≤ l.1 ∧ l.1 ≤ 37) ∧ (l.2.1 = r) ∧ dzz l) → g1_4 l = g0 l := by rw [eg1_4]; exact fun l hl => (xu_o (fun z => hl (by rw [z]; exact ⟨(show 34 ≤ (34 : Nat) ∧ (34 : Nat) ≤ 37 by omega), (show (r : Int) = r by omega), (show (0 : Int) ≤ r ∧ r < 10 ∧ (0 : Int) = 0 by omega)⟩))).trans (fr_g1_3 l hl)
  have v37_g1_4 : g1_4 (37, r, 0) = some (.inl (2, [xI 0, xI 0, xI 0, xI 0])) := by rw [eg1_4]; exact (xu_o (nK (by decide) _ _ _ _)).trans v37_g1_3
  have v35_g1_4 : g1_4 (35, r, 0) = some (.inr (9, 3, .inr (.inr (.inr (fun _ => none))))) := by rw [eg1_4]; exact (xu_o (nK (by decide) _ _ _ _)).trans v35_g1_3
  have v34_g1_4 : g1_4 (34, r, 0) = some (.inl (4, [xR (37, r, 0), xR (35, r, 0), xI 0, xI 0, xI 0, xI 0])) := by rw [eg1_4]; exact xu_at
  refine x_aload_n dX4_init_23 rfl ?_
  refine x_iconst dX4_init_24 ?_
  refine x_put dX4_init_25 fl_RX4_22 (fun r hr => by cases hr; rfl) v34_g1_4 xfit_i (Nat.le_of_ble_eq_true rfl) rfl ?_
  refine x_hg (fun g1_5 eg1_5 => ?_)
  have ff_g1_5 : ∀ l : XL, ((34 ≤ l.1 ∧ l.1 ≤ 37) ∧ (l.2.1 = r) ∧ dzz l) → l ≠ (34, r, 0) → l ≠ (37, r, 0) → l ≠ (35, r, 0) → g1_5 l = none := by rw [eg1_5]; exact fun l hl n0 n1 n2 => (xu_o n0).trans (ff_g1_4 l hl n0 n1 n2)
  have fr_g1_5 : ∀ l : XL, ¬ ((34 ≤ l.1 ∧ l.1 ≤ 37) ∧ (l.2.1 = r) ∧ dzz l) → g1_5 l = g0 l := by rw [eg1_5]; exact fun l hl => (xu_o (fun z => hl (by rw [z]; exact ⟨(show 34 ≤ (34 : Nat) ∧ (34 : Nat) ≤ 37 by omega), (show (r : Int) = r by omega), (show (0 : Int) ≤ r ∧ r < 10 ∧ (0 : Int) = 0 by omega)⟩))).trans (fr_g1_4 l hl)
  have v37_g1_5 : g1_5 (37, r, 0) = some (.inl (2, [xI 0, xI 0, xI 0, xI 0])) := by rw [eg1_5]; exact (xu_o (nK (by decide) _ _ _ _)).trans v37_g1_4
  have v35_g1_5 : g1_5 (35, r, 0) = some (.inr (9, 3, .inr (.inr (.inr (fun _ => none))))) := by rw [eg1_5]; exact (xu_o (nK (by decide) _ _ _ _)).trans v35_g1_4
  have v34_g1_5 : g1_5 (34, r, 0) = some (.inl (4, [xR (37, r, 0), xR (35, r, 0), xI 0, xI 0, xI 0, xI 0])) := by rw [eg1_5]; exact xu_at
  refine x_aload_n dX4_init_28 rfl ?_
  refine x_iconst dX4_init_29 ?_
  refine x_put dX4_init_30 fl_RX4_26 (fun r hr => by cases hr; rfl) v34_g1_5 xfit_i (Nat.le_of_ble_eq_true rfl) rfl ?_
  refine x_hg (fun g1_6 eg1_6 => ?_)
  have ff_g1_6 : ∀ l : XL, ((34 ≤ l.1 ∧ l.1 ≤ 37) ∧ (l.2.1 = r) ∧ dzz l) → l ≠ (34, r, 0) → l ≠ (37, r, 0) → l ≠ (35, r, 0) → g1_6 l = none := by rw [eg1_6]; exact fun l hl n0 n1 n2 => (xu_o n0).trans (ff_g1_5 l hl n0 n1 n2)
  have fr_g1_6 : ∀ l : XL, ¬ ((34 ≤ l.1 ∧ l.1 ≤ 37) ∧ (l.2.1 = r) ∧ dzz l) → g1_6 l = g0 l := by rw [eg1_6]; exact fun l hl => (xu_o (fun z => hl (by rw [z]; exact ⟨(show 34 ≤ (34 : Nat) ∧ (34 : Nat) ≤ 37 by omega), (show (r : Int) = r by omega), (show (0 : Int) ≤ r ∧ r < 10 ∧ (0 : Int) = 0 by omega)⟩))).trans (fr_g1_5 l hl)
  have v37_g1_6 : g1_6 (37, r, 0) = some (.inl (2, [xI 0, xI 0, xI 0, xI 0])) := by rw [eg1_6]; exact (xu_o (nK (by decide) _ _ _ _)).trans v37_g1_5
  have v35_g1_6 : g1_6 (35, r, 0) = some (.inr (9, 3, .inr (.inr (.inr (fun _ => none))))) := by rw [eg1_6]; exact (xu_o (nK (by decide) _ _ _ _)).trans v35_g1_5
  have v34_g1_6 : g1_6 (34, r, 0) = some (.inl (4, [xR (37, r, 0), xR (35, r, 0), xI 0, xI 0, xI 0, xI 0])) := by rw [eg1_6]; exact xu_at
  refine x_aload_n dX4_init_33 rfl ?_
  refine x_sipush (v := 511) dX4_init_34 (by decide) ?_
  refine x_put dX4_init_37 fl_RX4_29 (fun r hr => by cases hr; rfl) v34_g1_6 xfit_i (Nat.le_of_ble_eq_true rfl) rfl ?_
  refine x_hg (fun g1_7 eg1_7 => ?_)
  have ff_g1_7 : ∀ l : XL, ((34 ≤ l.1 ∧ l.1 ≤ 37) ∧ (l.2.1 = r) ∧ dzz l) → l ≠ (34, r, 0) → l ≠ (37, r, 0) → l ≠ (35, r, 0) → g1_7 l = none := by rw [eg1_7]; exact fun l hl n0 n1 n2 => (xu_o n0).trans (ff_g1_6 l hl n0 n1 n2)
  have fr_g1_7 : ∀ l : XL, ¬ ((34 ≤ l.1 ∧ l.1 ≤ 37) ∧ (l.2.1 = r) ∧ dzz l) → g1_7 l = g0 l := by rw [eg1_7]; exact fun l hl => (xu_o (fun z => hl (by rw [z]; exact ⟨(show 34 ≤ (34 : Nat) ∧ (34 : Nat) ≤ 37 by omega), (show (r : Int) = r by omega), (show (0 : Int) ≤ r ∧ r < 10 ∧ (0 : Int) = 0 by omega)⟩))).trans (fr_g1_6 l hl)
  have v37_g1_7 : g1_7 (37, r, 0) = some (.inl (2, [xI 0, xI 0, xI 0, xI 0])) := by rw [eg1_7]; exact (xu_o (nK (by decide) _ _ _ _)).trans v37_g1_6
  have v35_g1_7 : g1_7 (35, r, 0) = some (.inr (9, 3, .inr (.inr (.inr (fun _ => none))))) := by rw [eg1_7]; exact (xu_o (nK (by decide) _ _ _ _)).trans v35_g1_6
  have v34_g1_7 : g1_7 (34, r, 0) = some (.inl (4, [xR (37, r, 0), xR (35, r, 0), xI 0, xI 0, xI 511, xI 0])) := by rw [eg1_7]; exact xu_at
  refine x_aload_n dX4_init_40 rfl ?_
  refine x_iconst dX4_init_41 ?_
  refine x_put dX4_init_42 fl_RX4_32 (fun r hr => by cases hr; rfl) v34_g1_7 (xfit_z (by decide)) (Nat.le_of_ble_eq_true rfl) rfl ?_
  refine x_hg (fun g1_8 eg1_8 => ?_)
  have ff_g1_8 : ∀ l : XL, ((34 ≤ l.1 ∧ l.1 ≤ 37) ∧ (l.2.1 = r) ∧ dzz l) → l ≠ (34, r, 0) → l ≠ (37, r, 0) → l ≠ (35, r, 0) → g1_8 l = none := by rw [eg1_8]; exact fun l hl n0 n1 n2 => (xu_o n0).trans (ff_g1_7 l hl n0 n1 n2)
  have fr_g1_8 : ∀ l : XL, ¬ ((34 ≤ l.1 ∧ l.1 ≤ 37) ∧ (l.2.1 = r) ∧ dzz l) → g1_8 l = g0 l := by rw [eg1_8]; exact fun l hl => (xu_o (fun z => hl (by rw [z]; exact ⟨(show 34 ≤ (34 : Nat) ∧ (34 : Nat) ≤ 37 by omega), (show (r : Int) = r by omega), (show (0 : Int) ≤ r ∧ r < 10 ∧ (0 : Int) = 0 by omega)⟩))).trans (fr_g1_7 l hl)
  have v37_g1_8 : g1_8 (37, r, 0) = some (.inl (2, [xI 0, xI 0, xI 0, xI 0])) := by rw [eg1_8]; exact (xu_o (nK (by decide) _ _ _ _)).trans v37_g1_7
  have v35_g1_8 : g1_8 (35, r, 0) = some (.inr (9, 3, .inr (.inr (.inr (fun _ => none))))) := by rw [eg1_8]; exact (xu_o (nK (by decide) _ _ _ _)).trans v35_g1_7
  have v34_g1_8 : g1_8 (34, r, 0) = some (.inl (4, [xR (37, r, 0), xR (35, r, 0), xI 0, xI 0, xI 511, xI 0])) := by rw [eg1_8]; exact xu_at
  refine x_iconst dX4_init_45 ?_
  refine x_istore_n (L' := [xR (34, r, 0), xI 0]) dX4_init_46 (by decide) rfl ?_
  have w35 : g1_8 (35, r, 0) = some (.inr (9, 3, .inr (.inr (.inr (rwF (fun k : Int => ((36, r, k) : XL)) 0))))) := by rw [v35_g1_8, rwF_0 (fun k : Int => ((36, r, k) : XL))]
  exact l_init4 g0 r r0 r1 4 0 g1_8 (5 - 1 - 1) (19 - 4 - 3) (by omega) (by omega) (by omega) (by omega) v34_g1_8 v37_g1_8 w35 (fun l hl => by have q1 : l.2.2 < 0 := hl.2.2.1; obtain ⟨k, a, b⟩ := l; have k36 : k = 36 := hl.1; subst k36; obtain ⟨d1, d2, d3, d4⟩ : 0 ≤ a ∧ a < 10 ∧ 0 ≤ b ∧ b < 3 := hl.2.2.2; have q1 : b < 0 := q1; omega) (fun l hl => ff_g1_8 l ⟨by have := hl.1; omega, hl.2.1, hl.2.2.2⟩ (fun z => by have := hl.1; rw [z] at this; cases this) (fun z => by have := hl.1; rw [z] at this; cases this) (fun z => by have := hl.1; rw [z] at this; cases this)) (fun l hl => fr_g1_8 l hl)

