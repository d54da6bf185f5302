/-! constructors: a branch, the whole -/
def nBr (b : Int) (l : XL) : Prop := ((8 ≤ l.1 ∧ l.1 ≤ 13) ∨ l.1 = 18 ∨ l.1 = 28) ∧ (l.2.1 = b) ∧ dzz l
set_option maxHeartbeats 4000000 in
set_option maxRecDepth 100000 in
theorem l_init0b (g0 : XH) (b : Int) (b0 : 0 ≤ b) (b1 : b < 4) : ∀ (nn : Nat) (i : Int) (g : XH) (kc ks : Nat), 24 - i < (nn : Int) → 0 ≤ i → i ≤ 24 → (3 * (24 - i) ≤ (kc : Int) ∧ 15 * (24 - i) ≤ (ks : Int)) → (g (9, b, 0) = some (.inl (0, [xR (10, b, 0), xR (11, b, 0), xR (12, b, 0), xI 0, xI 0, xI 0, xI 0]))) → (g (10, b, 0) = some (.inr (5, 60, .inr (.inr (.inr (fun k : Int => some ((13, b, k) : XL))))))) → (g (11, b, 0) = some (.inr (0, 61, xZero 0))) → (g (12, b, 0) = some (.inr (6, 24, .inr (.inr (.inr (rwF (fun k : Int => ((8, b, k) : XL)) i)))))) → (∀ l : XL, ((l.1 = 13) ∧ (l.2.1 = b) ∧ (l.2.2 < 60) ∧ dzz l) → g l = z0 l) → (∀ l : XL, ((l.1 = 8 ∨ l.1 = 18 ∨ l.1 = 28) ∧ (l.2.1 = b) ∧ (l.2.2 < i) ∧ dzz l) → g l = z0 l) → (∀ l : XL, ((l.1 = 8 ∨ l.1 = 18 ∨ l.1 = 28) ∧ (l.2.1 = b) ∧ (i ≤ l.2.2) ∧ dzz l) → g l = none) → (∀ l : XL, ¬ (((8 ≤ l.1 ∧ l.1 ≤ 13) ∨ l.1 = 18 ∨ l.1 = 28) ∧ (l.2.1 = b) ∧ dzz l) → g l = g0 l) → X mX0_init 79 [xR (9, b, 0), xI i] [] g kc ks (fun o h' => o = .inl none ∧ (∀ l : XL, nBr b l → h' l = z0 l) ∧ ∀ l : XL, ¬ nBr b l → h' l = g0 l) := by
  intro nn
  induction nn with
  | zero => intro i g kc ks hm i0 i1 hk; exfalso; omega
  | succ nn ih =>
    intro i g kc ks hm i0 i1 hk v9 v10 v11 v12 dt dd ff fr
    refine x_iload_n dX0_init_79 rfl ?_
    refine x_bipush (v := 24) dX0_init_80 (by decide) ?_
    refine x_icmp_ge (tgt := 104) dX0_init_82 (by decide) ⟨by omega, by omega⟩ ⟨by decide, by decide⟩ (fun c82 => ?_) (fun c82 => ?_)
    · have e3 : i = 24 := by omega
      subst e3
      refine x_full (fun k : Int => some ((8, b, k) : XL)) v12 (show (12 : Nat) ≠ 99 by decide) (fun j hj => rwF_n (fun k : Int => ((8, b, k) : XL)) 24 j hj) ?_
      refine x_hg (fun g3_1 eg3_1 => ?_)
      have v9_g3_1 : g3_1 (9, b, 0) = some (.inl (0, [xR (10, b, 0), xR (11, b, 0), xR (12, b, 0), xI 0, xI 0, xI 0, xI 0])) := by rw [eg3_1]; exact (xu_o (nK (by decide) _ _ _ _)).trans v9
      have v10_g3_1 : g3_1 (10, b, 0) = some (.inr (5, 60, .inr (.inr (.inr (fun k : Int => some ((13, b, k) : XL)))))) := by rw [eg3_1]; exact (xu_o (nK (by decide) _ _ _ _)).trans v10
      have v11_g3_1 : g3_1 (11, b, 0) = some (.inr (0, 61, xZero 0)) := by rw [eg3_1]; exact (xu_o (nK (by decide) _ _ _ _)).trans v11
      have dt_g3_1 : ∀ l : XL, ((l.1 = 13) ∧ (l.2.1 = b) ∧ (l.2.2 < 60) ∧ dzz l) → g3_1 l = z0 l := by rw [eg3_1]; exact fun l hl => (xu_o (fun z => (fun z => by have z0 : (12 : Nat) = 13 := z.1; have z1 : (b : Int) = b := z.2.1; have z2 : (0 : Int) < 60 := z.2.2.1; omega) (by rw [z] at hl; exact hl))).trans (dt l hl)
      have dd_g3_1 : ∀ l : XL, ((l.1 = 8 ∨ l.1 = 18 ∨ l.1 = 28) ∧ (l.2.1 = b) ∧ (l.2.2 < 24) ∧ dzz l) → g3_1 l = z0 l := by rw [eg3_1]; exact fun l hl => (xu_o (fun z => (fun z => by have z0 : (12 : Nat) = 8 ∨ (12 : Nat) = 18 ∨ (12 : Nat) = 28 := z.1; have z1 : (b : Int) = b := z.2.1; have z2 : (0 : Int) < 24 := z.2.2.1; omega) (by rw [z] at hl; exact hl))).trans (dd l hl)
      have ff_g3_1 : ∀ l : XL, ((l.1 = 8 ∨ l.1 = 18 ∨ l.1 = 28) ∧ (l.2.1 = b) ∧ (24 ≤ l.2.2) ∧ dzz l) → g3_1 l = none := by rw [eg3_1]; exact fun l hl => (xu_o (fun z => (fun z => by have z0 : (12 : Nat) = 8 ∨ (12 : Nat) = 18 ∨ (12 : Nat) = 28 := z.1; have z1 : (b : Int) = b := z.2.1; have z2 : 24 ≤ (0 : Int) := z.2.2.1; omega) (by rw [z] at hl; exact hl))).trans (ff l hl)
      have fr_g3_1 : ∀ l : XL, ¬ (((8 ≤ l.1 ∧ l.1 ≤ 13) ∨ l.1 = 18 ∨ l.1 = 28) ∧ (l.2.1 = b) ∧ dzz l) → g3_1 l = g0 l := by rw [eg3_1]; exact fun l hl => (xu_o (fun z => hl (by rw [z]; exact ⟨(show (8 ≤ (12 : Nat) ∧ (12 : Nat) ≤ 13) ∨ (12 : Nat) = 18 ∨ (12 : Nat) = 28 by omega), (show (b : Int) = b by omega), (show (0 : Int) ≤ b ∧ b < 4 ∧ (0 : Int) = 0 by omega)⟩))).trans (fr l hl)
      have v12_g3_1 : g3_1 (12, b, 0) = some (.inr (6, 24, .inr (.inr (.inr (fun k : Int => some ((8, b, k) : XL)))))) := by rw [eg3_1]; exact xu_at
      refine x_aload_n dX0_init_104 rfl ?_
      refine x_get (v := xR (11, b, 0)) dX0_init_105 fl_RX0_17 v9_g3_1 rfl ?_
      refine x_iconst dX0_init_108 ?_
      refine x_iconst dX0_init_109 ?_
      refine x_asti dX0_init_110 v11_g3_1 (show (11 : Nat) ≠ 99 by decide) (by decide) (by decide) (by decide) ?_
      refine x_hg (fun g3_2 eg3_2 => ?_)
      have v9_g3_2 : g3_2 (9, b, 0) = some (.inl (0, [xR (10, b, 0), xR (11, b, 0), xR (12, b, 0), xI 0, xI 0, xI 0, xI 0])) := by rw [eg3_2]; exact (xu_o (nK (by decide) _ _ _ _)).trans v9_g3_1
      have v10_g3_2 : g3_2 (10, b, 0) = some (.inr (5, 60, .inr (.inr (.inr (fun k : Int => some ((13, b, k) : XL)))))) := by rw [eg3_2]; exact (xu_o (nK (by decide) _ _ _ _)).trans v10_g3_1
      have dt_g3_2 : ∀ l : XL, ((l.1 = 13) ∧ (l.2.1 = b) ∧ (l.2.2 < 60) ∧ dzz l) → g3_2 l = z0 l := by rw [eg3_2]; exact fun l hl => (xu_o (fun z => (fun z => by have z0 : (11 : Nat) = 13 := z.1; have z1 : (b : Int) = b := z.2.1; have z2 : (0 : Int) < 60 := z.2.2.1; omega) (by rw [z] at hl; exact hl))).trans (dt_g3_1 l hl)
      have dd_g3_2 : ∀ l : XL, ((l.1 = 8 ∨ l.1 = 18 ∨ l.1 = 28) ∧ (l.2.1 = b) ∧ (l.2.2 < 24) ∧ dzz l) → g3_2 l = z0 l := by rw [eg3_2]; exact fun l hl => (xu_o (fun z => (fun z => by have z0 : (11 : Nat) = 8 ∨ (11 : Nat) = 18 ∨ (11 : Nat) = 28 := z.1; have z1 : (b : Int) = b := z.2.1; have z2 : (0 : Int) < 24 := z.2.2.1; omega) (by rw [z] at hl; exact hl))).trans (dd_g3_1 l hl)
      have ff_g3_2 : ∀ l : XL, ((l.1 = 8 ∨ l.1 = 18 ∨ l.1 = 28) ∧ (l.2.1 = b) ∧ (24 ≤ l.2.2) ∧ dzz l) → g3_2 l = none := by rw [eg3_2]; exact fun l hl => (xu_o (fun z => (fun z => by have z0 : (11 : Nat) = 8 ∨ (11 : Nat) = 18 ∨ (11 : Nat) = 28 := z.1; have z1 : (b : Int) = b := z.2.1; have z2 : 24 ≤ (0 : Int) := z.2.2.1; omega) (by rw [z] at hl; exact hl))).trans (ff_g3_1 l hl)
      have fr_g3_2 : ∀ l : XL, ¬ (((8 ≤ l.1 ∧ l.1 ≤ 13) ∨ l.1 = 18 ∨ l.1 = 28) ∧ (l.2.1 = b) ∧ dzz l) → g3_2 l = g0 l := by rw [eg3_2]; exact fun l hl => (xu_o (fun z => hl (by rw [z]; exact ⟨(show (8 ≤ (11 : Nat) ∧ (11 : Nat) ≤ 13) ∨ (11 : Nat) = 18 ∨ (11 : Nat) = 28 by omega), (show (b : Int) = b by omega), (show (0 : Int) ≤ b ∧ b < 4 ∧ (0 : Int) = 0 by omega)⟩))).trans (fr_g3_1 l hl)
      have v12_g3_2 : g3_2 (12, b, 0) = some (.inr (6, 24, .inr (.inr (.inr (fun k : Int => some ((8, b, k) : XL)))))) := by rw [eg3_2]; exact (xu_o (nK (by decide) _ _ _ _)).trans v12_g3_1
      have v11_g3_2 : g3_2 (11, b, 0) = some (.inr (0, 61, .inl (xUpd (fun _ => 0) 0 1))) := by rw [eg3_2]; exact xu_at
      exact x_vret dX0_init_111 rfl ⟨rfl, fun l hl => (by
        obtain ⟨k, a, c⟩ := l
        obtain ⟨hk, ha, hd⟩ := hl
        have ha2 : a = b := ha
        subst ha2
        have hk2 : (8 ≤ k ∧ k ≤ 13) ∨ k = 18 ∨ k = 28 := hk
        have hk3 : k = 8 ∨ k = 18 ∨ k = 28 ∨ k = 9 ∨ k = 10 ∨ k = 11 ∨ k = 12 ∨ k = 13 := by omega
        rcases hk3 with rfl | rfl | rfl | rfl | rfl | rfl | rfl | rfl
        · exact dd_g3_2 (8, a, c) ⟨Or.inl rfl, rfl, (show 0 ≤ a ∧ a < 4 ∧ 0 ≤ c ∧ c < 24 from hd).2.2.2, hd⟩
        · exact dd_g3_2 (18, a, c) ⟨Or.inr (Or.inl rfl), rfl, (show 0 ≤ a ∧ a < 4 ∧ 0 ≤ c ∧ c < 24 from hd).2.2.2, hd⟩
        · exact dd_g3_2 (28, a, c) ⟨Or.inr (Or.inr rfl), rfl, (show 0 ≤ a ∧ a < 4 ∧ 0 ≤ c ∧ c < 24 from hd).2.2.2, hd⟩
        · obtain ⟨d1, d2, d3⟩ : 0 ≤ a ∧ a < 4 ∧ c = 0 := hd
          subst d3; rw [v9_g3_2]; exact (hp9 (iS 0 (fun _ => 0)) d1 d2).symm
        · obtain ⟨d1, d2, d3⟩ : 0 ≤ a ∧ a < 4 ∧ c = 0 := hd
          subst d3; rw [v10_g3_2]; exact (hp10 (iS 0 (fun _ => 0)) d1 d2).symm
        · obtain ⟨d1, d2, d3⟩ : 0 ≤ a ∧ a < 4 ∧ c = 0 := hd
          subst d3; rw [v11_g3_2]; exact (hp11 (iS 0 (fun _ => 0)) d1 d2).symm
        · obtain ⟨d1, d2, d3⟩ : 0 ≤ a ∧ a < 4 ∧ c = 0 := hd
          subst d3; rw [v12_g3_2]; exact (hp12 (iS 0 (fun _ => 0)) d1 d2).symm
        · exact dt_g3_2 (13, a, c) ⟨rfl, rfl, (show 0 ≤ a ∧ a < 4 ∧ 0 ≤ c ∧ c < 60 from hd).2.2.2, hd⟩), fun l hl => fr_g3_2 l hl⟩
    · refine x_aload_n dX0_init_85 rfl ?_
      refine x_get (v := xR (12, b, 0)) dX0_init_86 fl_RX0_23 v9 rfl ?_
      refine x_iload_n dX0_init_89 rfl ?_
      refine x_newN (n := 3) (8, b, i) [xN, xN, xI 0] dX0_init_90 (r := (RX6, TX6, 3)) rfl rfl wd205 (ff _ ⟨(show (8 : Nat) = 8 ∨ (8 : Nat) = 18 ∨ (8 : Nat) = 28 by omega), (show (b : Int) = b by omega), (show i ≤ (i : Int) by omega), (show (0 : Int) ≤ b ∧ b < 4 ∧ 0 ≤ i ∧ i < 24 by omega)⟩) (show (8 : Nat) ≠ 99 by decide) (by omega) (by omega) dfl_6 ?_
      refine x_hg (fun g3_3 eg3_3 => ?_)
      have v9_g3_3 : g3_3 (9, b, 0) = some (.inl (0, [xR (10, b, 0), xR (11, b, 0), xR (12, b, 0), xI 0, xI 0, xI 0, xI 0])) := by rw [eg3_3]; exact (xu_o (nK (by decide) _ _ _ _)).trans v9
      have v10_g3_3 : g3_3 (10, b, 0) = some (.inr (5, 60, .inr (.inr (.inr (fun k : Int => some ((13, b, k) : XL)))))) := by rw [eg3_3]; exact (xu_o (nK (by decide) _ _ _ _)).trans v10
      have v11_g3_3 : g3_3 (11, b, 0) = some (.inr (0, 61, xZero 0)) := by rw [eg3_3]; exact (xu_o (nK (by decide) _ _ _ _)).trans v11
      have v12_g3_3 : g3_3 (12, b, 0) = some (.inr (6, 24, .inr (.inr (.inr (rwF (fun k : Int => ((8, b, k) : XL)) i))))) := by rw [eg3_3]; exact (xu_o (nK (by decide) _ _ _ _)).trans v12
      have dt_g3_3 : ∀ l : XL, ((l.1 = 13) ∧ (l.2.1 = b) ∧ (l.2.2 < 60) ∧ dzz l) → g3_3 l = z0 l := by rw [eg3_3]; exact fun l hl => (xu_o (fun z => (fun z => by have z0 : (8 : Nat) = 13 := z.1; have z1 : (b : Int) = b := z.2.1; have z2 : (i : Int) < 60 := z.2.2.1; omega) (by rw [z] at hl; exact hl))).trans (dt l hl)
      have dd_g3_3 : ∀ l : XL, ((l.1 = 8 ∨ l.1 = 18 ∨ l.1 = 28) ∧ (l.2.1 = b) ∧ (l.2.2 < i) ∧ dzz l) → g3_3 l = z0 l := by rw [eg3_3]; exact fun l hl => (xu_o (fun z => (fun z => by have z0 : (8 : Nat) = 8 ∨ (8 : Nat) = 18 ∨ (8 : Nat) = 28 := z.1; have z1 : (b : Int) = b := z.2.1; have z2 : (i : Int) < i := z.2.2.1; omega) (by rw [z] at hl; exact hl))).trans (dd l hl)
      have ff_g3_3 : ∀ l : XL, ((l.1 = 8 ∨ l.1 = 18 ∨ l.1 = 28) ∧ (l.2.1 = b) ∧ (i ≤ l.2.2) ∧ dzz l) → l ≠ (8, b, i) → g3_3 l = none := by rw [eg3_3]; exact fun l hl nx => (xu_o nx).trans (ff l hl)
      have fr_g3_3 : ∀ l : XL, ¬ (((8 ≤ l.1 ∧ l.1 ≤ 13) ∨ l.1 = 18 ∨ l.1 = 28) ∧ (l.2.1 = b) ∧ dzz l) → g3_3 l = g0 l := by rw [eg3_3]; exact fun l hl => (xu_o (fun z => hl (by rw [z]; exact ⟨(show (8 ≤ (8 : Nat) ∧ (8 : Nat) ≤ 13) ∨ (8 : Nat) = 18 ∨ (8 : Nat) = 28 by omega), (show (b : Int) = b by omega), (show (0 : Int) ≤ b ∧ b < 4 ∧ 0 ≤ i ∧ i < 24 by omega)⟩))).trans (fr l hl)
      have v8_g3_3 : g3_3 (8, b, i) = some (.inl (6, [xN, xN, xI 0])) := by rw [eg3_3]; exact xu_at
      refine x_dup dX0_init_93 rfl ?_
      refine x_callIN 2 12 (as := []) (rest := [xR (8, b, i), xI i, xR (12, b, 0)]) ok_X6_init rfl rfl dX0_init_94 wn243 wd142 (c_init6_8 g3_3 b i v8_g3_3 (ff_g3_3 _ ⟨(show (18 : Nat) = 8 ∨ (18 : Nat) = 18 ∨ (18 : Nat) = 28 by omega), (show (b : Int) = b by omega), (show i ≤ (i : Int) by omega), (show (0 : Int) ≤ b ∧ b < 4 ∧ 0 ≤ i ∧ i < 24 by omega)⟩ (nK (by decide) _ _ _ _)) (ff_g3_3 _ ⟨(show (28 : Nat) = 8 ∨ (28 : Nat) = 18 ∨ (28 : Nat) = 28 by omega), (show (b : Int) = b by omega), (show i ≤ (i : Int) by omega), (show (0 : Int) ≤ b ∧ b < 4 ∧ 0 ≤ i ∧ i < 24 by omega)⟩ (nK (by decide) _ _ _ _))) (fun _ _ z => by cases z.1) rfl (Nat.le_of_ble_eq_true rfl) (Nat.le_of_ble_eq_true rfl) (by decide) (by omega) (by omega) (fun h q => ?_) (fun _ _ z => by cases z.1)
      obtain ⟨-, y0, y1, y2, yf⟩ := q
      have v9_h_4 : h (9, b, 0) = some (.inl (0, [xR (10, b, 0), xR (11, b, 0), xR (12, b, 0), xI 0, xI 0, xI 0, xI 0])) := (yf _ (nK (by decide) _ _ _ _) (nK (by decide) _ _ _ _) (nK (by decide) _ _ _ _)).trans v9_g3_3
      have v10_h_4 : h (10, b, 0) = some (.inr (5, 60, .inr (.inr (.inr (fun k : Int => some ((13, b, k) : XL)))))) := (yf _ (nK (by decide) _ _ _ _) (nK (by decide) _ _ _ _) (nK (by decide) _ _ _ _)).trans v10_g3_3
      have v11_h_4 : h (11, b, 0) = some (.inr (0, 61, xZero 0)) := (yf _ (nK (by decide) _ _ _ _) (nK (by decide) _ _ _ _) (nK (by decide) _ _ _ _)).trans v11_g3_3
      have v12_h_4 : h (12, b, 0) = some (.inr (6, 24, .inr (.inr (.inr (rwF (fun k : Int => ((8, b, k) : XL)) i))))) := (yf _ (nK (by decide) _ _ _ _) (nK (by decide) _ _ _ _) (nK (by decide) _ _ _ _)).trans v12_g3_3
      have dt_h_4 : ∀ l : XL, ((l.1 = 13) ∧ (l.2.1 = b) ∧ (l.2.2 < 60) ∧ dzz l) → h l = z0 l := fun l hl => (yf l (fun z => (fun z => by have z0 : (8 : Nat) = 13 := z.1; have z1 : (b : Int) = b := z.2.1; have z2 : (i : Int) < 60 := z.2.2.1; omega) (by rw [z] at hl; exact hl)) (fun z => (fun z => by have z0 : (18 : Nat) = 13 := z.1; have z1 : (b : Int) = b := z.2.1; have z2 : (i : Int) < 60 := z.2.2.1; omega) (by rw [z] at hl; exact hl)) (fun z => (fun z => by have z0 : (28 : Nat) = 13 := z.1; have z1 : (b : Int) = b := z.2.1; have z2 : (i : Int) < 60 := z.2.2.1; omega) (by rw [z] at hl; exact hl))).trans (dt_g3_3 l hl)
      have dd_h_4 : ∀ l : XL, ((l.1 = 8 ∨ l.1 = 18 ∨ l.1 = 28) ∧ (l.2.1 = b) ∧ (l.2.2 < i) ∧ dzz l) → h l = z0 l := fun l hl => (yf l (fun z => (fun z => by have z0 : (8 : Nat) = 8 ∨ (8 : Nat) = 18 ∨ (8 : Nat) = 28 := z.1; have z1 : (b : Int) = b := z.2.1; have z2 : (i : Int) < i := z.2.2.1; omega) (by rw [z] at hl; exact hl)) (fun z => (fun z => by have z0 : (18 : Nat) = 8 ∨ (18 : Nat) = 18 ∨ (18 : Nat) = 28 := z.1; have z1 : (b : Int) = b := z.2.1; have z2 : (i : Int) < i := z.2.2.1; omega) (by rw [z] at hl; exact hl)) (fun z => (fun z => by have z0 : (28 : Nat) = 8 ∨ (28 : Nat) = 18 ∨ (28 : Nat) = 28 := z.1; have z1 : (b : Int) = b := z.2.1; have z2 : (i : Int) < i := z.2.2.1; omega) (by rw [z] at hl; exact hl))).trans (dd_g3_3 l hl)
      have ff_h_4 : ∀ l : XL, ((l.1 = 8 ∨ l.1 = 18 ∨ l.1 = 28) ∧ (l.2.1 = b) ∧ (i ≤ l.2.2) ∧ dzz l) → l ≠ (8, b, i) → l ≠ (18, b, i) → l ≠ (28, b, i) → h l = none := fun l hl n0 m1 m2 => (yf l n0 m1 m2).trans (ff_g3_3 l hl n0)
      have fr_h_4 : ∀ l : XL, ¬ (((8 ≤ l.1 ∧ l.1 ≤ 13) ∨ l.1 = 18 ∨ l.1 = 28) ∧ (l.2.1 = b) ∧ dzz l) → h l = g0 l := fun l hl => (yf l (fun z => hl (by rw [z]; exact ⟨(show (8 ≤ (8 : Nat) ∧ (8 : Nat) ≤ 13) ∨ (8 : Nat) = 18 ∨ (8 : Nat) = 28 by omega), (show (b : Int) = b by omega), (show (0 : Int) ≤ b ∧ b < 4 ∧ 0 ≤ i ∧ i < 24 by omega)⟩)) (fun z => hl (by rw [z]; exact ⟨(show (8 ≤ (18 : Nat) ∧ (18 : Nat) ≤ 13) ∨ (18 : Nat) = 18 ∨ (18 : Nat) = 28 by omega), (show (b : Int) = b by omega), (show (0 : Int) ≤ b ∧ b < 4 ∧ 0 ≤ i ∧ i < 24 by omega)⟩)) (fun z => hl (by rw [z]; exact ⟨(show (8 ≤ (28 : Nat) ∧ (28 : Nat) ≤ 13) ∨ (28 : Nat) = 18 ∨ (28 : Nat) = 28 by omega), (show (b : Int) = b by omega), (show (0 : Int) ≤ b ∧ b < 4 ∧ 0 ≤ i ∧ i < 24 by omega)⟩))).trans (fr_g3_3 l hl)
      have v8_h_4 : h (8, b, i) = some (.inl (6, [xR (18, b, i), xR (28, b, i), xI 0])) := y0
      have v18_h_4 : h (18, b, i) = some (.inr (1, 6, xZero 1)) := y1
      have v28_h_4 : h (28, b, i) = some (.inr (1, 6, xZero 1)) := y2
      refine x_asta (r := (RX6, TX6, 3)) dX0_init_97 v12_h_4 (show (12 : Nat) ≠ 99 by decide) (by decide) rfl rfl v8_h_4 (by omega) (by omega) (by decide) ?_
      refine x_hg (fun g3_5 eg3_5 => ?_)
      have v9_g3_5 : g3_5 (9, b, 0) = some (.inl (0, [xR (10, b, 0), xR (11, b, 0), xR (12, b, 0), xI 0, xI 0, xI 0, xI 0])) := by rw [eg3_5]; exact (xu_o (nK (by decide) _ _ _ _)).trans v9_h_4
      have v10_g3_5 : g3_5 (10, b, 0) = some (.inr (5, 60, .inr (.inr (.inr (fun k : Int => some ((13, b, k) : XL)))))) := by rw [eg3_5]; exact (xu_o (nK (by decide) _ _ _ _)).trans v10_h_4
      have v11_g3_5 : g3_5 (11, b, 0) = some (.inr (0, 61, xZero 0)) := by rw [eg3_5]; exact (xu_o (nK (by decide) _ _ _ _)).trans v11_h_4
      have dt_g3_5 : ∀ l : XL, ((l.1 = 13) ∧ (l.2.1 = b) ∧ (l.2.2 < 60) ∧ dzz l) → g3_5 l = z0 l := by rw [eg3_5]; exact fun l hl => (xu_o (fun z => (fun z => by have z0 : (12 : Nat) = 13 := z.1; have z1 : (b : Int) = b := z.2.1; have z2 : (0 : Int) < 60 := z.2.2.1; omega) (by rw [z] at hl; exact hl))).trans (dt_h_4 l hl)
      have dd_g3_5 : ∀ l : XL, ((l.1 = 8 ∨ l.1 = 18 ∨ l.1 = 28) ∧ (l.2.1 = b) ∧ (l.2.2 < i) ∧ dzz l) → g3_5 l = z0 l := by rw [eg3_5]; exact fun l hl => (xu_o (fun z => (fun z => by have z0 : (12 : Nat) = 8 ∨ (12 : Nat) = 18 ∨ (12 : Nat) = 28 := z.1; have z1 : (b : Int) = b := z.2.1; have z2 : (0 : Int) < i := z.2.2.1; omega) (by rw [z] at hl; exact hl))).trans (dd_h_4 l hl)
      have ff_g3_5 : ∀ l : XL, ((l.1 = 8 ∨ l.1 = 18 ∨ l.1 = 28) ∧ (l.2.1 = b) ∧ (i ≤ l.2.2) ∧ dzz l) → l ≠ (8, b, i) → l ≠ (18, b, i) → l ≠ (28, b, i) → g3_5 l = none := by rw [eg3_5]; exact fun l hl n0 n1 n2 => (xu_o (fun z => (fun z => by have z0 : (12 : Nat) = 8 ∨ (12 : Nat) = 18 ∨ (12 : Nat) = 28 := z.1; have z1 : (b : Int) = b := z.2.1; have z2 : i ≤ (0 : Int) := z.2.2.1; omega) (by rw [z] at hl; exact hl))).trans (ff_h_4 l hl n0 n1 n2)
      have fr_g3_5 : ∀ l : XL, ¬ (((8 ≤ l.1 ∧ l.1 ≤ 13) ∨ l.1 = 18 ∨ l.1 = 28) ∧ (l.2.1 = b) ∧ dzz l) → g3_5 l = g0 l := by rw [eg3_5]; exact fun l hl => (xu_o (fun z => hl (by rw [z]; exact ⟨(show (8 ≤ (12 : Nat) ∧ (12 : Nat) ≤ 13) ∨ (12 : Nat) = 18 ∨ (12 : Nat) = 28 by omega), (show (b : Int) = b by omega), (show (0 : Int) ≤ b ∧ b < 4 ∧ (0 : Int) = 0 by omega)⟩))).trans (fr_h_4 l hl)
      have v8_g3_5 : g3_5 (8, b, i) = some (.inl (6, [xR (18, b, i), xR (28, b, i), xI 0])) := by rw [eg3_5]; exact (xu_o (nK (by decide) _ _ _ _)).trans v8_h_4
      have v18_g3_5 : g3_5 (18, b, i) = some (.inr (1, 6, xZero 1)) := by rw [eg3_5]; exact (xu_o (nK (by decide) _ _ _ _)).trans v18_h_4
      have v28_g3_5 : g3_5 (28, b, i) = some (.inr (1, 6, xZero 1)) := by rw [eg3_5]; exact (xu_o (nK (by decide) _ _ _ _)).trans v28_h_4
      have v12_g3_5 : g3_5 (12, b, 0) = some (.inr (6, 24, .inr (.inr (.inr (xUpd (rwF (fun k : Int => ((8, b, k) : XL)) i) i (some (8, b, i))))))) := by rw [eg3_5]; exact xu_at
      have v12_g3_5x : g3_5 (12, b, 0) = some (.inr (6, 24, .inr (.inr (.inr (rwF (fun k : Int => ((8, b, k) : XL)) (i + 1)))))) := by rw [v12_g3_5, rwF_s (fun k : Int => ((8, b, k) : XL)) (by omega)]
      refine x_iinc (L' := [xR (9, b, 0), xI (i + 1)]) dX0_init_98 rfl rfl ?_
      refine x_goto (tgt := 79) dX0_init_101 (by decide) ?_
      exact ih (i + 1) g3_5 (kc - 1 - 2) (ks - 3 - 12) (by omega) (by omega) (by omega) (by omega) v9_g3_5 v10_g3_5 v11_g3_5 v12_g3_5x dt_g3_5 (fun l hl => by
          by_cases y : l.2.2 = i
          · obtain ⟨k, a, c⟩ := l; obtain ⟨q1, q2, q3, q4⟩ := hl; have q2 : a = b := q2; have y : c = i := y; subst q2; subst y; have q1 : k = 8 ∨ k = 18 ∨ k = 28 := q1; rcases q1 with rfl | rfl | rfl; (rw [v8_g3_5]; exact (hp8 (iS 0 (fun _ => 0)) b0 b1 i0 (by omega)).symm); (rw [v18_g3_5]; exact (hp18 (iS 0 (fun _ => 0)) b0 b1 i0 (by omega)).symm); (rw [v28_g3_5]; exact (hp28 (iS 0 (fun _ => 0)) b0 b1 i0 (by omega)).symm)
          · exact dd_g3_5 l ⟨hl.1, hl.2.1, (by have := hl.2.2.1; omega), hl.2.2.2⟩) (fun l hl => ff_g3_5 l ⟨hl.1, hl.2.1, (by have := hl.2.2.1; omega), hl.2.2.2⟩ (fun z => by have a1 := hl.2.2.1; rw [z] at a1; have a2 : i + 1 ≤ i := a1; omega) (fun z => by have a1 := hl.2.2.1; rw [z] at a1; have a2 : i + 1 ≤ i := a1; omega) (fun z => by have a1 := hl.2.2.1; rw [z] at a1; have a2 : i + 1 ≤ i := a1; omega)) fr_g3_5
set_option maxHeartbeats 4000000 in
set_option maxRecDepth 100000 in
theorem l_init0a (g0 : XH) (b : Int) (b0 : 0 ≤ b) (b1 : b < 4) : ∀ (nn : Nat) (i : Int) (g : XH) (kc ks : Nat), 60 - i < (nn : Int) → 0 ≤ i → i ≤ 60 → (60 - i + 72 ≤ (kc : Int) ∧ 8 * (60 - i) + 360 ≤ (ks : Int)) → (g (9, b, 0) = some (.inl (0, [xR (10, b, 0), xR (11, b, 0), xR (12, b, 0), xI 0, xI 0, xI 0, xI 0]))) → (g (11, b, 0) = some (.inr (0, 61, xZero 0))) → (g (12, b, 0) = some (.inr (6, 24, .inr (.inr (.inr (fun _ => none)))))) → (g (10, b, 0) = some (.inr (5, 60, .inr (.inr (.inr (rwF (fun k : Int => ((13, b, k) : XL)) i)))))) → (∀ l : XL, ((l.1 = 13) ∧ (l.2.1 = b) ∧ (l.2.2 < i) ∧ dzz l) → g l = z0 l) → (∀ l : XL, ((l.1 = 13) ∧ (l.2.1 = b) ∧ (i ≤ l.2.2) ∧ dzz l) → g l = none) → (∀ l : XL, ((l.1 = 8 ∨ l.1 = 18 ∨ l.1 = 28) ∧ (l.2.1 = b) ∧ dzz l) → g l = none) → (∀ l : XL, ¬ (((8 ≤ l.1 ∧ l.1 ≤ 13) ∨ l.1 = 18 ∨ l.1 = 28) ∧ (l.2.1 = b) ∧ dzz l) → g l = g0 l) → X mX0_init 52 [xR (9, b, 0), xI i] [] g kc ks (fun o h' => o = .inl none ∧ (∀ l : XL, nBr b l → h' l = z0 l) ∧ ∀ l : XL, ¬ nBr b l → h' l = g0 l) := by
  intro nn
  induction nn with
  | zero => intro i g kc ks hm i0 i1 hk; exfalso; omega
  | succ nn ih =>
    intro i g kc ks hm i0 i1 hk v9 v11 v12 v10 dd ff fh fr
    refine x_iload_n dX0_init_52 rfl ?_
    refine x_bipush (v := 60) dX0_init_53 (by decide) ?_
    refine x_icmp_ge (tgt := 77) dX0_init_55 (by decide) ⟨by omega, by omega⟩ ⟨by decide, by decide⟩ (fun c55 => ?_) (fun c55 => ?_)
    · have e3 : i = 60 := by omega
      subst e3
      refine x_full (fun k : Int => some ((13, b, k) : XL)) v10 (show (10 : Nat) ≠ 99 by decide) (fun j hj => rwF_n (fun k : Int => ((13, b, k) : XL)) 60 j hj) ?_
      refine x_hg (fun g3_1 eg3_1 => ?_)
      have v9_g3_1 : g3_1 (9, b, 0) = some (.inl (0, [xR (10, b, 0), xR (11, b, 0), xR (12, b, 0), xI 0, xI 0, xI 0, xI 0])) := by rw [eg3_1]; exact (xu_o (nK (by decide) _ _ _ _)).trans v9
      have v11_g3_1 : g3_1 (11, b, 0) = some (.inr (0, 61, xZero 0)) := by rw [eg3_1]; exact (xu_o (nK (by decide) _ _ _ _)).trans v11
      have v12_g3_1 : g3_1 (12, b, 0) = some (.inr (6, 24, .inr (.inr (.inr (fun _ => none))))) := by rw [eg3_1]; exact (xu_o (nK (by decide) _ _ _ _)).trans v12
      have dd_g3_1 : ∀ l : XL, ((l.1 = 13) ∧ (l.2.1 = b) ∧ (l.2.2 < 60) ∧ dzz l) → g3_1 l = z0 l := by rw [eg3_1]; exact fun l hl => (xu_o (fun z => (fun z => by have z0 : (10 : Nat) = 13 := z.1; have z1 : (b : Int) = b := z.2.1; have z2 : (0 : Int) < 60 := z.2.2.1; omega) (by rw [z] at hl; exact hl))).trans (dd l hl)
      have ff_g3_1 : ∀ l : XL, ((l.1 = 13) ∧ (l.2.1 = b) ∧ (60 ≤ l.2.2) ∧ dzz l) → g3_1 l = none := by rw [eg3_1]; exact fun l hl => (xu_o (fun z => (fun z => by have z0 : (10 : Nat) = 13 := z.1; have z1 : (b : Int) = b := z.2.1; have z2 : 60 ≤ (0 : Int) := z.2.2.1; omega) (by rw [z] at hl; exact hl))).trans (ff l hl)
      have fh_g3_1 : ∀ l : XL, ((l.1 = 8 ∨ l.1 = 18 ∨ l.1 = 28) ∧ (l.2.1 = b) ∧ dzz l) → g3_1 l = none := by rw [eg3_1]; exact fun l hl => (xu_o (fun z => (fun z => by have z0 : (10 : Nat) = 8 ∨ (10 : Nat) = 18 ∨ (10 : Nat) = 28 := z.1; have z1 : (b : Int) = b := z.2.1; omega) (by rw [z] at hl; exact hl))).trans (fh l hl)
      have fr_g3_1 : ∀ l : XL, ¬ (((8 ≤ l.1 ∧ l.1 ≤ 13) ∨ l.1 = 18 ∨ l.1 = 28) ∧ (l.2.1 = b) ∧ dzz l) → g3_1 l = g0 l := by rw [eg3_1]; exact fun l hl => (xu_o (fun z => hl (by rw [z]; exact ⟨(show (8 ≤ (10 : Nat) ∧ (10 : Nat) ≤ 13) ∨ (10 : Nat) = 18 ∨ (10 : Nat) = 28 by omega), (show (b : Int) = b by omega), (show (0 : Int) ≤ b ∧ b < 4 ∧ (0 : Int) = 0 by omega)⟩))).trans (fr l hl)
      have v10_g3_1 : g3_1 (10, b, 0) = some (.inr (5, 60, .inr (.inr (.inr (fun k : Int => some ((13, b, k) : XL)))))) := by rw [eg3_1]; exact xu_at
      refine x_iconst dX0_init_77 ?_
      refine x_istore_n (L' := [xR (9, b, 0), xI 0]) dX0_init_78 (by decide) rfl ?_
      have w12 : g3_1 (12, b, 0) = some (.inr (6, 24, .inr (.inr (.inr (rwF (fun k : Int => ((8, b, k) : XL)) 0))))) := by rw [v12_g3_1, rwF_0 (fun k : Int => ((8, b, k) : XL))]
      exact l_init0b g0 b b0 b1 25 0 g3_1 kc ks (by omega) (by omega) (by omega) (by omega) v9_g3_1 v10_g3_1 v11_g3_1 w12 dd_g3_1 (fun l hl => by exfalso; obtain ⟨k, a, c⟩ := l; obtain ⟨q1, q2, q3, q4⟩ := hl; have q3 : c < 0 := q3; have q1 : k = 8 ∨ k = 18 ∨ k = 28 := q1; rcases q1 with rfl | rfl | rfl <;> (have := (show 0 ≤ a ∧ a < 4 ∧ 0 ≤ c ∧ c < 24 from q4).2.2.1; omega)) (fun l hl => fh_g3_1 l ⟨hl.1, hl.2.1, hl.2.2.2⟩) fr_g3_1
    · refine x_aload_n dX0_init_58 rfl ?_
      refine x_get (v := xR (10, b, 0)) dX0_init_59 fl_RX0_11 v9 rfl ?_
      refine x_iload_n dX0_init_62 rfl ?_
      refine x_newN (n := 8) (13, b, i) [xI 0, xI 0, xI 0, xI 0, xI 0, xI 0, xI 0, xI 0] dX0_init_63 (r := (RX7, TX7, 8)) rfl rfl wd203 (ff _ ⟨(show (13 : Nat) = 13 by omega), (show (b : Int) = b by omega), (show i ≤ (i : Int) by omega), (show (0 : Int) ≤ b ∧ b < 4 ∧ 0 ≤ i ∧ i < 60 by omega)⟩) (show (13 : Nat) ≠ 99 by decide) (by omega) (by omega) dfl_7 ?_
      refine x_hg (fun g3_2 eg3_2 => ?_)
      have v9_g3_2 : g3_2 (9, b, 0) = some (.inl (0, [xR (10, b, 0), xR (11, b, 0), xR (12, b, 0), xI 0, xI 0, xI 0, xI 0])) := by rw [eg3_2]; exact (xu_o (nK (by decide) _ _ _ _)).trans v9
      have v11_g3_2 : g3_2 (11, b, 0) = some (.inr (0, 61, xZero 0)) := by rw [eg3_2]; exact (xu_o (nK (by decide) _ _ _ _)).trans v11
      have v12_g3_2 : g3_2 (12, b, 0) = some (.inr (6, 24, .inr (.inr (.inr (fun _ => none))))) := by rw [eg3_2]; exact (xu_o (nK (by decide) _ _ _ _)).trans v12
      have v10_g3_2 : g3_2 (10, b, 0) = some (.inr (5, 60, .inr (.inr (.inr (rwF (fun k : Int => ((13, b, k) : XL)) i))))) := by rw [eg3_2]; exact (xu_o (nK (by decide) _ _ _ _)).trans v10
      have dd_g3_2 : ∀ l : XL, ((l.1 = 13) ∧ (l.2.1 = b) ∧ (l.2.2 < i) ∧ dzz l) → g3_2 l = z0 l := by rw [eg3_2]; exact fun l hl => (xu_o (fun z => (fun z => by have z0 : (13 : Nat) = 13 := z.1; have z1 : (b : Int) = b := z.2.1; have z2 : (i : Int) < i := z.2.2.1; omega) (by rw [z] at hl; exact hl))).trans (dd l hl)
      have ff_g3_2 : ∀ l : XL, ((l.1 = 13) ∧ (l.2.1 = b) ∧ (i ≤ l.2.2) ∧ dzz l) → l ≠ (13, b, i) → g3_2 l = none := by rw [eg3_2]; exact fun l hl nx => (xu_o nx).trans (ff l hl)
      have fh_g3_2 : ∀ l : XL, ((l.1 = 8 ∨ l.1 = 18 ∨ l.1 = 28) ∧ (l.2.1 = b) ∧ dzz l) → g3_2 l = none := by rw [eg3_2]; exact fun l hl => (xu_o (fun z => (fun z => by have z0 : (13 : Nat) = 8 ∨ (13 : Nat) = 18 ∨ (13 : Nat) = 28 := z.1; have z1 : (b : Int) = b := z.2.1; omega) (by rw [z] at hl; exact hl))).trans (fh l hl)
      have fr_g3_2 : ∀ l : XL, ¬ (((8 ≤ l.1 ∧ l.1 ≤ 13) ∨ l.1 = 18 ∨ l.1 = 28) ∧ (l.2.1 = b) ∧ dzz l) → g3_2 l = g0 l := by rw [eg3_2]; exact fun l hl => (xu_o (fun z => hl (by rw [z]; exact ⟨(show (8 ≤ (13 : Nat) ∧ (13 : Nat) ≤ 13) ∨ (13 : Nat) = 18 ∨ (13 : Nat) = 28 by omega), (show (b : Int) = b by omega), (show (0 : Int) ≤ b ∧ b < 4 ∧ 0 ≤ i ∧ i < 60 by omega)⟩))).trans (fr l hl)
      have v13_g3_2 : g3_2 (13, b, i) = some (.inl (7, [xI 0, xI 0, xI 0, xI 0, xI 0, xI 0, xI 0, xI 0])) := by rw [eg3_2]; exact xu_at
      refine x_dup dX0_init_66 rfl ?_
      refine x_callIN 0 0 (as := []) (rest := [xR (13, b, i), xI i, xR (10, b, 0)]) ok_X7_init rfl rfl dX0_init_67 wn208 wd209 (c_init7 g3_2 (13, b, i) (by rw [v13_g3_2]; simp)) (fun _ _ z => by cases z.1) rfl (Nat.le_of_ble_eq_true rfl) (Nat.le_of_ble_eq_true rfl) (by decide) (by omega) (by omega) (fun h q => ?_) (fun _ _ z => by cases z.1)
      obtain ⟨-, rfl⟩ := q
      refine x_asta (r := (RX7, TX7, 8)) dX0_init_70 v10_g3_2 (show (10 : Nat) ≠ 99 by decide) (by decide) rfl rfl v13_g3_2 (by omega) (by omega) (by decide) ?_
      refine x_hg (fun g3_3 eg3_3 => ?_)
      have v9_g3_3 : g3_3 (9, b, 0) = some (.inl (0, [xR (10, b, 0), xR (11, b, 0), xR (12, b, 0), xI 0, xI 0, xI 0, xI 0])) := by rw [eg3_3]; exact (xu_o (nK (by decide) _ _ _ _)).trans v9_g3_2
      have v11_g3_3 : g3_3 (11, b, 0) = some (.inr (0, 61, xZero 0)) := by rw [eg3_3]; exact (xu_o (nK (by decide) _ _ _ _)).trans v11_g3_2
      have v12_g3_3 : g3_3 (12, b, 0) = some (.inr (6, 24, .inr (.inr (.inr (fun _ => none))))) := by rw [eg3_3]; exact (xu_o (nK (by decide) _ _ _ _)).trans v12_g3_2
      have dd_g3_3 : ∀ l : XL, ((l.1 = 13) ∧ (l.2.1 = b) ∧ (l.2.2 < i) ∧ dzz l) → g3_3 l = z0 l := by rw [eg3_3]; exact fun l hl => (xu_o (fun z => (fun z => by have z0 : (10 : Nat) = 13 := z.1; have z1 : (b : Int) = b := z.2.1; have z2 : (0 : Int) < i := z.2.2.1; omega) (by rw [z] at hl; exact hl))).trans (dd_g3_2 l hl)
      have ff_g3_3 : ∀ l : XL, ((l.1 = 13) ∧ (l.2.1 = b) ∧ (i ≤ l.2.2) ∧ dzz l) → l ≠ (13, b, i) → g3_3 l = none := by rw [eg3_3]; exact fun l hl n0 => (xu_o (fun z => (fun z => by have z0 : (10 : Nat) = 13 := z.1; have z1 : (b : Int) = b := z.2.1; have z2 : i ≤ (0 : Int) := z.2.2.1; omega) (by rw [z] at hl; exact hl))).trans (ff_g3_2 l hl n0)
      have fh_g3_3 : ∀ l : XL, ((l.1 = 8 ∨ l.1 = 18 ∨ l.1 = 28) ∧ (l.2.1 = b) ∧ dzz l) → g3_3 l = none := by rw [eg3_3]; exact fun l hl => (xu_o (fun z => (fun z => by have z0 : (10 : Nat) = 8 ∨ (10 : Nat) = 18 ∨ (10 : Nat) = 28 := z.1; have z1 : (b : Int) = b := z.2.1; omega) (by rw [z] at hl; exact hl))).trans (fh_g3_2 l hl)
      have fr_g3_3 : ∀ l : XL, ¬ (((8 ≤ l.1 ∧ l.1 ≤ 13) ∨ l.1 = 18 ∨ l.1 = 28) ∧ (l.2.1 = b) ∧ dzz l) → g3_3 l = g0 l := by rw [eg3_3]; exact fun l hl => (xu_o (fun z => hl (by rw [z]; exact ⟨(show (8 ≤ (10 : Nat) ∧ (10 : Nat) ≤ 13) ∨ (10 : Nat) = 18 ∨ (10 : Nat) = 28 by omega), (show (b : Int) = b by omega), (show (0 : Int) ≤ b ∧ b < 4 ∧ (0 : Int) = 0 by omega)⟩))).trans (fr_g3_2 l hl)
      have v13_g3_3 : g3_3 (13, b, i) = some (.inl (7, [xI 0, xI 0, xI 0, xI 0, xI 0, xI 0, xI 0, xI 0])) := by rw [eg3_3]; exact (xu_o (nK (by decide) _ _ _ _)).trans v13_g3_2
      have v10_g3_3 : g3_3 (10, b, 0) = some (.inr (5, 60, .inr (.inr (.inr (xUpd (rwF (fun k : Int => ((13, b, k) : XL)) i) i (some (13, b, i))))))) := by rw [eg3_3]; exact xu_at
      have v10_g3_3x : g3_3 (10, b, 0) = some (.inr (5, 60, .inr (.inr (.inr (rwF (fun k : Int => ((13, b, k) : XL)) (i + 1)))))) := by rw [v10_g3_3, rwF_s (fun k : Int => ((13, b, k) : XL)) (by omega)]
      refine x_iinc (L' := [xR (9, b, 0), xI (i + 1)]) dX0_init_71 rfl rfl ?_
      refine x_goto (tgt := 52) dX0_init_74 (by decide) ?_
      exact ih (i + 1) g3_3 (kc - 1) (ks - 8) (by omega) (by omega) (by omega) (by omega) v9_g3_3 v11_g3_3 v12_g3_3 v10_g3_3x (fun l hl => by
          by_cases y : l.2.2 = i
          · obtain ⟨k, a, c⟩ := l; obtain ⟨q1, q2, q3, q4⟩ := hl; have q1 : k = 13 := q1; have q2 : a = b := q2; have y : c = i := y; subst q1; subst q2; subst y; rw [v13_g3_3]; exact (hp13 (iS 0 (fun _ => 0)) b0 b1 i0 (by omega)).symm
          · exact dd_g3_3 l ⟨hl.1, hl.2.1, (by have := hl.2.2.1; omega), hl.2.2.2⟩) (fun l hl => ff_g3_3 l ⟨hl.1, hl.2.1, (by have := hl.2.2.1; omega), hl.2.2.2⟩ (fun z => by have a1 := hl.2.2.1; rw [z] at a1; have a2 : i + 1 ≤ i := a1; omega)) fh_g3_3 fr_g3_3
set_option maxHeartbeats 4000000 in
set_option maxRecDepth 100000 in
theorem c_init0 (g0 : XH) (b : Int) (b0 : 0 ≤ b) (b1 : b < 4) (v9 : g0 (9, b, 0) = some (.inl (0, [xN, xN, xN, xI 0, xI 0, xI 0, xI 0]))) (ff : ∀ l : XL, nBr b l → l ≠ (9, b, 0) → g0 l = none) : X mX0_init 0 (xEnt mX0_init [xR (9, b, 0)]) [] g0 135 985 (fun o h' => o = .inl none ∧ (∀ l : XL, nBr b l → h' l = z0 l) ∧ ∀ l : XL, ¬ nBr b l → h' l = g0 l) := by
  show X mX0_init 0 [xR (9, b, 0), none] [] g0 135 985 _
  have fr : ∀ l : XL, ¬ (((8 ≤ l.1 ∧ l.1 ≤ 13) ∨ l.1 = 18 ∨ l.1 = 28) ∧ (l.2.1 = b) ∧ dzz l) → g0 l = g0 l := fun _ _ => rfl
  refine x_aload_n dX0_init_0 rfl ?_
  refine x_objInit dX0_init_1 wd202 wd46 wd47 (by decide) (Nat.le_of_ble_eq_true rfl) ?_
  refine x_aload_n dX0_init_4 rfl ?_
  refine x_bipush (v := 60) dX0_init_5 (by decide) ?_
  refine x_anewarray (10, b, 0) (t := 5) (n := 60) (N := 60) (C := "Versefold$Telling") dX0_init_7 rfl (by decide) (by decide) wd203 (ff _ ⟨(show (8 ≤ (10 : Nat) ∧ (10 : Nat) ≤ 13) ∨ (10 : Nat) = 18 ∨ (10 : Nat) = 28 by omega), (show (b : Int) = b by omega), (show (0 : Int) ≤ b ∧ b < 4 ∧ (0 : Int) = 0 by omega)⟩ (nK (by decide) _ _ _ _)) (show (10 : Nat) ≠ 99 by decide) rfl (by decide) (by omega) (by omega) ?_
  refine x_hg (fun g1_1 eg1_1 => ?_)
  have v9_g1_1 : g1_1 (9, b, 0) = some (.inl (0, [xN, xN, xN, xI 0, xI 0, xI 0, xI 0])) := by rw [eg1_1]; exact (xu_o (nK (by decide) _ _ _ _)).trans v9
  have ff_g1_1 : ∀ l : XL, (((8 ≤ l.1 ∧ l.1 ≤ 13) ∨ l.1 = 18 ∨ l.1 = 28) ∧ (l.2.1 = b) ∧ dzz l) → l ≠ (9, b, 0) → l ≠ (10, b, 0) → g1_1 l = none := by rw [eg1_1]; exact fun l hl n0 nx => (xu_o nx).trans (ff l hl n0)
  have fr_g1_1 : ∀ l : XL, ¬ (((8 ≤ l.1 ∧ l.1 ≤ 13) ∨ l.1 = 18 ∨ l.1 = 28) ∧ (l.2.1 = b) ∧ dzz l) → g1_1 l = g0 l := by rw [eg1_1]; exact fun l hl => (xu_o (fun z => hl (by rw [z]; exact ⟨(show (8 ≤ (10 : Nat) ∧ (10 : Nat) ≤ 13) ∨ (10 : Nat) = 18 ∨ (10 : Nat) = 28 by omega), (show (b : Int) = b by omega), (show (0 : Int) ≤ b ∧ b < 4 ∧ (0 : Int) = 0 by omega)⟩))).trans (fr l hl)
  have v10_g1_1 : g1_1 (10, b, 0) = some (.inr (5, 60, .inr (.inr (.inr (fun _ => none))))) := by rw [eg1_1]; exact xu_at
  refine x_putF dX0_init_10 fl_RX0_11 (fun r hr => by cases hr; exact ⟨rfl, rfl⟩) v9_g1_1 xfit_a (Nat.le_of_ble_eq_true rfl) rfl rfl ?_
  refine x_hg (fun g1_2 eg1_2 => ?_)
  have ff_g1_2 : ∀ l : XL, (((8 ≤ l.1 ∧ l.1 ≤ 13) ∨ l.1 = 18 ∨ l.1 = 28) ∧ (l.2.1 = b) ∧ dzz l) → l ≠ (9, b, 0) → l ≠ (10, b, 0) → g1_2 l = none := by rw [eg1_2]; exact fun l hl n0 n1 => (xu_o n0).trans (ff_g1_1 l hl n0 n1)
  have fr_g1_2 : ∀ l : XL, ¬ (((8 ≤ l.1 ∧ l.1 ≤ 13) ∨ l.1 = 18 ∨ l.1 = 28) ∧ (l.2.1 = b) ∧ dzz l) → g1_2 l = g0 l := by rw [eg1_2]; exact fun l hl => (xu_o (fun z => hl (by rw [z]; exact ⟨(show (8 ≤ (9 : Nat) ∧ (9 : Nat) ≤ 13) ∨ (9 : Nat) = 18 ∨ (9 : Nat) = 28 by omega), (show (b : Int) = b by omega), (show (0 : Int) ≤ b ∧ b < 4 ∧ (0 : Int) = 0 by omega)⟩))).trans (fr_g1_1 l hl)
  have v10_g1_2 : g1_2 (10, b, 0) = some (.inr (5, 60, .inr (.inr (.inr (fun _ => none))))) := by rw [eg1_2]; exact (xu_o (nK (by decide) _ _ _ _)).trans v10_g1_1
  have v9_g1_2 : g1_2 (9, b, 0) = some (.inl (0, [xR (10, b, 0), xN, xN, xI 0, xI 0, xI 0, xI 0])) := by rw [eg1_2]; exact xu_at
  refine x_aload_n dX0_init_13 rfl ?_
  refine x_bipush (v := 61) dX0_init_14 (by decide) ?_
  refine x_newarray (11, b, 0) (t := 0) (n := 61) (N := 61) dX0_init_16 rfl wd89 (ff_g1_2 _ ⟨(show (8 ≤ (11 : Nat) ∧ (11 : Nat) ≤ 13) ∨ (11 : Nat) = 18 ∨ (11 : Nat) = 28 by omega), (show (b : Int) = b by omega), (show (0 : Int) ≤ b ∧ b < 4 ∧ (0 : Int) = 0 by omega)⟩ (nK (by decide) _ _ _ _) (nK (by decide) _ _ _ _)) (show (11 : Nat) ≠ 99 by decide) rfl (by decide) (by omega) (by omega) ?_
  refine x_hg (fun g1_3 eg1_3 => ?_)
  have ff_g1_3 : ∀ l : XL, (((8 ≤ l.1 ∧ l.1 ≤ 13) ∨ l.1 = 18 ∨ l.1 = 28) ∧ (l.2.1 = b) ∧ dzz l) → l ≠ (9, b, 0) → l ≠ (10, b, 0) → l ≠ (11, b, 0) → g1_3 l = none := by rw [eg1_3]; exact fun l hl n0 n1 nx => (xu_o nx).trans (ff_g1_2 l hl n0 n1)
  have fr_g1_3 : ∀ l : XL, ¬ (((8 ≤ l.1 ∧ l.1 ≤ 13) ∨ l.1 = 18 ∨ l.1 = 28) ∧ (l.2.1 = b) ∧ dzz l) → g1_3 l = g0 l := by rw [eg1_3]; exact fun l hl => (xu_o (fun z => hl (by rw [z]; exact ⟨(show (8 ≤ (11 : Nat) ∧ (11 : Nat) ≤ 13) ∨ (11 : Nat) = 18 ∨ (11 : Nat) = 28 by omega), (show (b : Int) = b by omega), (show (0 : Int) ≤ b ∧ b < 4 ∧ (0 : Int) = 0 by omega)⟩))).trans (fr_g1_2 l hl)
  have v10_g1_3 : g1_3 (10, b, 0) = some (.inr (5, 60, .inr (.inr (.inr (fun _ => none))))) := by rw [eg1_3]; exact (xu_o (nK (by decide) _ _ _ _)).trans v10_g1_2
  have v9_g1_3 : g1_3 (9, b, 0) = some (.inl (0, [xR (10, b, 0), xN, xN, xI 0, xI 0, xI 0, xI 0])) := by rw [eg1_3]; exact (xu_o (nK (by decide) _ _ _ _)).trans v9_g1_2
  have v11_g1_3 : g1_3 (11, b, 0) = some (.inr (0, 61, xZero 0)) := by rw [eg1_3]; exact xu_at
  refine x_putF dX0_init_18 fl_RX0_17 (fun r hr => by cases hr; exact ⟨rfl, rfl⟩) v9_g1_3 xfit_a (Nat.le_of_ble_eq_true rfl) rfl rfl ?_
  refine x_hg (fun g1_4 eg1_4 => ?_)
  have ff_g1_4 : ∀ l : XL, (((8 ≤ l.1 ∧ l.1 ≤ 13) ∨ l.1 = 18 ∨ l.1 = 28) ∧ (l.2.1 = b) ∧ dzz l) → l ≠ (9, b, 0) → l ≠ (10, b, 0) → l ≠ (11, b, 0) → g1_4 l = none := by rw [eg1_4]; exact fun l hl n0 n1 n2 => (xu_o n0).trans (ff_g1_3 l hl n0 n1 n2)
  have fr_g1_4 : ∀ l : XL, ¬ (((8 ≤ l.1 ∧ l.1 ≤ 13) ∨ l.1 = 18 ∨ l.1 = 28) ∧ (l.2.1 = b) ∧ dzz l) → g1_4 l = g0 l := by rw [eg1_4]; exact fun l hl => (xu_o (fun z => hl (by rw [z]; exact ⟨(show (8 ≤ (9 : Nat) ∧ (9 : Nat) ≤ 13) ∨ (9 : Nat) = 18 ∨ (9 : Nat) = 28 by omega), (show (b : Int) = b by omega), (show (0 : Int) ≤ b ∧ b < 4 ∧ (0 : Int) = 0 by omega)⟩))).trans (fr_g1_3 l hl)
  have v10_g1_4 : g1_4 (10, b, 0) = some (.inr (5, 60, .inr (.inr (.inr (fun _ => none))))) := by rw [eg1_4]; exact (xu_o (nK (by decide) _ _ _ _)).trans v10_g1_3
  have v11_g1_4 : g1_4 (11, b, 0) = some (.inr (0, 61, xZero 0)) := by rw [eg1_4]; exact (xu_o (nK (by decide) _ _ _ _)).trans v11_g1_3
  have v9_g1_4 : g1_4 (9, b, 0) = some (.inl (0, [xR (10, b, 0), xR (11, b, 0), xN, xI 0, xI 0, xI 0, xI 0])) := by rw [eg1_4]; exact xu_at
  refine x_aload_n dX0_init_21 rfl ?_
  refine x_bipush (v := 24) dX0_init_22 (by decide) ?_
  refine x_anewarray (12, b, 0) (t := 6) (n := 24) (N := 24) (C := "Versefold$State") dX0_init_24 rfl (by decide) (by decide) wd205 (ff_g1_4 _ ⟨(show (8 ≤ (12 : Nat) ∧ (12 : Nat) ≤ 13) ∨ (12 : Nat) = 18 ∨ (12 : Nat) = 28 by omega), (show (b : Int) = b by omega), (show (0 : Int) ≤ b ∧ b < 4 ∧ (0 : Int) = 0 by omega)⟩ (nK (by decide) _ _ _ _) (nK (by decide) _ _ _ _) (nK (by decide) _ _ _ _)) (show (12 : Nat) ≠ 99 by decide) rfl (by decide) (by omega) (by omega) ?_
  refine x_hg (fun g1_5 eg1_5 => ?_)
  have ff_g1_5 : ∀ l : XL, (((8 ≤ l.1 ∧ l.1 ≤ 13) ∨ l.1 = 18 ∨ l.1 = 28) ∧ (l.2.1 = b) ∧ dzz l) → l ≠ (9, b, 0) → l ≠ (10, b, 0) → l ≠ (11, b, 0) → l ≠ (12, b, 0) → g1_5 l = none := by rw [eg1_5]; exact fun l hl n0 n1 n2 nx => (xu_o nx).trans (ff_g1_4 l hl n0 n1 n2)
  have fr_g1_5 : ∀ l : XL, ¬ (((8 ≤ l.1 ∧ l.1 ≤ 13) ∨ l.1 = 18 ∨ l.1 = 28) ∧ (l.2.1 = b) ∧ dzz l) → g1_5 l = g0 l := by rw [eg1_5]; exact fun l hl => (xu_o (fun z => hl (by rw [z]; exact ⟨(show (8 ≤ (12 : Nat) ∧ (12 : Nat) ≤ 13) ∨ (12 : Nat) = 18 ∨ (12 : Nat) = 28 by omega), (show (b : Int) = b by omega), (show (0 : Int) ≤ b ∧ b < 4 ∧ (0 : Int) = 0 by omega)⟩))).trans (fr_g1_4 l hl)
  have v10_g1_5 : g1_5 (10, b, 0) = some (.inr (5, 60, .inr (.inr (.inr (fun _ => none))))) := by rw [eg1_5]; exact (xu_o (nK (by decide) _ _ _ _)).trans v10_g1_4
  have v11_g1_5 : g1_5 (11, b, 0) = some (.inr (0, 61, xZero 0)) := by rw [eg1_5]; exact (xu_o (nK (by decide) _ _ _ _)).trans v11_g1_4
  have v9_g1_5 : g1_5 (9, b, 0) = some (.inl (0, [xR (10, b, 0), xR (11, b, 0), xN, xI 0, xI 0, xI 0, xI 0])) := by rw [eg1_5]; exact (xu_o (nK (by decide) _ _ _ _)).trans v9_g1_4
  have v12_g1_5 : g1_5 (12, b, 0) = some (.inr (6, 24, .inr (.inr (.inr (fun _ => none))))) := by rw [eg1_5]; exact xu_at
  refine x_putF dX0_init_27 fl_RX0_23 (fun r hr => by cases hr; exact ⟨rfl, rfl⟩) v9_g1_5 xfit_a (Nat.le_of_ble_eq_true rfl) rfl rfl ?_
  refine x_hg (fun g1_6 eg1_6 => ?_)
  have ff_g1_6 : ∀ l : XL, (((8 ≤ l.1 ∧ l.1 ≤ 13) ∨ l.1 = 18 ∨ l.1 = 28) ∧ (l.2.1 = b) ∧ dzz l) → l ≠ (9, b, 0) → l ≠ (10, b, 0) → l ≠ (11, b, 0) → l ≠ (12, b, 0) → g1_6 l = none := by rw [eg1_6]; exact fun l hl n0 n1 n2 n3 => (xu_o n0).trans (ff_g1_5 l hl n0 n1 n2 n3)
  have fr_g1_6 : ∀ l : XL, ¬ (((8 ≤ l.1 ∧ l.1 ≤ 13) ∨ l.1 = 18 ∨ l.1 = 28) ∧ (l.2.1 = b) ∧ dzz l) → g1_6 l = g0 l := by rw [eg1_6]; exact fun l hl => (xu_o (fun z => hl (by rw [z]; exact ⟨(show (8 ≤ (9 : Nat) ∧ (9 : Nat) ≤ 13) ∨ (9 : Nat) = 18 ∨ (9 : Nat) = 28 by omega), (show (b : Int) = b by omega), (show (0 : Int) ≤ b ∧ b < 4 ∧ (0 : Int) = 0 by omega)⟩))).trans (fr_g1_5 l hl)
  have v10_g1_6 : g1_6 (10, b, 0) = some (.inr (5, 60, .inr (.inr (.inr (fun _ => none))))) := by rw [eg1_6]; exact (xu_o (nK (by decide) _ _ _ _)).trans v10_g1_5
  have v11_g1_6 : g1_6 (11, b, 0) = some (.inr (0, 61, xZero 0)) := by rw [eg1_6]; exact (xu_o (nK (by decide) _ _ _ _)).trans v11_g1_5
  have v12_g1_6 : g1_6 (12, b, 0) = some (.inr (6, 24, .inr (.inr (.inr (fun _ => none))))) := by rw [eg1_6]; exact (xu_o (nK (by decide) _ _ _ _)).trans v12_g1_5
  have v9_g1_6 : g1_6 (9, b, 0) = some (.inl (0, [xR (10, b, 0), xR (11, b, 0), xR (12, b, 0), xI 0, xI 0, xI 0, xI 0])) := by rw [eg1_6]; exact xu_at
  refine x_aload_n dX0_init_30 rfl ?_
  refine x_iconst dX0_init_31 ?_
  refine x_put dX0_init_32 fl_RX0_27 (fun r hr => by cases hr; rfl) v9_g1_6 xfit_i (Nat.le_of_ble_eq_true rfl) rfl ?_
  refine x_hg (fun g1_7 eg1_7 => ?_)
  have ff_g1_7 : ∀ l : XL, (((8 ≤ l.1 ∧ l.1 ≤ 13) ∨ l.1 = 18 ∨ l.1 = 28) ∧ (l.2.1 = b) ∧ dzz l) → l ≠ (9, b, 0) → l ≠ (10, b, 0) → l ≠ (11, b, 0) → l ≠ (12, b, 0) → g1_7 l = none := by rw [eg1_7]; exact fun l hl n0 n1 n2 n3 => (xu_o n0).trans (ff_g1_6 l hl n0 n1 n2 n3)
  have fr_g1_7 : ∀ l : XL, ¬ (((8 ≤ l.1 ∧ l.1 ≤ 13) ∨ l.1 = 18 ∨ l.1 = 28) ∧ (l.2.1 = b) ∧ dzz l) → g1_7 l = g0 l := by rw [eg1_7]; exact fun l hl => (xu_o (fun z => hl (by rw [z]; exact ⟨(show (8 ≤ (9 : Nat) ∧ (9 : Nat) ≤ 13) ∨ (9 : Nat) = 18 ∨ (9 : Nat) = 28 by omega), (show (b : Int) = b by omega), (show (0 : Int) ≤ b ∧ b < 4 ∧ (0 : Int) = 0 by omega)⟩))).trans (fr_g1_6 l hl)
  have v10_g1_7 : g1_7 (10, b, 0) = some (.inr (5, 60, .inr (.inr (.inr (fun _ => none))))) := by rw [eg1_7]; exact (xu_o (nK (by decide) _ _ _ _)).trans v10_g1_6
  have v11_g1_7 : g1_7 (11, b, 0) = some (.inr (0, 61, xZero 0)) := by rw [eg1_7]; exact (xu_o (nK (by decide) _ _ _ _)).trans v11_g1_6
  have v12_g1_7 : g1_7 (12, b, 0) = some (.inr (6, 24, .inr (.inr (.inr (fun _ => none))))) := by rw [eg1_7]; exact (xu_o (nK (by decide) _ _ _ _)).trans v12_g1_6
  have v9_g1_7 : g1_7 (9, b, 0) = some (.inl (0, [xR (10, b, 0), xR (11, b, 0), xR (12, b, 0), xI 0, xI 0, xI 0, xI 0])) := by rw [eg1_7]; exact xu_at
  refine x_aload_n dX0_init_35 rfl ?_
  refine x_iconst dX0_init_36 ?_
  refine x_put dX0_init_37 fl_RX0_31 (fun r hr => by cases hr; rfl) v9_g1_7 xfit_i (Nat.le_of_ble_eq_true rfl) rfl ?_
  refine x_hg (fun g1_8 eg1_8 => ?_)
  have ff_g1_8 : ∀ l : XL, (((8 ≤ l.1 ∧ l.1 ≤ 13) ∨ l.1 = 18 ∨ l.1 = 28) ∧ (l.2.1 = b) ∧ dzz l) → l ≠ (9, b, 0) → l ≠ (10, b, 0) → l ≠ (11, b, 0) → l ≠ (12, b, 0) → g1_8 l = none := by rw [eg1_8]; exact fun l hl n0 n1 n2 n3 => (xu_o n0).trans (ff_g1_7 l hl n0 n1 n2 n3)
  have fr_g1_8 : ∀ l : XL, ¬ (((8 ≤ l.1 ∧ l.1 ≤ 13) ∨ l.1 = 18 ∨ l.1 = 28) ∧ (l.2.1 = b) ∧ dzz l) → g1_8 l = g0 l := by rw [eg1_8]; exact fun l hl => (xu_o (fun z => hl (by rw [z]; exact ⟨(show (8 ≤ (9 : Nat) ∧ (9 : Nat) ≤ 13) ∨ (9 : Nat) = 18 ∨ (9 : Nat) = 28 by omega), (show (b : Int) = b by omega), (show (0 : Int) ≤ b ∧ b < 4 ∧ (0 : Int) = 0 by omega)⟩))).trans (fr_g1_7 l hl)
  have v10_g1_8 : g1_8 (10, b, 0) = some (.inr (5, 60, .inr (.inr (.inr (fun _ => none))))) := by rw [eg1_8]; exact (xu_o (nK (by decide) _ _ _ _)).trans v10_g1_7
  have v11_g1_8 : g1_8 (11, b, 0) = some (.inr (0, 61, xZero 0)) := by rw [eg1_8]; exact (xu_o (nK (by decide) _ _ _ _)).trans v11_g1_7
  have v12_g1_8 : g1_8 (12, b, 0) = some (.inr (6, 24, .inr (.inr (.inr (fun _ => none))))) := by rw [eg1_8]; exact (xu_o (nK (by decide) _ _ _ _)).trans v12_g1_7
  have v9_g1_8 : g1_8 (9, b, 0) = some (.inl (0, [xR (10, b, 0), xR (11, b, 0), xR (12, b, 0), xI 0, xI 0, xI 0, xI 0])) := by rw [eg1_8]; exact xu_at
  refine x_aload_n dX0_init_40 rfl ?_
  refine x_iconst dX0_init_41 ?_
  refine x_put dX0_init_42 fl_RX0_34 (fun r hr => by cases hr; rfl) v9_g1_8 xfit_i (Nat.le_of_ble_eq_true rfl) rfl ?_
  refine x_hg (fun g1_9 eg1_9 => ?_)
  have ff_g1_9 : ∀ l : XL, (((8 ≤ l.1 ∧ l.1 ≤ 13) ∨ l.1 = 18 ∨ l.1 = 28) ∧ (l.2.1 = b) ∧ dzz l) → l ≠ (9, b, 0) → l ≠ (10, b, 0) → l ≠ (11, b, 0) → l ≠ (12, b, 0) → g1_9 l = none := by rw [eg1_9]; exact fun l hl n0 n1 n2 n3 => (xu_o n0).trans (ff_g1_8 l hl n0 n1 n2 n3)
  have fr_g1_9 : ∀ l : XL, ¬ (((8 ≤ l.1 ∧ l.1 ≤ 13) ∨ l.1 = 18 ∨ l.1 = 28) ∧ (l.2.1 = b) ∧ dzz l) → g1_9 l = g0 l := by rw [eg1_9]; exact fun l hl => (xu_o (fun z => hl (by rw [z]; exact ⟨(show (8 ≤ (9 : Nat) ∧ (9 : Nat) ≤ 13) ∨ (9 : Nat) = 18 ∨ (9 : Nat) = 28 by omega), (show (b : Int) = b by omega), (show (0 : Int) ≤ b ∧ b < 4 ∧ (0 : Int) = 0 by omega)⟩))).trans (fr_g1_8 l hl)
  have v10_g1_9 : g1_9 (10, b, 0) = some (.inr (5, 60, .inr (.inr (.inr (fun _ => none))))) := by rw [eg1_9]; exact (xu_o (nK (by decide) _ _ _ _)).trans v10_g1_8
  have v11_g1_9 : g1_9 (11, b, 0) = some (.inr (0, 61, xZero 0)) := by rw [eg1_9]; exact (xu_o (nK (by decide) _ _ _ _)).trans v11_g1_8
  have v12_g1_9 : g1_9 (12, b, 0) = some (.inr (6, 24, .inr (.inr (.inr (fun _ => none))))) := by rw [eg1_9]; exact (xu_o (nK (by decide) _ _ _ _)).trans v12_g1_8
  have v9_g1_9 : g1_9 (9, b, 0) = some (.inl (0, [xR (10, b, 0), xR (11, b, 0), xR (12, b, 0), xI 0, xI 0, xI 0, xI 0])) := by rw [eg1_9]; exact xu_at
  refine x_aload_n dX0_init_45 rfl ?_
  refine x_iconst dX0_init_46 ?_
  refine x_put dX0_init_47 fl_RX0_37 (fun r hr => by cases hr; rfl) v9_g1_9 xfit_i (Nat.le_of_ble_eq_true rfl) rfl ?_
  refine x_hg (fun g1_10 eg1_10 => ?_)
  have ff_g1_10 : ∀ l : XL, (((8 ≤ l.1 ∧ l.1 ≤ 13) ∨ l.1 = 18 ∨ l.1 = 28) ∧ (l.2.1 = b) ∧ dzz l) → l ≠ (9, b, 0) → l ≠ (10, b, 0) → l ≠ (11, b, 0) → l ≠ (12, b, 0) → g1_10 l = none := by rw [eg1_10]; exact fun l hl n0 n1 n2 n3 => (xu_o n0).trans (ff_g1_9 l hl n0 n1 n2 n3)
  have fr_g1_10 : ∀ l : XL, ¬ (((8 ≤ l.1 ∧ l.1 ≤ 13) ∨ l.1 = 18 ∨ l.1 = 28) ∧ (l.2.1 = b) ∧ dzz l) → g1_10 l = g0 l := by rw [eg1_10]; exact fun l hl => (xu_o (fun z => hl (by rw [z]; exact ⟨(show (8 ≤ (9 : Nat) ∧ (9 : Nat) ≤ 13) ∨ (9 : Nat) = 18 ∨ (9 : Nat) = 28 by omega), (show (b : Int) = b by omega), (show (0 : Int) ≤ b ∧ b < 4 ∧ (0 : Int) = 0 by omega)⟩))).trans (fr_g1_9 l hl)
  have v10_g1_10 : g1_10 (10, b, 0) = some (.inr (5, 60, .inr (.inr (.inr (fun _ => none))))) := by rw [eg1_10]; exact (xu_o (nK (by decide) _ _ _ _)).trans v10_g1_9
  have v11_g1_10 : g1_10 (11, b, 0) = some (.inr (0, 61, xZero 0)) := by rw [eg1_10]; exact (xu_o (nK (by decide) _ _ _ _)).trans v11_g1_9
  have v12_g1_10 : g1_10 (12, b, 0) = some (.inr (6, 24, .inr (.inr (.inr (fun _ => none))))) := by rw [eg1_10]; exact (xu_o (nK (by decide) _ _ _ _)).trans v12_g1_9
  have v9_g1_10 : g1_10 (9, b, 0) = some (.inl (0, [xR (10, b, 0), xR (11, b, 0), xR (12, b, 0), xI 0, xI 0, xI 0, xI 0])) := by rw [eg1_10]; exact xu_at
  refine x_iconst dX0_init_50 ?_
  refine x_istore_n (L' := [xR (9, b, 0), xI 0]) dX0_init_51 (by decide) rfl ?_
  have w10 : g1_10 (10, b, 0) = some (.inr (5, 60, .inr (.inr (.inr (rwF (fun k : Int => ((13, b, k) : XL)) 0))))) := by rw [v10_g1_10, rwF_0 (fun k : Int => ((13, b, k) : XL))]
  exact l_init0a g0 b b0 b1 61 0 g1_10 (135 - 1 - 1 - 1) (985 - 60 - 61 - 24) (by omega) (by omega) (by omega) (by omega) v9_g1_10 v11_g1_10 v12_g1_10 w10 (fun l hl => by exfalso; obtain ⟨k, a, c⟩ := l; obtain ⟨q1, q2, q3, q4⟩ := hl; have q3 : c < 0 := q3; have q1 : k = 13 := q1; subst q1; have := (show 0 ≤ a ∧ a < 4 ∧ 0 ≤ c ∧ c < 60 from q4).2.2.1; omega) (fun l hl => ff_g1_10 l ⟨by have a1 := hl.1; omega, hl.2.1, hl.2.2.2⟩ (fun z => by have a1 := hl.1; rw [z] at a1; have a2 : (9 : Nat) = 13 := a1; omega) (fun z => by have a1 := hl.1; rw [z] at a1; have a2 : (10 : Nat) = 13 := a1; omega) (fun z => by have a1 := hl.1; rw [z] at a1; have a2 : (11 : Nat) = 13 := a1; omega) (fun z => by have a1 := hl.1; rw [z] at a1; have a2 : (12 : Nat) = 13 := a1; omega)) (fun l hl => ff_g1_10 l ⟨by have a1 := hl.1; omega, hl.2.1, hl.2.2⟩ (fun z => by have a1 := hl.1; rw [z] at a1; have a2 : (9 : Nat) = 8 ∨ (9 : Nat) = 18 ∨ (9 : Nat) = 28 := a1; omega) (fun z => by have a1 := hl.1; rw [z] at a1; have a2 : (10 : Nat) = 8 ∨ (10 : Nat) = 18 ∨ (10 : Nat) = 28 := a1; omega) (fun z => by have a1 := hl.1; rw [z] at a1; have a2 : (11 : Nat) = 8 ∨ (11 : Nat) = 18 ∨ (11 : Nat) = 28 := a1; omega) (fun z => by have a1 := hl.1; rw [z] at a1; have a2 : (12 : Nat) = 8 ∨ (12 : Nat) = 18 ∨ (12 : Nat) = 28 := a1; omega)) fr_g1_10

