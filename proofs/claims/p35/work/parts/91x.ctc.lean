/-! constructors: the book of rules, reasons, branches -/
def nBk (l : XL) : Prop := ((34 ≤ l.1 ∧ l.1 ≤ 37) ∨ l.1 = 4 ∨ l.1 = 32 ∨ l.1 = 33) ∧ dzz l
set_option maxHeartbeats 4000000 in
set_option maxRecDepth 100000 in
theorem l_init5 (g0 : XH) : ∀ (nn : Nat) (i : Int) (g : XH) (kc ks : Nat), 10 - i < (nn : Int) → 0 ≤ i → i ≤ 10 → (6 * (10 - i) ≤ (kc : Int) ∧ 25 * (10 - i) ≤ (ks : Int)) → (g (4, 0, 0) = some (.inl (5, [xR (32, 0, 0), xR (33, 0, 0), xI 0]))) → (g (33, 0, 0) = some (.inr (0, 6, xZero 0))) → (g (32, 0, 0) = some (.inr (10, 10, .inr (.inr (.inr (rwF (fun k : Int => ((34, k, 0) : XL)) i)))))) → (∀ l : XL, ((34 ≤ l.1 ∧ l.1 ≤ 37) ∧ (l.2.1 < i) ∧ dzz l) → g l = z0 l) → (∀ l : XL, ((34 ≤ l.1 ∧ l.1 ≤ 37) ∧ (i ≤ l.2.1) ∧ dzz l) → g l = none) → (∀ l : XL, ¬ (((34 ≤ l.1 ∧ l.1 ≤ 37) ∨ l.1 = 4 ∨ l.1 = 32 ∨ l.1 = 33) ∧ dzz l) → g l = g0 l) → X mX5_init 28 [xR (4, 0, 0), xI i] [] g kc ks (fun o h' => o = .inl none ∧ (∀ l : XL, nBk l → h' l = z0 l) ∧ ∀ l : XL, ¬ nBk l → h' l = g0 l) := by
  intro nn
  induction nn with
  | zero => intro i g kc ks hm i0 i1 hk; exfalso; omega
  | succ nn ih =>
    intro i g kc ks hm i0 i1 hk v4 v33 v32 dd ff fr
    refine x_iload_n dX5_init_28 rfl ?_
    refine x_bipush (v := 10) dX5_init_29 (by decide) ?_
    refine x_icmp_ge (tgt := 53) dX5_init_31 (by decide) ⟨by omega, by omega⟩ ⟨by decide, by decide⟩ (fun c31 => ?_) (fun c31 => ?_)
    · have e3 : i = 10 := by omega
      subst e3
      refine x_full (fun k : Int => some ((34, k, 0) : XL)) v32 (show (32 : Nat) ≠ 99 by decide) (fun j hj => rwF_n (fun k : Int => ((34, k, 0) : XL)) 10 j hj) ?_
      refine x_hg (fun g3_1 eg3_1 => ?_)
      have v4_g3_1 : g3_1 (4, 0, 0) = some (.inl (5, [xR (32, 0, 0), xR (33, 0, 0), xI 0])) := by rw [eg3_1]; exact (xu_o (nK (by decide) _ _ _ _)).trans v4
      have v33_g3_1 : g3_1 (33, 0, 0) = some (.inr (0, 6, xZero 0)) := by rw [eg3_1]; exact (xu_o (nK (by decide) _ _ _ _)).trans v33
      have dd_g3_1 : ∀ l : XL, ((34 ≤ l.1 ∧ l.1 ≤ 37) ∧ (l.2.1 < 10) ∧ dzz l) → g3_1 l = z0 l := by rw [eg3_1]; exact fun l hl => (xu_o (fun z => (fun z => by have z0 : 34 ≤ (32 : Nat) ∧ (32 : Nat) ≤ 37 := z.1; have z1 : (0 : Int) < 10 := z.2.1; omega) (by rw [z] at hl; exact hl))).trans (dd l hl)
      have ff_g3_1 : ∀ l : XL, ((34 ≤ l.1 ∧ l.1 ≤ 37) ∧ (10 ≤ l.2.1) ∧ dzz l) → g3_1 l = none := by rw [eg3_1]; exact fun l hl => (xu_o (fun z => (fun z => by have z0 : 34 ≤ (32 : Nat) ∧ (32 : Nat) ≤ 37 := z.1; have z1 : 10 ≤ (0 : Int) := z.2.1; omega) (by rw [z] at hl; exact hl))).trans (ff l hl)
      have fr_g3_1 : ∀ l : XL, ¬ (((34 ≤ l.1 ∧ l.1 ≤ 37) ∨ l.1 = 4 ∨ l.1 = 32 ∨ l.1 = 33) ∧ dzz l) → g3_1 l = g0 l := by rw [eg3_1]; exact fun l hl => (xu_o (fun z => hl (by rw [z]; exact ⟨(show (34 ≤ (32 : Nat) ∧ (32 : Nat) ≤ 37) ∨ (32 : Nat) = 4 ∨ (32 : Nat) = 32 ∨ (32 : Nat) = 33 by omega), (show (0 : Int) = 0 ∧ (0 : Int) = 0 from ⟨rfl, rfl⟩)⟩))).trans (fr l hl)
      have v32_g3_1 : g3_1 (32, 0, 0) = some (.inr (10, 10, .inr (.inr (.inr (fun k : Int => some ((34, k, 0) : XL)))))) := by rw [eg3_1]; exact xu_at
      exact x_vret dX5_init_53 rfl ⟨rfl, fun l hl => (by
        obtain ⟨k, a, b⟩ := l
        obtain ⟨hk, hd⟩ := hl
        have hk2 : (34 ≤ k ∧ k ≤ 37) ∨ k = 4 ∨ k = 32 ∨ k = 33 := hk
        rcases hk2 with hk2 | rfl | rfl | rfl
        · refine dd_g3_1 _ ⟨hk2, ?_, hd⟩
          have hk' : k = 34 ∨ k = 35 ∨ k = 36 ∨ k = 37 := by omega
          show a < 10
          rcases hk' with rfl | rfl | rfl | rfl
          · exact (show 0 ≤ a ∧ a < 10 ∧ b = 0 from hd).2.1
          · exact (show 0 ≤ a ∧ a < 10 ∧ b = 0 from hd).2.1
          · exact (show 0 ≤ a ∧ a < 10 ∧ 0 ≤ b ∧ b < 3 from hd).2.1
          · exact (show 0 ≤ a ∧ a < 10 ∧ b = 0 from hd).2.1
        · obtain ⟨d1, d2⟩ : a = 0 ∧ b = 0 := hd
          subst d1; subst d2; rw [v4_g3_1]; exact (hp4 (iS 0 (fun _ => 0))).symm
        · obtain ⟨d1, d2⟩ : a = 0 ∧ b = 0 := hd
          subst d1; subst d2; rw [v32_g3_1]; exact (hp32 (iS 0 (fun _ => 0))).symm
        · obtain ⟨d1, d2⟩ : a = 0 ∧ b = 0 := hd
          subst d1; subst d2; rw [v33_g3_1]; exact (hp33 (iS 0 (fun _ => 0))).symm), fun l hl => fr_g3_1 l hl⟩
    · refine x_aload_n dX5_init_34 rfl ?_
      refine x_get (v := xR (32, 0, 0)) dX5_init_35 fl_RX5_11 v4 rfl ?_
      refine x_iload_n dX5_init_38 rfl ?_
      refine x_newN (n := 6) (34, i, 0) [xN, xN, xI 0, xI 0, xI 0, xI 0] dX5_init_39 (r := (RX4, TX4, 6)) rfl rfl wd58 (ff _ ⟨(show 34 ≤ (34 : Nat) ∧ (34 : Nat) ≤ 37 by omega), (show i ≤ (i : Int) by omega), (show (0 : Int) ≤ i ∧ i < 10 ∧ (0 : Int) = 0 by omega)⟩) (show (34 : Nat) ≠ 99 by decide) (by omega) (by omega) dfl_4 ?_
      refine x_hg (fun g3_2 eg3_2 => ?_)
      have v4_g3_2 : g3_2 (4, 0, 0) = some (.inl (5, [xR (32, 0, 0), xR (33, 0, 0), xI 0])) := by rw [eg3_2]; exact (xu_o (nK (by decide) _ _ _ _)).trans v4
      have v33_g3_2 : g3_2 (33, 0, 0) = some (.inr (0, 6, xZero 0)) := by rw [eg3_2]; exact (xu_o (nK (by decide) _ _ _ _)).trans v33
      have v32_g3_2 : g3_2 (32, 0, 0) = some (.inr (10, 10, .inr (.inr (.inr (rwF (fun k : Int => ((34, k, 0) : XL)) i))))) := by rw [eg3_2]; exact (xu_o (nK (by decide) _ _ _ _)).trans v32
      have dd_g3_2 : ∀ l : XL, ((34 ≤ l.1 ∧ l.1 ≤ 37) ∧ (l.2.1 < i) ∧ dzz l) → g3_2 l = z0 l := by rw [eg3_2]; exact fun l hl => (xu_o (fun z => (fun z => by have z0 : 34 ≤ (34 : Nat) ∧ (34 : Nat) ≤ 37 := z.1; have z1 : (i : Int) < i := z.2.1; omega) (by rw [z] at hl; exact hl))).trans (dd l hl)
      have ff_g3_2 : ∀ l : XL, ((34 ≤ l.1 ∧ l.1 ≤ 37) ∧ (i ≤ l.2.1) ∧ dzz l) → l ≠ (34, i, 0) → g3_2 l = none := by rw [eg3_2]; exact fun l hl nx => (xu_o nx).trans (ff l hl)
      have fr_g3_2 : ∀ l : XL, ¬ (((34 ≤ l.1 ∧ l.1 ≤ 37) ∨ l.1 = 4 ∨ l.1 = 32 ∨ l.1 = 33) ∧ dzz l) → g3_2 l = g0 l := by rw [eg3_2]; exact fun l hl => (xu_o (fun z => hl (by rw [z]; exact ⟨(show (34 ≤ (34 : Nat) ∧ (34 : Nat) ≤ 37) ∨ (34 : Nat) = 4 ∨ (34 : Nat) = 32 ∨ (34 : Nat) = 33 by omega), (show (0 : Int) ≤ i ∧ i < 10 ∧ (0 : Int) = 0 by omega)⟩))).trans (fr l hl)
      have v34_g3_2 : g3_2 (34, i, 0) = some (.inl (4, [xN, xN, xI 0, xI 0, xI 0, xI 0])) := by rw [eg3_2]; exact xu_at
      refine x_dup dX5_init_42 rfl ?_
      refine x_callI 5 19 (as := []) (rest := [xR (34, i, 0), xI i, xR (32, 0, 0)]) ok_X4_init rfl rfl dX5_init_43 wd61 wd62 (c_init4 g3_2 i (by omega) (by omega) v34_g3_2 (fun l hl n0 => ff_g3_2 l ⟨hl.1, (by have a1 := hl.2.1; omega), hl.2.2⟩ n0)) (fun _ _ z => by cases z.1) rfl (Nat.le_of_ble_eq_true rfl) (Nat.le_of_ble_eq_true rfl) (by decide) (by omega) (by omega) (fun h q => ?_) (fun _ _ z => by cases z.1)
      obtain ⟨-, zd, zf⟩ := q
      have v4_h_3 : h (4, 0, 0) = some (.inl (5, [xR (32, 0, 0), xR (33, 0, 0), xI 0])) := (zf _ (fun z => by have z1 : 34 ≤ (4 : Nat) ∧ (4 : Nat) ≤ 37 := z.1; omega)).trans v4_g3_2
      have v33_h_3 : h (33, 0, 0) = some (.inr (0, 6, xZero 0)) := (zf _ (fun z => by have z1 : 34 ≤ (33 : Nat) ∧ (33 : Nat) ≤ 37 := z.1; omega)).trans v33_g3_2
      have v32_h_3 : h (32, 0, 0) = some (.inr (10, 10, .inr (.inr (.inr (rwF (fun k : Int => ((34, k, 0) : XL)) i))))) := (zf _ (fun z => by have z1 : 34 ≤ (32 : Nat) ∧ (32 : Nat) ≤ 37 := z.1; omega)).trans v32_g3_2
      have dd_h_3 : ∀ l : XL, ((34 ≤ l.1 ∧ l.1 ≤ 37) ∧ (l.2.1 < i + 1) ∧ dzz l) → h l = z0 l := fun l hl => by
        by_cases y : l.2.1 = i
        · exact zd l ⟨hl.1, y, hl.2.2⟩
        · exact (zf l (fun z => y z.2.1)).trans (dd_g3_2 l ⟨hl.1, (by have a2 := hl.2.1; omega), hl.2.2⟩)
      have ff_h_3 : ∀ l : XL, ((34 ≤ l.1 ∧ l.1 ≤ 37) ∧ (i + 1 ≤ l.2.1) ∧ dzz l) → h l = none := fun l hl => (zf l (fun z => by have a1 : l.2.1 = i := z.2.1; have a2 := hl.2.1; omega)).trans (ff_g3_2 l ⟨hl.1, (by have a2 := hl.2.1; omega), hl.2.2⟩ (fun z => by have a2 := hl.2.1; rw [z] at a2; have a3 : i + 1 ≤ i := a2; omega))
      have fr_h_3 : ∀ l : XL, ¬ (((34 ≤ l.1 ∧ l.1 ≤ 37) ∨ l.1 = 4 ∨ l.1 = 32 ∨ l.1 = 33) ∧ dzz l) → h l = g0 l := fun l hl => (zf l (fun z => hl ⟨Or.inl z.1, z.2.2⟩)).trans (fr_g3_2 l hl)
      have v34_h_3 : h (34, i, 0) = some (.inl (4, [xR (37, i, 0), xR (35, i, 0), xI 0, xI 0, xI 511, xI 0])) := (zd (34, i, 0) ⟨(show 34 ≤ (34 : Nat) ∧ (34 : Nat) ≤ 37 by decide), rfl, (show (0 : Int) ≤ i ∧ i < 10 ∧ (0 : Int) = 0 by omega)⟩).trans (hp34 (iS 0 (fun _ => 0)) (by omega) (by omega))
      refine x_asta (r := (RX4, TX4, 6)) dX5_init_46 v32_h_3 (show (32 : Nat) ≠ 99 by decide) (by decide) rfl rfl v34_h_3 (by omega) (by omega) (by decide) ?_
      refine x_hg (fun g3_4 eg3_4 => ?_)
      have v4_g3_4 : g3_4 (4, 0, 0) = some (.inl (5, [xR (32, 0, 0), xR (33, 0, 0), xI 0])) := by rw [eg3_4]; exact (xu_o (nK (by decide) _ _ _ _)).trans v4_h_3
      have v33_g3_4 : g3_4 (33, 0, 0) = some (.inr (0, 6, xZero 0)) := by rw [eg3_4]; exact (xu_o (nK (by decide) _ _ _ _)).trans v33_h_3
      have dd_g3_4 : ∀ l : XL, ((34 ≤ l.1 ∧ l.1 ≤ 37) ∧ (l.2.1 < i + 1) ∧ dzz l) → g3_4 l = z0 l := by rw [eg3_4]; exact fun l hl => (xu_o (fun z => (fun z => by have z0 : 34 ≤ (32 : Nat) ∧ (32 : Nat) ≤ 37 := z.1; have z1 : (0 : Int) < i + 1 := z.2.1; omega) (by rw [z] at hl; exact hl))).trans (dd_h_3 l hl)
      have ff_g3_4 : ∀ l : XL, ((34 ≤ l.1 ∧ l.1 ≤ 37) ∧ (i + 1 ≤ l.2.1) ∧ dzz l) → g3_4 l = none := by rw [eg3_4]; exact fun l hl => (xu_o (fun z => (fun z => by have z0 : 34 ≤ (32 : Nat) ∧ (32 : Nat) ≤ 37 := z.1; have z1 : i + 1 ≤ (0 : Int) := z.2.1; omega) (by rw [z] at hl; exact hl))).trans (ff_h_3 l hl)
      have fr_g3_4 : ∀ l : XL, ¬ (((34 ≤ l.1 ∧ l.1 ≤ 37) ∨ l.1 = 4 ∨ l.1 = 32 ∨ l.1 = 33) ∧ dzz l) → g3_4 l = g0 l := by rw [eg3_4]; exact fun l hl => (xu_o (fun z => hl (by rw [z]; exact ⟨(show (34 ≤ (32 : Nat) ∧ (32 : Nat) ≤ 37) ∨ (32 : Nat) = 4 ∨ (32 : Nat) = 32 ∨ (32 : Nat) = 33 by omega), (show (0 : Int) = 0 ∧ (0 : Int) = 0 from ⟨rfl, rfl⟩)⟩))).trans (fr_h_3 l hl)
      have v34_g3_4 : g3_4 (34, i, 0) = some (.inl (4, [xR (37, i, 0), xR (35, i, 0), xI 0, xI 0, xI 511, xI 0])) := by rw [eg3_4]; exact (xu_o (nK (by decide) _ _ _ _)).trans v34_h_3
      have v32_g3_4 : g3_4 (32, 0, 0) = some (.inr (10, 10, .inr (.inr (.inr (xUpd (rwF (fun k : Int => ((34, k, 0) : XL)) i) i (some (34, i, 0))))))) := by rw [eg3_4]; exact xu_at
      have v32_g3_4x : g3_4 (32, 0, 0) = some (.inr (10, 10, .inr (.inr (.inr (rwF (fun k : Int => ((34, k, 0) : XL)) (i + 1)))))) := by rw [v32_g3_4, rwF_s (fun k : Int => ((34, k, 0) : XL)) (by omega)]
      refine x_iinc (L' := [xR (4, 0, 0), xI (i + 1)]) dX5_init_47 rfl rfl ?_
      refine x_goto (tgt := 28) dX5_init_50 (by decide) ?_
      exact ih (i + 1) g3_4 (kc - 1 - 5) (ks - 6 - 19) (by omega) (by omega) (by omega) (by omega) v4_g3_4 v33_g3_4 v32_g3_4x dd_g3_4 ff_g3_4 fr_g3_4
set_option maxHeartbeats 4000000 in
set_option maxRecDepth 100000 in
theorem c_init5 (g0 : XH) (v4 : g0 (4, 0, 0) = some (.inl (5, [xN, xN, xI 0]))) (ff : ∀ l : XL, nBk l → l ≠ (4, 0, 0) → g0 l = none) : X mX5_init 0 (xEnt mX5_init [xR (4, 0, 0)]) [] g0 62 266 (fun o h' => o = .inl none ∧ (∀ l : XL, nBk l → h' l = z0 l) ∧ ∀ l : XL, ¬ nBk l → h' l = g0 l) := by
  show X mX5_init 0 [xR (4, 0, 0), none] [] g0 62 266 _
  have fr : ∀ l : XL, ¬ (((34 ≤ l.1 ∧ l.1 ≤ 37) ∨ l.1 = 4 ∨ l.1 = 32 ∨ l.1 = 33) ∧ dzz l) → g0 l = g0 l := fun _ _ => rfl
  refine x_aload_n dX5_init_0 rfl ?_
  refine x_objInit dX5_init_1 wd57 wd46 wd47 (by decide) (Nat.le_of_ble_eq_true rfl) ?_
  refine x_aload_n dX5_init_4 rfl ?_
  refine x_bipush (v := 10) dX5_init_5 (by decide) ?_
  refine x_anewarray (32, 0, 0) (t := 10) (n := 10) (N := 10) (C := "Versefold$Rule") dX5_init_7 rfl (by decide) (by decide) wd58 (ff _ ⟨(show (34 ≤ (32 : Nat) ∧ (32 : Nat) ≤ 37) ∨ (32 : Nat) = 4 ∨ (32 : Nat) = 32 ∨ (32 : Nat) = 33 by omega), (show (0 : Int) = 0 ∧ (0 : Int) = 0 from ⟨rfl, rfl⟩)⟩ (nK (by decide) _ _ _ _)) (show (32 : Nat) ≠ 99 by decide) rfl (by decide) (by omega) (by omega) ?_
  refine x_hg (fun g1_1 eg1_1 => ?_)
  have v4_g1_1 : g1_1 (4, 0, 0) = some (.inl (5, [xN, xN, xI 0])) := by rw [eg1_1]; exact (xu_o (nK (by decide) _ _ _ _)).trans v4
  have ff_g1_1 : ∀ l : XL, (((34 ≤ l.1 ∧ l.1 ≤ 37) ∨ l.1 = 4 ∨ l.1 = 32 ∨ l.1 = 33) ∧ dzz l) → l ≠ (4, 0, 0) → l ≠ (32, 0, 0) → g1_1 l = none := by rw [eg1_1]; exact fun l hl n0 nx => (xu_o nx).trans (ff l hl n0)
  have fr_g1_1 : ∀ l : XL, ¬ (((34 ≤ l.1 ∧ l.1 ≤ 37) ∨ l.1 = 4 ∨ l.1 = 32 ∨ l.1 = 33) ∧ dzz l) → g1_1 l = g0 l := by rw [eg1_1]; exact fun l hl => (xu_o (fun z => hl (by rw [z]; exact ⟨(show (34 ≤ (32 : Nat) ∧ (32 : Nat) ≤ 37) ∨ (32 : Nat) = 4 ∨ (32 : Nat) = 32 ∨ (32 : Nat) = 33 by omega), (show (0 : Int) = 0 ∧ (0 : Int) = 0 from ⟨rfl, rfl⟩)⟩))).trans (fr l hl)
  have v32_g1_1 : g1_1 (32, 0, 0) = some (.inr (10, 10, .inr (.inr (.inr (fun _ => none))))) := by rw [eg1_1]; exact xu_at
  refine x_putF dX5_init_10 fl_RX5_11 (fun r hr => by cases hr; exact ⟨rfl, rfl⟩) v4_g1_1 xfit_a (Nat.le_of_ble_eq_true rfl) rfl rfl ?_
  refine x_hg (fun g1_2 eg1_2 => ?_)
  have ff_g1_2 : ∀ l : XL, (((34 ≤ l.1 ∧ l.1 ≤ 37) ∨ l.1 = 4 ∨ l.1 = 32 ∨ l.1 = 33) ∧ dzz l) → l ≠ (4, 0, 0) → l ≠ (32, 0, 0) → g1_2 l = none := by rw [eg1_2]; exact fun l hl n0 n1 => (xu_o n0).trans (ff_g1_1 l hl n0 n1)
  have fr_g1_2 : ∀ l : XL, ¬ (((34 ≤ l.1 ∧ l.1 ≤ 37) ∨ l.1 = 4 ∨ l.1 = 32 ∨ l.1 = 33) ∧ dzz l) → g1_2 l = g0 l := by rw [eg1_2]; exact fun l hl => (xu_o (fun z => hl (by rw [z]; exact ⟨(show (34 ≤ (4 : Nat) ∧ (4 : Nat) ≤ 37) ∨ (4 : Nat) = 4 ∨ (4 : Nat) = 32 ∨ (4 : Nat) = 33 by omega), (show (0 : Int) = 0 ∧ (0 : Int) = 0 from ⟨rfl, rfl⟩)⟩))).trans (fr_g1_1 l hl)
  have v32_g1_2 : g1_2 (32, 0, 0) = some (.inr (10, 10, .inr (.inr (.inr (fun _ => none))))) := by rw [eg1_2]; exact (xu_o (nK (by decide) _ _ _ _)).trans v32_g1_1
  have v4_g1_2 : g1_2 (4, 0, 0) = some (.inl (5, [xR (32, 0, 0), xN, xI 0])) := by rw [eg1_2]; exact xu_at
  refine x_aload_n dX5_init_13 rfl ?_
  refine x_bipush (v := 6) dX5_init_14 (by decide) ?_
  refine x_newarray (33, 0, 0) (t := 0) (n := 6) (N := 6) dX5_init_16 rfl wd89 (ff_g1_2 _ ⟨(show (34 ≤ (33 : Nat) ∧ (33 : Nat) ≤ 37) ∨ (33 : Nat) = 4 ∨ (33 : Nat) = 32 ∨ (33 : Nat) = 33 by omega), (show (0 : Int) = 0 ∧ (0 : Int) = 0 from ⟨rfl, rfl⟩)⟩ (nK (by decide) _ _ _ _) (nK (by decide) _ _ _ _)) (show (33 : Nat) ≠ 99 by decide) rfl (by decide) (by omega) (by omega) ?_
  refine x_hg (fun g1_3 eg1_3 => ?_)
  have ff_g1_3 : ∀ l : XL, (((34 ≤ l.1 ∧ l.1 ≤ 37) ∨ l.1 = 4 ∨ l.1 = 32 ∨ l.1 = 33) ∧ dzz l) → l ≠ (4, 0, 0) → l ≠ (32, 0, 0) → l ≠ (33, 0, 0) → g1_3 l = none := by rw [eg1_3]; exact fun l hl n0 n1 nx => (xu_o nx).trans (ff_g1_2 l hl n0 n1)
  have fr_g1_3 : ∀ l : XL, ¬ (((34 ≤ l.1 ∧ l.1 ≤ 37) ∨ l.1 = 4 ∨ l.1 = 32 ∨ l.1 = 33) ∧ dzz l) → g1_3 l = g0 l := by rw [eg1_3]; exact fun l hl => (xu_o (fun z => hl (by rw [z]; exact ⟨(show (34 ≤ (33 : Nat) ∧ (33 : Nat) ≤ 37) ∨ (33 : Nat) = 4 ∨ (33 : Nat) = 32 ∨ (33 : Nat) = 33 by omega), (show (0 : Int) = 0 ∧ (0 : Int) = 0 from ⟨rfl, rfl⟩)⟩))).trans (fr_g1_2 l hl)
  have v32_g1_3 : g1_3 (32, 0, 0) = some (.inr (10, 10, .inr (.inr (.inr (fun _ => none))))) := by rw [eg1_3]; exact (xu_o (nK (by decide) _ _ _ _)).trans v32_g1_2
  have v4_g1_3 : g1_3 (4, 0, 0) = some (.inl (5, [xR (32, 0, 0), xN, xI 0])) := by rw [eg1_3]; exact (xu_o (nK (by decide) _ _ _ _)).trans v4_g1_2
  have v33_g1_3 : g1_3 (33, 0, 0) = some (.inr (0, 6, xZero 0)) := by rw [eg1_3]; exact xu_at
  refine x_putF dX5_init_18 fl_RX5_17 (fun r hr => by cases hr; exact ⟨rfl, rfl⟩) v4_g1_3 xfit_a (Nat.le_of_ble_eq_true rfl) rfl rfl ?_
  refine x_hg (fun g1_4 eg1_4 => ?_)
  have ff_g1_4 : ∀ l : XL, (((34 ≤ l.1 ∧ l.1 ≤ 37) ∨ l.1 = 4 ∨ l.1 = 32 ∨ l.1 = 33) ∧ dzz l) → l ≠ (4, 0, 0) → l ≠ (32, 0, 0) → l ≠ (33, 0, 0) → g1_4 l = none := by rw [eg1_4]; exact fun l hl n0 n1 n2 => (xu_o n0).trans (ff_g1_3 l hl n0 n1 n2)
  have fr_g1_4 : ∀ l : XL, ¬ (((34 ≤ l.1 ∧ l.1 ≤ 37) ∨ l.1 = 4 ∨ l.1 = 32 ∨ l.1 = 33) ∧ dzz l) → g1_4 l = g0 l := by rw [eg1_4]; exact fun l hl => (xu_o (fun z => hl (by rw [z]; exact ⟨(show (34 ≤ (4 : Nat) ∧ (4 : Nat) ≤ 37) ∨ (4 : Nat) = 4 ∨ (4 : Nat) = 32 ∨ (4 : Nat) = 33 by omega), (show (0 : Int) = 0 ∧ (0 : Int) = 0 from ⟨rfl, rfl⟩)⟩))).trans (fr_g1_3 l hl)
  have v32_g1_4 : g1_4 (32, 0, 0) = some (.inr (10, 10, .inr (.inr (.inr (fun _ => none))))) := by rw [eg1_4]; exact (xu_o (nK (by decide) _ _ _ _)).trans v32_g1_3
  have v33_g1_4 : g1_4 (33, 0, 0) = some (.inr (0, 6, xZero 0)) := by rw [eg1_4]; exact (xu_o (nK (by decide) _ _ _ _)).trans v33_g1_3
  have v4_g1_4 : g1_4 (4, 0, 0) = some (.inl (5, [xR (32, 0, 0), xR (33, 0, 0), xI 0])) := by rw [eg1_4]; exact xu_at
  refine x_aload_n dX5_init_21 rfl ?_
  refine x_iconst dX5_init_22 ?_
  refine x_put dX5_init_23 fl_RX5_21 (fun r hr => by cases hr; rfl) v4_g1_4 xfit_i (Nat.le_of_ble_eq_true rfl) rfl ?_
  refine x_hg (fun g1_5 eg1_5 => ?_)
  have ff_g1_5 : ∀ l : XL, (((34 ≤ l.1 ∧ l.1 ≤ 37) ∨ l.1 = 4 ∨ l.1 = 32 ∨ l.1 = 33) ∧ dzz l) → l ≠ (4, 0, 0) → l ≠ (32, 0, 0) → l ≠ (33, 0, 0) → g1_5 l = none := by rw [eg1_5]; exact fun l hl n0 n1 n2 => (xu_o n0).trans (ff_g1_4 l hl n0 n1 n2)
  have fr_g1_5 : ∀ l : XL, ¬ (((34 ≤ l.1 ∧ l.1 ≤ 37) ∨ l.1 = 4 ∨ l.1 = 32 ∨ l.1 = 33) ∧ dzz l) → g1_5 l = g0 l := by rw [eg1_5]; exact fun l hl => (xu_o (fun z => hl (by rw [z]; exact ⟨(show (34 ≤ (4 : Nat) ∧ (4 : Nat) ≤ 37) ∨ (4 : Nat) = 4 ∨ (4 : Nat) = 32 ∨ (4 : Nat) = 33 by omega), (show (0 : Int) = 0 ∧ (0 : Int) = 0 from ⟨rfl, rfl⟩)⟩))).trans (fr_g1_4 l hl)
  have v32_g1_5 : g1_5 (32, 0, 0) = some (.inr (10, 10, .inr (.inr (.inr (fun _ => none))))) := by rw [eg1_5]; exact (xu_o (nK (by decide) _ _ _ _)).trans v32_g1_4
  have v33_g1_5 : g1_5 (33, 0, 0) = some (.inr (0, 6, xZero 0)) := by rw [eg1_5]; exact (xu_o (nK (by decide) _ _ _ _)).trans v33_g1_4
  have v4_g1_5 : g1_5 (4, 0, 0) = some (.inl (5, [xR (32, 0, 0), xR (33, 0, 0), xI 0])) := by rw [eg1_5]; exact xu_at
  refine x_iconst dX5_init_26 ?_
  refine x_istore_n (L' := [xR (4, 0, 0), xI 0]) dX5_init_27 (by decide) rfl ?_
  have w32 : g1_5 (32, 0, 0) = some (.inr (10, 10, .inr (.inr (.inr (rwF (fun k : Int => ((34, k, 0) : XL)) 0))))) := by rw [v32_g1_5, rwF_0 (fun k : Int => ((34, k, 0) : XL))]
  exact l_init5 g0 11 0 g1_5 (62 - 1 - 1) (266 - 10 - 6) (by omega) (by omega) (by omega) (by omega) v4_g1_5 v33_g1_5 w32 (fun l hl => by exfalso; obtain ⟨k, a, b⟩ := l; obtain ⟨hk, ha, hd⟩ := hl; have hk2 : 34 ≤ k ∧ k ≤ 37 := hk; have ha2 : a < 0 := ha; have hk3 : k = 34 ∨ k = 35 ∨ k = 36 ∨ k = 37 := (by omega); rcases hk3 with rfl | rfl | rfl | rfl; (have := (show 0 ≤ a ∧ a < 10 ∧ b = 0 from hd).1; omega); (have := (show 0 ≤ a ∧ a < 10 ∧ b = 0 from hd).1; omega); (have := (show 0 ≤ a ∧ a < 10 ∧ 0 ≤ b ∧ b < 3 from hd).1; omega); (have := (show 0 ≤ a ∧ a < 10 ∧ b = 0 from hd).1; omega)) (fun l hl => ff_g1_5 l ⟨Or.inl hl.1, hl.2.2⟩ (fun z => by have a1 := hl.1; rw [z] at a1; have a2 : 34 ≤ (4 : Nat) ∧ (4 : Nat) ≤ 37 := a1; omega) (fun z => by have a1 := hl.1; rw [z] at a1; have a2 : 34 ≤ (32 : Nat) ∧ (32 : Nat) ≤ 37 := a1; omega) (fun z => by have a1 := hl.1; rw [z] at a1; have a2 : 34 ≤ (33 : Nat) ∧ (33 : Nat) ≤ 37 := a1; omega)) (fun l hl => fr_g1_5 l hl)
theorem l_fillG (g : XH) (l : XL) (n : Nat) (f : Int → Int) (v : Int) (h99 : l.1 ≠ 99) (n1 : n < 2147483648) (hn : g l = some (.inr (0, n, .inl f))) : ∀ (nn : Nat) (i : Int) (h : XH), (n : Int) - i < (nn : Int) → 0 ≤ i → i ≤ n → h = xUp g l (.inr (0, n, .inl (fun j => if 0 ≤ j ∧ j < i then v else f j))) → X mJ7_fill_53178 5 [xR l, xI v, xI i, xI (n : Int)] [] h 0 0 (pVoid (xUp g l (.inr (0, n, .inl (fun j => if 0 ≤ j ∧ j < n then v else f j))))) := by
  intro nn
  induction nn with
  | zero => intro i h hm h1 h2; exfalso; omega
  | succ nn ih =>
    intro i h hm h1 h2 hh
    have hl : h l = some (.inr (0, n, .inl (fun j => if 0 ≤ j ∧ j < i then v else f j))) := by rw [hh]; exact xu_at
    refine x_iload_n dJ7_fill_53178_5 rfl ?_
    refine x_iload_n dJ7_fill_53178_6 rfl ?_
    refine x_icmp_ge (tgt := 20) dJ7_fill_53178_7 (by decide) ⟨by omega, by omega⟩ ⟨by omega, by omega⟩ (fun c7 => ?_) (fun c7 => ?_)
    · obtain rfl : i = n := by omega
      exact x_vret dJ7_fill_53178_20 rfl ⟨rfl, hh⟩
    · refine x_aload_n dJ7_fill_53178_10 rfl ?_
      refine x_iload_n dJ7_fill_53178_11 rfl ?_
      refine x_iload_n dJ7_fill_53178_12 rfl ?_
      refine x_asti dJ7_fill_53178_13 hl h99 (by omega) (by omega) n1 ?_
      refine x_iinc (L' := [xR l, xI v, xI (i + 1), xI (n : Int)]) dJ7_fill_53178_14 rfl rfl ?_
      refine x_goto (tgt := 5) dJ7_fill_53178_17 (by decide) ?_
      refine ih (i + 1) _ (by omega) (by omega) (by omega) ?_
      rw [hh, xu_xu]
      congr 5
      funext j
      by_cases e : j = i
      · subst e
        simp only [xUpd, if_true]
        rw [if_pos ⟨h1, by omega⟩]
      · simp only [xUpd, if_neg e]
        by_cases y : 0 ≤ j ∧ j < i
        · rw [if_pos y, if_pos ⟨y.1, by omega⟩]
        · rw [if_neg y, if_neg (fun z => y ⟨z.1, by omega⟩)]
theorem c_fillG (g : XH) (l : XL) (n : Nat) (f : Int → Int) (v : Int) (h99 : l.1 ≠ 99) (n1 : n < 2147483648) (hn : g l = some (.inr (0, n, .inl f))) : X mJ7_fill_53178 0 (xEnt mJ7_fill_53178 [xR l, xI v]) [] g 0 0 (pVoid (xUp g l (.inr (0, n, .inl (fun j => if 0 ≤ j ∧ j < n then v else f j))))) := by
  show X mJ7_fill_53178 0 [xR l, xI v, none, none] [] g 0 0 _
  refine x_iconst dJ7_fill_53178_0 ?_
  refine x_istore_n (L' := [xR l, xI v, xI 0, none]) dJ7_fill_53178_1 (by decide) rfl ?_
  refine x_aload_n dJ7_fill_53178_2 rfl ?_
  refine x_len dJ7_fill_53178_3 hn h99 (by decide) n1 ?_
  refine x_istore_n (L' := [xR l, xI v, xI 0, xI (n : Int)]) dJ7_fill_53178_4 (by decide) rfl ?_
  refine l_fillG g l n f v h99 n1 hn (n + 1) 0 g (by omega) (by omega) (by omega) ?_
  funext l'
  show _ = if l' = l then _ else _
  by_cases e : l' = l
  · subst e
    rw [if_pos rfl, hn]
    congr 5
    funext j
    rw [if_neg (by omega)]
  · rw [if_neg e]
def nRe (l : XL) : Prop := (l.1 = 5 ∨ l.1 = 7 ∨ l.1 = 17 ∨ l.1 = 27 ∨ (40 ≤ l.1 ∧ l.1 ≤ 46)) ∧ dzz l
set_option maxHeartbeats 4000000 in
set_option maxRecDepth 100000 in
theorem c_init3 (g0 : XH) (v5 : g0 (5, 0, 0) = some (.inl (3, [xN, xN, xN, xN, xN, xN, xN, xN]))) (ff : ∀ l : XL, nRe l → l ≠ (5, 0, 0) → g0 l = none) : X mX3_init 0 (xEnt mX3_init [xR (5, 0, 0)]) [] g0 10 1569 (fun o h' => o = .inl none ∧ (∀ l : XL, nRe l → h' l = z0 l) ∧ ∀ l : XL, ¬ nRe l → h' l = g0 l) := by
  show X mX3_init 0 [xR (5, 0, 0)] [] g0 10 1569 _
  have fr : ∀ l : XL, ¬ ((l.1 = 5 ∨ l.1 = 7 ∨ l.1 = 17 ∨ l.1 = 27 ∨ (40 ≤ l.1 ∧ l.1 ≤ 46)) ∧ dzz l) → g0 l = g0 l := fun _ _ => rfl
  refine x_aload_n dX3_init_0 rfl ?_
  refine x_objInit dX3_init_1 wd138 wd46 wd47 (by decide) (Nat.le_of_ble_eq_true rfl) ?_
  refine x_aload_n dX3_init_4 rfl ?_
  refine x_newN (n := 3) (7, 0, 0) [xN, xN, xI 0] dX3_init_5 (r := (RX6, TX6, 3)) rfl rfl wd139 (ff _ ⟨(show (7 : Nat) = 5 ∨ (7 : Nat) = 7 ∨ (7 : Nat) = 17 ∨ (7 : Nat) = 27 ∨ (40 ≤ (7 : Nat) ∧ (7 : Nat) ≤ 46) by omega), (show (0 : Int) = 0 ∧ (0 : Int) = 0 from ⟨rfl, rfl⟩)⟩ (nK (by decide) _ _ _ _)) (show (7 : Nat) ≠ 99 by decide) (by omega) (by omega) dfl_6 ?_
  refine x_hg (fun g1_1 eg1_1 => ?_)
  have v5_g1_1 : g1_1 (5, 0, 0) = some (.inl (3, [xN, xN, xN, xN, xN, xN, xN, xN])) := by rw [eg1_1]; exact (xu_o (nK (by decide) _ _ _ _)).trans v5
  have ff_g1_1 : ∀ l : XL, ((l.1 = 5 ∨ l.1 = 7 ∨ l.1 = 17 ∨ l.1 = 27 ∨ (40 ≤ l.1 ∧ l.1 ≤ 46)) ∧ dzz l) → l ≠ (5, 0, 0) → l ≠ (7, 0, 0) → g1_1 l = none := by rw [eg1_1]; exact fun l hl n0 nx => (xu_o nx).trans (ff l hl n0)
  have fr_g1_1 : ∀ l : XL, ¬ ((l.1 = 5 ∨ l.1 = 7 ∨ l.1 = 17 ∨ l.1 = 27 ∨ (40 ≤ l.1 ∧ l.1 ≤ 46)) ∧ dzz l) → g1_1 l = g0 l := by rw [eg1_1]; exact fun l hl => (xu_o (fun z => hl (by rw [z]; exact ⟨(show (7 : Nat) = 5 ∨ (7 : Nat) = 7 ∨ (7 : Nat) = 17 ∨ (7 : Nat) = 27 ∨ (40 ≤ (7 : Nat) ∧ (7 : Nat) ≤ 46) by omega), (show (0 : Int) = 0 ∧ (0 : Int) = 0 from ⟨rfl, rfl⟩)⟩))).trans (fr l hl)
  have v7_g1_1 : g1_1 (7, 0, 0) = some (.inl (6, [xN, xN, xI 0])) := by rw [eg1_1]; exact xu_at
  refine x_dup dX3_init_8 rfl ?_
  refine x_callIN 2 12 (as := []) (rest := [xR (7, 0, 0), xR (5, 0, 0)]) ok_X6_init rfl rfl dX3_init_9 wn141 wd142 (c_init6_7 g1_1 0 0 v7_g1_1 (ff_g1_1 _ ⟨(show (17 : Nat) = 5 ∨ (17 : Nat) = 7 ∨ (17 : Nat) = 17 ∨ (17 : Nat) = 27 ∨ (40 ≤ (17 : Nat) ∧ (17 : Nat) ≤ 46) by omega), (show (0 : Int) = 0 ∧ (0 : Int) = 0 from ⟨rfl, rfl⟩)⟩ (nK (by decide) _ _ _ _) (nK (by decide) _ _ _ _)) (ff_g1_1 _ ⟨(show (27 : Nat) = 5 ∨ (27 : Nat) = 7 ∨ (27 : Nat) = 17 ∨ (27 : Nat) = 27 ∨ (40 ≤ (27 : Nat) ∧ (27 : Nat) ≤ 46) by omega), (show (0 : Int) = 0 ∧ (0 : Int) = 0 from ⟨rfl, rfl⟩)⟩ (nK (by decide) _ _ _ _) (nK (by decide) _ _ _ _))) (fun _ _ z => by cases z.1) rfl (Nat.le_of_ble_eq_true rfl) (Nat.le_of_ble_eq_true rfl) (by decide) (by omega) (by omega) (fun h q => ?_) (fun _ _ z => by cases z.1)
  obtain ⟨-, y0, y1, y2, yf⟩ := q
  have v5_h_2 : h (5, 0, 0) = some (.inl (3, [xN, xN, xN, xN, xN, xN, xN, xN])) := (yf _ (nK (by decide) _ _ _ _) (nK (by decide) _ _ _ _) (nK (by decide) _ _ _ _)).trans v5_g1_1
  have ff_h_2 : ∀ l : XL, ((l.1 = 5 ∨ l.1 = 7 ∨ l.1 = 17 ∨ l.1 = 27 ∨ (40 ≤ l.1 ∧ l.1 ≤ 46)) ∧ dzz l) → l ≠ (5, 0, 0) → l ≠ (7, 0, 0) → l ≠ (17, 0, 0) → l ≠ (27, 0, 0) → h l = none := fun l hl n0 n1 m1 m2 => (yf l n1 m1 m2).trans (ff_g1_1 l hl n0 n1)
  have fr_h_2 : ∀ l : XL, ¬ ((l.1 = 5 ∨ l.1 = 7 ∨ l.1 = 17 ∨ l.1 = 27 ∨ (40 ≤ l.1 ∧ l.1 ≤ 46)) ∧ dzz l) → h l = g0 l := fun l hl => (yf l (fun z => hl (by rw [z]; exact ⟨(show (7 : Nat) = 5 ∨ (7 : Nat) = 7 ∨ (7 : Nat) = 17 ∨ (7 : Nat) = 27 ∨ (40 ≤ (7 : Nat) ∧ (7 : Nat) ≤ 46) by omega), (show (0 : Int) = 0 ∧ (0 : Int) = 0 from ⟨rfl, rfl⟩)⟩)) (fun z => hl (by rw [z]; exact ⟨(show (17 : Nat) = 5 ∨ (17 : Nat) = 7 ∨ (17 : Nat) = 17 ∨ (17 : Nat) = 27 ∨ (40 ≤ (17 : Nat) ∧ (17 : Nat) ≤ 46) by omega), (show (0 : Int) = 0 ∧ (0 : Int) = 0 from ⟨rfl, rfl⟩)⟩)) (fun z => hl (by rw [z]; exact ⟨(show (27 : Nat) = 5 ∨ (27 : Nat) = 7 ∨ (27 : Nat) = 17 ∨ (27 : Nat) = 27 ∨ (40 ≤ (27 : Nat) ∧ (27 : Nat) ≤ 46) by omega), (show (0 : Int) = 0 ∧ (0 : Int) = 0 from ⟨rfl, rfl⟩)⟩))).trans (fr_g1_1 l hl)
  have v7_h_2 : h (7, 0, 0) = some (.inl (6, [xR (17, 0, 0), xR (27, 0, 0), xI 0])) := y0
  have v17_h_2 : h (17, 0, 0) = some (.inr (1, 6, xZero 1)) := y1
  have v27_h_2 : h (27, 0, 0) = some (.inr (1, 6, xZero 1)) := y2
  refine x_putF dX3_init_12 fl_RX3_12 (fun r hr => by cases hr; exact ⟨rfl, rfl⟩) v5_h_2 xfit_o (Nat.le_of_ble_eq_true rfl) rfl rfl ?_
  refine x_hg (fun g1_3 eg1_3 => ?_)
  have ff_g1_3 : ∀ l : XL, ((l.1 = 5 ∨ l.1 = 7 ∨ l.1 = 17 ∨ l.1 = 27 ∨ (40 ≤ l.1 ∧ l.1 ≤ 46)) ∧ dzz l) → l ≠ (5, 0, 0) → l ≠ (7, 0, 0) → l ≠ (17, 0, 0) → l ≠ (27, 0, 0) → g1_3 l = none := by rw [eg1_3]; exact fun l hl n0 n1 n2 n3 => (xu_o n0).trans (ff_h_2 l hl n0 n1 n2 n3)
  have fr_g1_3 : ∀ l : XL, ¬ ((l.1 = 5 ∨ l.1 = 7 ∨ l.1 = 17 ∨ l.1 = 27 ∨ (40 ≤ l.1 ∧ l.1 ≤ 46)) ∧ dzz l) → g1_3 l = g0 l := by rw [eg1_3]; exact fun l hl => (xu_o (fun z => hl (by rw [z]; exact ⟨(show (5 : Nat) = 5 ∨ (5 : Nat) = 7 ∨ (5 : Nat) = 17 ∨ (5 : Nat) = 27 ∨ (40 ≤ (5 : Nat) ∧ (5 : Nat) ≤ 46) by omega), (show (0 : Int) = 0 ∧ (0 : Int) = 0 from ⟨rfl, rfl⟩)⟩))).trans (fr_h_2 l hl)
  have v7_g1_3 : g1_3 (7, 0, 0) = some (.inl (6, [xR (17, 0, 0), xR (27, 0, 0), xI 0])) := by rw [eg1_3]; exact (xu_o (nK (by decide) _ _ _ _)).trans v7_h_2
  have v17_g1_3 : g1_3 (17, 0, 0) = some (.inr (1, 6, xZero 1)) := by rw [eg1_3]; exact (xu_o (nK (by decide) _ _ _ _)).trans v17_h_2
  have v27_g1_3 : g1_3 (27, 0, 0) = some (.inr (1, 6, xZero 1)) := by rw [eg1_3]; exact (xu_o (nK (by decide) _ _ _ _)).trans v27_h_2
  have v5_g1_3 : g1_3 (5, 0, 0) = some (.inl (3, [xR (7, 0, 0), xN, xN, xN, xN, xN, xN, xN])) := by rw [eg1_3]; exact xu_at
  refine x_aload_n dX3_init_15 rfl ?_
  refine x_sipush (v := 384) dX3_init_16 (by decide) ?_
  refine x_newarray (40, 0, 0) (t := 0) (n := 384) (N := 384) dX3_init_19 rfl wd89 (ff_g1_3 _ ⟨(show (40 : Nat) = 5 ∨ (40 : Nat) = 7 ∨ (40 : Nat) = 17 ∨ (40 : Nat) = 27 ∨ (40 ≤ (40 : Nat) ∧ (40 : Nat) ≤ 46) by omega), (show (0 : Int) = 0 ∧ (0 : Int) = 0 from ⟨rfl, rfl⟩)⟩ (nK (by decide) _ _ _ _) (nK (by decide) _ _ _ _) (nK (by decide) _ _ _ _) (nK (by decide) _ _ _ _)) (show (40 : Nat) ≠ 99 by decide) rfl (by decide) (by omega) (by omega) ?_
  refine x_hg (fun g1_4 eg1_4 => ?_)
  have ff_g1_4 : ∀ l : XL, ((l.1 = 5 ∨ l.1 = 7 ∨ l.1 = 17 ∨ l.1 = 27 ∨ (40 ≤ l.1 ∧ l.1 ≤ 46)) ∧ dzz l) → l ≠ (5, 0, 0) → l ≠ (7, 0, 0) → l ≠ (17, 0, 0) → l ≠ (27, 0, 0) → l ≠ (40, 0, 0) → g1_4 l = none := by rw [eg1_4]; exact fun l hl n0 n1 n2 n3 nx => (xu_o nx).trans (ff_g1_3 l hl n0 n1 n2 n3)
  have fr_g1_4 : ∀ l : XL, ¬ ((l.1 = 5 ∨ l.1 = 7 ∨ l.1 = 17 ∨ l.1 = 27 ∨ (40 ≤ l.1 ∧ l.1 ≤ 46)) ∧ dzz l) → g1_4 l = g0 l := by rw [eg1_4]; exact fun l hl => (xu_o (fun z => hl (by rw [z]; exact ⟨(show (40 : Nat) = 5 ∨ (40 : Nat) = 7 ∨ (40 : Nat) = 17 ∨ (40 : Nat) = 27 ∨ (40 ≤ (40 : Nat) ∧ (40 : Nat) ≤ 46) by omega), (show (0 : Int) = 0 ∧ (0 : Int) = 0 from ⟨rfl, rfl⟩)⟩))).trans (fr_g1_3 l hl)
  have v7_g1_4 : g1_4 (7, 0, 0) = some (.inl (6, [xR (17, 0, 0), xR (27, 0, 0), xI 0])) := by rw [eg1_4]; exact (xu_o (nK (by decide) _ _ _ _)).trans v7_g1_3
  have v17_g1_4 : g1_4 (17, 0, 0) = some (.inr (1, 6, xZero 1)) := by rw [eg1_4]; exact (xu_o (nK (by decide) _ _ _ _)).trans v17_g1_3
  have v27_g1_4 : g1_4 (27, 0, 0) = some (.inr (1, 6, xZero 1)) := by rw [eg1_4]; exact (xu_o (nK (by decide) _ _ _ _)).trans v27_g1_3
  have v5_g1_4 : g1_4 (5, 0, 0) = some (.inl (3, [xR (7, 0, 0), xN, xN, xN, xN, xN, xN, xN])) := by rw [eg1_4]; exact (xu_o (nK (by decide) _ _ _ _)).trans v5_g1_3
  have v40_g1_4 : g1_4 (40, 0, 0) = some (.inr (0, 384, xZero 0)) := by rw [eg1_4]; exact xu_at
  refine x_putF dX3_init_21 fl_RX3_18 (fun r hr => by cases hr; exact ⟨rfl, rfl⟩) v5_g1_4 xfit_a (Nat.le_of_ble_eq_true rfl) rfl rfl ?_
  refine x_hg (fun g1_5 eg1_5 => ?_)
  have ff_g1_5 : ∀ l : XL, ((l.1 = 5 ∨ l.1 = 7 ∨ l.1 = 17 ∨ l.1 = 27 ∨ (40 ≤ l.1 ∧ l.1 ≤ 46)) ∧ dzz l) → l ≠ (5, 0, 0) → l ≠ (7, 0, 0) → l ≠ (17, 0, 0) → l ≠ (27, 0, 0) → l ≠ (40, 0, 0) → g1_5 l = none := by rw [eg1_5]; exact fun l hl n0 n1 n2 n3 n4 => (xu_o n0).trans (ff_g1_4 l hl n0 n1 n2 n3 n4)
  have fr_g1_5 : ∀ l : XL, ¬ ((l.1 = 5 ∨ l.1 = 7 ∨ l.1 = 17 ∨ l.1 = 27 ∨ (40 ≤ l.1 ∧ l.1 ≤ 46)) ∧ dzz l) → g1_5 l = g0 l := by rw [eg1_5]; exact fun l hl => (xu_o (fun z => hl (by rw [z]; exact ⟨(show (5 : Nat) = 5 ∨ (5 : Nat) = 7 ∨ (5 : Nat) = 17 ∨ (5 : Nat) = 27 ∨ (40 ≤ (5 : Nat) ∧ (5 : Nat) ≤ 46) by omega), (show (0 : Int) = 0 ∧ (0 : Int) = 0 from ⟨rfl, rfl⟩)⟩))).trans (fr_g1_4 l hl)
  have v7_g1_5 : g1_5 (7, 0, 0) = some (.inl (6, [xR (17, 0, 0), xR (27, 0, 0), xI 0])) := by rw [eg1_5]; exact (xu_o (nK (by decide) _ _ _ _)).trans v7_g1_4
  have v17_g1_5 : g1_5 (17, 0, 0) = some (.inr (1, 6, xZero 1)) := by rw [eg1_5]; exact (xu_o (nK (by decide) _ _ _ _)).trans v17_g1_4
  have v27_g1_5 : g1_5 (27, 0, 0) = some (.inr (1, 6, xZero 1)) := by rw [eg1_5]; exact (xu_o (nK (by decide) _ _ _ _)).trans v27_g1_4
  have v40_g1_5 : g1_5 (40, 0, 0) = some (.inr (0, 384, xZero 0)) := by rw [eg1_5]; exact (xu_o (nK (by decide) _ _ _ _)).trans v40_g1_4
  have v5_g1_5 : g1_5 (5, 0, 0) = some (.inl (3, [xR (7, 0, 0), xR (40, 0, 0), xN, xN, xN, xN, xN, xN])) := by rw [eg1_5]; exact xu_at
  refine x_aload_n dX3_init_24 rfl ?_
  refine x_sipush (v := 384) dX3_init_25 (by decide) ?_
  refine x_newarray (41, 0, 0) (t := 0) (n := 384) (N := 384) dX3_init_28 rfl wd89 (ff_g1_5 _ ⟨(show (41 : Nat) = 5 ∨ (41 : Nat) = 7 ∨ (41 : Nat) = 17 ∨ (41 : Nat) = 27 ∨ (40 ≤ (41 : Nat) ∧ (41 : Nat) ≤ 46) by omega), (show (0 : Int) = 0 ∧ (0 : Int) = 0 from ⟨rfl, rfl⟩)⟩ (nK (by decide) _ _ _ _) (nK (by decide) _ _ _ _) (nK (by decide) _ _ _ _) (nK (by decide) _ _ _ _) (nK (by decide) _ _ _ _)) (show (41 : Nat) ≠ 99 by decide) rfl (by decide) (by omega) (by omega) ?_
  refine x_hg (fun g1_6 eg1_6 => ?_)
  have ff_g1_6 : ∀ l : XL, ((l.1 = 5 ∨ l.1 = 7 ∨ l.1 = 17 ∨ l.1 = 27 ∨ (40 ≤ l.1 ∧ l.1 ≤ 46)) ∧ dzz l) → l ≠ (5, 0, 0) → l ≠ (7, 0, 0) → l ≠ (17, 0, 0) → l ≠ (27, 0, 0) → l ≠ (40, 0, 0) → l ≠ (41, 0, 0) → g1_6 l = none := by rw [eg1_6]; exact fun l hl n0 n1 n2 n3 n4 nx => (xu_o nx).trans (ff_g1_5 l hl n0 n1 n2 n3 n4)
  have fr_g1_6 : ∀ l : XL, ¬ ((l.1 = 5 ∨ l.1 = 7 ∨ l.1 = 17 ∨ l.1 = 27 ∨ (40 ≤ l.1 ∧ l.1 ≤ 46)) ∧ dzz l) → g1_6 l = g0 l := by rw [eg1_6]; exact fun l hl => (xu_o (fun z => hl (by rw [z]; exact ⟨(show (41 : Nat) = 5 ∨ (41 : Nat) = 7 ∨ (41 : Nat) = 17 ∨ (41 : Nat) = 27 ∨ (40 ≤ (41 : Nat) ∧ (41 : Nat) ≤ 46) by omega), (show (0 : Int) = 0 ∧ (0 : Int) = 0 from ⟨rfl, rfl⟩)⟩))).trans (fr_g1_5 l hl)
  have v7_g1_6 : g1_6 (7, 0, 0) = some (.inl (6, [xR (17, 0, 0), xR (27, 0, 0), xI 0])) := by rw [eg1_6]; exact (xu_o (nK (by decide) _ _ _ _)).trans v7_g1_5
  have v17_g1_6 : g1_6 (17, 0, 0) = some (.inr (1, 6, xZero 1)) := by rw [eg1_6]; exact (xu_o (nK (by decide) _ _ _ _)).trans v17_g1_5
  have v27_g1_6 : g1_6 (27, 0, 0) = some (.inr (1, 6, xZero 1)) := by rw [eg1_6]; exact (xu_o (nK (by decide) _ _ _ _)).trans v27_g1_5
  have v40_g1_6 : g1_6 (40, 0, 0) = some (.inr (0, 384, xZero 0)) := by rw [eg1_6]; exact (xu_o (nK (by decide) _ _ _ _)).trans v40_g1_5
  have v5_g1_6 : g1_6 (5, 0, 0) = some (.inl (3, [xR (7, 0, 0), xR (40, 0, 0), xN, xN, xN, xN, xN, xN])) := by rw [eg1_6]; exact (xu_o (nK (by decide) _ _ _ _)).trans v5_g1_5
  have v41_g1_6 : g1_6 (41, 0, 0) = some (.inr (0, 384, xZero 0)) := by rw [eg1_6]; exact xu_at
  refine x_putF dX3_init_30 fl_RX3_22 (fun r hr => by cases hr; exact ⟨rfl, rfl⟩) v5_g1_6 xfit_a (Nat.le_of_ble_eq_true rfl) rfl rfl ?_
  refine x_hg (fun g1_7 eg1_7 => ?_)
  have ff_g1_7 : ∀ l : XL, ((l.1 = 5 ∨ l.1 = 7 ∨ l.1 = 17 ∨ l.1 = 27 ∨ (40 ≤ l.1 ∧ l.1 ≤ 46)) ∧ dzz l) → l ≠ (5, 0, 0) → l ≠ (7, 0, 0) → l ≠ (17, 0, 0) → l ≠ (27, 0, 0) → l ≠ (40, 0, 0) → l ≠ (41, 0, 0) → g1_7 l = none := by rw [eg1_7]; exact fun l hl n0 n1 n2 n3 n4 n5 => (xu_o n0).trans (ff_g1_6 l hl n0 n1 n2 n3 n4 n5)
  have fr_g1_7 : ∀ l : XL, ¬ ((l.1 = 5 ∨ l.1 = 7 ∨ l.1 = 17 ∨ l.1 = 27 ∨ (40 ≤ l.1 ∧ l.1 ≤ 46)) ∧ dzz l) → g1_7 l = g0 l := by rw [eg1_7]; exact fun l hl => (xu_o (fun z => hl (by rw [z]; exact ⟨(show (5 : Nat) = 5 ∨ (5 : Nat) = 7 ∨ (5 : Nat) = 17 ∨ (5 : Nat) = 27 ∨ (40 ≤ (5 : Nat) ∧ (5 : Nat) ≤ 46) by omega), (show (0 : Int) = 0 ∧ (0 : Int) = 0 from ⟨rfl, rfl⟩)⟩))).trans (fr_g1_6 l hl)
  have v7_g1_7 : g1_7 (7, 0, 0) = some (.inl (6, [xR (17, 0, 0), xR (27, 0, 0), xI 0])) := by rw [eg1_7]; exact (xu_o (nK (by decide) _ _ _ _)).trans v7_g1_6
  have v17_g1_7 : g1_7 (17, 0, 0) = some (.inr (1, 6, xZero 1)) := by rw [eg1_7]; exact (xu_o (nK (by decide) _ _ _ _)).trans v17_g1_6
  have v27_g1_7 : g1_7 (27, 0, 0) = some (.inr (1, 6, xZero 1)) := by rw [eg1_7]; exact (xu_o (nK (by decide) _ _ _ _)).trans v27_g1_6
  have v40_g1_7 : g1_7 (40, 0, 0) = some (.inr (0, 384, xZero 0)) := by rw [eg1_7]; exact (xu_o (nK (by decide) _ _ _ _)).trans v40_g1_6
  have v41_g1_7 : g1_7 (41, 0, 0) = some (.inr (0, 384, xZero 0)) := by rw [eg1_7]; exact (xu_o (nK (by decide) _ _ _ _)).trans v41_g1_6
  have v5_g1_7 : g1_7 (5, 0, 0) = some (.inl (3, [xR (7, 0, 0), xR (40, 0, 0), xR (41, 0, 0), xN, xN, xN, xN, xN])) := by rw [eg1_7]; exact xu_at
  refine x_aload_n dX3_init_33 rfl ?_
  refine x_sipush (v := 384) dX3_init_34 (by decide) ?_
  refine x_newarray (42, 0, 0) (t := 0) (n := 384) (N := 384) dX3_init_37 rfl wd89 (ff_g1_7 _ ⟨(show (42 : Nat) = 5 ∨ (42 : Nat) = 7 ∨ (42 : Nat) = 17 ∨ (42 : Nat) = 27 ∨ (40 ≤ (42 : Nat) ∧ (42 : Nat) ≤ 46) by omega), (show (0 : Int) = 0 ∧ (0 : Int) = 0 from ⟨rfl, rfl⟩)⟩ (nK (by decide) _ _ _ _) (nK (by decide) _ _ _ _) (nK (by decide) _ _ _ _) (nK (by decide) _ _ _ _) (nK (by decide) _ _ _ _) (nK (by decide) _ _ _ _)) (show (42 : Nat) ≠ 99 by decide) rfl (by decide) (by omega) (by omega) ?_
  refine x_hg (fun g1_8 eg1_8 => ?_)
  have ff_g1_8 : ∀ l : XL, ((l.1 = 5 ∨ l.1 = 7 ∨ l.1 = 17 ∨ l.1 = 27 ∨ (40 ≤ l.1 ∧ l.1 ≤ 46)) ∧ dzz l) → l ≠ (5, 0, 0) → l ≠ (7, 0, 0) → l ≠ (17, 0, 0) → l ≠ (27, 0, 0) → l ≠ (40, 0, 0) → l ≠ (41, 0, 0) → l ≠ (42, 0, 0) → g1_8 l = none := by rw [eg1_8]; exact fun l hl n0 n1 n2 n3 n4 n5 nx => (xu_o nx).trans (ff_g1_7 l hl n0 n1 n2 n3 n4 n5)
  have fr_g1_8 : ∀ l : XL, ¬ ((l.1 = 5 ∨ l.1 = 7 ∨ l.1 = 17 ∨ l.1 = 27 ∨ (40 ≤ l.1 ∧ l.1 ≤ 46)) ∧ dzz l) → g1_8 l = g0 l := by rw [eg1_8]; exact fun l hl => (xu_o (fun z => hl (by rw [z]; exact ⟨(show (42 : Nat) = 5 ∨ (42 : Nat) = 7 ∨ (42 : Nat) = 17 ∨ (42 : Nat) = 27 ∨ (40 ≤ (42 : Nat) ∧ (42 : Nat) ≤ 46) by omega), (show (0 : Int) = 0 ∧ (0 : Int) = 0 from ⟨rfl, rfl⟩)⟩))).trans (fr_g1_7 l hl)
  have v7_g1_8 : g1_8 (7, 0, 0) = some (.inl (6, [xR (17, 0, 0), xR (27, 0, 0), xI 0])) := by rw [eg1_8]; exact (xu_o (nK (by decide) _ _ _ _)).trans v7_g1_7
  have v17_g1_8 : g1_8 (17, 0, 0) = some (.inr (1, 6, xZero 1)) := by rw [eg1_8]; exact (xu_o (nK (by decide) _ _ _ _)).trans v17_g1_7
  have v27_g1_8 : g1_8 (27, 0, 0) = some (.inr (1, 6, xZero 1)) := by rw [eg1_8]; exact (xu_o (nK (by decide) _ _ _ _)).trans v27_g1_7
  have v40_g1_8 : g1_8 (40, 0, 0) = some (.inr (0, 384, xZero 0)) := by rw [eg1_8]; exact (xu_o (nK (by decide) _ _ _ _)).trans v40_g1_7
  have v41_g1_8 : g1_8 (41, 0, 0) = some (.inr (0, 384, xZero 0)) := by rw [eg1_8]; exact (xu_o (nK (by decide) _ _ _ _)).trans v41_g1_7
  have v5_g1_8 : g1_8 (5, 0, 0) = some (.inl (3, [xR (7, 0, 0), xR (40, 0, 0), xR (41, 0, 0), xN, xN, xN, xN, xN])) := by rw [eg1_8]; exact (xu_o (nK (by decide) _ _ _ _)).trans v5_g1_7
  have v42_g1_8 : g1_8 (42, 0, 0) = some (.inr (0, 384, xZero 0)) := by rw [eg1_8]; exact xu_at
  refine x_putF dX3_init_39 fl_RX3_25 (fun r hr => by cases hr; exact ⟨rfl, rfl⟩) v5_g1_8 xfit_a (Nat.le_of_ble_eq_true rfl) rfl rfl ?_
  refine x_hg (fun g1_9 eg1_9 => ?_)
  have ff_g1_9 : ∀ l : XL, ((l.1 = 5 ∨ l.1 = 7 ∨ l.1 = 17 ∨ l.1 = 27 ∨ (40 ≤ l.1 ∧ l.1 ≤ 46)) ∧ dzz l) → l ≠ (5, 0, 0) → l ≠ (7, 0, 0) → l ≠ (17, 0, 0) → l ≠ (27, 0, 0) → l ≠ (40, 0, 0) → l ≠ (41, 0, 0) → l ≠ (42, 0, 0) → g1_9 l = none := by rw [eg1_9]; exact fun l hl n0 n1 n2 n3 n4 n5 n6 => (xu_o n0).trans (ff_g1_8 l hl n0 n1 n2 n3 n4 n5 n6)
  have fr_g1_9 : ∀ l : XL, ¬ ((l.1 = 5 ∨ l.1 = 7 ∨ l.1 = 17 ∨ l.1 = 27 ∨ (40 ≤ l.1 ∧ l.1 ≤ 46)) ∧ dzz l) → g1_9 l = g0 l := by rw [eg1_9]; exact fun l hl => (xu_o (fun z => hl (by rw [z]; exact ⟨(show (5 : Nat) = 5 ∨ (5 : Nat) = 7 ∨ (5 : Nat) = 17 ∨ (5 : Nat) = 27 ∨ (40 ≤ (5 : Nat) ∧ (5 : Nat) ≤ 46) by omega), (show (0 : Int) = 0 ∧ (0 : Int) = 0 from ⟨rfl, rfl⟩)⟩))).trans (fr_g1_8 l hl)
  have v7_g1_9 : g1_9 (7, 0, 0) = some (.inl (6, [xR (17, 0, 0), xR (27, 0, 0), xI 0])) := by rw [eg1_9]; exact (xu_o (nK (by decide) _ _ _ _)).trans v7_g1_8
  have v17_g1_9 : g1_9 (17, 0, 0) = some (.inr (1, 6, xZero 1)) := by rw [eg1_9]; exact (xu_o (nK (by decide) _ _ _ _)).trans v17_g1_8
  have v27_g1_9 : g1_9 (27, 0, 0) = some (.inr (1, 6, xZero 1)) := by rw [eg1_9]; exact (xu_o (nK (by decide) _ _ _ _)).trans v27_g1_8
  have v40_g1_9 : g1_9 (40, 0, 0) = some (.inr (0, 384, xZero 0)) := by rw [eg1_9]; exact (xu_o (nK (by decide) _ _ _ _)).trans v40_g1_8
  have v41_g1_9 : g1_9 (41, 0, 0) = some (.inr (0, 384, xZero 0)) := by rw [eg1_9]; exact (xu_o (nK (by decide) _ _ _ _)).trans v41_g1_8
  have v42_g1_9 : g1_9 (42, 0, 0) = some (.inr (0, 384, xZero 0)) := by rw [eg1_9]; exact (xu_o (nK (by decide) _ _ _ _)).trans v42_g1_8
  have v5_g1_9 : g1_9 (5, 0, 0) = some (.inl (3, [xR (7, 0, 0), xR (40, 0, 0), xR (41, 0, 0), xR (42, 0, 0), xN, xN, xN, xN])) := by rw [eg1_9]; exact xu_at
  refine x_aload_n dX3_init_42 rfl ?_
  refine x_bipush (v := 6) dX3_init_43 (by decide) ?_
  refine x_newarray (43, 0, 0) (t := 1) (n := 6) (N := 6) dX3_init_45 rfl wd166 (ff_g1_9 _ ⟨(show (43 : Nat) = 5 ∨ (43 : Nat) = 7 ∨ (43 : Nat) = 17 ∨ (43 : Nat) = 27 ∨ (40 ≤ (43 : Nat) ∧ (43 : Nat) ≤ 46) by omega), (show (0 : Int) = 0 ∧ (0 : Int) = 0 from ⟨rfl, rfl⟩)⟩ (nK (by decide) _ _ _ _) (nK (by decide) _ _ _ _) (nK (by decide) _ _ _ _) (nK (by decide) _ _ _ _) (nK (by decide) _ _ _ _) (nK (by decide) _ _ _ _) (nK (by decide) _ _ _ _)) (show (43 : Nat) ≠ 99 by decide) rfl (by decide) (by omega) (by omega) ?_
  refine x_hg (fun g1_10 eg1_10 => ?_)
  have ff_g1_10 : ∀ l : XL, ((l.1 = 5 ∨ l.1 = 7 ∨ l.1 = 17 ∨ l.1 = 27 ∨ (40 ≤ l.1 ∧ l.1 ≤ 46)) ∧ dzz l) → l ≠ (5, 0, 0) → l ≠ (7, 0, 0) → l ≠ (17, 0, 0) → l ≠ (27, 0, 0) → l ≠ (40, 0, 0) → l ≠ (41, 0, 0) → l ≠ (42, 0, 0) → l ≠ (43, 0, 0) → g1_10 l = none := by rw [eg1_10]; exact fun l hl n0 n1 n2 n3 n4 n5 n6 nx => (xu_o nx).trans (ff_g1_9 l hl n0 n1 n2 n3 n4 n5 n6)
  have fr_g1_10 : ∀ l : XL, ¬ ((l.1 = 5 ∨ l.1 = 7 ∨ l.1 = 17 ∨ l.1 = 27 ∨ (40 ≤ l.1 ∧ l.1 ≤ 46)) ∧ dzz l) → g1_10 l = g0 l := by rw [eg1_10]; exact fun l hl => (xu_o (fun z => hl (by rw [z]; exact ⟨(show (43 : Nat) = 5 ∨ (43 : Nat) = 7 ∨ (43 : Nat) = 17 ∨ (43 : Nat) = 27 ∨ (40 ≤ (43 : Nat) ∧ (43 : Nat) ≤ 46) by omega), (show (0 : Int) = 0 ∧ (0 : Int) = 0 from ⟨rfl, rfl⟩)⟩))).trans (fr_g1_9 l hl)
  have v7_g1_10 : g1_10 (7, 0, 0) = some (.inl (6, [xR (17, 0, 0), xR (27, 0, 0), xI 0])) := by rw [eg1_10]; exact (xu_o (nK (by decide) _ _ _ _)).trans v7_g1_9
  have v17_g1_10 : g1_10 (17, 0, 0) = some (.inr (1, 6, xZero 1)) := by rw [eg1_10]; exact (xu_o (nK (by decide) _ _ _ _)).trans v17_g1_9
  have v27_g1_10 : g1_10 (27, 0, 0) = some (.inr (1, 6, xZero 1)) := by rw [eg1_10]; exact (xu_o (nK (by decide) _ _ _ _)).trans v27_g1_9
  have v40_g1_10 : g1_10 (40, 0, 0) = some (.inr (0, 384, xZero 0)) := by rw [eg1_10]; exact (xu_o (nK (by decide) _ _ _ _)).trans v40_g1_9
  have v41_g1_10 : g1_10 (41, 0, 0) = some (.inr (0, 384, xZero 0)) := by rw [eg1_10]; exact (xu_o (nK (by decide) _ _ _ _)).trans v41_g1_9
  have v42_g1_10 : g1_10 (42, 0, 0) = some (.inr (0, 384, xZero 0)) := by rw [eg1_10]; exact (xu_o (nK (by decide) _ _ _ _)).trans v42_g1_9
  have v5_g1_10 : g1_10 (5, 0, 0) = some (.inl (3, [xR (7, 0, 0), xR (40, 0, 0), xR (41, 0, 0), xR (42, 0, 0), xN, xN, xN, xN])) := by rw [eg1_10]; exact (xu_o (nK (by decide) _ _ _ _)).trans v5_g1_9
  have v43_g1_10 : g1_10 (43, 0, 0) = some (.inr (1, 6, xZero 1)) := by rw [eg1_10]; exact xu_at
  refine x_putF dX3_init_47 fl_RX3_28 (fun r hr => by cases hr; exact ⟨rfl, rfl⟩) v5_g1_10 xfit_a (Nat.le_of_ble_eq_true rfl) rfl rfl ?_
  refine x_hg (fun g1_11 eg1_11 => ?_)
  have ff_g1_11 : ∀ l : XL, ((l.1 = 5 ∨ l.1 = 7 ∨ l.1 = 17 ∨ l.1 = 27 ∨ (40 ≤ l.1 ∧ l.1 ≤ 46)) ∧ dzz l) → l ≠ (5, 0, 0) → l ≠ (7, 0, 0) → l ≠ (17, 0, 0) → l ≠ (27, 0, 0) → l ≠ (40, 0, 0) → l ≠ (41, 0, 0) → l ≠ (42, 0, 0) → l ≠ (43, 0, 0) → g1_11 l = none := by rw [eg1_11]; exact fun l hl n0 n1 n2 n3 n4 n5 n6 n7 => (xu_o n0).trans (ff_g1_10 l hl n0 n1 n2 n3 n4 n5 n6 n7)
  have fr_g1_11 : ∀ l : XL, ¬ ((l.1 = 5 ∨ l.1 = 7 ∨ l.1 = 17 ∨ l.1 = 27 ∨ (40 ≤ l.1 ∧ l.1 ≤ 46)) ∧ dzz l) → g1_11 l = g0 l := by rw [eg1_11]; exact fun l hl => (xu_o (fun z => hl (by rw [z]; exact ⟨(show (5 : Nat) = 5 ∨ (5 : Nat) = 7 ∨ (5 : Nat) = 17 ∨ (5 : Nat) = 27 ∨ (40 ≤ (5 : Nat) ∧ (5 : Nat) ≤ 46) by omega), (show (0 : Int) = 0 ∧ (0 : Int) = 0 from ⟨rfl, rfl⟩)⟩))).trans (fr_g1_10 l hl)
  have v7_g1_11 : g1_11 (7, 0, 0) = some (.inl (6, [xR (17, 0, 0), xR (27, 0, 0), xI 0])) := by rw [eg1_11]; exact (xu_o (nK (by decide) _ _ _ _)).trans v7_g1_10
  have v17_g1_11 : g1_11 (17, 0, 0) = some (.inr (1, 6, xZero 1)) := by rw [eg1_11]; exact (xu_o (nK (by decide) _ _ _ _)).trans v17_g1_10
  have v27_g1_11 : g1_11 (27, 0, 0) = some (.inr (1, 6, xZero 1)) := by rw [eg1_11]; exact (xu_o (nK (by decide) _ _ _ _)).trans v27_g1_10
  have v40_g1_11 : g1_11 (40, 0, 0) = some (.inr (0, 384, xZero 0)) := by rw [eg1_11]; exact (xu_o (nK (by decide) _ _ _ _)).trans v40_g1_10
  have v41_g1_11 : g1_11 (41, 0, 0) = some (.inr (0, 384, xZero 0)) := by rw [eg1_11]; exact (xu_o (nK (by decide) _ _ _ _)).trans v41_g1_10
  have v42_g1_11 : g1_11 (42, 0, 0) = some (.inr (0, 384, xZero 0)) := by rw [eg1_11]; exact (xu_o (nK (by decide) _ _ _ _)).trans v42_g1_10
  have v43_g1_11 : g1_11 (43, 0, 0) = some (.inr (1, 6, xZero 1)) := by rw [eg1_11]; exact (xu_o (nK (by decide) _ _ _ _)).trans v43_g1_10
  have v5_g1_11 : g1_11 (5, 0, 0) = some (.inl (3, [xR (7, 0, 0), xR (40, 0, 0), xR (41, 0, 0), xR (42, 0, 0), xR (43, 0, 0), xN, xN, xN])) := by rw [eg1_11]; exact xu_at
  refine x_aload_n dX3_init_50 rfl ?_
  refine x_bipush (v := 6) dX3_init_51 (by decide) ?_
  refine x_newarray (44, 0, 0) (t := 1) (n := 6) (N := 6) dX3_init_53 rfl wd166 (ff_g1_11 _ ⟨(show (44 : Nat) = 5 ∨ (44 : Nat) = 7 ∨ (44 : Nat) = 17 ∨ (44 : Nat) = 27 ∨ (40 ≤ (44 : Nat) ∧ (44 : Nat) ≤ 46) by omega), (show (0 : Int) = 0 ∧ (0 : Int) = 0 from ⟨rfl, rfl⟩)⟩ (nK (by decide) _ _ _ _) (nK (by decide) _ _ _ _) (nK (by decide) _ _ _ _) (nK (by decide) _ _ _ _) (nK (by decide) _ _ _ _) (nK (by decide) _ _ _ _) (nK (by decide) _ _ _ _) (nK (by decide) _ _ _ _)) (show (44 : Nat) ≠ 99 by decide) rfl (by decide) (by omega) (by omega) ?_
  refine x_hg (fun g1_12 eg1_12 => ?_)
  have ff_g1_12 : ∀ l : XL, ((l.1 = 5 ∨ l.1 = 7 ∨ l.1 = 17 ∨ l.1 = 27 ∨ (40 ≤ l.1 ∧ l.1 ≤ 46)) ∧ dzz l) → l ≠ (5, 0, 0) → l ≠ (7, 0, 0) → l ≠ (17, 0, 0) → l ≠ (27, 0, 0) → l ≠ (40, 0, 0) → l ≠ (41, 0, 0) → l ≠ (42, 0, 0) → l ≠ (43, 0, 0) → l ≠ (44, 0, 0) → g1_12 l = none := by rw [eg1_12]; exact fun l hl n0 n1 n2 n3 n4 n5 n6 n7 nx => (xu_o nx).trans (ff_g1_11 l hl n0 n1 n2 n3 n4 n5 n6 n7)
  have fr_g1_12 : ∀ l : XL, ¬ ((l.1 = 5 ∨ l.1 = 7 ∨ l.1 = 17 ∨ l.1 = 27 ∨ (40 ≤ l.1 ∧ l.1 ≤ 46)) ∧ dzz l) → g1_12 l = g0 l := by rw [eg1_12]; exact fun l hl => (xu_o (fun z => hl (by rw [z]; exact ⟨(show (44 : Nat) = 5 ∨ (44 : Nat) = 7 ∨ (44 : Nat) = 17 ∨ (44 : Nat) = 27 ∨ (40 ≤ (44 : Nat) ∧ (44 : Nat) ≤ 46) by omega), (show (0 : Int) = 0 ∧ (0 : Int) = 0 from ⟨rfl, rfl⟩)⟩))).trans (fr_g1_11 l hl)
  have v7_g1_12 : g1_12 (7, 0, 0) = some (.inl (6, [xR (17, 0, 0), xR (27, 0, 0), xI 0])) := by rw [eg1_12]; exact (xu_o (nK (by decide) _ _ _ _)).trans v7_g1_11
  have v17_g1_12 : g1_12 (17, 0, 0) = some (.inr (1, 6, xZero 1)) := by rw [eg1_12]; exact (xu_o (nK (by decide) _ _ _ _)).trans v17_g1_11
  have v27_g1_12 : g1_12 (27, 0, 0) = some (.inr (1, 6, xZero 1)) := by rw [eg1_12]; exact (xu_o (nK (by decide) _ _ _ _)).trans v27_g1_11
  have v40_g1_12 : g1_12 (40, 0, 0) = some (.inr (0, 384, xZero 0)) := by rw [eg1_12]; exact (xu_o (nK (by decide) _ _ _ _)).trans v40_g1_11
  have v41_g1_12 : g1_12 (41, 0, 0) = some (.inr (0, 384, xZero 0)) := by rw [eg1_12]; exact (xu_o (nK (by decide) _ _ _ _)).trans v41_g1_11
  have v42_g1_12 : g1_12 (42, 0, 0) = some (.inr (0, 384, xZero 0)) := by rw [eg1_12]; exact (xu_o (nK (by decide) _ _ _ _)).trans v42_g1_11
  have v43_g1_12 : g1_12 (43, 0, 0) = some (.inr (1, 6, xZero 1)) := by rw [eg1_12]; exact (xu_o (nK (by decide) _ _ _ _)).trans v43_g1_11
  have v5_g1_12 : g1_12 (5, 0, 0) = some (.inl (3, [xR (7, 0, 0), xR (40, 0, 0), xR (41, 0, 0), xR (42, 0, 0), xR (43, 0, 0), xN, xN, xN])) := by rw [eg1_12]; exact (xu_o (nK (by decide) _ _ _ _)).trans v5_g1_11
  have v44_g1_12 : g1_12 (44, 0, 0) = some (.inr (1, 6, xZero 1)) := by rw [eg1_12]; exact xu_at
  refine x_putF dX3_init_55 fl_RX3_32 (fun r hr => by cases hr; exact ⟨rfl, rfl⟩) v5_g1_12 xfit_a (Nat.le_of_ble_eq_true rfl) rfl rfl ?_
  refine x_hg (fun g1_13 eg1_13 => ?_)
  have ff_g1_13 : ∀ l : XL, ((l.1 = 5 ∨ l.1 = 7 ∨ l.1 = 17 ∨ l.1 = 27 ∨ (40 ≤ l.1 ∧ l.1 ≤ 46)) ∧ dzz l) → l ≠ (5, 0, 0) → l ≠ (7, 0, 0) → l ≠ (17, 0, 0) → l ≠ (27, 0, 0) → l ≠ (40, 0, 0) → l ≠ (41, 0, 0) → l ≠ (42, 0, 0) → l ≠ (43, 0, 0) → l ≠ (44, 0, 0) → g1_13 l = none := by rw [eg1_13]; exact fun l hl n0 n1 n2 n3 n4 n5 n6 n7 n8 => (xu_o n0).trans (ff_g1_12 l hl n0 n1 n2 n3 n4 n5 n6 n7 n8)
  have fr_g1_13 : ∀ l : XL, ¬ ((l.1 = 5 ∨ l.1 = 7 ∨ l.1 = 17 ∨ l.1 = 27 ∨ (40 ≤ l.1 ∧ l.1 ≤ 46)) ∧ dzz l) → g1_13 l = g0 l := by rw [eg1_13]; exact fun l hl => (xu_o (fun z => hl (by rw [z]; exact ⟨(show (5 : Nat) = 5 ∨ (5 : Nat) = 7 ∨ (5 : Nat) = 17 ∨ (5 : Nat) = 27 ∨ (40 ≤ (5 : Nat) ∧ (5 : Nat) ≤ 46) by omega), (show (0 : Int) = 0 ∧ (0 : Int) = 0 from ⟨rfl, rfl⟩)⟩))).trans (fr_g1_12 l hl)
  have v7_g1_13 : g1_13 (7, 0, 0) = some (.inl (6, [xR (17, 0, 0), xR (27, 0, 0), xI 0])) := by rw [eg1_13]; exact (xu_o (nK (by decide) _ _ _ _)).trans v7_g1_12
  have v17_g1_13 : g1_13 (17, 0, 0) = some (.inr (1, 6, xZero 1)) := by rw [eg1_13]; exact (xu_o (nK (by decide) _ _ _ _)).trans v17_g1_12
  have v27_g1_13 : g1_13 (27, 0, 0) = some (.inr (1, 6, xZero 1)) := by rw [eg1_13]; exact (xu_o (nK (by decide) _ _ _ _)).trans v27_g1_12
  have v40_g1_13 : g1_13 (40, 0, 0) = some (.inr (0, 384, xZero 0)) := by rw [eg1_13]; exact (xu_o (nK (by decide) _ _ _ _)).trans v40_g1_12
  have v41_g1_13 : g1_13 (41, 0, 0) = some (.inr (0, 384, xZero 0)) := by rw [eg1_13]; exact (xu_o (nK (by decide) _ _ _ _)).trans v41_g1_12
  have v42_g1_13 : g1_13 (42, 0, 0) = some (.inr (0, 384, xZero 0)) := by rw [eg1_13]; exact (xu_o (nK (by decide) _ _ _ _)).trans v42_g1_12
  have v43_g1_13 : g1_13 (43, 0, 0) = some (.inr (1, 6, xZero 1)) := by rw [eg1_13]; exact (xu_o (nK (by decide) _ _ _ _)).trans v43_g1_12
  have v44_g1_13 : g1_13 (44, 0, 0) = some (.inr (1, 6, xZero 1)) := by rw [eg1_13]; exact (xu_o (nK (by decide) _ _ _ _)).trans v44_g1_12
  have v5_g1_13 : g1_13 (5, 0, 0) = some (.inl (3, [xR (7, 0, 0), xR (40, 0, 0), xR (41, 0, 0), xR (42, 0, 0), xR (43, 0, 0), xR (44, 0, 0), xN, xN])) := by rw [eg1_13]; exact xu_at
  refine x_aload_n dX3_init_58 rfl ?_
  refine x_bipush (v := 6) dX3_init_59 (by decide) ?_
  refine x_newarray (45, 0, 0) (t := 1) (n := 6) (N := 6) dX3_init_61 rfl wd166 (ff_g1_13 _ ⟨(show (45 : Nat) = 5 ∨ (45 : Nat) = 7 ∨ (45 : Nat) = 17 ∨ (45 : Nat) = 27 ∨ (40 ≤ (45 : Nat) ∧ (45 : Nat) ≤ 46) by omega), (show (0 : Int) = 0 ∧ (0 : Int) = 0 from ⟨rfl, rfl⟩)⟩ (nK (by decide) _ _ _ _) (nK (by decide) _ _ _ _) (nK (by decide) _ _ _ _) (nK (by decide) _ _ _ _) (nK (by decide) _ _ _ _) (nK (by decide) _ _ _ _) (nK (by decide) _ _ _ _) (nK (by decide) _ _ _ _) (nK (by decide) _ _ _ _)) (show (45 : Nat) ≠ 99 by decide) rfl (by decide) (by omega) (by omega) ?_
  refine x_hg (fun g1_14 eg1_14 => ?_)
  have ff_g1_14 : ∀ l : XL, ((l.1 = 5 ∨ l.1 = 7 ∨ l.1 = 17 ∨ l.1 = 27 ∨ (40 ≤ l.1 ∧ l.1 ≤ 46)) ∧ dzz l) → l ≠ (5, 0, 0) → l ≠ (7, 0, 0) → l ≠ (17, 0, 0) → l ≠ (27, 0, 0) → l ≠ (40, 0, 0) → l ≠ (41, 0, 0) → l ≠ (42, 0, 0) → l ≠ (43, 0, 0) → l ≠ (44, 0, 0) → l ≠ (45, 0, 0) → g1_14 l = none := by rw [eg1_14]; exact fun l hl n0 n1 n2 n3 n4 n5 n6 n7 n8 nx => (xu_o nx).trans (ff_g1_13 l hl n0 n1 n2 n3 n4 n5 n6 n7 n8)
  have fr_g1_14 : ∀ l : XL, ¬ ((l.1 = 5 ∨ l.1 = 7 ∨ l.1 = 17 ∨ l.1 = 27 ∨ (40 ≤ l.1 ∧ l.1 ≤ 46)) ∧ dzz l) → g1_14 l = g0 l := by rw [eg1_14]; exact fun l hl => (xu_o (fun z => hl (by rw [z]; exact ⟨(show (45 : Nat) = 5 ∨ (45 : Nat) = 7 ∨ (45 : Nat) = 17 ∨ (45 : Nat) = 27 ∨ (40 ≤ (45 : Nat) ∧ (45 : Nat) ≤ 46) by omega), (show (0 : Int) = 0 ∧ (0 : Int) = 0 from ⟨rfl, rfl⟩)⟩))).trans (fr_g1_13 l hl)
  have v7_g1_14 : g1_14 (7, 0, 0) = some (.inl (6, [xR (17, 0, 0), xR (27, 0, 0), xI 0])) := by rw [eg1_14]; exact (xu_o (nK (by decide) _ _ _ _)).trans v7_g1_13
  have v17_g1_14 : g1_14 (17, 0, 0) = some (.inr (1, 6, xZero 1)) := by rw [eg1_14]; exact (xu_o (nK (by decide) _ _ _ _)).trans v17_g1_13
  have v27_g1_14 : g1_14 (27, 0, 0) = some (.inr (1, 6, xZero 1)) := by rw [eg1_14]; exact (xu_o (nK (by decide) _ _ _ _)).trans v27_g1_13
  have v40_g1_14 : g1_14 (40, 0, 0) = some (.inr (0, 384, xZero 0)) := by rw [eg1_14]; exact (xu_o (nK (by decide) _ _ _ _)).trans v40_g1_13
  have v41_g1_14 : g1_14 (41, 0, 0) = some (.inr (0, 384, xZero 0)) := by rw [eg1_14]; exact (xu_o (nK (by decide) _ _ _ _)).trans v41_g1_13
  have v42_g1_14 : g1_14 (42, 0, 0) = some (.inr (0, 384, xZero 0)) := by rw [eg1_14]; exact (xu_o (nK (by decide) _ _ _ _)).trans v42_g1_13
  have v43_g1_14 : g1_14 (43, 0, 0) = some (.inr (1, 6, xZero 1)) := by rw [eg1_14]; exact (xu_o (nK (by decide) _ _ _ _)).trans v43_g1_13
  have v44_g1_14 : g1_14 (44, 0, 0) = some (.inr (1, 6, xZero 1)) := by rw [eg1_14]; exact (xu_o (nK (by decide) _ _ _ _)).trans v44_g1_13
  have v5_g1_14 : g1_14 (5, 0, 0) = some (.inl (3, [xR (7, 0, 0), xR (40, 0, 0), xR (41, 0, 0), xR (42, 0, 0), xR (43, 0, 0), xR (44, 0, 0), xN, xN])) := by rw [eg1_14]; exact (xu_o (nK (by decide) _ _ _ _)).trans v5_g1_13
  have v45_g1_14 : g1_14 (45, 0, 0) = some (.inr (1, 6, xZero 1)) := by rw [eg1_14]; exact xu_at
  refine x_putF dX3_init_63 fl_RX3_35 (fun r hr => by cases hr; exact ⟨rfl, rfl⟩) v5_g1_14 xfit_a (Nat.le_of_ble_eq_true rfl) rfl rfl ?_
  refine x_hg (fun g1_15 eg1_15 => ?_)
  have ff_g1_15 : ∀ l : XL, ((l.1 = 5 ∨ l.1 = 7 ∨ l.1 = 17 ∨ l.1 = 27 ∨ (40 ≤ l.1 ∧ l.1 ≤ 46)) ∧ dzz l) → l ≠ (5, 0, 0) → l ≠ (7, 0, 0) → l ≠ (17, 0, 0) → l ≠ (27, 0, 0) → l ≠ (40, 0, 0) → l ≠ (41, 0, 0) → l ≠ (42, 0, 0) → l ≠ (43, 0, 0) → l ≠ (44, 0, 0) → l ≠ (45, 0, 0) → g1_15 l = none := by rw [eg1_15]; exact fun l hl n0 n1 n2 n3 n4 n5 n6 n7 n8 n9 => (xu_o n0).trans (ff_g1_14 l hl n0 n1 n2 n3 n4 n5 n6 n7 n8 n9)
  have fr_g1_15 : ∀ l : XL, ¬ ((l.1 = 5 ∨ l.1 = 7 ∨ l.1 = 17 ∨ l.1 = 27 ∨ (40 ≤ l.1 ∧ l.1 ≤ 46)) ∧ dzz l) → g1_15 l = g0 l := by rw [eg1_15]; exact fun l hl => (xu_o (fun z => hl (by rw [z]; exact ⟨(show (5 : Nat) = 5 ∨ (5 : Nat) = 7 ∨ (5 : Nat) = 17 ∨ (5 : Nat) = 27 ∨ (40 ≤ (5 : Nat) ∧ (5 : Nat) ≤ 46) by omega), (show (0 : Int) = 0 ∧ (0 : Int) = 0 from ⟨rfl, rfl⟩)⟩))).trans (fr_g1_14 l hl)
  have v7_g1_15 : g1_15 (7, 0, 0) = some (.inl (6, [xR (17, 0, 0), xR (27, 0, 0), xI 0])) := by rw [eg1_15]; exact (xu_o (nK (by decide) _ _ _ _)).trans v7_g1_14
  have v17_g1_15 : g1_15 (17, 0, 0) = some (.inr (1, 6, xZero 1)) := by rw [eg1_15]; exact (xu_o (nK (by decide) _ _ _ _)).trans v17_g1_14
  have v27_g1_15 : g1_15 (27, 0, 0) = some (.inr (1, 6, xZero 1)) := by rw [eg1_15]; exact (xu_o (nK (by decide) _ _ _ _)).trans v27_g1_14
  have v40_g1_15 : g1_15 (40, 0, 0) = some (.inr (0, 384, xZero 0)) := by rw [eg1_15]; exact (xu_o (nK (by decide) _ _ _ _)).trans v40_g1_14
  have v41_g1_15 : g1_15 (41, 0, 0) = some (.inr (0, 384, xZero 0)) := by rw [eg1_15]; exact (xu_o (nK (by decide) _ _ _ _)).trans v41_g1_14
  have v42_g1_15 : g1_15 (42, 0, 0) = some (.inr (0, 384, xZero 0)) := by rw [eg1_15]; exact (xu_o (nK (by decide) _ _ _ _)).trans v42_g1_14
  have v43_g1_15 : g1_15 (43, 0, 0) = some (.inr (1, 6, xZero 1)) := by rw [eg1_15]; exact (xu_o (nK (by decide) _ _ _ _)).trans v43_g1_14
  have v44_g1_15 : g1_15 (44, 0, 0) = some (.inr (1, 6, xZero 1)) := by rw [eg1_15]; exact (xu_o (nK (by decide) _ _ _ _)).trans v44_g1_14
  have v45_g1_15 : g1_15 (45, 0, 0) = some (.inr (1, 6, xZero 1)) := by rw [eg1_15]; exact (xu_o (nK (by decide) _ _ _ _)).trans v45_g1_14
  have v5_g1_15 : g1_15 (5, 0, 0) = some (.inl (3, [xR (7, 0, 0), xR (40, 0, 0), xR (41, 0, 0), xR (42, 0, 0), xR (43, 0, 0), xR (44, 0, 0), xR (45, 0, 0), xN])) := by rw [eg1_15]; exact xu_at
  refine x_aload_n dX3_init_66 rfl ?_
  refine x_sipush (v := 384) dX3_init_67 (by decide) ?_
  refine x_newarray (46, 0, 0) (t := 0) (n := 384) (N := 384) dX3_init_70 rfl wd89 (ff_g1_15 _ ⟨(show (46 : Nat) = 5 ∨ (46 : Nat) = 7 ∨ (46 : Nat) = 17 ∨ (46 : Nat) = 27 ∨ (40 ≤ (46 : Nat) ∧ (46 : Nat) ≤ 46) by omega), (show (0 : Int) = 0 ∧ (0 : Int) = 0 from ⟨rfl, rfl⟩)⟩ (nK (by decide) _ _ _ _) (nK (by decide) _ _ _ _) (nK (by decide) _ _ _ _) (nK (by decide) _ _ _ _) (nK (by decide) _ _ _ _) (nK (by decide) _ _ _ _) (nK (by decide) _ _ _ _) (nK (by decide) _ _ _ _) (nK (by decide) _ _ _ _) (nK (by decide) _ _ _ _)) (show (46 : Nat) ≠ 99 by decide) rfl (by decide) (by omega) (by omega) ?_
  refine x_hg (fun g1_16 eg1_16 => ?_)
  have ff_g1_16 : ∀ l : XL, ((l.1 = 5 ∨ l.1 = 7 ∨ l.1 = 17 ∨ l.1 = 27 ∨ (40 ≤ l.1 ∧ l.1 ≤ 46)) ∧ dzz l) → l ≠ (5, 0, 0) → l ≠ (7, 0, 0) → l ≠ (17, 0, 0) → l ≠ (27, 0, 0) → l ≠ (40, 0, 0) → l ≠ (41, 0, 0) → l ≠ (42, 0, 0) → l ≠ (43, 0, 0) → l ≠ (44, 0, 0) → l ≠ (45, 0, 0) → l ≠ (46, 0, 0) → g1_16 l = none := by rw [eg1_16]; exact fun l hl n0 n1 n2 n3 n4 n5 n6 n7 n8 n9 nx => (xu_o nx).trans (ff_g1_15 l hl n0 n1 n2 n3 n4 n5 n6 n7 n8 n9)
  have fr_g1_16 : ∀ l : XL, ¬ ((l.1 = 5 ∨ l.1 = 7 ∨ l.1 = 17 ∨ l.1 = 27 ∨ (40 ≤ l.1 ∧ l.1 ≤ 46)) ∧ dzz l) → g1_16 l = g0 l := by rw [eg1_16]; exact fun l hl => (xu_o (fun z => hl (by rw [z]; exact ⟨(show (46 : Nat) = 5 ∨ (46 : Nat) = 7 ∨ (46 : Nat) = 17 ∨ (46 : Nat) = 27 ∨ (40 ≤ (46 : Nat) ∧ (46 : Nat) ≤ 46) by omega), (show (0 : Int) = 0 ∧ (0 : Int) = 0 from ⟨rfl, rfl⟩)⟩))).trans (fr_g1_15 l hl)
  have v7_g1_16 : g1_16 (7, 0, 0) = some (.inl (6, [xR (17, 0, 0), xR (27, 0, 0), xI 0])) := by rw [eg1_16]; exact (xu_o (nK (by decide) _ _ _ _)).trans v7_g1_15
  have v17_g1_16 : g1_16 (17, 0, 0) = some (.inr (1, 6, xZero 1)) := by rw [eg1_16]; exact (xu_o (nK (by decide) _ _ _ _)).trans v17_g1_15
  have v27_g1_16 : g1_16 (27, 0, 0) = some (.inr (1, 6, xZero 1)) := by rw [eg1_16]; exact (xu_o (nK (by decide) _ _ _ _)).trans v27_g1_15
  have v40_g1_16 : g1_16 (40, 0, 0) = some (.inr (0, 384, xZero 0)) := by rw [eg1_16]; exact (xu_o (nK (by decide) _ _ _ _)).trans v40_g1_15
  have v41_g1_16 : g1_16 (41, 0, 0) = some (.inr (0, 384, xZero 0)) := by rw [eg1_16]; exact (xu_o (nK (by decide) _ _ _ _)).trans v41_g1_15
  have v42_g1_16 : g1_16 (42, 0, 0) = some (.inr (0, 384, xZero 0)) := by rw [eg1_16]; exact (xu_o (nK (by decide) _ _ _ _)).trans v42_g1_15
  have v43_g1_16 : g1_16 (43, 0, 0) = some (.inr (1, 6, xZero 1)) := by rw [eg1_16]; exact (xu_o (nK (by decide) _ _ _ _)).trans v43_g1_15
  have v44_g1_16 : g1_16 (44, 0, 0) = some (.inr (1, 6, xZero 1)) := by rw [eg1_16]; exact (xu_o (nK (by decide) _ _ _ _)).trans v44_g1_15
  have v45_g1_16 : g1_16 (45, 0, 0) = some (.inr (1, 6, xZero 1)) := by rw [eg1_16]; exact (xu_o (nK (by decide) _ _ _ _)).trans v45_g1_15
  have v5_g1_16 : g1_16 (5, 0, 0) = some (.inl (3, [xR (7, 0, 0), xR (40, 0, 0), xR (41, 0, 0), xR (42, 0, 0), xR (43, 0, 0), xR (44, 0, 0), xR (45, 0, 0), xN])) := by rw [eg1_16]; exact (xu_o (nK (by decide) _ _ _ _)).trans v5_g1_15
  have v46_g1_16 : g1_16 (46, 0, 0) = some (.inr (0, 384, xZero 0)) := by rw [eg1_16]; exact xu_at
  refine x_putF dX3_init_72 fl_RX3_38 (fun r hr => by cases hr; exact ⟨rfl, rfl⟩) v5_g1_16 xfit_a (Nat.le_of_ble_eq_true rfl) rfl rfl ?_
  refine x_hg (fun g1_17 eg1_17 => ?_)
  have ff_g1_17 : ∀ l : XL, ((l.1 = 5 ∨ l.1 = 7 ∨ l.1 = 17 ∨ l.1 = 27 ∨ (40 ≤ l.1 ∧ l.1 ≤ 46)) ∧ dzz l) → l ≠ (5, 0, 0) → l ≠ (7, 0, 0) → l ≠ (17, 0, 0) → l ≠ (27, 0, 0) → l ≠ (40, 0, 0) → l ≠ (41, 0, 0) → l ≠ (42, 0, 0) → l ≠ (43, 0, 0) → l ≠ (44, 0, 0) → l ≠ (45, 0, 0) → l ≠ (46, 0, 0) → g1_17 l = none := by rw [eg1_17]; exact fun l hl n0 n1 n2 n3 n4 n5 n6 n7 n8 n9 n10 => (xu_o n0).trans (ff_g1_16 l hl n0 n1 n2 n3 n4 n5 n6 n7 n8 n9 n10)
  have fr_g1_17 : ∀ l : XL, ¬ ((l.1 = 5 ∨ l.1 = 7 ∨ l.1 = 17 ∨ l.1 = 27 ∨ (40 ≤ l.1 ∧ l.1 ≤ 46)) ∧ dzz l) → g1_17 l = g0 l := by rw [eg1_17]; exact fun l hl => (xu_o (fun z => hl (by rw [z]; exact ⟨(show (5 : Nat) = 5 ∨ (5 : Nat) = 7 ∨ (5 : Nat) = 17 ∨ (5 : Nat) = 27 ∨ (40 ≤ (5 : Nat) ∧ (5 : Nat) ≤ 46) by omega), (show (0 : Int) = 0 ∧ (0 : Int) = 0 from ⟨rfl, rfl⟩)⟩))).trans (fr_g1_16 l hl)
  have v7_g1_17 : g1_17 (7, 0, 0) = some (.inl (6, [xR (17, 0, 0), xR (27, 0, 0), xI 0])) := by rw [eg1_17]; exact (xu_o (nK (by decide) _ _ _ _)).trans v7_g1_16
  have v17_g1_17 : g1_17 (17, 0, 0) = some (.inr (1, 6, xZero 1)) := by rw [eg1_17]; exact (xu_o (nK (by decide) _ _ _ _)).trans v17_g1_16
  have v27_g1_17 : g1_17 (27, 0, 0) = some (.inr (1, 6, xZero 1)) := by rw [eg1_17]; exact (xu_o (nK (by decide) _ _ _ _)).trans v27_g1_16
  have v40_g1_17 : g1_17 (40, 0, 0) = some (.inr (0, 384, xZero 0)) := by rw [eg1_17]; exact (xu_o (nK (by decide) _ _ _ _)).trans v40_g1_16
  have v41_g1_17 : g1_17 (41, 0, 0) = some (.inr (0, 384, xZero 0)) := by rw [eg1_17]; exact (xu_o (nK (by decide) _ _ _ _)).trans v41_g1_16
  have v42_g1_17 : g1_17 (42, 0, 0) = some (.inr (0, 384, xZero 0)) := by rw [eg1_17]; exact (xu_o (nK (by decide) _ _ _ _)).trans v42_g1_16
  have v43_g1_17 : g1_17 (43, 0, 0) = some (.inr (1, 6, xZero 1)) := by rw [eg1_17]; exact (xu_o (nK (by decide) _ _ _ _)).trans v43_g1_16
  have v44_g1_17 : g1_17 (44, 0, 0) = some (.inr (1, 6, xZero 1)) := by rw [eg1_17]; exact (xu_o (nK (by decide) _ _ _ _)).trans v44_g1_16
  have v45_g1_17 : g1_17 (45, 0, 0) = some (.inr (1, 6, xZero 1)) := by rw [eg1_17]; exact (xu_o (nK (by decide) _ _ _ _)).trans v45_g1_16
  have v46_g1_17 : g1_17 (46, 0, 0) = some (.inr (0, 384, xZero 0)) := by rw [eg1_17]; exact (xu_o (nK (by decide) _ _ _ _)).trans v46_g1_16
  have v5_g1_17 : g1_17 (5, 0, 0) = some (.inl (3, [xR (7, 0, 0), xR (40, 0, 0), xR (41, 0, 0), xR (42, 0, 0), xR (43, 0, 0), xR (44, 0, 0), xR (45, 0, 0), xR (46, 0, 0)])) := by rw [eg1_17]; exact xu_at
  refine x_aload_n dX3_init_75 rfl ?_
  refine x_get (v := xR (40, 0, 0)) dX3_init_76 fl_RX3_18 v5_g1_17 rfl ?_
  refine x_iconst dX3_init_79 ?_
  refine x_callS_v (a := 0) (b := 0) (as := [xR (40, 0, 0), xI (-1)]) (rest := []) ok_J7_fill_53178 dX3_init_80 wd167 wd168 (c_fillG g1_17 (40, 0, 0) 384 (fun _ => 0) (-1) (show (40 : Nat) ≠ 99 by decide) (by decide) v40_g1_17) rfl (Nat.le_of_ble_eq_true rfl) (Nat.le_of_ble_eq_true rfl) (by decide) (by omega) (by omega) ?_
  refine x_hg (fun g1_18 eg1_18 => ?_)
  have ff_g1_18 : ∀ l : XL, ((l.1 = 5 ∨ l.1 = 7 ∨ l.1 = 17 ∨ l.1 = 27 ∨ (40 ≤ l.1 ∧ l.1 ≤ 46)) ∧ dzz l) → l ≠ (5, 0, 0) → l ≠ (7, 0, 0) → l ≠ (17, 0, 0) → l ≠ (27, 0, 0) → l ≠ (40, 0, 0) → l ≠ (41, 0, 0) → l ≠ (42, 0, 0) → l ≠ (43, 0, 0) → l ≠ (44, 0, 0) → l ≠ (45, 0, 0) → l ≠ (46, 0, 0) → g1_18 l = none := by rw [eg1_18]; exact fun l hl n0 n1 n2 n3 n4 n5 n6 n7 n8 n9 n10 => (xu_o n4).trans (ff_g1_17 l hl n0 n1 n2 n3 n4 n5 n6 n7 n8 n9 n10)
  have fr_g1_18 : ∀ l : XL, ¬ ((l.1 = 5 ∨ l.1 = 7 ∨ l.1 = 17 ∨ l.1 = 27 ∨ (40 ≤ l.1 ∧ l.1 ≤ 46)) ∧ dzz l) → g1_18 l = g0 l := by rw [eg1_18]; exact fun l hl => (xu_o (fun z => hl (by rw [z]; exact ⟨(show (40 : Nat) = 5 ∨ (40 : Nat) = 7 ∨ (40 : Nat) = 17 ∨ (40 : Nat) = 27 ∨ (40 ≤ (40 : Nat) ∧ (40 : Nat) ≤ 46) by omega), (show (0 : Int) = 0 ∧ (0 : Int) = 0 from ⟨rfl, rfl⟩)⟩))).trans (fr_g1_17 l hl)
  have v7_g1_18 : g1_18 (7, 0, 0) = some (.inl (6, [xR (17, 0, 0), xR (27, 0, 0), xI 0])) := by rw [eg1_18]; exact (xu_o (nK (by decide) _ _ _ _)).trans v7_g1_17
  have v17_g1_18 : g1_18 (17, 0, 0) = some (.inr (1, 6, xZero 1)) := by rw [eg1_18]; exact (xu_o (nK (by decide) _ _ _ _)).trans v17_g1_17
  have v27_g1_18 : g1_18 (27, 0, 0) = some (.inr (1, 6, xZero 1)) := by rw [eg1_18]; exact (xu_o (nK (by decide) _ _ _ _)).trans v27_g1_17
  have v41_g1_18 : g1_18 (41, 0, 0) = some (.inr (0, 384, xZero 0)) := by rw [eg1_18]; exact (xu_o (nK (by decide) _ _ _ _)).trans v41_g1_17
  have v42_g1_18 : g1_18 (42, 0, 0) = some (.inr (0, 384, xZero 0)) := by rw [eg1_18]; exact (xu_o (nK (by decide) _ _ _ _)).trans v42_g1_17
  have v43_g1_18 : g1_18 (43, 0, 0) = some (.inr (1, 6, xZero 1)) := by rw [eg1_18]; exact (xu_o (nK (by decide) _ _ _ _)).trans v43_g1_17
  have v44_g1_18 : g1_18 (44, 0, 0) = some (.inr (1, 6, xZero 1)) := by rw [eg1_18]; exact (xu_o (nK (by decide) _ _ _ _)).trans v44_g1_17
  have v45_g1_18 : g1_18 (45, 0, 0) = some (.inr (1, 6, xZero 1)) := by rw [eg1_18]; exact (xu_o (nK (by decide) _ _ _ _)).trans v45_g1_17
  have v46_g1_18 : g1_18 (46, 0, 0) = some (.inr (0, 384, xZero 0)) := by rw [eg1_18]; exact (xu_o (nK (by decide) _ _ _ _)).trans v46_g1_17
  have v5_g1_18 : g1_18 (5, 0, 0) = some (.inl (3, [xR (7, 0, 0), xR (40, 0, 0), xR (41, 0, 0), xR (42, 0, 0), xR (43, 0, 0), xR (44, 0, 0), xR (45, 0, 0), xR (46, 0, 0)])) := by rw [eg1_18]; exact (xu_o (nK (by decide) _ _ _ _)).trans v5_g1_17
  have v40_g1_18 : g1_18 (40, 0, 0) = some (.inr (0, 384, .inl (fun j => if 0 ≤ j ∧ j < 384 then -1 else 0))) := by rw [eg1_18]; exact xu_at
  exact x_vret dX3_init_83 rfl ⟨rfl, fun l hl => (by
        obtain ⟨k, a, b⟩ := l
        obtain ⟨hk, hd⟩ := hl
        have hk2 : k = 5 ∨ k = 7 ∨ k = 17 ∨ k = 27 ∨ (40 ≤ k ∧ k ≤ 46) := hk
        have hk3 : k = 5 ∨ k = 7 ∨ k = 17 ∨ k = 27 ∨ k = 40 ∨ k = 41 ∨ k = 42 ∨ k = 43 ∨ k = 44 ∨ k = 45 ∨ k = 46 := by omega
        rcases hk3 with rfl | rfl | rfl | rfl | rfl | rfl | rfl | rfl | rfl | rfl | rfl
        · obtain ⟨d1, d2⟩ : a = 0 ∧ b = 0 := hd
          subst d1; subst d2; rw [v5_g1_18]; exact (hp5 (iS 0 (fun _ => 0))).symm
        · obtain ⟨d1, d2⟩ : a = 0 ∧ b = 0 := hd
          subst d1; subst d2; rw [v7_g1_18]; exact (hp7 (iS 0 (fun _ => 0))).symm
        · obtain ⟨d1, d2⟩ : a = 0 ∧ b = 0 := hd
          subst d1; subst d2; rw [v17_g1_18]; exact (hp17 (iS 0 (fun _ => 0))).symm
        · obtain ⟨d1, d2⟩ : a = 0 ∧ b = 0 := hd
          subst d1; subst d2; rw [v27_g1_18]; exact (hp27 (iS 0 (fun _ => 0))).symm
        · obtain ⟨d1, d2⟩ : a = 0 ∧ b = 0 := hd
          subst d1; subst d2; rw [v40_g1_18]; exact (hp40 (iS 0 (fun _ => 0))).symm
        · obtain ⟨d1, d2⟩ : a = 0 ∧ b = 0 := hd
          subst d1; subst d2; rw [v41_g1_18]; exact (hp41 (iS 0 (fun _ => 0))).symm
        · obtain ⟨d1, d2⟩ : a = 0 ∧ b = 0 := hd
          subst d1; subst d2; rw [v42_g1_18]; exact (hp42 (iS 0 (fun _ => 0))).symm
        · obtain ⟨d1, d2⟩ : a = 0 ∧ b = 0 := hd
          subst d1; subst d2; rw [v43_g1_18]; exact (hp43 (iS 0 (fun _ => 0))).symm
        · obtain ⟨d1, d2⟩ : a = 0 ∧ b = 0 := hd
          subst d1; subst d2; rw [v44_g1_18]; exact (hp44 (iS 0 (fun _ => 0))).symm
        · obtain ⟨d1, d2⟩ : a = 0 ∧ b = 0 := hd
          subst d1; subst d2; rw [v45_g1_18]; exact (hp45 (iS 0 (fun _ => 0))).symm
        · obtain ⟨d1, d2⟩ : a = 0 ∧ b = 0 := hd
          subst d1; subst d2; rw [v46_g1_18]; exact (hp46 (iS 0 (fun _ => 0))).symm), fun l hl => fr_g1_18 l hl⟩

