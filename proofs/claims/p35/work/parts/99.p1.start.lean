/-! p35: the start of the law -/
theorem iS_jinv (n : Nat) (sc : Int → Int) : JInv (iS n sc) := by
  refine ⟨fun r r0 r1 => ⟨rfl, rfl, rfl, rfl⟩, fun b b0 b1 => ⟨fun k k0 k1 => ?_, fun j hj => ?_, fun c0 c1 => ?_, fun _ => rfl⟩, fun l l0 l1 => ?_, fun l l0 l1 l2 => ⟨rfl, rfl, rfl⟩⟩
  · have k1 : k < 0 := k1
    omega
  · have hj : (j : Int) ≤ 0 := hj
    have e : j = 0 := by omega
    subst e
    rfl
  · have c1 : b < 1 := c1
    omega
  · have l1 : l < 0 := l1
    omega
theorem iS_lev (n : Nat) (sc : Int → Int) (on : Int) (C : Int → Int64) (m : Nat) (x : Int) (p : Nat) (hp : p < 64) : ¬ bitJ (levF (iS n sc).1 on C (fun _ => 0) m x) p := by
  induction m generalizing x p with
  | zero => exact bitJ_0 p hp
  | succ m ih =>
    intro z
    rcases (stepF_bit (iS n sc).1 on C _ x p hp).mp z with h | ⟨j, hj, -⟩
    · exact ih x p hp h
    · have hj : (j : Int) < 0 := hj
      omega
theorem iS_stab (n : Nat) (sc : Int → Int) (on : Int) : Stab (iS n sc).1 on (fun _ => 0) (fun _ => 0) := fun x _ _ p hp => ⟨fun z => absurd z (bitJ_0 p hp), fun ⟨m, hm⟩ => absurd hm (iS_lev n sc on _ m x p hp)⟩
theorem iS_cb (n : Nat) (sc : Int → Int) (w : WI (iS n sc)) : CB (iS n sc) := by
  refine ⟨w, fun j hj => ?_, fun b t _ _ _ _ => iS_stab n sc _, fun b b0 b1 m hm => ⟨fun _ => 0, fun x _ _ => ⟨Int.le_refl 0, (by show (0 : Int) ≤ 5; decide)⟩, fun j hj _ => ?_⟩, ⟨iS_stab n sc _, fun x p hx hp => Or.inr ⟨?_, fun m => iS_lev n sc _ _ m x p hp⟩⟩, ⟨fun b t _ _ _ _ r hr hb => absurd hb (bitI_0 r hr), fun r hr hb => absurd hb (bitI_0 r hr)⟩, fun b b0 b1 k hk => ?_⟩
  · have hj : (j : Int) < 0 := hj
    omega
  · have hj : (j : Int) < 0 := hj
    omega
  · have e : ∀ k : Int, (iS n sc).1 (40, 0, 0) k = if 0 ≤ k ∧ k < 384 then -1 else 0 := fun _ => rfl
    rw [e, if_pos ⟨by omega, by omega⟩]
  · have hk : (k : Int) < 0 := hk
    omega
theorem iS_wi (n : Nat) (sc : Int → Int) (h : ∀ k, zR (sc k)) : WI (iS n sc) := by
  have i0 : ∀ (a : Nat) (x y k : Int), a ≠ 0 → a ≠ 11 → a ≠ 34 → a ≠ 40 → a ≠ 99 → (iS n sc).1 (a, x, y) k = 0 := fun a x y k h1 h2 h3 h4 h6 => by
    unfold iS
    dsimp only
    split <;> first | rfl | (exfalso; omega)
  refine ⟨fun l k => ?_, fun l _ k => ?_⟩
  · obtain ⟨a, x, y⟩ := l
    unfold iS
    dsimp only
    split <;> first | exact h k | (split <;> exact ⟨by decide, by decide⟩) | exact ⟨by decide, by decide⟩
  · obtain ⟨a, x, y⟩ := l
    unfold iS wc
    dsimp only
    split <;> (try split) <;> simp_all <;> omega
theorem iS_lw (n : Nat) (sc : Int → Int) (hz : ∀ k, zR (sc k)) : LW (iS n sc) := ⟨iS_cb n sc (iS_wi n sc hz), iS_jinv n sc, ⟨rfl, fun k k0 k1 => by
  have k1 : k < 0 := k1
  omega⟩, ⟨rfl, fun r r0 r1 => by
  have r1 : r < 0 := r1
  omega⟩, ⟨Int.le_refl _, Int.le_refl _, Int.le_refl _, Int.le_refl _, Int.le_refl _⟩, rfl, rfl, fun _ => rfl⟩
