/-! the start of the law -/
theorem iS_jinv (n : Nat) (sc : Int → Int) : JInv (iS n sc) := by
  refine ⟨fun r r0 r1 => ⟨rfl, rfl, rfl, rfl⟩, fun b b0 b1 => ⟨fun k k0 k1 => ?_, fun j hj => ?_, fun c0 c1 => ?_, fun _ => rfl⟩, fun l l0 l1 => ?_, fun l l0 l1 l2 => ⟨rfl, rfl, rfl⟩⟩
  · have k1 : k < 0 := k1
    omega
  · have hj : (j : Int) ≤ 0 := hj
    have e : j = 0 := by omega
    subst e
    rfl
  · have c1 : b < 1 := c1
    omega
  · have l1 : l < 0 := l1
    omega
theorem iS_mn (n : Nat) (sc : Int → Int) : MN (iS n sc) (iS n sc) := fun r r0 => ⟨rfl, rfl⟩
theorem iS_mrl (n : Nat) (sc : Int → Int) : MRl (iS n sc) (iS n sc) := fun l l0 l5 => ⟨fun z => by
  have z : l < 0 := z
  omega, fun _ => ⟨rfl, rfl, rfl, rfl, rfl, rfl⟩⟩
theorem iS_mr (n : Nat) (sc : Int → Int) : MR (iS n sc) (iS n sc) := by
  refine ⟨fun b k b0 b1 k0 k1 => ?_, ⟨rfl, rfl, rfl, rfl⟩, fun r r0 r1 => ?_, fun b b0 b1 => ⟨rfl, rfl, rfl, rfl⟩, fun x x0 x1 => rfl⟩
  · have k1 : k < 0 := k1
    omega
  · have r1 : r < 0 := r1
    omega
