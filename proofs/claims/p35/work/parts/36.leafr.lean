/-! reasons: the queue of a proof -/
theorem and_bit (x : Int64) (p : Nat) (hp : p < 64) : x &&& jShl 1 p ≠ 0 ↔ bitJ x p := by
  constructor
  · intro h
    apply Classical.byContradiction
    intro z
    apply h
    apply bitJ_ext
    intro q hq
    rw [bitJ_and _ _ _ hq, bitJ_one _ _ hp hq]
    constructor
    · rintro ⟨a, rfl⟩; exact absurd a z
    · intro a; exact absurd a (bitJ_0 q hq)
  · intro h z
    have y : bitJ (x &&& jShl 1 p) p := (bitJ_and _ _ _ hp).mpr ⟨h, (bitJ_one _ _ hp hp).mpr rfl⟩
    rw [z] at y
    exact bitJ_0 p hp y
theorem and_bitI (x : Int64) (p : Int) (h0 : 0 ≤ p) (h1 : p < 64) : x &&& jShl 1 p ≠ 0 ↔ bitJ x p := by
  obtain ⟨n, rfl⟩ := Int.eq_ofNat_of_zero_le h0
  exact and_bit x n (by omega)
def enqNo (S : XS) (q n : Int) : Prop := bitJ (S.2.1 (45, 0, 0) (q / 64)) (q % 64) ∨ 384 ≤ n
def sEnq (S : XS) (q n : Int) : XS := putI (putJ S (45, 0, 0) (q / 64) (S.2.1 (45, 0, 0) (q / 64) ||| jShl 1 (q % 64))) (46, 0, 0) n q
def pEnq (S : XS) (q n : Int) : XO → XH → Prop := pOr (enqNo S q n) (pRet (xI n) (hp S)) (pRet (xI (n + 1)) (hp (sEnq S q n)))
