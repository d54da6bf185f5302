/-! floats that are no NaN -/
theorem n32_d {x : UInt32} (h : vf_n32 x) : FP.Core.decode FP.Core.b32 x.toNat ≠ .nan := by
  apply fn_dec32
  unfold vf_n32 at h
  rw [UInt32.le_iff_toNat_le, UInt32.toNat_and] at h
  have h2 : x.toNat &&& 2147483647 ≤ 2139095040 := h
  rw [show (2147483647 : Nat) = 2 ^ 31 - 1 from rfl, Nat.and_two_pow_sub_one_eq_mod] at h2
  exact h2
theorem n64_d {x : UInt64} (h : vf_n64 x) : FP.Core.decode FP.Core.b64 x.toNat ≠ .nan := by
  apply fn_dec64
  unfold vf_n64 at h
  rw [UInt64.le_iff_toNat_le, UInt64.toNat_and] at h
  have h2 : x.toNat &&& 9223372036854775807 ≤ 9218868437227405312 := h
  rw [show (9223372036854775807 : Nat) = 2 ^ 63 - 1 from rfl, Nat.and_two_pow_sub_one_eq_mod] at h2
  exact h2
theorem fn_round {f : FP.Core.Fmt} {d : FP.Core.Datum} (h : d ≠ .nan) (ht : f.tails < 2 ^ f.p) (hq : f.qmin ≤ f.qmax) : fnOk f (FP.Core.round f d) := by
  match d, h with
  | .nan, h => exact absurd rfl h
  | .inf s, _ => exact trivial
  | .fin s c q, _ => exact fn_ratio f s c 1 q ht hq
theorem f2d_n {x : UInt32} (h : vf_n32 x) : vf_n64 (FP.f2d x) := by
  have hd := n32_d h
  have hn : FP.Core.fIsNaN x = false := decide_eq_false hd
  have hq := fn_enc64 (fn_round (f := FP.Core.b64) hd (by decide) (by decide))
  unfold FP.f2d
  rw [hn, if_neg (by decide)]
  exact n64_of hq.1 hq.2
theorem cmp_self9 (a : Int) : compare a a = .eq := by
  show compareOfLessAndEq a a = .eq
  unfold compareOfLessAndEq
  rw [if_neg (Int.lt_irrefl a), if_pos rfl]
theorem order_self {d : FP.Core.Datum} (h : d ≠ .nan) : FP.Core.order d d = some .eq := by
  match d, h with
  | .nan, h => exact absurd rfl h
  | .inf s, _ => exact congrArg some (cmp_self9 _)
  | .fin s c q, _ => exact congrArg some (cmp_self9 _)
theorem dcmp_self {x : UInt64} (h : vf_n64 x) (op : CmpOp) : (Op.cmpValue (FP.dcmp x x) op).toInt = 0 := by
  have e : FP.dcmp x x = some .eq := order_self (n64_d h)
  rw [e]
  cases op <;> rfl
