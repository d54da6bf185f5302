/-! quotients of whole numbers are no NaN -/
def fnOk (f : FP.Core.Fmt) : FP.Core.Datum → Prop
  | .nan => False
  | .inf _ => True
  | .fin _ c q => c < 2 ^ f.p ∧ q ≤ f.qmax
theorem fn_bound (f : FP.Core.Fmt) (s : Bool) (c : Nat) (q : Int) (h : c < 2 ^ f.p) : fnOk f (FP.Core.bound f s c q) := by
  unfold FP.Core.bound
  split
  · exact ⟨h, by assumption⟩
  · exact trivial
theorem fn_ratio (f : FP.Core.Fmt) (s : Bool) (a b : Nat) (e : Int) (ht : f.tails < 2 ^ f.p) (hq : f.qmin ≤ f.qmax) : fnOk f (FP.Core.roundRatio f s a b e) := by
  unfold FP.Core.roundRatio
  split
  · exact ⟨Nat.two_pow_pos _, hq⟩
  · unfold FP.Core.roundAt FP.Core.settle
    split
    · exact fn_bound f s _ _ (by assumption)
    · exact fn_bound f s _ _ ht
theorem fn_quot (f : FP.Core.Fmt) {x : FP.Core.Datum} (hx : x ≠ .nan) (t : Bool) (d : Nat) (r : Int) (hd : d ≠ 0) (ht : f.tails < 2 ^ f.p) (hq : f.qmin ≤ f.qmax) : fnOk f (FP.Core.quotient f x (.fin t d r)) := by
  cases x with
  | nan => exact absurd rfl hx
  | inf s => exact trivial
  | fin s c q =>
    show fnOk f (if d = 0 then _ else _)
    rw [if_neg hd]
    exact fn_ratio f _ _ _ _ ht hq
theorem fn_enc64 {d : FP.Core.Datum} (h : fnOk FP.Core.b64 d) : FP.Core.encode FP.Core.b64 d % 9223372036854775808 ≤ 9218868437227405312 ∧ FP.Core.encode FP.Core.b64 d < 18446744073709551616 := by
  have e1 : FP.Core.b64.exps = 2048 := by decide
  have e2 : FP.Core.b64.tails = 4503599627370496 := by decide
  have e3 : FP.Core.b64.qmax = 971 := by decide
  have e4 : FP.Core.b64.qmin = -1074 := by decide
  have e5 : 2 ^ FP.Core.b64.p = 9007199254740992 := by decide
  cases d with
  | nan => exact h.elim
  | inf s => cases s <;> decide
  | fin s c q =>
    obtain ⟨h1, h2⟩ := h
    rw [e5] at h1
    rw [e3] at h2
    unfold FP.Core.encode FP.Core.assemble
    rw [e1, e2, e4]
    dsimp only
    split
    · cases s <;> simp only [Bool.toNat_true, Bool.toNat_false] <;> omega
    · cases s <;> simp only [Bool.toNat_true, Bool.toNat_false] <;> omega
theorem fn_enc32 {d : FP.Core.Datum} (h : fnOk FP.Core.b32 d) : FP.Core.encode FP.Core.b32 d % 2147483648 ≤ 2139095040 ∧ FP.Core.encode FP.Core.b32 d < 4294967296 := by
  have e1 : FP.Core.b32.exps = 256 := by decide
  have e2 : FP.Core.b32.tails = 8388608 := by decide
  have e3 : FP.Core.b32.qmax = 104 := by decide
  have e4 : FP.Core.b32.qmin = -149 := by decide
  have e5 : 2 ^ FP.Core.b32.p = 16777216 := by decide
  cases d with
  | nan => exact h.elim
  | inf s => cases s <;> decide
  | fin s c q =>
    obtain ⟨h1, h2⟩ := h
    rw [e5] at h1
    rw [e3] at h2
    unfold FP.Core.encode FP.Core.assemble
    rw [e1, e2, e4]
    dsimp only
    split
    · cases s <;> simp only [Bool.toNat_true, Bool.toNat_false] <;> omega
    · cases s <;> simp only [Bool.toNat_true, Bool.toNat_false] <;> omega
theorem fn_dec64 {n : Nat} (h : n % 9223372036854775808 ≤ 9218868437227405312) : FP.Core.decode FP.Core.b64 n ≠ .nan := by
  have e1 : FP.Core.b64.exps = 2048 := by decide
  have e2 : FP.Core.b64.tails = 4503599627370496 := by decide
  unfold FP.Core.decode FP.Core.fieldE FP.Core.fieldT
  rw [e1, e2]
  split
  · split
    · intro z; cases z
    · exfalso; omega
  · split <;> intro z <;> cases z
theorem fn_dec32 {n : Nat} (h : n % 2147483648 ≤ 2139095040) : FP.Core.decode FP.Core.b32 n ≠ .nan := by
  have e1 : FP.Core.b32.exps = 256 := by decide
  have e2 : FP.Core.b32.tails = 8388608 := by decide
  unfold FP.Core.decode FP.Core.fieldE FP.Core.fieldT
  rw [e1, e2]
  split
  · split
    · intro z; cases z
    · exfalso; omega
  · split <;> intro z <;> cases z
theorem fn_int (f : FP.Core.Fmt) (i : Int) (ht : f.tails < 2 ^ f.p) (hq : f.qmin ≤ f.qmax) : fnOk f (FP.Core.round f (FP.Core.ofInt i)) := fn_ratio f _ _ _ _ ht hq
def fnDen (f : FP.Core.Fmt) (n : Nat) : Bool := match FP.Core.decode f n with
  | .fin _ c _ => decide (c ≠ 0)
  | _ => false
theorem fn_den32 : ∀ b : Fin 384, fnDen FP.Core.b32 (FP.Core.i2f (zI ((b.val + 1 : Nat) : Int))).toNat = true := by decide +kernel
theorem fn_den64 : ∀ b : Fin 384, fnDen FP.Core.b64 (FP.Core.i2d (zI ((b.val + 1 : Nat) : Int))).toNat = true := by decide +kernel
theorem fnDen_at {f : FP.Core.Fmt} {n : Nat} (h : fnDen f n = true) : ∃ s c q, FP.Core.decode f n = .fin s c q ∧ c ≠ 0 := by
  unfold fnDen at h
  split at h
  · rename_i s c q e
    exact ⟨s, c, q, e, by simpa using h⟩
  · cases h
theorem n32_of {n : Nat} (h1 : n % 2147483648 ≤ 2139095040) (h2 : n < 4294967296) : vf_n32 (UInt32.ofNat n) := by
  unfold vf_n32
  rw [UInt32.le_iff_toNat_le, UInt32.toNat_and, UInt32.toNat_ofNat_of_lt' h2]
  show n &&& 2147483647 ≤ 2139095040
  rw [show (2147483647 : Nat) = 2 ^ 31 - 1 from rfl, Nat.and_two_pow_sub_one_eq_mod]
  exact h1
theorem n64_of {n : Nat} (h1 : n % 9223372036854775808 ≤ 9218868437227405312) (h2 : n < 18446744073709551616) : vf_n64 (UInt64.ofNat n) := by
  unfold vf_n64
  rw [UInt64.le_iff_toNat_le, UInt64.toNat_and, UInt64.toNat_ofNat_of_lt' h2]
  show n &&& 9223372036854775807 ≤ 9218868437227405312
  rw [show (9223372036854775807 : Nat) = 2 ^ 63 - 1 from rfl, Nat.and_two_pow_sub_one_eq_mod]
  exact h1
theorem share_n {a b : Int} (hb : 1 ≤ b) (hb2 : b ≤ 384) : vf_n32 (FP.fdiv (FP.i2f (zI a)) (FP.i2f (zI b))) := by
  have e : FP.Core.b32.tails < 2 ^ FP.Core.b32.p := by decide
  have e' : FP.Core.b32.qmin ≤ FP.Core.b32.qmax := by decide
  obtain ⟨m, rfl⟩ : ∃ m : Nat, b = ((m + 1 : Nat) : Int) := ⟨(b - 1).toNat, by omega⟩
  obtain ⟨t, d, r, hd, hd0⟩ := fnDen_at (fn_den32 ⟨m, by omega⟩)
  have hn := fn_enc32 (fn_int FP.Core.b32 (zI a).toInt e e')
  have hx : FP.Core.decode FP.Core.b32 (FP.Core.i2f (zI a)).toNat ≠ .nan := by
    apply fn_dec32
    show (UInt32.ofNat (FP.Core.encode FP.Core.b32 (FP.Core.round FP.Core.b32 (FP.Core.ofInt (zI a).toInt)))).toNat % _ ≤ _
    rw [UInt32.toNat_ofNat_of_lt' hn.2]
    exact hn.1
  have hq := fn_enc32 (fn_quot FP.Core.b32 hx t d r hd0 e e')
  show vf_n32 (UInt32.ofNat (FP.Core.encode FP.Core.b32 (FP.Core.quotient FP.Core.b32 (FP.Core.decode FP.Core.b32 (FP.Core.i2f (zI a)).toNat) (FP.Core.decode FP.Core.b32 (FP.Core.i2f (zI ((m + 1 : Nat) : Int))).toNat))))
  rw [hd]
  exact n32_of hq.1 hq.2
theorem mean_n {a b : Int} (hb : 1 ≤ b) (hb2 : b ≤ 384) : vf_n64 (FP.ddiv (FP.i2d (zI a)) (FP.i2d (zI b))) := by
  have e : FP.Core.b64.tails < 2 ^ FP.Core.b64.p := by decide
  have e' : FP.Core.b64.qmin ≤ FP.Core.b64.qmax := by decide
  obtain ⟨m, rfl⟩ : ∃ m : Nat, b = ((m + 1 : Nat) : Int) := ⟨(b - 1).toNat, by omega⟩
  obtain ⟨t, d, r, hd, hd0⟩ := fnDen_at (fn_den64 ⟨m, by omega⟩)
  have hn := fn_enc64 (fn_int FP.Core.b64 (zI a).toInt e e')
  have hx : FP.Core.decode FP.Core.b64 (FP.Core.i2d (zI a)).toNat ≠ .nan := by
    apply fn_dec64
    show (UInt64.ofNat (FP.Core.encode FP.Core.b64 (FP.Core.round FP.Core.b64 (FP.Core.ofInt (zI a).toInt)))).toNat % _ ≤ _
    rw [UInt64.toNat_ofNat_of_lt' hn.2]
    exact hn.1
  have hq := fn_enc64 (fn_quot FP.Core.b64 hx t d r hd0 e e')
  show vf_n64 (UInt64.ofNat (FP.Core.encode FP.Core.b64 (FP.Core.quotient FP.Core.b64 (FP.Core.decode FP.Core.b64 (FP.Core.i2d (zI a)).toNat) (FP.Core.decode FP.Core.b64 (FP.Core.i2d (zI ((m + 1 : Nat) : Int))).toNat))))
  rw [hd]
  exact n64_of hq.1 hq.2
