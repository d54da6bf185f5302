/-! listeners: the next change; informing -/
/-- the change at the front is taken: p is its pair -/
def sTake (S : XS) (l : Int) (p : Nat) : XS :=
  let n := S.1 (14, l, 0) 7; let w := S.2.1 (30, l, 0) n ||| S.2.1 (31, l, 0) n; let t : Int64 := jShl 1 p
  let S1 := putJ S (30, l, 0) n (S.2.1 (30, l, 0) n &&& (t ^^^ (-1)))
  let S2 := putJ S1 (31, l, 0) n (S1.2.1 (31, l, 0) n &&& (t ^^^ (-1)))
  let S3 := if w = t then putI S2 (14, l, 0) 7 (n + 1) else S2
  putI S3 (14, l, 0) 9 (S3.1 (14, l, 0) 9 - 1)
def takeV (S : XS) (l : Int) (p : Nat) : Int := if S.2.1 (31, l, 0) (S.1 (14, l, 0) 7) &&& jShl 1 p = 0 then 1 + 64 * S.1 (14, l, 0) 3 + p else -(1 + 64 * S.1 (14, l, 0) 3 + p)
/-- the lowest bit, or 63 -/
def Low (w : Int64) (p : Nat) : Prop := p < 64 ∧ (∀ p' : Nat, p' < p → ¬ bitJ w p') ∧ (p = 63 ∨ bitJ w p)
def pTake (S : XS) (l : Int) : XO → XH → Prop := fun o h' => ∃ p : Nat, Low (S.2.1 (30, l, 0) (S.1 (14, l, 0) 7) ||| S.2.1 (31, l, 0) (S.1 (14, l, 0) 7)) p ∧ o = .inl (some (xI (takeV S l p))) ∧ h' = hp (sTake S l p)
theorem pTi {S S' : XS} {l v : Int} {p : Nat} (h : Low (S.2.1 (30, l, 0) (S.1 (14, l, 0) 7) ||| S.2.1 (31, l, 0) (S.1 (14, l, 0) 7)) p) (e : v = takeV S l p) (e2 : S' = sTake S l p) : pTake S l (.inl (some (xI v))) (hp S') := ⟨p, h, by rw [e], by rw [e2]⟩
