/-! p35: what the law uses beside: shifts without sign, constants of floats, and how it looks at the script -/
def zUshr (a b : Int) : Int := (((zI a).toUInt32 >>> ((zI b).toUInt32 &&& Int32.toUInt32 31)).toInt32).toInt
theorem x_iushr {M : XM} {pc : Nat} {L st : List XV} {h : XH} {kc ks : Nat} {Q : XO → XH → Prop} {a b : Int} (hd : decode (xmC M) pc = .ok (.iushr, 1)) (k : X M (pc + 1) L (xI (zUshr a b) :: st) h kc ks Q) : X M pc L (xI b :: xI a :: st) h kc ks Q := by
  refine x_of k ?_
  intro p l e R s m args below meth c D dA base ad H locs cells slots QQ ls stv F hl hst go
  obtain ⟨w0, r0, rfl, e0, hst⟩ := hst
  obtain ⟨w1, r1, rfl, e1, hst⟩ := hst
  cases e0
  cases e1
  exact lv_iushr F.1 F.2.1 hd rfl (go _ _ hl ⟨_, _, rfl, congrArg Value.int (zI_of _).symm, hst⟩)
theorem x_ldcf {M : XM} {pc : Nat} {L st : List XV} {h : XH} {kc ks : Nat} {Q : XO → XH → Prop} {i : Nat} {v : UInt32} (hd : decode (xmC M) pc = .ok (.ldc i, 2)) (hw : Cond.constantFloat (xmY M).cls i v ∈ xW) (k : X M (pc + 2) L (xF v :: st) h kc ks Q) : X M pc L (st) h kc ks Q := by
  refine x_of k ?_
  intro p l e R s m args below meth c D dA base ad H locs cells slots QQ ls stv F hl hst go
  exact lv_ldcf F.1 F.2.1 F.2.2.2.2.1 (F.2.2.2.2.2.1 _ hw) hd (go _ _ hl ⟨_, _, rfl, rfl, hst⟩)
theorem x_ldc2d {M : XM} {pc : Nat} {L st : List XV} {h : XH} {kc ks : Nat} {Q : XO → XH → Prop} {i : Nat} {v : UInt64} (hd : decode (xmC M) pc = .ok (.ldc2_w i, 3)) (hw : Cond.constantDouble (xmY M).cls i v ∈ xW) (k : X M (pc + 3) L (xD v :: st) h kc ks Q) : X M pc L (st) h kc ks Q := by
  refine x_of k ?_
  intro p l e R s m args below meth c D dA base ad H locs cells slots QQ ls stv F hl hst go
  exact lv_ldc2d F.1 F.2.1 F.2.2.2.2.1 (F.2.2.2.2.2.1 _ hw) hd (go _ _ hl ⟨_, _, rfl, rfl, hst⟩)
theorem x_aretA {M : XM} {pc : Nat} {L : List XV} {h : XH} {kc ks : Nat} {Q : XO → XH → Prop} {v : XL} {n : FieldType} (hd : decode (xmC M) pc = .ok (.areturn, 1)) (hr : xmR M = some (.array n)) (hq : Q (.inl (some (xR v))) h) : X M pc L [xR v] h kc ks Q := by
  intro p l0 e R s m args below meth c D dA base ad0 h0 ad H locs cells slots ls stv F hE h9 hH hS hL hst hc hs
  obtain ⟨w, r0, rfl, e0, e2⟩ := hst
  have e1 := e0
  obtain ⟨hx, rfl⟩ := e0
  cases e2
  refine W.widen (k := R.cells) (n := R.slots) (by omega) (by omega) (vx_ret ?_)
  exact W.aret F.1 F.2.1 (F.2.2.1.trans hr) (Or.inr ⟨n, rfl⟩) (Or.inr ⟨_, rfl⟩) (fun t ht hW => ⟨_, some (xR v), h, ad, rfl, hq, hE, by rw [ht]; exact hH, e1, hS.F ht⟩) hS.2.2 hd F.2.2.2.2.2.2.1
/-- some int of which P holds -/
def pEx (P : Int → Prop) (h1 : XH) : XO → XH → Prop := fun o h => ∃ v : Int, P v ∧ o = .inl (some (xI v)) ∧ h = h1
theorem zAnd_max (v : Int) : 0 ≤ zAnd v 2147483647 ∧ zAnd v 2147483647 < 2147483648 := by
  have m : (zI v &&& zI 2147483647).toBitVec.msb = false := by
    have : (zI 2147483647).toBitVec.msb = false := by decide
    rw [Int32.toBitVec_and, BitVec.msb_and, this, Bool.and_false]
  refine ⟨?_, (zR_of _).2⟩
  show 0 ≤ (zI v &&& zI 2147483647).toBitVec.toInt
  rw [BitVec.toInt_eq_msb_cond, m]
  simp
/-- the law's net (50): the tellings of the branch 0 -/
def NT (C S : XS) : Prop := S.1 (50, 0, 0) 0 = C.1 (9, 0, 0) 3 ∧ ∀ k : Int, 0 ≤ k → k < C.1 (9, 0, 0) 3 → S.1 (50, 0, 0) (100 + 6 * k) = 2 * C.1 (13, 0, k) 0 + C.1 (13, 0, k) 1 ∧ S.1 (50, 0, 0) (100 + 6 * k + 1) = C.1 (13, 0, k) 2 ∧ S.1 (50, 0, 0) (100 + 6 * k + 2) = C.1 (13, 0, k) 3 ∧ S.1 (50, 0, 0) (100 + 6 * k + 3) = C.1 (13, 0, k) 4 ∧ S.1 (50, 0, 0) (100 + 6 * k + 4) = C.1 (13, 0, k) 6
/-- the variables that a rule of the net uses -/
def UsL (N : Int → Int) (r v : Int) : Nat → Prop
  | 0 => N (1600 + 16 * r + 2) = v ∨ N (1600 + 16 * r + 3) = v
  | n + 1 => UsL N r v n ∨ N (1600 + 16 * r + 5 + 4 * (n : Int)) = v ∨ N (1600 + 16 * r + 6 + 4 * (n : Int)) = v
/-- a condition of a rule of the net -/
def NC1 (C : XS) (N : Int → Int) (r c : Int) : Prop := N (1600 + 16 * r + 4 + 4 * c) = C.1 (36, r, c) 0 ∧ C.1 (36, r, c) 2 = 3 * (2 - N (1600 + 16 * r + 5 + 4 * c)) ∧ C.1 (36, r, c) 3 = 3 * (2 - N (1600 + 16 * r + 6 + 4 * c)) ∧ N (1600 + 16 * r + 7 + 4 * c) = C.1 (36, r, c) 1 ∧ (0 ≤ N (1600 + 16 * r + 5 + 4 * c) ∧ N (1600 + 16 * r + 5 + 4 * c) ≤ 2) ∧ 0 ≤ N (1600 + 16 * r + 6 + 4 * c) ∧ N (1600 + 16 * r + 6 + 4 * c) ≤ 2
/-- the head of a rule of the net -/
def NH1 (C : XS) (N : Int → Int) (r : Int) : Prop := N (1600 + 16 * r + 1) = C.1 (37, r, 0) 0 ∧ C.1 (37, r, 0) 2 = 3 * (2 - N (1600 + 16 * r + 2)) ∧ C.1 (37, r, 0) 3 = 3 * (2 - N (1600 + 16 * r + 3)) ∧ (0 ≤ N (1600 + 16 * r + 2) ∧ N (1600 + 16 * r + 2) ≤ 2) ∧ 0 ≤ N (1600 + 16 * r + 3) ∧ N (1600 + 16 * r + 3) ≤ 2
/-- a rule of the net -/
def NL1 (C : XS) (N : Int → Int) (r : Int) : Prop := N (1600 + 16 * r) = C.1 (34, r, 0) 2 ∧ NH1 C N r ∧ (∀ v : Int, 0 ≤ v → v ≤ 2 → (zAnd (C.1 (34, r, 0) 4) (zShl 7 (3 * (2 - v))) = 0 ↔ UsL N r v (C.1 (34, r, 0) 2).toNat)) ∧ ∀ c : Int, 0 ≤ c → c < C.1 (34, r, 0) 2 → NC1 C N r c
/-- the law's net: the rules -/
def NR (C S : XS) : Prop := S.1 (50, 0, 0) 5 = C.1 (4, 0, 0) 2 ∧ ∀ r : Int, 0 ≤ r → r < C.1 (4, 0, 0) 2 → NL1 C (S.1 (50, 0, 0)) r
theorem told_back {C : XS} (hC : WI C) (t : Int) (i : Nat) (i0 : 1 ≤ i) (hi : (i : Int) ≤ C.1 (9, 0, 0) 3) {x : Int} (x0 : 0 ≤ x) (x1 : x < 384) : sB (toldN C.1 0 t i) x ↔ if C.1 (13, 0, (i : Int) - 1) 0 = 0 ∧ C.1 (13, 0, (i : Int) - 1) 6 = 0 ∧ C.1 (13, 0, (i : Int) - 1) 3 ≤ t ∧ t ≤ C.1 (13, 0, (i : Int) - 1) 4 ∧ C.1 (13, 0, (i : Int) - 1) 2 = x then C.1 (13, 0, (i : Int) - 1) 1 ≠ 0 else sB (toldN C.1 0 t (i - 1)) x := by
  obtain ⟨j, rfl⟩ : ∃ j, i = j + 1 := ⟨i - 1, by omega⟩
  have c9 := wf9_3 hC (b := 0) (by omega) (by omega)
  have a0 := wf13_2 hC (b := 0) (t := (j : Int)) (by omega) (by omega) (by omega) (by omega)
  rw [show ((j + 1 : Nat) : Int) - 1 = (j : Int) by omega, show j + 1 - 1 = j by omega]
  exact told_step C.1 0 t j x0 x1 (by omega) (by omega)
theorem told_0 (f : XL → Int → Int) (t : Int) {x : Int} (x0 : 0 ≤ x) : ¬ sB (toldN f 0 t 0) x := fun z => by
  unfold sB at z
  obtain ⟨p, hp⟩ := Int.eq_ofNat_of_zero_le (show 0 ≤ x % 64 by omega)
  rw [hp] at z
  exact bitJ_0 p (by omega) z
theorem on_back {C : XS} (hC : CB C) (i : Nat) (i0 : 1 ≤ i) (hi : (i : Int) ≤ C.1 (9, 0, 0) 3) (r : Nat) (hr : r < 10) : bitI (onN C.1 0 i) r ↔ if C.1 (13, 0, (i : Int) - 1) 0 ≠ 0 ∧ C.1 (13, 0, (i : Int) - 1) 2 = r then C.1 (13, 0, (i : Int) - 1) 1 ≠ 0 else bitI (onN C.1 0 (i - 1)) r := by
  obtain ⟨j, rfl⟩ : ∃ j, i = j + 1 := ⟨i - 1, by omega⟩
  rw [show ((j + 1 : Nat) : Int) - 1 = (j : Int) by omega, show j + 1 - 1 = j by omega]
  exact on_step hC 0 (by omega) (by omega) j (by omega) r hr
