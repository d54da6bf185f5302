/-! reasons: the queue of a proof -/
theorem and_bit (x : Int64) (p : Nat) (hp : p < 64) : x &&& jShl 1 p ≠ 0 ↔ bitJ x p := by
  constructor
  · intro h
    apply Classical.byContradiction
    intro z
    apply h
    apply bitJ_ext
    intro q hq
    rw [bitJ_and _ _ _ hq, bitJ_one _ _ hp hq]
    constructor
    · rintro ⟨a, rfl⟩; exact absurd a z
    · intro a; exact absurd a (bitJ_0 q hq)
  · intro h z
    have y : bitJ (x &&& jShl 1 p) p := (bitJ_and _ _ _ hp).mpr ⟨h, (bitJ_one _ _ hp hp).mpr rfl⟩
    rw [z] at y
    exact bitJ_0 p hp y
theorem and_bitI (x : Int64) (p : Int) (h0 : 0 ≤ p) (h1 : p < 64) : x &&& jShl 1 p ≠ 0 ↔ bitJ x p := by
  obtain ⟨n, rfl⟩ := Int.eq_ofNat_of_zero_le h0
  exact and_bit x n (by omega)
def enqNo (S : XS) (q n : Int) : Prop := bitJ (S.2.1 (45, 0, 0) (q / 64)) (q % 64) ∨ 384 ≤ n
def sEnq (S : XS) (q n : Int) : XS := putI (putJ S (45, 0, 0) (q / 64) (S.2.1 (45, 0, 0) (q / 64) ||| jShl 1 (q % 64))) (46, 0, 0) n q
def pEnq (S : XS) (q n : Int) : XO → XH → Prop := pOr (enqNo S q n) (pRet (xI n) (hp S)) (pRet (xI (n + 1)) (hp (sEnq S q n)))
set_option maxHeartbeats 4000000 in
set_option maxRecDepth 100000 in
theorem c_enqueue (S : XS) (hw : WI S) (q : Int) (q0 : 0 ≤ q) (q1 : q < 384) (n : Int) (n0 : 0 ≤ n) (n1 : n ≤ 384) : X mX3_enqueue 0 (xEnt mX3_enqueue [xR (5, 0, 0), xI q, xI n]) [] (hp S) 0 0 (pEnq S q n) := by
  show X mX3_enqueue 0 [xR (5, 0, 0), xI q, xI n, none, none] [] (hp S) 0 0 _
  refine x_lconst (v := 1) dX3_enqueue_0 (by decide) ?_
  refine x_iload_n dX3_enqueue_1 rfl ?_
  refine x_bipush (v := 64) dX3_enqueue_2 (by decide) ?_
  refine x_irem dX3_enqueue_4 (by omega) (by omega) (by omega) (by omega) ?_
  refine x_lshl dX3_enqueue_5 ?_
  refine x_lstore_n (L' := [xR (5, 0, 0), xI q, xI n, xJ (jShl 1 (q % 64)), none]) dX3_enqueue_6 (by decide) rfl ?_
  refine x_aload_n dX3_enqueue_7 rfl ?_
  refine x_get (v := xR (45, 0, 0)) dX3_enqueue_8 fl_RX3_35 (hp5 S) rfl ?_
  refine x_iload_n dX3_enqueue_11 rfl ?_
  refine x_bipush (v := 64) dX3_enqueue_12 (by decide) ?_
  refine x_idiv dX3_enqueue_14 (by omega) (by omega) (by omega) (by omega) ?_
  refine x_aldj (f := S.2.1 (45, 0, 0)) dX3_enqueue_15 (hp45 S) (show (45 : Nat) ≠ 99 by decide) (by omega) (by omega) (by decide) ?_
  refine x_lload_n dX3_enqueue_16 rfl ?_
  refine x_land dX3_enqueue_17 ?_
  refine x_lconst (v := 0) dX3_enqueue_18 (by decide) ?_
  refine x_lcmp dX3_enqueue_19 ?_
  refine x_if_ne (tgt := 30) dX3_enqueue_20 (by decide) (by first | exact hz _ _ | exact hw.1 _ _ | exact zR_of _ | assumption | exact ⟨by omega, by omega⟩) (fun c20 => ?_) (fun c20 => ?_)
  · refine x_iload_n dX3_enqueue_30 rfl ?_
    exact x_iret dX3_enqueue_31 rfl (Or.inl ⟨by first | exact Or.inl ((and_bitI _ (q % 64) (by omega) (by omega)).mp (fun z => c20 (lg0.mpr z))) | exact Or.inr (by omega), rfl, rfl⟩)
  · refine x_iload_n dX3_enqueue_23 rfl ?_
    refine x_sipush (v := 384) dX3_enqueue_24 (by decide) ?_
    refine x_icmp_lt (tgt := 32) dX3_enqueue_27 (by decide) (by first | exact hz _ _ | exact hw.1 _ _ | exact zR_of _ | assumption | exact ⟨by omega, by omega⟩) ⟨by decide, by decide⟩ (fun c27 => ?_) (fun c27 => ?_)
    · refine x_aload_n dX3_enqueue_32 rfl ?_
      refine x_get (v := xR (45, 0, 0)) dX3_enqueue_33 fl_RX3_35 (hp5 S) rfl ?_
      refine x_iload_n dX3_enqueue_36 rfl ?_
      refine x_bipush (v := 64) dX3_enqueue_37 (by decide) ?_
      refine x_idiv dX3_enqueue_39 (by omega) (by omega) (by omega) (by omega) ?_
      refine x_dup2 dX3_enqueue_40 rfl rfl ?_
      refine x_aldj (f := S.2.1 (45, 0, 0)) dX3_enqueue_41 (hp45 S) (show (45 : Nat) ≠ 99 by decide) (by omega) (by omega) (by decide) ?_
      refine x_lload_n dX3_enqueue_42 rfl ?_
      refine x_lor dX3_enqueue_43 ?_
      refine x_astj dX3_enqueue_44 (hp45 S) (show (45 : Nat) ≠ 99 by decide) (by omega) (by omega) (by decide) ?_
      refine x_heq (pa45 S (q / 64) ((S.2.1 (45, 0, 0) (q / 64)) ||| (jShl 1 (q % 64)))) ?_
      have hw44_1 : WI (putJ S (45, 0, 0) (q / 64) ((S.2.1 (45, 0, 0) (q / 64)) ||| (jShl 1 (q % 64)))) := hw.puJ
      refine x_aload_n dX3_enqueue_45 rfl ?_
      refine x_get (v := xR (46, 0, 0)) dX3_enqueue_46 fl_RX3_38 (hp5 (putJ S (45, 0, 0) (q / 64) ((S.2.1 (45, 0, 0) (q / 64)) ||| (jShl 1 (q % 64))))) rfl ?_
      refine x_iload_n dX3_enqueue_49 rfl ?_
      refine x_iload_n dX3_enqueue_50 rfl ?_
      refine x_asti dX3_enqueue_51 (hp46 (putJ S (45, 0, 0) (q / 64) ((S.2.1 (45, 0, 0) (q / 64)) ||| (jShl 1 (q % 64))))) (show (46 : Nat) ≠ 99 by decide) (by omega) (by omega) (by decide) ?_
      refine x_heq (pa46 (putJ S (45, 0, 0) (q / 64) ((S.2.1 (45, 0, 0) (q / 64)) ||| (jShl 1 (q % 64)))) n q) ?_
      have hw51_2 : WI (putI (putJ S (45, 0, 0) (q / 64) ((S.2.1 (45, 0, 0) (q / 64)) ||| (jShl 1 (q % 64)))) (46, 0, 0) n q) := wpa46 hw44_1 (by omega)
      refine x_iload_n dX3_enqueue_52 rfl ?_
      refine x_iconst dX3_enqueue_53 ?_
      refine x_iadd dX3_enqueue_54 ?_
      exact x_iret dX3_enqueue_55 rfl (Or.inr ⟨fun z => by rcases z with z | z; exact (and_bitI _ (q % 64) (by omega) (by omega)).mpr z (lg0.mp c20); omega, rfl, rfl⟩)
    · refine x_iload_n dX3_enqueue_30 rfl ?_
      exact x_iret dX3_enqueue_31 rfl (Or.inl ⟨by first | exact Or.inl ((and_bitI _ (q % 64) (by omega) (by omega)).mp (fun z => c20 (lg0.mpr z))) | exact Or.inr (by omega), rfl, rfl⟩)
