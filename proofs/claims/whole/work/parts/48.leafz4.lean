/-! listeners: the next change; informing -/
/-- the change at the front is taken: p is its pair -/
def sTake (S : XS) (l : Int) (p : Nat) : XS :=
  let n := S.1 (14, l, 0) 7; let w := S.2.1 (30, l, 0) n ||| S.2.1 (31, l, 0) n; let t : Int64 := jShl 1 p
  let S1 := putJ S (30, l, 0) n (S.2.1 (30, l, 0) n &&& (t ^^^ (-1)))
  let S2 := putJ S1 (31, l, 0) n (S1.2.1 (31, l, 0) n &&& (t ^^^ (-1)))
  let S3 := if w = t then putI S2 (14, l, 0) 7 (n + 1) else S2
  putI S3 (14, l, 0) 9 (S3.1 (14, l, 0) 9 - 1)
def takeV (S : XS) (l : Int) (p : Nat) : Int := if S.2.1 (31, l, 0) (S.1 (14, l, 0) 7) &&& jShl 1 p = 0 then 1 + 64 * S.1 (14, l, 0) 3 + p else -(1 + 64 * S.1 (14, l, 0) 3 + p)
/-- the lowest bit, or 63 -/
def Low (w : Int64) (p : Nat) : Prop := p < 64 ∧ (∀ p' : Nat, p' < p → ¬ bitJ w p') ∧ (p = 63 ∨ bitJ w p)
def pTake (S : XS) (l : Int) : XO → XH → Prop := fun o h' => ∃ p : Nat, Low (S.2.1 (30, l, 0) (S.1 (14, l, 0) 7) ||| S.2.1 (31, l, 0) (S.1 (14, l, 0) 7)) p ∧ o = .inl (some (xI (takeV S l p))) ∧ h' = hp (sTake S l p)
theorem pTi {S S' : XS} {l v : Int} {p : Nat} (h : Low (S.2.1 (30, l, 0) (S.1 (14, l, 0) 7) ||| S.2.1 (31, l, 0) (S.1 (14, l, 0) 7)) p) (e : v = takeV S l p) (e2 : S' = sTake S l p) : pTake S l (.inl (some (xI v))) (hp S') := ⟨p, h, by rw [e], by rw [e2]⟩
set_option maxHeartbeats 4000000 in
set_option maxRecDepth 100000 in
theorem c_hasUntold (S : XS) (hw : WI S) (l : Int) (h1 : 0 ≤ l) (h2 : l < 5) : X mX1_hasUntold 0 (xEnt mX1_hasUntold [xR (14, l, 0)]) [] (hp S) 0 0 (pRet (xI (bI (S.1 (14, l, 0) 7 < S.1 (14, l, 0) 8))) (hp S)) := by
  show X mX1_hasUntold 0 [xR (14, l, 0)] [] (hp S) 0 0 _
  refine x_aload_n dX1_hasUntold_0 rfl ?_
  refine x_get (v := xI (S.1 (14, l, 0) 7)) dX1_hasUntold_1 fl_RX1_35 (hp14 S (by omega) (by omega)) rfl ?_
  have f1_1 := wf14_7 hw (S := S) (b := l) (by omega) (by omega)
  refine x_aload_n dX1_hasUntold_4 rfl ?_
  refine x_get (v := xI (S.1 (14, l, 0) 8)) dX1_hasUntold_5 fl_RX1_38 (hp14 S (by omega) (by omega)) rfl ?_
  have f5_2 := wf14_8 hw (S := S) (b := l) (by omega) (by omega)
  refine x_icmp_ge (tgt := 15) dX1_hasUntold_8 (by decide) (by first | exact hz _ _ | exact hw.1 _ _ | exact zR_of _ | exact bI_z _ | assumption | exact ⟨by omega, by omega⟩) (by first | exact hz _ _ | exact hw.1 _ _ | exact zR_of _ | exact bI_z _ | assumption | exact ⟨by omega, by omega⟩) (fun c8 => ?_) (fun c8 => ?_)
  · refine x_iconst dX1_hasUntold_15 ?_
    exact x_zret dX1_hasUntold_16 rfl (Or.inl rfl) (pRI (bI_f (by omega)).symm)
  · refine x_iconst dX1_hasUntold_11 ?_
    refine x_goto (tgt := 16) dX1_hasUntold_12 (by decide) ?_
    exact x_zret dX1_hasUntold_16 rfl (Or.inr rfl) (pRI (bI_t (by omega)).symm)
set_option maxHeartbeats 4000000 in
set_option maxRecDepth 100000 in
theorem l_takeChange (S : XS) (hw : WI S) (l : Int) (h1 : 0 ≤ l) (h2 : l < 5) (hf : S.1 (14, l, 0) 7 < 120) (hu : 1 ≤ S.1 (14, l, 0) 9) (hq : S.1 (14, l, 0) 7 < S.1 (14, l, 0) 8) : ∀ (nn : Nat) (p : Nat), 64 - (p : Int) < (nn : Int) → (p ≤ 63) → (∀ p' : Nat, p' < p → ¬ bitJ (S.2.1 (30, l, 0) (S.1 (14, l, 0) 7) ||| S.2.1 (31, l, 0) (S.1 (14, l, 0) 7)) p') → X mX1_takeChange 31 [xR (14, l, 0), xJ (S.2.1 (30, l, 0) (S.1 (14, l, 0) 7) ||| S.2.1 (31, l, 0) (S.1 (14, l, 0) 7)), none, xI (p : Int), none, none, none, none] [] (hp S) 0 0 (pTake S l) := by
  intro nn
  induction nn with
  | zero => intro p hm hp hno; exfalso; omega
  | succ nn ih =>
    intro p hm hp hno
    have z7 := wf14_7 hw h1 h2
    have z3 := wf14_3 hw h1 h2
    have z9 := wf14_9 hw h1 h2
    refine x_iload_n dX1_takeChange_31 rfl ?_
    refine x_bipush (v := 63) dX1_takeChange_32 (by decide) ?_
    refine x_icmp_ge (tgt := 53) dX1_takeChange_34 (by decide) (by first | exact hz _ _ | exact hw.1 _ _ | exact zR_of _ | exact bI_z _ | assumption | exact ⟨by omega, by omega⟩) ⟨by decide, by decide⟩ (fun c34 => ?_) (fun c34 => ?_)
    · refine x_lconst (v := 1) dX1_takeChange_53 (by decide) ?_
      refine x_iload_n dX1_takeChange_54 rfl ?_
      refine x_lshl dX1_takeChange_55 ?_
      refine x_lstore (L' := [xR (14, l, 0), xJ (S.2.1 (30, l, 0) (S.1 (14, l, 0) 7) ||| S.2.1 (31, l, 0) (S.1 (14, l, 0) 7)), none, xI (p : Int), xJ (jShl 1 (p : Int)), none, none, none]) dX1_takeChange_56 (by decide) rfl ?_
      refine x_iconst dX1_takeChange_58 ?_
      refine x_bipush (v := 64) dX1_takeChange_59 (by decide) ?_
      refine x_aload_n dX1_takeChange_61 rfl ?_
      refine x_get (v := xI (S.1 (14, l, 0) 3)) dX1_takeChange_62 fl_RX1_22 (hp14 S (by omega) (by omega)) rfl ?_
      have f62_1 := wf14_3 hw (S := S) (b := l) (by omega) (by omega)
      refine x_imul dX1_takeChange_65 ?_
      refine x_iadd dX1_takeChange_66 ?_
      refine x_iload_n dX1_takeChange_67 rfl ?_
      refine x_iadd dX1_takeChange_68 ?_
      refine x_istore (L' := [xR (14, l, 0), xJ (S.2.1 (30, l, 0) (S.1 (14, l, 0) 7) ||| S.2.1 (31, l, 0) (S.1 (14, l, 0) 7)), none, xI (p : Int), xJ (jShl 1 (p : Int)), none, xI ((1 + (64 * (S.1 (14, l, 0) 3))) + (p : Int)), none]) dX1_takeChange_69 (by decide) rfl ?_
      refine x_aload_n dX1_takeChange_71 rfl ?_
      refine x_get (v := xR (31, l, 0)) dX1_takeChange_72 fl_RX1_15 (hp14 S (by omega) (by omega)) rfl ?_
      refine x_aload_n dX1_takeChange_75 rfl ?_
      refine x_get (v := xI (S.1 (14, l, 0) 7)) dX1_takeChange_76 fl_RX1_35 (hp14 S (by omega) (by omega)) rfl ?_
      have f76_2 := wf14_7 hw (S := S) (b := l) (by omega) (by omega)
      refine x_aldj (f := S.2.1 (31, l, 0)) dX1_takeChange_79 (hp31 S (by omega) (by omega)) (show (31 : Nat) ≠ 99 by decide) (by omega) (by omega) (by decide) ?_
      refine x_lload dX1_takeChange_80 rfl ?_
      refine x_land dX1_takeChange_82 ?_
      refine x_lconst (v := 0) dX1_takeChange_83 (by decide) ?_
      refine x_lcmp dX1_takeChange_84 ?_
      refine x_if_eq (tgt := 92) dX1_takeChange_85 (by decide) (by first | exact hz _ _ | exact hw.1 _ _ | exact zR_of _ | exact bI_z _ | assumption | exact ⟨by omega, by omega⟩) (fun c85 => ?_) (fun c85 => ?_)
      · refine x_iconst dX1_takeChange_92 ?_
        refine x_istore (L' := [xR (14, l, 0), xJ (S.2.1 (30, l, 0) (S.1 (14, l, 0) 7) ||| S.2.1 (31, l, 0) (S.1 (14, l, 0) 7)), none, xI (p : Int), xJ (jShl 1 (p : Int)), none, xI ((1 + (64 * (S.1 (14, l, 0) 3))) + (p : Int)), xI 0]) dX1_takeChange_93 (by decide) rfl ?_
        refine x_aload_n dX1_takeChange_95 rfl ?_
        refine x_get (v := xR (30, l, 0)) dX1_takeChange_96 fl_RX1_9 (hp14 S (by omega) (by omega)) rfl ?_
        refine x_aload_n dX1_takeChange_99 rfl ?_
        refine x_get (v := xI (S.1 (14, l, 0) 7)) dX1_takeChange_100 fl_RX1_35 (hp14 S (by omega) (by omega)) rfl ?_
        have f100_3 := wf14_7 hw (S := S) (b := l) (by omega) (by omega)
        refine x_dup2 dX1_takeChange_103 rfl rfl ?_
        refine x_aldj (f := S.2.1 (30, l, 0)) dX1_takeChange_104 (hp30 S (by omega) (by omega)) (show (30 : Nat) ≠ 99 by decide) (by omega) (by omega) (by decide) ?_
        refine x_lload dX1_takeChange_105 rfl ?_
        refine x_ldc2 (v := (-1)) dX1_takeChange_107 wd682 ?_
        refine x_lxor dX1_takeChange_110 ?_
        refine x_land dX1_takeChange_111 ?_
        refine x_astj dX1_takeChange_112 (hp30 S (by omega) (by omega)) (show (30 : Nat) ≠ 99 by decide) (by omega) (by omega) (by decide) ?_
        refine x_heq (pa30 S (by omega) (by omega) (S.1 (14, l, 0) 7) ((S.2.1 (30, l, 0) (S.1 (14, l, 0) 7)) &&& ((jShl 1 (p : Int)) ^^^ (-1)))) ?_
        have hw112_4 : WI (putJ S (30, l, 0) (S.1 (14, l, 0) 7) ((S.2.1 (30, l, 0) (S.1 (14, l, 0) 7)) &&& ((jShl 1 (p : Int)) ^^^ (-1)))) := hw.puJ
        refine x_aload_n dX1_takeChange_113 rfl ?_
        refine x_get (v := xR (31, l, 0)) dX1_takeChange_114 fl_RX1_15 (hp14 (putJ S (30, l, 0) (S.1 (14, l, 0) 7) ((S.2.1 (30, l, 0) (S.1 (14, l, 0) 7)) &&& ((jShl 1 (p : Int)) ^^^ (-1)))) (by omega) (by omega)) rfl ?_
        refine x_aload_n dX1_takeChange_117 rfl ?_
        refine x_get (v := xI (S.1 (14, l, 0) 7)) dX1_takeChange_118 fl_RX1_35 (hp14 (putJ S (30, l, 0) (S.1 (14, l, 0) 7) ((S.2.1 (30, l, 0) (S.1 (14, l, 0) 7)) &&& ((jShl 1 (p : Int)) ^^^ (-1)))) (by omega) (by omega)) rfl ?_
        have f118_5 := wf14_7 hw (S := S) (b := l) (by omega) (by omega)
        refine x_dup2 dX1_takeChange_121 rfl rfl ?_
        refine x_aldj (f := S.2.1 (31, l, 0)) dX1_takeChange_122 (hp31 (putJ S (30, l, 0) (S.1 (14, l, 0) 7) ((S.2.1 (30, l, 0) (S.1 (14, l, 0) 7)) &&& ((jShl 1 (p : Int)) ^^^ (-1)))) (by omega) (by omega)) (show (31 : Nat) ≠ 99 by decide) (by omega) (by omega) (by decide) ?_
        refine x_lload dX1_takeChange_123 rfl ?_
        refine x_ldc2 (v := (-1)) dX1_takeChange_125 wd682 ?_
        refine x_lxor dX1_takeChange_128 ?_
        refine x_land dX1_takeChange_129 ?_
        refine x_astj dX1_takeChange_130 (hp31 (putJ S (30, l, 0) (S.1 (14, l, 0) 7) ((S.2.1 (30, l, 0) (S.1 (14, l, 0) 7)) &&& ((jShl 1 (p : Int)) ^^^ (-1)))) (by omega) (by omega)) (show (31 : Nat) ≠ 99 by decide) (by omega) (by omega) (by decide) ?_
        refine x_heq (pa31 (putJ S (30, l, 0) (S.1 (14, l, 0) 7) ((S.2.1 (30, l, 0) (S.1 (14, l, 0) 7)) &&& ((jShl 1 (p : Int)) ^^^ (-1)))) (by omega) (by omega) (S.1 (14, l, 0) 7) ((S.2.1 (31, l, 0) (S.1 (14, l, 0) 7)) &&& ((jShl 1 (p : Int)) ^^^ (-1)))) ?_
        have hw130_6 : WI (putJ (putJ S (30, l, 0) (S.1 (14, l, 0) 7) ((S.2.1 (30, l, 0) (S.1 (14, l, 0) 7)) &&& ((jShl 1 (p : Int)) ^^^ (-1)))) (31, l, 0) (S.1 (14, l, 0) 7) ((S.2.1 (31, l, 0) (S.1 (14, l, 0) 7)) &&& ((jShl 1 (p : Int)) ^^^ (-1)))) := hw112_4.puJ
        refine x_lload_n dX1_takeChange_131 rfl ?_
        refine x_lload dX1_takeChange_132 rfl ?_
        refine x_lcmp dX1_takeChange_134 ?_
        refine x_if_ne (tgt := 148) dX1_takeChange_135 (by decide) (by first | exact hz _ _ | exact hw.1 _ _ | exact zR_of _ | exact bI_z _ | assumption | exact ⟨by omega, by omega⟩) (fun c135 => ?_) (fun c135 => ?_)
        · refine x_aload_n dX1_takeChange_148 rfl ?_
          refine x_dup dX1_takeChange_149 rfl ?_
          refine x_get (v := xI (S.1 (14, l, 0) 9)) dX1_takeChange_150 fl_RX1_41 (hp14 (putJ (putJ S (30, l, 0) (S.1 (14, l, 0) 7) ((S.2.1 (30, l, 0) (S.1 (14, l, 0) 7)) &&& ((jShl 1 (p : Int)) ^^^ (-1)))) (31, l, 0) (S.1 (14, l, 0) 7) ((S.2.1 (31, l, 0) (S.1 (14, l, 0) 7)) &&& ((jShl 1 (p : Int)) ^^^ (-1)))) (by omega) (by omega)) rfl ?_
          have f150_7 := wf14_9 hw (S := S) (b := l) (by omega) (by omega)
          refine x_top (show S.1 (14, l, 0) 9 = S.1 (14, l, 0) 9 from by first | rfl | simp [putI, putJ, xUpd]) ?_
          refine x_iconst dX1_takeChange_153 ?_
          refine x_isub dX1_takeChange_154 ?_
          refine x_put dX1_takeChange_155 fl_RX1_41 (fun r hr => by cases hr; rfl) (hp14 (putJ (putJ S (30, l, 0) (S.1 (14, l, 0) 7) ((S.2.1 (30, l, 0) (S.1 (14, l, 0) 7)) &&& ((jShl 1 (p : Int)) ^^^ (-1)))) (31, l, 0) (S.1 (14, l, 0) 7) ((S.2.1 (31, l, 0) (S.1 (14, l, 0) 7)) &&& ((jShl 1 (p : Int)) ^^^ (-1)))) (by omega) (by omega)) xfit_i (Nat.le_of_ble_eq_true rfl) rfl ?_
          refine x_heq (pu14_9 (putJ (putJ S (30, l, 0) (S.1 (14, l, 0) 7) ((S.2.1 (30, l, 0) (S.1 (14, l, 0) 7)) &&& ((jShl 1 (p : Int)) ^^^ (-1)))) (31, l, 0) (S.1 (14, l, 0) 7) ((S.2.1 (31, l, 0) (S.1 (14, l, 0) 7)) &&& ((jShl 1 (p : Int)) ^^^ (-1)))) (by omega) (by omega) ((S.1 (14, l, 0) 9) - 1)) ?_
          have hw155_8 : WI (putI (putJ (putJ S (30, l, 0) (S.1 (14, l, 0) 7) ((S.2.1 (30, l, 0) (S.1 (14, l, 0) 7)) &&& ((jShl 1 (p : Int)) ^^^ (-1)))) (31, l, 0) (S.1 (14, l, 0) 7) ((S.2.1 (31, l, 0) (S.1 (14, l, 0) 7)) &&& ((jShl 1 (p : Int)) ^^^ (-1)))) (14, l, 0) 9 ((S.1 (14, l, 0) 9) - 1)) := wp14_9 hw130_6 (by omega) (by omega) (by omega)
          refine x_iload dX1_takeChange_158 rfl ?_
          refine x_if_eq (tgt := 169) dX1_takeChange_160 (by decide) ⟨by decide, by decide⟩ (fun _ => ?_) (fun z => absurd z (by decide))
          refine x_iload dX1_takeChange_169 rfl ?_
          exact x_iret dX1_takeChange_171 rfl (pTi ⟨by omega, hno, by first | exact Or.inl (by omega) | exact Or.inr c44⟩ (by unfold takeV; first | rw [if_pos (lg0.mp c85)] | rw [if_neg (fun z => c85 (lg0.mpr z))]) (by unfold sTake; dsimp only; (first | rw [if_pos (lg0.mp c135)] | rw [if_neg (fun z => c135 (lg0.mpr z))]); first | rfl | simp [putI, putJ, xUpd]))
        · refine x_aload_n dX1_takeChange_138 rfl ?_
          refine x_dup dX1_takeChange_139 rfl ?_
          refine x_get (v := xI (S.1 (14, l, 0) 7)) dX1_takeChange_140 fl_RX1_35 (hp14 (putJ (putJ S (30, l, 0) (S.1 (14, l, 0) 7) ((S.2.1 (30, l, 0) (S.1 (14, l, 0) 7)) &&& ((jShl 1 (p : Int)) ^^^ (-1)))) (31, l, 0) (S.1 (14, l, 0) 7) ((S.2.1 (31, l, 0) (S.1 (14, l, 0) 7)) &&& ((jShl 1 (p : Int)) ^^^ (-1)))) (by omega) (by omega)) rfl ?_
          have f140_9 := wf14_7 hw (S := S) (b := l) (by omega) (by omega)
          refine x_iconst dX1_takeChange_143 ?_
          refine x_iadd dX1_takeChange_144 ?_
          refine x_put dX1_takeChange_145 fl_RX1_35 (fun r hr => by cases hr; rfl) (hp14 (putJ (putJ S (30, l, 0) (S.1 (14, l, 0) 7) ((S.2.1 (30, l, 0) (S.1 (14, l, 0) 7)) &&& ((jShl 1 (p : Int)) ^^^ (-1)))) (31, l, 0) (S.1 (14, l, 0) 7) ((S.2.1 (31, l, 0) (S.1 (14, l, 0) 7)) &&& ((jShl 1 (p : Int)) ^^^ (-1)))) (by omega) (by omega)) xfit_i (Nat.le_of_ble_eq_true rfl) rfl ?_
          refine x_heq (pu14_7 (putJ (putJ S (30, l, 0) (S.1 (14, l, 0) 7) ((S.2.1 (30, l, 0) (S.1 (14, l, 0) 7)) &&& ((jShl 1 (p : Int)) ^^^ (-1)))) (31, l, 0) (S.1 (14, l, 0) 7) ((S.2.1 (31, l, 0) (S.1 (14, l, 0) 7)) &&& ((jShl 1 (p : Int)) ^^^ (-1)))) (by omega) (by omega) ((S.1 (14, l, 0) 7) + 1)) ?_
          have hw145_10 : WI (putI (putJ (putJ S (30, l, 0) (S.1 (14, l, 0) 7) ((S.2.1 (30, l, 0) (S.1 (14, l, 0) 7)) &&& ((jShl 1 (p : Int)) ^^^ (-1)))) (31, l, 0) (S.1 (14, l, 0) 7) ((S.2.1 (31, l, 0) (S.1 (14, l, 0) 7)) &&& ((jShl 1 (p : Int)) ^^^ (-1)))) (14, l, 0) 7 ((S.1 (14, l, 0) 7) + 1)) := wp14_7 hw130_6 (by omega) (by omega) (by omega)
          refine x_aload_n dX1_takeChange_148 rfl ?_
          refine x_dup dX1_takeChange_149 rfl ?_
          refine x_get (v := xI ((putI (putJ (putJ S (30, l, 0) (S.1 (14, l, 0) 7) ((S.2.1 (30, l, 0) (S.1 (14, l, 0) 7)) &&& ((jShl 1 (p : Int)) ^^^ (-1)))) (31, l, 0) (S.1 (14, l, 0) 7) ((S.2.1 (31, l, 0) (S.1 (14, l, 0) 7)) &&& ((jShl 1 (p : Int)) ^^^ (-1)))) (14, l, 0) 7 ((S.1 (14, l, 0) 7) + 1)).1 (14, l, 0) 9)) dX1_takeChange_150 fl_RX1_41 (hp14 (putI (putJ (putJ S (30, l, 0) (S.1 (14, l, 0) 7) ((S.2.1 (30, l, 0) (S.1 (14, l, 0) 7)) &&& ((jShl 1 (p : Int)) ^^^ (-1)))) (31, l, 0) (S.1 (14, l, 0) 7) ((S.2.1 (31, l, 0) (S.1 (14, l, 0) 7)) &&& ((jShl 1 (p : Int)) ^^^ (-1)))) (14, l, 0) 7 ((S.1 (14, l, 0) 7) + 1)) (by omega) (by omega)) rfl ?_
          have f150_11 := wf14_9 hw145_10 (S := putI (putJ (putJ S (30, l, 0) (S.1 (14, l, 0) 7) ((S.2.1 (30, l, 0) (S.1 (14, l, 0) 7)) &&& ((jShl 1 (p : Int)) ^^^ (-1)))) (31, l, 0) (S.1 (14, l, 0) 7) ((S.2.1 (31, l, 0) (S.1 (14, l, 0) 7)) &&& ((jShl 1 (p : Int)) ^^^ (-1)))) (14, l, 0) 7 ((S.1 (14, l, 0) 7) + 1)) (b := l) (by omega) (by omega)
          refine x_top (show (putI (putJ (putJ S (30, l, 0) (S.1 (14, l, 0) 7) ((S.2.1 (30, l, 0) (S.1 (14, l, 0) 7)) &&& ((jShl 1 (p : Int)) ^^^ (-1)))) (31, l, 0) (S.1 (14, l, 0) 7) ((S.2.1 (31, l, 0) (S.1 (14, l, 0) 7)) &&& ((jShl 1 (p : Int)) ^^^ (-1)))) (14, l, 0) 7 ((S.1 (14, l, 0) 7) + 1)).1 (14, l, 0) 9 = S.1 (14, l, 0) 9 from by first | rfl | simp [putI, putJ, xUpd]) ?_
          refine x_iconst dX1_takeChange_153 ?_
          refine x_isub dX1_takeChange_154 ?_
          refine x_put dX1_takeChange_155 fl_RX1_41 (fun r hr => by cases hr; rfl) (hp14 (putI (putJ (putJ S (30, l, 0) (S.1 (14, l, 0) 7) ((S.2.1 (30, l, 0) (S.1 (14, l, 0) 7)) &&& ((jShl 1 (p : Int)) ^^^ (-1)))) (31, l, 0) (S.1 (14, l, 0) 7) ((S.2.1 (31, l, 0) (S.1 (14, l, 0) 7)) &&& ((jShl 1 (p : Int)) ^^^ (-1)))) (14, l, 0) 7 ((S.1 (14, l, 0) 7) + 1)) (by omega) (by omega)) xfit_i (Nat.le_of_ble_eq_true rfl) rfl ?_
          refine x_heq (pu14_9 (putI (putJ (putJ S (30, l, 0) (S.1 (14, l, 0) 7) ((S.2.1 (30, l, 0) (S.1 (14, l, 0) 7)) &&& ((jShl 1 (p : Int)) ^^^ (-1)))) (31, l, 0) (S.1 (14, l, 0) 7) ((S.2.1 (31, l, 0) (S.1 (14, l, 0) 7)) &&& ((jShl 1 (p : Int)) ^^^ (-1)))) (14, l, 0) 7 ((S.1 (14, l, 0) 7) + 1)) (by omega) (by omega) ((S.1 (14, l, 0) 9) - 1)) ?_
          have hw155_12 : WI (putI (putI (putJ (putJ S (30, l, 0) (S.1 (14, l, 0) 7) ((S.2.1 (30, l, 0) (S.1 (14, l, 0) 7)) &&& ((jShl 1 (p : Int)) ^^^ (-1)))) (31, l, 0) (S.1 (14, l, 0) 7) ((S.2.1 (31, l, 0) (S.1 (14, l, 0) 7)) &&& ((jShl 1 (p : Int)) ^^^ (-1)))) (14, l, 0) 7 ((S.1 (14, l, 0) 7) + 1)) (14, l, 0) 9 ((S.1 (14, l, 0) 9) - 1)) := wp14_9 hw145_10 (by omega) (by omega) (by omega)
          refine x_iload dX1_takeChange_158 rfl ?_
          refine x_if_eq (tgt := 169) dX1_takeChange_160 (by decide) ⟨by decide, by decide⟩ (fun _ => ?_) (fun z => absurd z (by decide))
          refine x_iload dX1_takeChange_169 rfl ?_
          exact x_iret dX1_takeChange_171 rfl (pTi ⟨by omega, hno, by first | exact Or.inl (by omega) | exact Or.inr c44⟩ (by unfold takeV; first | rw [if_pos (lg0.mp c85)] | rw [if_neg (fun z => c85 (lg0.mpr z))]) (by unfold sTake; dsimp only; (first | rw [if_pos (lg0.mp c135)] | rw [if_neg (fun z => c135 (lg0.mpr z))]); first | rfl | simp [putI, putJ, xUpd]))
      · refine x_iconst dX1_takeChange_88 ?_
        refine x_goto (tgt := 93) dX1_takeChange_89 (by decide) ?_
        refine x_istore (L' := [xR (14, l, 0), xJ (S.2.1 (30, l, 0) (S.1 (14, l, 0) 7) ||| S.2.1 (31, l, 0) (S.1 (14, l, 0) 7)), none, xI (p : Int), xJ (jShl 1 (p : Int)), none, xI ((1 + (64 * (S.1 (14, l, 0) 3))) + (p : Int)), xI 1]) dX1_takeChange_93 (by decide) rfl ?_
        refine x_aload_n dX1_takeChange_95 rfl ?_
        refine x_get (v := xR (30, l, 0)) dX1_takeChange_96 fl_RX1_9 (hp14 S (by omega) (by omega)) rfl ?_
        refine x_aload_n dX1_takeChange_99 rfl ?_
        refine x_get (v := xI (S.1 (14, l, 0) 7)) dX1_takeChange_100 fl_RX1_35 (hp14 S (by omega) (by omega)) rfl ?_
        have f100_13 := wf14_7 hw (S := S) (b := l) (by omega) (by omega)
        refine x_dup2 dX1_takeChange_103 rfl rfl ?_
        refine x_aldj (f := S.2.1 (30, l, 0)) dX1_takeChange_104 (hp30 S (by omega) (by omega)) (show (30 : Nat) ≠ 99 by decide) (by omega) (by omega) (by decide) ?_
        refine x_lload dX1_takeChange_105 rfl ?_
        refine x_ldc2 (v := (-1)) dX1_takeChange_107 wd682 ?_
        refine x_lxor dX1_takeChange_110 ?_
        refine x_land dX1_takeChange_111 ?_
        refine x_astj dX1_takeChange_112 (hp30 S (by omega) (by omega)) (show (30 : Nat) ≠ 99 by decide) (by omega) (by omega) (by decide) ?_
        refine x_heq (pa30 S (by omega) (by omega) (S.1 (14, l, 0) 7) ((S.2.1 (30, l, 0) (S.1 (14, l, 0) 7)) &&& ((jShl 1 (p : Int)) ^^^ (-1)))) ?_
        have hw112_14 : WI (putJ S (30, l, 0) (S.1 (14, l, 0) 7) ((S.2.1 (30, l, 0) (S.1 (14, l, 0) 7)) &&& ((jShl 1 (p : Int)) ^^^ (-1)))) := hw.puJ
        refine x_aload_n dX1_takeChange_113 rfl ?_
        refine x_get (v := xR (31, l, 0)) dX1_takeChange_114 fl_RX1_15 (hp14 (putJ S (30, l, 0) (S.1 (14, l, 0) 7) ((S.2.1 (30, l, 0) (S.1 (14, l, 0) 7)) &&& ((jShl 1 (p : Int)) ^^^ (-1)))) (by omega) (by omega)) rfl ?_
        refine x_aload_n dX1_takeChange_117 rfl ?_
        refine x_get (v := xI (S.1 (14, l, 0) 7)) dX1_takeChange_118 fl_RX1_35 (hp14 (putJ S (30, l, 0) (S.1 (14, l, 0) 7) ((S.2.1 (30, l, 0) (S.1 (14, l, 0) 7)) &&& ((jShl 1 (p : Int)) ^^^ (-1)))) (by omega) (by omega)) rfl ?_
        have f118_15 := wf14_7 hw (S := S) (b := l) (by omega) (by omega)
        refine x_dup2 dX1_takeChange_121 rfl rfl ?_
        refine x_aldj (f := S.2.1 (31, l, 0)) dX1_takeChange_122 (hp31 (putJ S (30, l, 0) (S.1 (14, l, 0) 7) ((S.2.1 (30, l, 0) (S.1 (14, l, 0) 7)) &&& ((jShl 1 (p : Int)) ^^^ (-1)))) (by omega) (by omega)) (show (31 : Nat) ≠ 99 by decide) (by omega) (by omega) (by decide) ?_
        refine x_lload dX1_takeChange_123 rfl ?_
        refine x_ldc2 (v := (-1)) dX1_takeChange_125 wd682 ?_
        refine x_lxor dX1_takeChange_128 ?_
        refine x_land dX1_takeChange_129 ?_
        refine x_astj dX1_takeChange_130 (hp31 (putJ S (30, l, 0) (S.1 (14, l, 0) 7) ((S.2.1 (30, l, 0) (S.1 (14, l, 0) 7)) &&& ((jShl 1 (p : Int)) ^^^ (-1)))) (by omega) (by omega)) (show (31 : Nat) ≠ 99 by decide) (by omega) (by omega) (by decide) ?_
        refine x_heq (pa31 (putJ S (30, l, 0) (S.1 (14, l, 0) 7) ((S.2.1 (30, l, 0) (S.1 (14, l, 0) 7)) &&& ((jShl 1 (p : Int)) ^^^ (-1)))) (by omega) (by omega) (S.1 (14, l, 0) 7) ((S.2.1 (31, l, 0) (S.1 (14, l, 0) 7)) &&& ((jShl 1 (p : Int)) ^^^ (-1)))) ?_
        have hw130_16 : WI (putJ (putJ S (30, l, 0) (S.1 (14, l, 0) 7) ((S.2.1 (30, l, 0) (S.1 (14, l, 0) 7)) &&& ((jShl 1 (p : Int)) ^^^ (-1)))) (31, l, 0) (S.1 (14, l, 0) 7) ((S.2.1 (31, l, 0) (S.1 (14, l, 0) 7)) &&& ((jShl 1 (p : Int)) ^^^ (-1)))) := hw112_14.puJ
        refine x_lload_n dX1_takeChange_131 rfl ?_
        refine x_lload dX1_takeChange_132 rfl ?_
        refine x_lcmp dX1_takeChange_134 ?_
        refine x_if_ne (tgt := 148) dX1_takeChange_135 (by decide) (by first | exact hz _ _ | exact hw.1 _ _ | exact zR_of _ | exact bI_z _ | assumption | exact ⟨by omega, by omega⟩) (fun c135 => ?_) (fun c135 => ?_)
        · refine x_aload_n dX1_takeChange_148 rfl ?_
          refine x_dup dX1_takeChange_149 rfl ?_
          refine x_get (v := xI (S.1 (14, l, 0) 9)) dX1_takeChange_150 fl_RX1_41 (hp14 (putJ (putJ S (30, l, 0) (S.1 (14, l, 0) 7) ((S.2.1 (30, l, 0) (S.1 (14, l, 0) 7)) &&& ((jShl 1 (p : Int)) ^^^ (-1)))) (31, l, 0) (S.1 (14, l, 0) 7) ((S.2.1 (31, l, 0) (S.1 (14, l, 0) 7)) &&& ((jShl 1 (p : Int)) ^^^ (-1)))) (by omega) (by omega)) rfl ?_
          have f150_17 := wf14_9 hw (S := S) (b := l) (by omega) (by omega)
          refine x_top (show S.1 (14, l, 0) 9 = S.1 (14, l, 0) 9 from by first | rfl | simp [putI, putJ, xUpd]) ?_
          refine x_iconst dX1_takeChange_153 ?_
          refine x_isub dX1_takeChange_154 ?_
          refine x_put dX1_takeChange_155 fl_RX1_41 (fun r hr => by cases hr; rfl) (hp14 (putJ (putJ S (30, l, 0) (S.1 (14, l, 0) 7) ((S.2.1 (30, l, 0) (S.1 (14, l, 0) 7)) &&& ((jShl 1 (p : Int)) ^^^ (-1)))) (31, l, 0) (S.1 (14, l, 0) 7) ((S.2.1 (31, l, 0) (S.1 (14, l, 0) 7)) &&& ((jShl 1 (p : Int)) ^^^ (-1)))) (by omega) (by omega)) xfit_i (Nat.le_of_ble_eq_true rfl) rfl ?_
          refine x_heq (pu14_9 (putJ (putJ S (30, l, 0) (S.1 (14, l, 0) 7) ((S.2.1 (30, l, 0) (S.1 (14, l, 0) 7)) &&& ((jShl 1 (p : Int)) ^^^ (-1)))) (31, l, 0) (S.1 (14, l, 0) 7) ((S.2.1 (31, l, 0) (S.1 (14, l, 0) 7)) &&& ((jShl 1 (p : Int)) ^^^ (-1)))) (by omega) (by omega) ((S.1 (14, l, 0) 9) - 1)) ?_
          have hw155_18 : WI (putI (putJ (putJ S (30, l, 0) (S.1 (14, l, 0) 7) ((S.2.1 (30, l, 0) (S.1 (14, l, 0) 7)) &&& ((jShl 1 (p : Int)) ^^^ (-1)))) (31, l, 0) (S.1 (14, l, 0) 7) ((S.2.1 (31, l, 0) (S.1 (14, l, 0) 7)) &&& ((jShl 1 (p : Int)) ^^^ (-1)))) (14, l, 0) 9 ((S.1 (14, l, 0) 9) - 1)) := wp14_9 hw130_16 (by omega) (by omega) (by omega)
          refine x_iload dX1_takeChange_158 rfl ?_
          refine x_if_eq (tgt := 169) dX1_takeChange_160 (by decide) ⟨by decide, by decide⟩ (fun z => absurd z (by decide)) (fun _ => ?_)
          refine x_iload dX1_takeChange_163 rfl ?_
          refine x_ineg dX1_takeChange_165 ?_
          refine x_goto (tgt := 171) dX1_takeChange_166 (by decide) ?_
          exact x_iret dX1_takeChange_171 rfl (pTi ⟨by omega, hno, by first | exact Or.inl (by omega) | exact Or.inr c44⟩ (by unfold takeV; first | rw [if_pos (lg0.mp c85)] | rw [if_neg (fun z => c85 (lg0.mpr z))]) (by unfold sTake; dsimp only; (first | rw [if_pos (lg0.mp c135)] | rw [if_neg (fun z => c135 (lg0.mpr z))]); first | rfl | simp [putI, putJ, xUpd]))
        · refine x_aload_n dX1_takeChange_138 rfl ?_
          refine x_dup dX1_takeChange_139 rfl ?_
          refine x_get (v := xI (S.1 (14, l, 0) 7)) dX1_takeChange_140 fl_RX1_35 (hp14 (putJ (putJ S (30, l, 0) (S.1 (14, l, 0) 7) ((S.2.1 (30, l, 0) (S.1 (14, l, 0) 7)) &&& ((jShl 1 (p : Int)) ^^^ (-1)))) (31, l, 0) (S.1 (14, l, 0) 7) ((S.2.1 (31, l, 0) (S.1 (14, l, 0) 7)) &&& ((jShl 1 (p : Int)) ^^^ (-1)))) (by omega) (by omega)) rfl ?_
          have f140_19 := wf14_7 hw (S := S) (b := l) (by omega) (by omega)
          refine x_iconst dX1_takeChange_143 ?_
          refine x_iadd dX1_takeChange_144 ?_
          refine x_put dX1_takeChange_145 fl_RX1_35 (fun r hr => by cases hr; rfl) (hp14 (putJ (putJ S (30, l, 0) (S.1 (14, l, 0) 7) ((S.2.1 (30, l, 0) (S.1 (14, l, 0) 7)) &&& ((jShl 1 (p : Int)) ^^^ (-1)))) (31, l, 0) (S.1 (14, l, 0) 7) ((S.2.1 (31, l, 0) (S.1 (14, l, 0) 7)) &&& ((jShl 1 (p : Int)) ^^^ (-1)))) (by omega) (by omega)) xfit_i (Nat.le_of_ble_eq_true rfl) rfl ?_
          refine x_heq (pu14_7 (putJ (putJ S (30, l, 0) (S.1 (14, l, 0) 7) ((S.2.1 (30, l, 0) (S.1 (14, l, 0) 7)) &&& ((jShl 1 (p : Int)) ^^^ (-1)))) (31, l, 0) (S.1 (14, l, 0) 7) ((S.2.1 (31, l, 0) (S.1 (14, l, 0) 7)) &&& ((jShl 1 (p : Int)) ^^^ (-1)))) (by omega) (by omega) ((S.1 (14, l, 0) 7) + 1)) ?_
          have hw145_20 : WI (putI (putJ (putJ S (30, l, 0) (S.1 (14, l, 0) 7) ((S.2.1 (30, l, 0) (S.1 (14, l, 0) 7)) &&& ((jShl 1 (p : Int)) ^^^ (-1)))) (31, l, 0) (S.1 (14, l, 0) 7) ((S.2.1 (31, l, 0) (S.1 (14, l, 0) 7)) &&& ((jShl 1 (p : Int)) ^^^ (-1)))) (14, l, 0) 7 ((S.1 (14, l, 0) 7) + 1)) := wp14_7 hw130_16 (by omega) (by omega) (by omega)
          refine x_aload_n dX1_takeChange_148 rfl ?_
          refine x_dup dX1_takeChange_149 rfl ?_
          refine x_get (v := xI ((putI (putJ (putJ S (30, l, 0) (S.1 (14, l, 0) 7) ((S.2.1 (30, l, 0) (S.1 (14, l, 0) 7)) &&& ((jShl 1 (p : Int)) ^^^ (-1)))) (31, l, 0) (S.1 (14, l, 0) 7) ((S.2.1 (31, l, 0) (S.1 (14, l, 0) 7)) &&& ((jShl 1 (p : Int)) ^^^ (-1)))) (14, l, 0) 7 ((S.1 (14, l, 0) 7) + 1)).1 (14, l, 0) 9)) dX1_takeChange_150 fl_RX1_41 (hp14 (putI (putJ (putJ S (30, l, 0) (S.1 (14, l, 0) 7) ((S.2.1 (30, l, 0) (S.1 (14, l, 0) 7)) &&& ((jShl 1 (p : Int)) ^^^ (-1)))) (31, l, 0) (S.1 (14, l, 0) 7) ((S.2.1 (31, l, 0) (S.1 (14, l, 0) 7)) &&& ((jShl 1 (p : Int)) ^^^ (-1)))) (14, l, 0) 7 ((S.1 (14, l, 0) 7) + 1)) (by omega) (by omega)) rfl ?_
          have f150_21 := wf14_9 hw145_20 (S := putI (putJ (putJ S (30, l, 0) (S.1 (14, l, 0) 7) ((S.2.1 (30, l, 0) (S.1 (14, l, 0) 7)) &&& ((jShl 1 (p : Int)) ^^^ (-1)))) (31, l, 0) (S.1 (14, l, 0) 7) ((S.2.1 (31, l, 0) (S.1 (14, l, 0) 7)) &&& ((jShl 1 (p : Int)) ^^^ (-1)))) (14, l, 0) 7 ((S.1 (14, l, 0) 7) + 1)) (b := l) (by omega) (by omega)
          refine x_top (show (putI (putJ (putJ S (30, l, 0) (S.1 (14, l, 0) 7) ((S.2.1 (30, l, 0) (S.1 (14, l, 0) 7)) &&& ((jShl 1 (p : Int)) ^^^ (-1)))) (31, l, 0) (S.1 (14, l, 0) 7) ((S.2.1 (31, l, 0) (S.1 (14, l, 0) 7)) &&& ((jShl 1 (p : Int)) ^^^ (-1)))) (14, l, 0) 7 ((S.1 (14, l, 0) 7) + 1)).1 (14, l, 0) 9 = S.1 (14, l, 0) 9 from by first | rfl | simp [putI, putJ, xUpd]) ?_
          refine x_iconst dX1_takeChange_153 ?_
          refine x_isub dX1_takeChange_154 ?_
          refine x_put dX1_takeChange_155 fl_RX1_41 (fun r hr => by cases hr; rfl) (hp14 (putI (putJ (putJ S (30, l, 0) (S.1 (14, l, 0) 7) ((S.2.1 (30, l, 0) (S.1 (14, l, 0) 7)) &&& ((jShl 1 (p : Int)) ^^^ (-1)))) (31, l, 0) (S.1 (14, l, 0) 7) ((S.2.1 (31, l, 0) (S.1 (14, l, 0) 7)) &&& ((jShl 1 (p : Int)) ^^^ (-1)))) (14, l, 0) 7 ((S.1 (14, l, 0) 7) + 1)) (by omega) (by omega)) xfit_i (Nat.le_of_ble_eq_true rfl) rfl ?_
          refine x_heq (pu14_9 (putI (putJ (putJ S (30, l, 0) (S.1 (14, l, 0) 7) ((S.2.1 (30, l, 0) (S.1 (14, l, 0) 7)) &&& ((jShl 1 (p : Int)) ^^^ (-1)))) (31, l, 0) (S.1 (14, l, 0) 7) ((S.2.1 (31, l, 0) (S.1 (14, l, 0) 7)) &&& ((jShl 1 (p : Int)) ^^^ (-1)))) (14, l, 0) 7 ((S.1 (14, l, 0) 7) + 1)) (by omega) (by omega) ((S.1 (14, l, 0) 9) - 1)) ?_
          have hw155_22 : WI (putI (putI (putJ (putJ S (30, l, 0) (S.1 (14, l, 0) 7) ((S.2.1 (30, l, 0) (S.1 (14, l, 0) 7)) &&& ((jShl 1 (p : Int)) ^^^ (-1)))) (31, l, 0) (S.1 (14, l, 0) 7) ((S.2.1 (31, l, 0) (S.1 (14, l, 0) 7)) &&& ((jShl 1 (p : Int)) ^^^ (-1)))) (14, l, 0) 7 ((S.1 (14, l, 0) 7) + 1)) (14, l, 0) 9 ((S.1 (14, l, 0) 9) - 1)) := wp14_9 hw145_20 (by omega) (by omega) (by omega)
          refine x_iload dX1_takeChange_158 rfl ?_
          refine x_if_eq (tgt := 169) dX1_takeChange_160 (by decide) ⟨by decide, by decide⟩ (fun z => absurd z (by decide)) (fun _ => ?_)
          refine x_iload dX1_takeChange_163 rfl ?_
          refine x_ineg dX1_takeChange_165 ?_
          refine x_goto (tgt := 171) dX1_takeChange_166 (by decide) ?_
          exact x_iret dX1_takeChange_171 rfl (pTi ⟨by omega, hno, by first | exact Or.inl (by omega) | exact Or.inr c44⟩ (by unfold takeV; first | rw [if_pos (lg0.mp c85)] | rw [if_neg (fun z => c85 (lg0.mpr z))]) (by unfold sTake; dsimp only; (first | rw [if_pos (lg0.mp c135)] | rw [if_neg (fun z => c135 (lg0.mpr z))]); first | rfl | simp [putI, putJ, xUpd]))
    · refine x_lload_n dX1_takeChange_37 rfl ?_
      refine x_iload_n dX1_takeChange_38 rfl ?_
      refine x_lushr dX1_takeChange_39 ?_
      refine x_lconst (v := 1) dX1_takeChange_40 (by decide) ?_
      refine x_land dX1_takeChange_41 ?_
      refine x_lconst (v := 0) dX1_takeChange_42 (by decide) ?_
      refine x_lcmp dX1_takeChange_43 ?_
      refine x_if_ne (tgt := 53) dX1_takeChange_44 (by decide) (by first | exact hz _ _ | exact hw.1 _ _ | exact zR_of _ | exact bI_z _ | assumption | exact ⟨by omega, by omega⟩) (fun c44 => ?_) (fun c44 => ?_)
      · refine x_lconst (v := 1) dX1_takeChange_53 (by decide) ?_
        refine x_iload_n dX1_takeChange_54 rfl ?_
        refine x_lshl dX1_takeChange_55 ?_
        refine x_lstore (L' := [xR (14, l, 0), xJ (S.2.1 (30, l, 0) (S.1 (14, l, 0) 7) ||| S.2.1 (31, l, 0) (S.1 (14, l, 0) 7)), none, xI (p : Int), xJ (jShl 1 (p : Int)), none, none, none]) dX1_takeChange_56 (by decide) rfl ?_
        refine x_iconst dX1_takeChange_58 ?_
        refine x_bipush (v := 64) dX1_takeChange_59 (by decide) ?_
        refine x_aload_n dX1_takeChange_61 rfl ?_
        refine x_get (v := xI (S.1 (14, l, 0) 3)) dX1_takeChange_62 fl_RX1_22 (hp14 S (by omega) (by omega)) rfl ?_
        have f62_23 := wf14_3 hw (S := S) (b := l) (by omega) (by omega)
        refine x_imul dX1_takeChange_65 ?_
        refine x_iadd dX1_takeChange_66 ?_
        refine x_iload_n dX1_takeChange_67 rfl ?_
        refine x_iadd dX1_takeChange_68 ?_
        refine x_istore (L' := [xR (14, l, 0), xJ (S.2.1 (30, l, 0) (S.1 (14, l, 0) 7) ||| S.2.1 (31, l, 0) (S.1 (14, l, 0) 7)), none, xI (p : Int), xJ (jShl 1 (p : Int)), none, xI ((1 + (64 * (S.1 (14, l, 0) 3))) + (p : Int)), none]) dX1_takeChange_69 (by decide) rfl ?_
        refine x_aload_n dX1_takeChange_71 rfl ?_
        refine x_get (v := xR (31, l, 0)) dX1_takeChange_72 fl_RX1_15 (hp14 S (by omega) (by omega)) rfl ?_
        refine x_aload_n dX1_takeChange_75 rfl ?_
        refine x_get (v := xI (S.1 (14, l, 0) 7)) dX1_takeChange_76 fl_RX1_35 (hp14 S (by omega) (by omega)) rfl ?_
        have f76_24 := wf14_7 hw (S := S) (b := l) (by omega) (by omega)
        refine x_aldj (f := S.2.1 (31, l, 0)) dX1_takeChange_79 (hp31 S (by omega) (by omega)) (show (31 : Nat) ≠ 99 by decide) (by omega) (by omega) (by decide) ?_
        refine x_lload dX1_takeChange_80 rfl ?_
        refine x_land dX1_takeChange_82 ?_
        refine x_lconst (v := 0) dX1_takeChange_83 (by decide) ?_
        refine x_lcmp dX1_takeChange_84 ?_
        refine x_if_eq (tgt := 92) dX1_takeChange_85 (by decide) (by first | exact hz _ _ | exact hw.1 _ _ | exact zR_of _ | exact bI_z _ | assumption | exact ⟨by omega, by omega⟩) (fun c85 => ?_) (fun c85 => ?_)
        · refine x_iconst dX1_takeChange_92 ?_
          refine x_istore (L' := [xR (14, l, 0), xJ (S.2.1 (30, l, 0) (S.1 (14, l, 0) 7) ||| S.2.1 (31, l, 0) (S.1 (14, l, 0) 7)), none, xI (p : Int), xJ (jShl 1 (p : Int)), none, xI ((1 + (64 * (S.1 (14, l, 0) 3))) + (p : Int)), xI 0]) dX1_takeChange_93 (by decide) rfl ?_
          refine x_aload_n dX1_takeChange_95 rfl ?_
          refine x_get (v := xR (30, l, 0)) dX1_takeChange_96 fl_RX1_9 (hp14 S (by omega) (by omega)) rfl ?_
          refine x_aload_n dX1_takeChange_99 rfl ?_
          refine x_get (v := xI (S.1 (14, l, 0) 7)) dX1_takeChange_100 fl_RX1_35 (hp14 S (by omega) (by omega)) rfl ?_
          have f100_25 := wf14_7 hw (S := S) (b := l) (by omega) (by omega)
          refine x_dup2 dX1_takeChange_103 rfl rfl ?_
          refine x_aldj (f := S.2.1 (30, l, 0)) dX1_takeChange_104 (hp30 S (by omega) (by omega)) (show (30 : Nat) ≠ 99 by decide) (by omega) (by omega) (by decide) ?_
          refine x_lload dX1_takeChange_105 rfl ?_
          refine x_ldc2 (v := (-1)) dX1_takeChange_107 wd682 ?_
          refine x_lxor dX1_takeChange_110 ?_
          refine x_land dX1_takeChange_111 ?_
          refine x_astj dX1_takeChange_112 (hp30 S (by omega) (by omega)) (show (30 : Nat) ≠ 99 by decide) (by omega) (by omega) (by decide) ?_
          refine x_heq (pa30 S (by omega) (by omega) (S.1 (14, l, 0) 7) ((S.2.1 (30, l, 0) (S.1 (14, l, 0) 7)) &&& ((jShl 1 (p : Int)) ^^^ (-1)))) ?_
          have hw112_26 : WI (putJ S (30, l, 0) (S.1 (14, l, 0) 7) ((S.2.1 (30, l, 0) (S.1 (14, l, 0) 7)) &&& ((jShl 1 (p : Int)) ^^^ (-1)))) := hw.puJ
          refine x_aload_n dX1_takeChange_113 rfl ?_
          refine x_get (v := xR (31, l, 0)) dX1_takeChange_114 fl_RX1_15 (hp14 (putJ S (30, l, 0) (S.1 (14, l, 0) 7) ((S.2.1 (30, l, 0) (S.1 (14, l, 0) 7)) &&& ((jShl 1 (p : Int)) ^^^ (-1)))) (by omega) (by omega)) rfl ?_
          refine x_aload_n dX1_takeChange_117 rfl ?_
          refine x_get (v := xI (S.1 (14, l, 0) 7)) dX1_takeChange_118 fl_RX1_35 (hp14 (putJ S (30, l, 0) (S.1 (14, l, 0) 7) ((S.2.1 (30, l, 0) (S.1 (14, l, 0) 7)) &&& ((jShl 1 (p : Int)) ^^^ (-1)))) (by omega) (by omega)) rfl ?_
          have f118_27 := wf14_7 hw (S := S) (b := l) (by omega) (by omega)
          refine x_dup2 dX1_takeChange_121 rfl rfl ?_
          refine x_aldj (f := S.2.1 (31, l, 0)) dX1_takeChange_122 (hp31 (putJ S (30, l, 0) (S.1 (14, l, 0) 7) ((S.2.1 (30, l, 0) (S.1 (14, l, 0) 7)) &&& ((jShl 1 (p : Int)) ^^^ (-1)))) (by omega) (by omega)) (show (31 : Nat) ≠ 99 by decide) (by omega) (by omega) (by decide) ?_
          refine x_lload dX1_takeChange_123 rfl ?_
          refine x_ldc2 (v := (-1)) dX1_takeChange_125 wd682 ?_
          refine x_lxor dX1_takeChange_128 ?_
          refine x_land dX1_takeChange_129 ?_
          refine x_astj dX1_takeChange_130 (hp31 (putJ S (30, l, 0) (S.1 (14, l, 0) 7) ((S.2.1 (30, l, 0) (S.1 (14, l, 0) 7)) &&& ((jShl 1 (p : Int)) ^^^ (-1)))) (by omega) (by omega)) (show (31 : Nat) ≠ 99 by decide) (by omega) (by omega) (by decide) ?_
          refine x_heq (pa31 (putJ S (30, l, 0) (S.1 (14, l, 0) 7) ((S.2.1 (30, l, 0) (S.1 (14, l, 0) 7)) &&& ((jShl 1 (p : Int)) ^^^ (-1)))) (by omega) (by omega) (S.1 (14, l, 0) 7) ((S.2.1 (31, l, 0) (S.1 (14, l, 0) 7)) &&& ((jShl 1 (p : Int)) ^^^ (-1)))) ?_
          have hw130_28 : WI (putJ (putJ S (30, l, 0) (S.1 (14, l, 0) 7) ((S.2.1 (30, l, 0) (S.1 (14, l, 0) 7)) &&& ((jShl 1 (p : Int)) ^^^ (-1)))) (31, l, 0) (S.1 (14, l, 0) 7) ((S.2.1 (31, l, 0) (S.1 (14, l, 0) 7)) &&& ((jShl 1 (p : Int)) ^^^ (-1)))) := hw112_26.puJ
          refine x_lload_n dX1_takeChange_131 rfl ?_
          refine x_lload dX1_takeChange_132 rfl ?_
          refine x_lcmp dX1_takeChange_134 ?_
          refine x_if_ne (tgt := 148) dX1_takeChange_135 (by decide) (by first | exact hz _ _ | exact hw.1 _ _ | exact zR_of _ | exact bI_z _ | assumption | exact ⟨by omega, by omega⟩) (fun c135 => ?_) (fun c135 => ?_)
          · refine x_aload_n dX1_takeChange_148 rfl ?_
            refine x_dup dX1_takeChange_149 rfl ?_
            refine x_get (v := xI (S.1 (14, l, 0) 9)) dX1_takeChange_150 fl_RX1_41 (hp14 (putJ (putJ S (30, l, 0) (S.1 (14, l, 0) 7) ((S.2.1 (30, l, 0) (S.1 (14, l, 0) 7)) &&& ((jShl 1 (p : Int)) ^^^ (-1)))) (31, l, 0) (S.1 (14, l, 0) 7) ((S.2.1 (31, l, 0) (S.1 (14, l, 0) 7)) &&& ((jShl 1 (p : Int)) ^^^ (-1)))) (by omega) (by omega)) rfl ?_
            have f150_29 := wf14_9 hw (S := S) (b := l) (by omega) (by omega)
            refine x_top (show S.1 (14, l, 0) 9 = S.1 (14, l, 0) 9 from by first | rfl | simp [putI, putJ, xUpd]) ?_
            refine x_iconst dX1_takeChange_153 ?_
            refine x_isub dX1_takeChange_154 ?_
            refine x_put dX1_takeChange_155 fl_RX1_41 (fun r hr => by cases hr; rfl) (hp14 (putJ (putJ S (30, l, 0) (S.1 (14, l, 0) 7) ((S.2.1 (30, l, 0) (S.1 (14, l, 0) 7)) &&& ((jShl 1 (p : Int)) ^^^ (-1)))) (31, l, 0) (S.1 (14, l, 0) 7) ((S.2.1 (31, l, 0) (S.1 (14, l, 0) 7)) &&& ((jShl 1 (p : Int)) ^^^ (-1)))) (by omega) (by omega)) xfit_i (Nat.le_of_ble_eq_true rfl) rfl ?_
            refine x_heq (pu14_9 (putJ (putJ S (30, l, 0) (S.1 (14, l, 0) 7) ((S.2.1 (30, l, 0) (S.1 (14, l, 0) 7)) &&& ((jShl 1 (p : Int)) ^^^ (-1)))) (31, l, 0) (S.1 (14, l, 0) 7) ((S.2.1 (31, l, 0) (S.1 (14, l, 0) 7)) &&& ((jShl 1 (p : Int)) ^^^ (-1)))) (by omega) (by omega) ((S.1 (14, l, 0) 9) - 1)) ?_
            have hw155_30 : WI (putI (putJ (putJ S (30, l, 0) (S.1 (14, l, 0) 7) ((S.2.1 (30, l, 0) (S.1 (14, l, 0) 7)) &&& ((jShl 1 (p : Int)) ^^^ (-1)))) (31, l, 0) (S.1 (14, l, 0) 7) ((S.2.1 (31, l, 0) (S.1 (14, l, 0) 7)) &&& ((jShl 1 (p : Int)) ^^^ (-1)))) (14, l, 0) 9 ((S.1 (14, l, 0) 9) - 1)) := wp14_9 hw130_28 (by omega) (by omega) (by omega)
            refine x_iload dX1_takeChange_158 rfl ?_
            refine x_if_eq (tgt := 169) dX1_takeChange_160 (by decide) ⟨by decide, by decide⟩ (fun _ => ?_) (fun z => absurd z (by decide))
            refine x_iload dX1_takeChange_169 rfl ?_
            exact x_iret dX1_takeChange_171 rfl (pTi ⟨by omega, hno, by first | exact Or.inl (by omega) | exact Or.inr c44⟩ (by unfold takeV; first | rw [if_pos (lg0.mp c85)] | rw [if_neg (fun z => c85 (lg0.mpr z))]) (by unfold sTake; dsimp only; (first | rw [if_pos (lg0.mp c135)] | rw [if_neg (fun z => c135 (lg0.mpr z))]); first | rfl | simp [putI, putJ, xUpd]))
          · refine x_aload_n dX1_takeChange_138 rfl ?_
            refine x_dup dX1_takeChange_139 rfl ?_
            refine x_get (v := xI (S.1 (14, l, 0) 7)) dX1_takeChange_140 fl_RX1_35 (hp14 (putJ (putJ S (30, l, 0) (S.1 (14, l, 0) 7) ((S.2.1 (30, l, 0) (S.1 (14, l, 0) 7)) &&& ((jShl 1 (p : Int)) ^^^ (-1)))) (31, l, 0) (S.1 (14, l, 0) 7) ((S.2.1 (31, l, 0) (S.1 (14, l, 0) 7)) &&& ((jShl 1 (p : Int)) ^^^ (-1)))) (by omega) (by omega)) rfl ?_
            have f140_31 := wf14_7 hw (S := S) (b := l) (by omega) (by omega)
            refine x_iconst dX1_takeChange_143 ?_
            refine x_iadd dX1_takeChange_144 ?_
            refine x_put dX1_takeChange_145 fl_RX1_35 (fun r hr => by cases hr; rfl) (hp14 (putJ (putJ S (30, l, 0) (S.1 (14, l, 0) 7) ((S.2.1 (30, l, 0) (S.1 (14, l, 0) 7)) &&& ((jShl 1 (p : Int)) ^^^ (-1)))) (31, l, 0) (S.1 (14, l, 0) 7) ((S.2.1 (31, l, 0) (S.1 (14, l, 0) 7)) &&& ((jShl 1 (p : Int)) ^^^ (-1)))) (by omega) (by omega)) xfit_i (Nat.le_of_ble_eq_true rfl) rfl ?_
            refine x_heq (pu14_7 (putJ (putJ S (30, l, 0) (S.1 (14, l, 0) 7) ((S.2.1 (30, l, 0) (S.1 (14, l, 0) 7)) &&& ((jShl 1 (p : Int)) ^^^ (-1)))) (31, l, 0) (S.1 (14, l, 0) 7) ((S.2.1 (31, l, 0) (S.1 (14, l, 0) 7)) &&& ((jShl 1 (p : Int)) ^^^ (-1)))) (by omega) (by omega) ((S.1 (14, l, 0) 7) + 1)) ?_
            have hw145_32 : WI (putI (putJ (putJ S (30, l, 0) (S.1 (14, l, 0) 7) ((S.2.1 (30, l, 0) (S.1 (14, l, 0) 7)) &&& ((jShl 1 (p : Int)) ^^^ (-1)))) (31, l, 0) (S.1 (14, l, 0) 7) ((S.2.1 (31, l, 0) (S.1 (14, l, 0) 7)) &&& ((jShl 1 (p : Int)) ^^^ (-1)))) (14, l, 0) 7 ((S.1 (14, l, 0) 7) + 1)) := wp14_7 hw130_28 (by omega) (by omega) (by omega)
            refine x_aload_n dX1_takeChange_148 rfl ?_
            refine x_dup dX1_takeChange_149 rfl ?_
            refine x_get (v := xI ((putI (putJ (putJ S (30, l, 0) (S.1 (14, l, 0) 7) ((S.2.1 (30, l, 0) (S.1 (14, l, 0) 7)) &&& ((jShl 1 (p : Int)) ^^^ (-1)))) (31, l, 0) (S.1 (14, l, 0) 7) ((S.2.1 (31, l, 0) (S.1 (14, l, 0) 7)) &&& ((jShl 1 (p : Int)) ^^^ (-1)))) (14, l, 0) 7 ((S.1 (14, l, 0) 7) + 1)).1 (14, l, 0) 9)) dX1_takeChange_150 fl_RX1_41 (hp14 (putI (putJ (putJ S (30, l, 0) (S.1 (14, l, 0) 7) ((S.2.1 (30, l, 0) (S.1 (14, l, 0) 7)) &&& ((jShl 1 (p : Int)) ^^^ (-1)))) (31, l, 0) (S.1 (14, l, 0) 7) ((S.2.1 (31, l, 0) (S.1 (14, l, 0) 7)) &&& ((jShl 1 (p : Int)) ^^^ (-1)))) (14, l, 0) 7 ((S.1 (14, l, 0) 7) + 1)) (by omega) (by omega)) rfl ?_
            have f150_33 := wf14_9 hw145_32 (S := putI (putJ (putJ S (30, l, 0) (S.1 (14, l, 0) 7) ((S.2.1 (30, l, 0) (S.1 (14, l, 0) 7)) &&& ((jShl 1 (p : Int)) ^^^ (-1)))) (31, l, 0) (S.1 (14, l, 0) 7) ((S.2.1 (31, l, 0) (S.1 (14, l, 0) 7)) &&& ((jShl 1 (p : Int)) ^^^ (-1)))) (14, l, 0) 7 ((S.1 (14, l, 0) 7) + 1)) (b := l) (by omega) (by omega)
            refine x_top (show (putI (putJ (putJ S (30, l, 0) (S.1 (14, l, 0) 7) ((S.2.1 (30, l, 0) (S.1 (14, l, 0) 7)) &&& ((jShl 1 (p : Int)) ^^^ (-1)))) (31, l, 0) (S.1 (14, l, 0) 7) ((S.2.1 (31, l, 0) (S.1 (14, l, 0) 7)) &&& ((jShl 1 (p : Int)) ^^^ (-1)))) (14, l, 0) 7 ((S.1 (14, l, 0) 7) + 1)).1 (14, l, 0) 9 = S.1 (14, l, 0) 9 from by first | rfl | simp [putI, putJ, xUpd]) ?_
            refine x_iconst dX1_takeChange_153 ?_
            refine x_isub dX1_takeChange_154 ?_
            refine x_put dX1_takeChange_155 fl_RX1_41 (fun r hr => by cases hr; rfl) (hp14 (putI (putJ (putJ S (30, l, 0) (S.1 (14, l, 0) 7) ((S.2.1 (30, l, 0) (S.1 (14, l, 0) 7)) &&& ((jShl 1 (p : Int)) ^^^ (-1)))) (31, l, 0) (S.1 (14, l, 0) 7) ((S.2.1 (31, l, 0) (S.1 (14, l, 0) 7)) &&& ((jShl 1 (p : Int)) ^^^ (-1)))) (14, l, 0) 7 ((S.1 (14, l, 0) 7) + 1)) (by omega) (by omega)) xfit_i (Nat.le_of_ble_eq_true rfl) rfl ?_
            refine x_heq (pu14_9 (putI (putJ (putJ S (30, l, 0) (S.1 (14, l, 0) 7) ((S.2.1 (30, l, 0) (S.1 (14, l, 0) 7)) &&& ((jShl 1 (p : Int)) ^^^ (-1)))) (31, l, 0) (S.1 (14, l, 0) 7) ((S.2.1 (31, l, 0) (S.1 (14, l, 0) 7)) &&& ((jShl 1 (p : Int)) ^^^ (-1)))) (14, l, 0) 7 ((S.1 (14, l, 0) 7) + 1)) (by omega) (by omega) ((S.1 (14, l, 0) 9) - 1)) ?_
            have hw155_34 : WI (putI (putI (putJ (putJ S (30, l, 0) (S.1 (14, l, 0) 7) ((S.2.1 (30, l, 0) (S.1 (14, l, 0) 7)) &&& ((jShl 1 (p : Int)) ^^^ (-1)))) (31, l, 0) (S.1 (14, l, 0) 7) ((S.2.1 (31, l, 0) (S.1 (14, l, 0) 7)) &&& ((jShl 1 (p : Int)) ^^^ (-1)))) (14, l, 0) 7 ((S.1 (14, l, 0) 7) + 1)) (14, l, 0) 9 ((S.1 (14, l, 0) 9) - 1)) := wp14_9 hw145_32 (by omega) (by omega) (by omega)
            refine x_iload dX1_takeChange_158 rfl ?_
            refine x_if_eq (tgt := 169) dX1_takeChange_160 (by decide) ⟨by decide, by decide⟩ (fun _ => ?_) (fun z => absurd z (by decide))
            refine x_iload dX1_takeChange_169 rfl ?_
            exact x_iret dX1_takeChange_171 rfl (pTi ⟨by omega, hno, by first | exact Or.inl (by omega) | exact Or.inr c44⟩ (by unfold takeV; first | rw [if_pos (lg0.mp c85)] | rw [if_neg (fun z => c85 (lg0.mpr z))]) (by unfold sTake; dsimp only; (first | rw [if_pos (lg0.mp c135)] | rw [if_neg (fun z => c135 (lg0.mpr z))]); first | rfl | simp [putI, putJ, xUpd]))
        · refine x_iconst dX1_takeChange_88 ?_
          refine x_goto (tgt := 93) dX1_takeChange_89 (by decide) ?_
          refine x_istore (L' := [xR (14, l, 0), xJ (S.2.1 (30, l, 0) (S.1 (14, l, 0) 7) ||| S.2.1 (31, l, 0) (S.1 (14, l, 0) 7)), none, xI (p : Int), xJ (jShl 1 (p : Int)), none, xI ((1 + (64 * (S.1 (14, l, 0) 3))) + (p : Int)), xI 1]) dX1_takeChange_93 (by decide) rfl ?_
          refine x_aload_n dX1_takeChange_95 rfl ?_
          refine x_get (v := xR (30, l, 0)) dX1_takeChange_96 fl_RX1_9 (hp14 S (by omega) (by omega)) rfl ?_
          refine x_aload_n dX1_takeChange_99 rfl ?_
          refine x_get (v := xI (S.1 (14, l, 0) 7)) dX1_takeChange_100 fl_RX1_35 (hp14 S (by omega) (by omega)) rfl ?_
          have f100_35 := wf14_7 hw (S := S) (b := l) (by omega) (by omega)
          refine x_dup2 dX1_takeChange_103 rfl rfl ?_
          refine x_aldj (f := S.2.1 (30, l, 0)) dX1_takeChange_104 (hp30 S (by omega) (by omega)) (show (30 : Nat) ≠ 99 by decide) (by omega) (by omega) (by decide) ?_
          refine x_lload dX1_takeChange_105 rfl ?_
          refine x_ldc2 (v := (-1)) dX1_takeChange_107 wd682 ?_
          refine x_lxor dX1_takeChange_110 ?_
          refine x_land dX1_takeChange_111 ?_
          refine x_astj dX1_takeChange_112 (hp30 S (by omega) (by omega)) (show (30 : Nat) ≠ 99 by decide) (by omega) (by omega) (by decide) ?_
          refine x_heq (pa30 S (by omega) (by omega) (S.1 (14, l, 0) 7) ((S.2.1 (30, l, 0) (S.1 (14, l, 0) 7)) &&& ((jShl 1 (p : Int)) ^^^ (-1)))) ?_
          have hw112_36 : WI (putJ S (30, l, 0) (S.1 (14, l, 0) 7) ((S.2.1 (30, l, 0) (S.1 (14, l, 0) 7)) &&& ((jShl 1 (p : Int)) ^^^ (-1)))) := hw.puJ
          refine x_aload_n dX1_takeChange_113 rfl ?_
          refine x_get (v := xR (31, l, 0)) dX1_takeChange_114 fl_RX1_15 (hp14 (putJ S (30, l, 0) (S.1 (14, l, 0) 7) ((S.2.1 (30, l, 0) (S.1 (14, l, 0) 7)) &&& ((jShl 1 (p : Int)) ^^^ (-1)))) (by omega) (by omega)) rfl ?_
          refine x_aload_n dX1_takeChange_117 rfl ?_
          refine x_get (v := xI (S.1 (14, l, 0) 7)) dX1_takeChange_118 fl_RX1_35 (hp14 (putJ S (30, l, 0) (S.1 (14, l, 0) 7) ((S.2.1 (30, l, 0) (S.1 (14, l, 0) 7)) &&& ((jShl 1 (p : Int)) ^^^ (-1)))) (by omega) (by omega)) rfl ?_
          have f118_37 := wf14_7 hw (S := S) (b := l) (by omega) (by omega)
          refine x_dup2 dX1_takeChange_121 rfl rfl ?_
          refine x_aldj (f := S.2.1 (31, l, 0)) dX1_takeChange_122 (hp31 (putJ S (30, l, 0) (S.1 (14, l, 0) 7) ((S.2.1 (30, l, 0) (S.1 (14, l, 0) 7)) &&& ((jShl 1 (p : Int)) ^^^ (-1)))) (by omega) (by omega)) (show (31 : Nat) ≠ 99 by decide) (by omega) (by omega) (by decide) ?_
          refine x_lload dX1_takeChange_123 rfl ?_
          refine x_ldc2 (v := (-1)) dX1_takeChange_125 wd682 ?_
          refine x_lxor dX1_takeChange_128 ?_
          refine x_land dX1_takeChange_129 ?_
          refine x_astj dX1_takeChange_130 (hp31 (putJ S (30, l, 0) (S.1 (14, l, 0) 7) ((S.2.1 (30, l, 0) (S.1 (14, l, 0) 7)) &&& ((jShl 1 (p : Int)) ^^^ (-1)))) (by omega) (by omega)) (show (31 : Nat) ≠ 99 by decide) (by omega) (by omega) (by decide) ?_
          refine x_heq (pa31 (putJ S (30, l, 0) (S.1 (14, l, 0) 7) ((S.2.1 (30, l, 0) (S.1 (14, l, 0) 7)) &&& ((jShl 1 (p : Int)) ^^^ (-1)))) (by omega) (by omega) (S.1 (14, l, 0) 7) ((S.2.1 (31, l, 0) (S.1 (14, l, 0) 7)) &&& ((jShl 1 (p : Int)) ^^^ (-1)))) ?_
          have hw130_38 : WI (putJ (putJ S (30, l, 0) (S.1 (14, l, 0) 7) ((S.2.1 (30, l, 0) (S.1 (14, l, 0) 7)) &&& ((jShl 1 (p : Int)) ^^^ (-1)))) (31, l, 0) (S.1 (14, l, 0) 7) ((S.2.1 (31, l, 0) (S.1 (14, l, 0) 7)) &&& ((jShl 1 (p : Int)) ^^^ (-1)))) := hw112_36.puJ
          refine x_lload_n dX1_takeChange_131 rfl ?_
          refine x_lload dX1_takeChange_132 rfl ?_
          refine x_lcmp dX1_takeChange_134 ?_
          refine x_if_ne (tgt := 148) dX1_takeChange_135 (by decide) (by first | exact hz _ _ | exact hw.1 _ _ | exact zR_of _ | exact bI_z _ | assumption | exact ⟨by omega, by omega⟩) (fun c135 => ?_) (fun c135 => ?_)
          · refine x_aload_n dX1_takeChange_148 rfl ?_
            refine x_dup dX1_takeChange_149 rfl ?_
            refine x_get (v := xI (S.1 (14, l, 0) 9)) dX1_takeChange_150 fl_RX1_41 (hp14 (putJ (putJ S (30, l, 0) (S.1 (14, l, 0) 7) ((S.2.1 (30, l, 0) (S.1 (14, l, 0) 7)) &&& ((jShl 1 (p : Int)) ^^^ (-1)))) (31, l, 0) (S.1 (14, l, 0) 7) ((S.2.1 (31, l, 0) (S.1 (14, l, 0) 7)) &&& ((jShl 1 (p : Int)) ^^^ (-1)))) (by omega) (by omega)) rfl ?_
            have f150_39 := wf14_9 hw (S := S) (b := l) (by omega) (by omega)
            refine x_top (show S.1 (14, l, 0) 9 = S.1 (14, l, 0) 9 from by first | rfl | simp [putI, putJ, xUpd]) ?_
            refine x_iconst dX1_takeChange_153 ?_
            refine x_isub dX1_takeChange_154 ?_
            refine x_put dX1_takeChange_155 fl_RX1_41 (fun r hr => by cases hr; rfl) (hp14 (putJ (putJ S (30, l, 0) (S.1 (14, l, 0) 7) ((S.2.1 (30, l, 0) (S.1 (14, l, 0) 7)) &&& ((jShl 1 (p : Int)) ^^^ (-1)))) (31, l, 0) (S.1 (14, l, 0) 7) ((S.2.1 (31, l, 0) (S.1 (14, l, 0) 7)) &&& ((jShl 1 (p : Int)) ^^^ (-1)))) (by omega) (by omega)) xfit_i (Nat.le_of_ble_eq_true rfl) rfl ?_
            refine x_heq (pu14_9 (putJ (putJ S (30, l, 0) (S.1 (14, l, 0) 7) ((S.2.1 (30, l, 0) (S.1 (14, l, 0) 7)) &&& ((jShl 1 (p : Int)) ^^^ (-1)))) (31, l, 0) (S.1 (14, l, 0) 7) ((S.2.1 (31, l, 0) (S.1 (14, l, 0) 7)) &&& ((jShl 1 (p : Int)) ^^^ (-1)))) (by omega) (by omega) ((S.1 (14, l, 0) 9) - 1)) ?_
            have hw155_40 : WI (putI (putJ (putJ S (30, l, 0) (S.1 (14, l, 0) 7) ((S.2.1 (30, l, 0) (S.1 (14, l, 0) 7)) &&& ((jShl 1 (p : Int)) ^^^ (-1)))) (31, l, 0) (S.1 (14, l, 0) 7) ((S.2.1 (31, l, 0) (S.1 (14, l, 0) 7)) &&& ((jShl 1 (p : Int)) ^^^ (-1)))) (14, l, 0) 9 ((S.1 (14, l, 0) 9) - 1)) := wp14_9 hw130_38 (by omega) (by omega) (by omega)
            refine x_iload dX1_takeChange_158 rfl ?_
            refine x_if_eq (tgt := 169) dX1_takeChange_160 (by decide) ⟨by decide, by decide⟩ (fun z => absurd z (by decide)) (fun _ => ?_)
            refine x_iload dX1_takeChange_163 rfl ?_
            refine x_ineg dX1_takeChange_165 ?_
            refine x_goto (tgt := 171) dX1_takeChange_166 (by decide) ?_
            exact x_iret dX1_takeChange_171 rfl (pTi ⟨by omega, hno, by first | exact Or.inl (by omega) | exact Or.inr c44⟩ (by unfold takeV; first | rw [if_pos (lg0.mp c85)] | rw [if_neg (fun z => c85 (lg0.mpr z))]) (by unfold sTake; dsimp only; (first | rw [if_pos (lg0.mp c135)] | rw [if_neg (fun z => c135 (lg0.mpr z))]); first | rfl | simp [putI, putJ, xUpd]))
          · refine x_aload_n dX1_takeChange_138 rfl ?_
            refine x_dup dX1_takeChange_139 rfl ?_
            refine x_get (v := xI (S.1 (14, l, 0) 7)) dX1_takeChange_140 fl_RX1_35 (hp14 (putJ (putJ S (30, l, 0) (S.1 (14, l, 0) 7) ((S.2.1 (30, l, 0) (S.1 (14, l, 0) 7)) &&& ((jShl 1 (p : Int)) ^^^ (-1)))) (31, l, 0) (S.1 (14, l, 0) 7) ((S.2.1 (31, l, 0) (S.1 (14, l, 0) 7)) &&& ((jShl 1 (p : Int)) ^^^ (-1)))) (by omega) (by omega)) rfl ?_
            have f140_41 := wf14_7 hw (S := S) (b := l) (by omega) (by omega)
            refine x_iconst dX1_takeChange_143 ?_
            refine x_iadd dX1_takeChange_144 ?_
            refine x_put dX1_takeChange_145 fl_RX1_35 (fun r hr => by cases hr; rfl) (hp14 (putJ (putJ S (30, l, 0) (S.1 (14, l, 0) 7) ((S.2.1 (30, l, 0) (S.1 (14, l, 0) 7)) &&& ((jShl 1 (p : Int)) ^^^ (-1)))) (31, l, 0) (S.1 (14, l, 0) 7) ((S.2.1 (31, l, 0) (S.1 (14, l, 0) 7)) &&& ((jShl 1 (p : Int)) ^^^ (-1)))) (by omega) (by omega)) xfit_i (Nat.le_of_ble_eq_true rfl) rfl ?_
            refine x_heq (pu14_7 (putJ (putJ S (30, l, 0) (S.1 (14, l, 0) 7) ((S.2.1 (30, l, 0) (S.1 (14, l, 0) 7)) &&& ((jShl 1 (p : Int)) ^^^ (-1)))) (31, l, 0) (S.1 (14, l, 0) 7) ((S.2.1 (31, l, 0) (S.1 (14, l, 0) 7)) &&& ((jShl 1 (p : Int)) ^^^ (-1)))) (by omega) (by omega) ((S.1 (14, l, 0) 7) + 1)) ?_
            have hw145_42 : WI (putI (putJ (putJ S (30, l, 0) (S.1 (14, l, 0) 7) ((S.2.1 (30, l, 0) (S.1 (14, l, 0) 7)) &&& ((jShl 1 (p : Int)) ^^^ (-1)))) (31, l, 0) (S.1 (14, l, 0) 7) ((S.2.1 (31, l, 0) (S.1 (14, l, 0) 7)) &&& ((jShl 1 (p : Int)) ^^^ (-1)))) (14, l, 0) 7 ((S.1 (14, l, 0) 7) + 1)) := wp14_7 hw130_38 (by omega) (by omega) (by omega)
            refine x_aload_n dX1_takeChange_148 rfl ?_
            refine x_dup dX1_takeChange_149 rfl ?_
            refine x_get (v := xI ((putI (putJ (putJ S (30, l, 0) (S.1 (14, l, 0) 7) ((S.2.1 (30, l, 0) (S.1 (14, l, 0) 7)) &&& ((jShl 1 (p : Int)) ^^^ (-1)))) (31, l, 0) (S.1 (14, l, 0) 7) ((S.2.1 (31, l, 0) (S.1 (14, l, 0) 7)) &&& ((jShl 1 (p : Int)) ^^^ (-1)))) (14, l, 0) 7 ((S.1 (14, l, 0) 7) + 1)).1 (14, l, 0) 9)) dX1_takeChange_150 fl_RX1_41 (hp14 (putI (putJ (putJ S (30, l, 0) (S.1 (14, l, 0) 7) ((S.2.1 (30, l, 0) (S.1 (14, l, 0) 7)) &&& ((jShl 1 (p : Int)) ^^^ (-1)))) (31, l, 0) (S.1 (14, l, 0) 7) ((S.2.1 (31, l, 0) (S.1 (14, l, 0) 7)) &&& ((jShl 1 (p : Int)) ^^^ (-1)))) (14, l, 0) 7 ((S.1 (14, l, 0) 7) + 1)) (by omega) (by omega)) rfl ?_
            have f150_43 := wf14_9 hw145_42 (S := putI (putJ (putJ S (30, l, 0) (S.1 (14, l, 0) 7) ((S.2.1 (30, l, 0) (S.1 (14, l, 0) 7)) &&& ((jShl 1 (p : Int)) ^^^ (-1)))) (31, l, 0) (S.1 (14, l, 0) 7) ((S.2.1 (31, l, 0) (S.1 (14, l, 0) 7)) &&& ((jShl 1 (p : Int)) ^^^ (-1)))) (14, l, 0) 7 ((S.1 (14, l, 0) 7) + 1)) (b := l) (by omega) (by omega)
            refine x_top (show (putI (putJ (putJ S (30, l, 0) (S.1 (14, l, 0) 7) ((S.2.1 (30, l, 0) (S.1 (14, l, 0) 7)) &&& ((jShl 1 (p : Int)) ^^^ (-1)))) (31, l, 0) (S.1 (14, l, 0) 7) ((S.2.1 (31, l, 0) (S.1 (14, l, 0) 7)) &&& ((jShl 1 (p : Int)) ^^^ (-1)))) (14, l, 0) 7 ((S.1 (14, l, 0) 7) + 1)).1 (14, l, 0) 9 = S.1 (14, l, 0) 9 from by first | rfl | simp [putI, putJ, xUpd]) ?_
            refine x_iconst dX1_takeChange_153 ?_
            refine x_isub dX1_takeChange_154 ?_
            refine x_put dX1_takeChange_155 fl_RX1_41 (fun r hr => by cases hr; rfl) (hp14 (putI (putJ (putJ S (30, l, 0) (S.1 (14, l, 0) 7) ((S.2.1 (30, l, 0) (S.1 (14, l, 0) 7)) &&& ((jShl 1 (p : Int)) ^^^ (-1)))) (31, l, 0) (S.1 (14, l, 0) 7) ((S.2.1 (31, l, 0) (S.1 (14, l, 0) 7)) &&& ((jShl 1 (p : Int)) ^^^ (-1)))) (14, l, 0) 7 ((S.1 (14, l, 0) 7) + 1)) (by omega) (by omega)) xfit_i (Nat.le_of_ble_eq_true rfl) rfl ?_
            refine x_heq (pu14_9 (putI (putJ (putJ S (30, l, 0) (S.1 (14, l, 0) 7) ((S.2.1 (30, l, 0) (S.1 (14, l, 0) 7)) &&& ((jShl 1 (p : Int)) ^^^ (-1)))) (31, l, 0) (S.1 (14, l, 0) 7) ((S.2.1 (31, l, 0) (S.1 (14, l, 0) 7)) &&& ((jShl 1 (p : Int)) ^^^ (-1)))) (14, l, 0) 7 ((S.1 (14, l, 0) 7) + 1)) (by omega) (by omega) ((S.1 (14, l, 0) 9) - 1)) ?_
            have hw155_44 : WI (putI (putI (putJ (putJ S (30, l, 0) (S.1 (14, l, 0) 7) ((S.2.1 (30, l, 0) (S.1 (14, l, 0) 7)) &&& ((jShl 1 (p : Int)) ^^^ (-1)))) (31, l, 0) (S.1 (14, l, 0) 7) ((S.2.1 (31, l, 0) (S.1 (14, l, 0) 7)) &&& ((jShl 1 (p : Int)) ^^^ (-1)))) (14, l, 0) 7 ((S.1 (14, l, 0) 7) + 1)) (14, l, 0) 9 ((S.1 (14, l, 0) 9) - 1)) := wp14_9 hw145_42 (by omega) (by omega) (by omega)
            refine x_iload dX1_takeChange_158 rfl ?_
            refine x_if_eq (tgt := 169) dX1_takeChange_160 (by decide) ⟨by decide, by decide⟩ (fun z => absurd z (by decide)) (fun _ => ?_)
            refine x_iload dX1_takeChange_163 rfl ?_
            refine x_ineg dX1_takeChange_165 ?_
            refine x_goto (tgt := 171) dX1_takeChange_166 (by decide) ?_
            exact x_iret dX1_takeChange_171 rfl (pTi ⟨by omega, hno, by first | exact Or.inl (by omega) | exact Or.inr c44⟩ (by unfold takeV; first | rw [if_pos (lg0.mp c85)] | rw [if_neg (fun z => c85 (lg0.mpr z))]) (by unfold sTake; dsimp only; (first | rw [if_pos (lg0.mp c135)] | rw [if_neg (fun z => c135 (lg0.mpr z))]); first | rfl | simp [putI, putJ, xUpd]))
      · refine x_iinc (L' := [xR (14, l, 0), xJ (S.2.1 (30, l, 0) (S.1 (14, l, 0) 7) ||| S.2.1 (31, l, 0) (S.1 (14, l, 0) 7)), none, xI ((p : Int) + 1), none, none, none, none]) dX1_takeChange_47 rfl rfl ?_
        refine x_goto (tgt := 31) dX1_takeChange_50 (by decide) ?_
        exact ih (p + 1) (by omega) (by omega) (fun p' a b => by rcases Nat.lt_or_eq_of_le (show p' ≤ p by omega) with e | e; exact hno p' e b; subst e; exact absurd (lg0.mp c44) (fun z => b c44))
set_option maxHeartbeats 4000000 in
set_option maxRecDepth 100000 in
theorem c_takeChange (S : XS) (hw : WI S) (l : Int) (h1 : 0 ≤ l) (h2 : l < 5) (hf : S.1 (14, l, 0) 7 < 120) (hu : 1 ≤ S.1 (14, l, 0) 9) (hq : S.1 (14, l, 0) 7 < S.1 (14, l, 0) 8) : X mX1_takeChange 0 (xEnt mX1_takeChange [xR (14, l, 0)]) [] (hp S) 0 0 (pTake S l) := by
  have z7 := wf14_7 hw h1 h2
  show X mX1_takeChange 0 [xR (14, l, 0), none, none, none, none, none, none, none] [] (hp S) 0 0 _
  refine x_aload_n dX1_takeChange_0 rfl ?_
  refine x_callV_r (a := 0) (b := 0) (as := []) (rest := []) ok_X1_hasUntold dX1_takeChange_1 wd1061 ⟨wd1053, wd1054⟩ (hp14 S (by omega) (by omega)) rfl rfl (c_hasUntold S hw l (by omega) (by omega)) rfl (Nat.le_of_ble_eq_true rfl) (Nat.le_of_ble_eq_true rfl) (by decide) (by omega) (by omega) ?_
  by_cases b1 : S.1 (14, l, 0) 7 < S.1 (14, l, 0) 8
  · refine x_top (bI_t b1) ?_
    refine x_if_ne (tgt := 9) dX1_takeChange_4 (by decide) ⟨by decide, by decide⟩ (fun _ => ?_) (fun z => absurd z (by decide))
    refine x_aload_n dX1_takeChange_9 rfl ?_
    refine x_get (v := xR (30, l, 0)) dX1_takeChange_10 fl_RX1_9 (hp14 S (by omega) (by omega)) rfl ?_
    refine x_aload_n dX1_takeChange_13 rfl ?_
    refine x_get (v := xI (S.1 (14, l, 0) 7)) dX1_takeChange_14 fl_RX1_35 (hp14 S (by omega) (by omega)) rfl ?_
    have f14_1 := wf14_7 hw (S := S) (b := l) (by omega) (by omega)
    refine x_aldj (f := S.2.1 (30, l, 0)) dX1_takeChange_17 (hp30 S (by omega) (by omega)) (show (30 : Nat) ≠ 99 by decide) (by omega) (by omega) (by decide) ?_
    refine x_aload_n dX1_takeChange_18 rfl ?_
    refine x_get (v := xR (31, l, 0)) dX1_takeChange_19 fl_RX1_15 (hp14 S (by omega) (by omega)) rfl ?_
    refine x_aload_n dX1_takeChange_22 rfl ?_
    refine x_get (v := xI (S.1 (14, l, 0) 7)) dX1_takeChange_23 fl_RX1_35 (hp14 S (by omega) (by omega)) rfl ?_
    have f23_2 := wf14_7 hw (S := S) (b := l) (by omega) (by omega)
    refine x_aldj (f := S.2.1 (31, l, 0)) dX1_takeChange_26 (hp31 S (by omega) (by omega)) (show (31 : Nat) ≠ 99 by decide) (by omega) (by omega) (by decide) ?_
    refine x_lor dX1_takeChange_27 ?_
    refine x_lstore_n (L' := [xR (14, l, 0), xJ ((S.2.1 (30, l, 0) (S.1 (14, l, 0) 7)) ||| (S.2.1 (31, l, 0) (S.1 (14, l, 0) 7))), none, none, none, none, none, none]) dX1_takeChange_28 (by decide) rfl ?_
    refine x_iconst dX1_takeChange_29 ?_
    refine x_istore_n (L' := [xR (14, l, 0), xJ ((S.2.1 (30, l, 0) (S.1 (14, l, 0) 7)) ||| (S.2.1 (31, l, 0) (S.1 (14, l, 0) 7))), none, xI 0, none, none, none, none]) dX1_takeChange_30 (by decide) rfl ?_
    exact l_takeChange S hw l h1 h2 hf hu hq 65 0 (by omega) (by omega) (fun p' a => by omega)
  · refine x_top (bI_f b1) ?_
    refine x_if_ne (tgt := 9) dX1_takeChange_4 (by decide) ⟨by decide, by decide⟩ (fun z => absurd z (by decide)) (fun _ => ?_)
    refine x_iconst dX1_takeChange_7 ?_
    exact x_iret dX1_takeChange_8 rfl (by exfalso; omega)
