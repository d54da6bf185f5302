/-! listeners: the next change; informing -/
/-- the change at the front is taken: p is its pair -/
def sTake (S : XS) (l : Int) (p : Nat) : XS :=
  let n := S.1 (14, l, 0) 7; let w := S.2.1 (30, l, 0) n ||| S.2.1 (31, l, 0) n; let t : Int64 := jShl 1 p
  let S1 := putJ S (30, l, 0) n (S.2.1 (30, l, 0) n &&& (t ^^^ (-1)))
  let S2 := putJ S1 (31, l, 0) n (S1.2.1 (31, l, 0) n &&& (t ^^^ (-1)))
  let S3 := if w = t then putI S2 (14, l, 0) 7 (n + 1) else S2
  putI S3 (14, l, 0) 9 (S3.1 (14, l, 0) 9 - 1)
def takeV (S : XS) (l : Int) (p : Nat) : Int := if S.2.1 (31, l, 0) (S.1 (14, l, 0) 7) &&& jShl 1 p = 0 then 1 + 64 * S.1 (14, l, 0) 3 + p else -(1 + 64 * S.1 (14, l, 0) 3 + p)
/-- the lowest bit, or 63 -/
def Low (w : Int64) (p : Nat) : Prop := p < 64 ∧ (∀ p' : Nat, p' < p → ¬ bitJ w p') ∧ (p = 63 ∨ bitJ w p)
def pTake (S : XS) (l : Int) : XO → XH → Prop := fun o h' => ∃ p : Nat, Low (S.2.1 (30, l, 0) (S.1 (14, l, 0) 7) ||| S.2.1 (31, l, 0) (S.1 (14, l, 0) 7)) p ∧ o = .inl (some (xI (takeV S l p))) ∧ h' = hp (sTake S l p)
theorem pTi {S S' : XS} {l v : Int} {p : Nat} (h : Low (S.2.1 (30, l, 0) (S.1 (14, l, 0) 7) ||| S.2.1 (31, l, 0) (S.1 (14, l, 0) 7)) p) (e : v = takeV S l p) (e2 : S' = sTake S l p) : pTake S l (.inl (some (xI v))) (hp S') := ⟨p, h, by rw [e], by rw [e2]⟩
set_option maxHeartbeats 4000000 in
set_option maxRecDepth 100000 in
theorem l_takeChange (S : XS) (hw : WI S) (l : Int) (h1 : 0 ≤ l) (h2 : l < 5) (hf : S.1 (14, l, 0) 7 < 120) (hu : 1 ≤ S.1 (14, l, 0) 9) : ∀ (nn : Nat) (p : Nat), 64 - (p : Int) < (nn : Int) → (p ≤ 63) → (∀ p' : Nat, p' < p → ¬ bitJ (S.2.1 (30, l, 0) (S.1 (14, l, 0) 7) ||| S.2.1 (31, l, 0) (S.1 (14, l, 0) 7)) p') → X mX1_takeChange 22 [xR (14, l, 0), xJ (S.2.1 (30, l, 0) (S.1 (14, l, 0) 7) ||| S.2.1 (31, l, 0) (S.1 (14, l, 0) 7)), none, xI (p : Int), none, none, none, none] [] (hp S) 0 0 (pTake S l) := by
  intro nn
  induction nn with
  | zero => intro p hm hp hno; exfalso; omega
  | succ nn ih =>
    intro p hm hp hno
    have z7 := wf14_7 hw h1 h2
    have z3 := wf14_3 hw h1 h2
    have z9 := wf14_9 hw h1 h2
    refine x_iload_n dX1_takeChange_22 rfl ?_
    refine x_bipush (v := 63) dX1_takeChange_23 (by decide) ?_
    refine x_icmp_ge (tgt := 44) dX1_takeChange_25 (by decide) (by first | exact hz _ _ | exact hw.1 _ _ | exact zR_of _ | exact bI_z _ | assumption | exact ⟨by omega, by omega⟩) ⟨by decide, by decide⟩ (fun c25 => ?_) (fun c25 => ?_)
    · refine x_lconst (v := 1) dX1_takeChange_44 (by decide) ?_
      refine x_iload_n dX1_takeChange_45 rfl ?_
      refine x_lshl dX1_takeChange_46 ?_
      refine x_lstore (L' := [xR (14, l, 0), xJ (S.2.1 (30, l, 0) (S.1 (14, l, 0) 7) ||| S.2.1 (31, l, 0) (S.1 (14, l, 0) 7)), none, xI (p : Int), xJ (jShl 1 (p : Int)), none, none, none]) dX1_takeChange_47 (by decide) rfl ?_
      refine x_iconst dX1_takeChange_49 ?_
      refine x_bipush (v := 64) dX1_takeChange_50 (by decide) ?_
      refine x_aload_n dX1_takeChange_52 rfl ?_
      refine x_get (v := xI (S.1 (14, l, 0) 3)) dX1_takeChange_53 fl_RX1_22 (hp14 S (by omega) (by omega)) rfl ?_
      have f53_1 := wf14_3 hw (S := S) (b := l) (by omega) (by omega)
      refine x_imul dX1_takeChange_56 ?_
      refine x_iadd dX1_takeChange_57 ?_
      refine x_iload_n dX1_takeChange_58 rfl ?_
      refine x_iadd dX1_takeChange_59 ?_
      refine x_istore (L' := [xR (14, l, 0), xJ (S.2.1 (30, l, 0) (S.1 (14, l, 0) 7) ||| S.2.1 (31, l, 0) (S.1 (14, l, 0) 7)), none, xI (p : Int), xJ (jShl 1 (p : Int)), none, xI ((1 + (64 * (S.1 (14, l, 0) 3))) + (p : Int)), none]) dX1_takeChange_60 (by decide) rfl ?_
      refine x_aload_n dX1_takeChange_62 rfl ?_
      refine x_get (v := xR (31, l, 0)) dX1_takeChange_63 fl_RX1_15 (hp14 S (by omega) (by omega)) rfl ?_
      refine x_aload_n dX1_takeChange_66 rfl ?_
      refine x_get (v := xI (S.1 (14, l, 0) 7)) dX1_takeChange_67 fl_RX1_35 (hp14 S (by omega) (by omega)) rfl ?_
      have f67_2 := wf14_7 hw (S := S) (b := l) (by omega) (by omega)
      refine x_aldj (f := S.2.1 (31, l, 0)) dX1_takeChange_70 (hp31 S (by omega) (by omega)) (show (31 : Nat) ≠ 99 by decide) (by omega) (by omega) (by decide) ?_
      refine x_lload dX1_takeChange_71 rfl ?_
      refine x_land dX1_takeChange_73 ?_
      refine x_lconst (v := 0) dX1_takeChange_74 (by decide) ?_
      refine x_lcmp dX1_takeChange_75 ?_
      refine x_if_eq (tgt := 83) dX1_takeChange_76 (by decide) (by first | exact hz _ _ | exact hw.1 _ _ | exact zR_of _ | exact bI_z _ | assumption | exact ⟨by omega, by omega⟩) (fun c76 => ?_) (fun c76 => ?_)
      · refine x_iconst dX1_takeChange_83 ?_
        refine x_istore (L' := [xR (14, l, 0), xJ (S.2.1 (30, l, 0) (S.1 (14, l, 0) 7) ||| S.2.1 (31, l, 0) (S.1 (14, l, 0) 7)), none, xI (p : Int), xJ (jShl 1 (p : Int)), none, xI ((1 + (64 * (S.1 (14, l, 0) 3))) + (p : Int)), xI 0]) dX1_takeChange_84 (by decide) rfl ?_
        refine x_aload_n dX1_takeChange_86 rfl ?_
        refine x_get (v := xR (30, l, 0)) dX1_takeChange_87 fl_RX1_9 (hp14 S (by omega) (by omega)) rfl ?_
        refine x_aload_n dX1_takeChange_90 rfl ?_
        refine x_get (v := xI (S.1 (14, l, 0) 7)) dX1_takeChange_91 fl_RX1_35 (hp14 S (by omega) (by omega)) rfl ?_
        have f91_3 := wf14_7 hw (S := S) (b := l) (by omega) (by omega)
        refine x_dup2 dX1_takeChange_94 rfl rfl ?_
        refine x_aldj (f := S.2.1 (30, l, 0)) dX1_takeChange_95 (hp30 S (by omega) (by omega)) (show (30 : Nat) ≠ 99 by decide) (by omega) (by omega) (by decide) ?_
        refine x_lload dX1_takeChange_96 rfl ?_
        refine x_ldc2 (v := (-1)) dX1_takeChange_98 wd682 ?_
        refine x_lxor dX1_takeChange_101 ?_
        refine x_land dX1_takeChange_102 ?_
        refine x_astj dX1_takeChange_103 (hp30 S (by omega) (by omega)) (show (30 : Nat) ≠ 99 by decide) (by omega) (by omega) (by decide) ?_
        refine x_heq (pa30 S (by omega) (by omega) (S.1 (14, l, 0) 7) ((S.2.1 (30, l, 0) (S.1 (14, l, 0) 7)) &&& ((jShl 1 (p : Int)) ^^^ (-1)))) ?_
        have hw103_4 : WI (putJ S (30, l, 0) (S.1 (14, l, 0) 7) ((S.2.1 (30, l, 0) (S.1 (14, l, 0) 7)) &&& ((jShl 1 (p : Int)) ^^^ (-1)))) := hw.puJ
        refine x_aload_n dX1_takeChange_104 rfl ?_
        refine x_get (v := xR (31, l, 0)) dX1_takeChange_105 fl_RX1_15 (hp14 (putJ S (30, l, 0) (S.1 (14, l, 0) 7) ((S.2.1 (30, l, 0) (S.1 (14, l, 0) 7)) &&& ((jShl 1 (p : Int)) ^^^ (-1)))) (by omega) (by omega)) rfl ?_
        refine x_aload_n dX1_takeChange_108 rfl ?_
        refine x_get (v := xI (S.1 (14, l, 0) 7)) dX1_takeChange_109 fl_RX1_35 (hp14 (putJ S (30, l, 0) (S.1 (14, l, 0) 7) ((S.2.1 (30, l, 0) (S.1 (14, l, 0) 7)) &&& ((jShl 1 (p : Int)) ^^^ (-1)))) (by omega) (by omega)) rfl ?_
        have f109_5 := wf14_7 hw (S := S) (b := l) (by omega) (by omega)
        refine x_dup2 dX1_takeChange_112 rfl rfl ?_
        refine x_aldj (f := S.2.1 (31, l, 0)) dX1_takeChange_113 (hp31 (putJ S (30, l, 0) (S.1 (14, l, 0) 7) ((S.2.1 (30, l, 0) (S.1 (14, l, 0) 7)) &&& ((jShl 1 (p : Int)) ^^^ (-1)))) (by omega) (by omega)) (show (31 : Nat) ≠ 99 by decide) (by omega) (by omega) (by decide) ?_
        refine x_lload dX1_takeChange_114 rfl ?_
        refine x_ldc2 (v := (-1)) dX1_takeChange_116 wd682 ?_
        refine x_lxor dX1_takeChange_119 ?_
        refine x_land dX1_takeChange_120 ?_
        refine x_astj dX1_takeChange_121 (hp31 (putJ S (30, l, 0) (S.1 (14, l, 0) 7) ((S.2.1 (30, l, 0) (S.1 (14, l, 0) 7)) &&& ((jShl 1 (p : Int)) ^^^ (-1)))) (by omega) (by omega)) (show (31 : Nat) ≠ 99 by decide) (by omega) (by omega) (by decide) ?_
        refine x_heq (pa31 (putJ S (30, l, 0) (S.1 (14, l, 0) 7) ((S.2.1 (30, l, 0) (S.1 (14, l, 0) 7)) &&& ((jShl 1 (p : Int)) ^^^ (-1)))) (by omega) (by omega) (S.1 (14, l, 0) 7) ((S.2.1 (31, l, 0) (S.1 (14, l, 0) 7)) &&& ((jShl 1 (p : Int)) ^^^ (-1)))) ?_
        have hw121_6 : WI (putJ (putJ S (30, l, 0) (S.1 (14, l, 0) 7) ((S.2.1 (30, l, 0) (S.1 (14, l, 0) 7)) &&& ((jShl 1 (p : Int)) ^^^ (-1)))) (31, l, 0) (S.1 (14, l, 0) 7) ((S.2.1 (31, l, 0) (S.1 (14, l, 0) 7)) &&& ((jShl 1 (p : Int)) ^^^ (-1)))) := hw103_4.puJ
        refine x_lload_n dX1_takeChange_122 rfl ?_
        refine x_lload dX1_takeChange_123 rfl ?_
        refine x_lcmp dX1_takeChange_125 ?_
        refine x_if_ne (tgt := 139) dX1_takeChange_126 (by decide) (by first | exact hz _ _ | exact hw.1 _ _ | exact zR_of _ | exact bI_z _ | assumption | exact ⟨by omega, by omega⟩) (fun c126 => ?_) (fun c126 => ?_)
        · refine x_aload_n dX1_takeChange_139 rfl ?_
          refine x_dup dX1_takeChange_140 rfl ?_
          refine x_get (v := xI (S.1 (14, l, 0) 9)) dX1_takeChange_141 fl_RX1_41 (hp14 (putJ (putJ S (30, l, 0) (S.1 (14, l, 0) 7) ((S.2.1 (30, l, 0) (S.1 (14, l, 0) 7)) &&& ((jShl 1 (p : Int)) ^^^ (-1)))) (31, l, 0) (S.1 (14, l, 0) 7) ((S.2.1 (31, l, 0) (S.1 (14, l, 0) 7)) &&& ((jShl 1 (p : Int)) ^^^ (-1)))) (by omega) (by omega)) rfl ?_
          have f141_7 := wf14_9 hw (S := S) (b := l) (by omega) (by omega)
          refine x_top (show S.1 (14, l, 0) 9 = S.1 (14, l, 0) 9 from by first | rfl | simp [putI, putJ, xUpd]) ?_
          refine x_iconst dX1_takeChange_144 ?_
          refine x_isub dX1_takeChange_145 ?_
          refine x_put dX1_takeChange_146 fl_RX1_41 (fun r hr => by cases hr; rfl) (hp14 (putJ (putJ S (30, l, 0) (S.1 (14, l, 0) 7) ((S.2.1 (30, l, 0) (S.1 (14, l, 0) 7)) &&& ((jShl 1 (p : Int)) ^^^ (-1)))) (31, l, 0) (S.1 (14, l, 0) 7) ((S.2.1 (31, l, 0) (S.1 (14, l, 0) 7)) &&& ((jShl 1 (p : Int)) ^^^ (-1)))) (by omega) (by omega)) xfit_i (Nat.le_of_ble_eq_true rfl) rfl ?_
          refine x_heq (pu14_9 (putJ (putJ S (30, l, 0) (S.1 (14, l, 0) 7) ((S.2.1 (30, l, 0) (S.1 (14, l, 0) 7)) &&& ((jShl 1 (p : Int)) ^^^ (-1)))) (31, l, 0) (S.1 (14, l, 0) 7) ((S.2.1 (31, l, 0) (S.1 (14, l, 0) 7)) &&& ((jShl 1 (p : Int)) ^^^ (-1)))) (by omega) (by omega) ((S.1 (14, l, 0) 9) - 1)) ?_
          have hw146_8 : WI (putI (putJ (putJ S (30, l, 0) (S.1 (14, l, 0) 7) ((S.2.1 (30, l, 0) (S.1 (14, l, 0) 7)) &&& ((jShl 1 (p : Int)) ^^^ (-1)))) (31, l, 0) (S.1 (14, l, 0) 7) ((S.2.1 (31, l, 0) (S.1 (14, l, 0) 7)) &&& ((jShl 1 (p : Int)) ^^^ (-1)))) (14, l, 0) 9 ((S.1 (14, l, 0) 9) - 1)) := wp14_9 hw121_6 (by omega) (by omega) (by omega)
          refine x_iload dX1_takeChange_149 rfl ?_
          refine x_if_eq (tgt := 160) dX1_takeChange_151 (by decide) ⟨by decide, by decide⟩ (fun _ => ?_) (fun z => absurd z (by decide))
          refine x_iload dX1_takeChange_160 rfl ?_
          exact x_iret dX1_takeChange_162 rfl (pTi ⟨by omega, hno, by first | exact Or.inl (by omega) | exact Or.inr c35⟩ (by unfold takeV; first | rw [if_pos (lg0.mp c76)] | rw [if_neg (fun z => c76 (lg0.mpr z))]) (by unfold sTake; dsimp only; (first | rw [if_pos (lg0.mp c126)] | rw [if_neg (fun z => c126 (lg0.mpr z))]); first | rfl | simp [putI, putJ, xUpd]))
        · refine x_aload_n dX1_takeChange_129 rfl ?_
          refine x_dup dX1_takeChange_130 rfl ?_
          refine x_get (v := xI (S.1 (14, l, 0) 7)) dX1_takeChange_131 fl_RX1_35 (hp14 (putJ (putJ S (30, l, 0) (S.1 (14, l, 0) 7) ((S.2.1 (30, l, 0) (S.1 (14, l, 0) 7)) &&& ((jShl 1 (p : Int)) ^^^ (-1)))) (31, l, 0) (S.1 (14, l, 0) 7) ((S.2.1 (31, l, 0) (S.1 (14, l, 0) 7)) &&& ((jShl 1 (p : Int)) ^^^ (-1)))) (by omega) (by omega)) rfl ?_
          have f131_9 := wf14_7 hw (S := S) (b := l) (by omega) (by omega)
          refine x_iconst dX1_takeChange_134 ?_
          refine x_iadd dX1_takeChange_135 ?_
          refine x_put dX1_takeChange_136 fl_RX1_35 (fun r hr => by cases hr; rfl) (hp14 (putJ (putJ S (30, l, 0) (S.1 (14, l, 0) 7) ((S.2.1 (30, l, 0) (S.1 (14, l, 0) 7)) &&& ((jShl 1 (p : Int)) ^^^ (-1)))) (31, l, 0) (S.1 (14, l, 0) 7) ((S.2.1 (31, l, 0) (S.1 (14, l, 0) 7)) &&& ((jShl 1 (p : Int)) ^^^ (-1)))) (by omega) (by omega)) xfit_i (Nat.le_of_ble_eq_true rfl) rfl ?_
          refine x_heq (pu14_7 (putJ (putJ S (30, l, 0) (S.1 (14, l, 0) 7) ((S.2.1 (30, l, 0) (S.1 (14, l, 0) 7)) &&& ((jShl 1 (p : Int)) ^^^ (-1)))) (31, l, 0) (S.1 (14, l, 0) 7) ((S.2.1 (31, l, 0) (S.1 (14, l, 0) 7)) &&& ((jShl 1 (p : Int)) ^^^ (-1)))) (by omega) (by omega) ((S.1 (14, l, 0) 7) + 1)) ?_
          have hw136_10 : WI (putI (putJ (putJ S (30, l, 0) (S.1 (14, l, 0) 7) ((S.2.1 (30, l, 0) (S.1 (14, l, 0) 7)) &&& ((jShl 1 (p : Int)) ^^^ (-1)))) (31, l, 0) (S.1 (14, l, 0) 7) ((S.2.1 (31, l, 0) (S.1 (14, l, 0) 7)) &&& ((jShl 1 (p : Int)) ^^^ (-1)))) (14, l, 0) 7 ((S.1 (14, l, 0) 7) + 1)) := wp14_7 hw121_6 (by omega) (by omega) (by omega)
          refine x_aload_n dX1_takeChange_139 rfl ?_
          refine x_dup dX1_takeChange_140 rfl ?_
          refine x_get (v := xI ((putI (putJ (putJ S (30, l, 0) (S.1 (14, l, 0) 7) ((S.2.1 (30, l, 0) (S.1 (14, l, 0) 7)) &&& ((jShl 1 (p : Int)) ^^^ (-1)))) (31, l, 0) (S.1 (14, l, 0) 7) ((S.2.1 (31, l, 0) (S.1 (14, l, 0) 7)) &&& ((jShl 1 (p : Int)) ^^^ (-1)))) (14, l, 0) 7 ((S.1 (14, l, 0) 7) + 1)).1 (14, l, 0) 9)) dX1_takeChange_141 fl_RX1_41 (hp14 (putI (putJ (putJ S (30, l, 0) (S.1 (14, l, 0) 7) ((S.2.1 (30, l, 0) (S.1 (14, l, 0) 7)) &&& ((jShl 1 (p : Int)) ^^^ (-1)))) (31, l, 0) (S.1 (14, l, 0) 7) ((S.2.1 (31, l, 0) (S.1 (14, l, 0) 7)) &&& ((jShl 1 (p : Int)) ^^^ (-1)))) (14, l, 0) 7 ((S.1 (14, l, 0) 7) + 1)) (by omega) (by omega)) rfl ?_
          have f141_11 := wf14_9 hw136_10 (S := putI (putJ (putJ S (30, l, 0) (S.1 (14, l, 0) 7) ((S.2.1 (30, l, 0) (S.1 (14, l, 0) 7)) &&& ((jShl 1 (p : Int)) ^^^ (-1)))) (31, l, 0) (S.1 (14, l, 0) 7) ((S.2.1 (31, l, 0) (S.1 (14, l, 0) 7)) &&& ((jShl 1 (p : Int)) ^^^ (-1)))) (14, l, 0) 7 ((S.1 (14, l, 0) 7) + 1)) (b := l) (by omega) (by omega)
          refine x_top (show (putI (putJ (putJ S (30, l, 0) (S.1 (14, l, 0) 7) ((S.2.1 (30, l, 0) (S.1 (14, l, 0) 7)) &&& ((jShl 1 (p : Int)) ^^^ (-1)))) (31, l, 0) (S.1 (14, l, 0) 7) ((S.2.1 (31, l, 0) (S.1 (14, l, 0) 7)) &&& ((jShl 1 (p : Int)) ^^^ (-1)))) (14, l, 0) 7 ((S.1 (14, l, 0) 7) + 1)).1 (14, l, 0) 9 = S.1 (14, l, 0) 9 from by first | rfl | simp [putI, putJ, xUpd]) ?_
          refine x_iconst dX1_takeChange_144 ?_
          refine x_isub dX1_takeChange_145 ?_
          refine x_put dX1_takeChange_146 fl_RX1_41 (fun r hr => by cases hr; rfl) (hp14 (putI (putJ (putJ S (30, l, 0) (S.1 (14, l, 0) 7) ((S.2.1 (30, l, 0) (S.1 (14, l, 0) 7)) &&& ((jShl 1 (p : Int)) ^^^ (-1)))) (31, l, 0) (S.1 (14, l, 0) 7) ((S.2.1 (31, l, 0) (S.1 (14, l, 0) 7)) &&& ((jShl 1 (p : Int)) ^^^ (-1)))) (14, l, 0) 7 ((S.1 (14, l, 0) 7) + 1)) (by omega) (by omega)) xfit_i (Nat.le_of_ble_eq_true rfl) rfl ?_
          refine x_heq (pu14_9 (putI (putJ (putJ S (30, l, 0) (S.1 (14, l, 0) 7) ((S.2.1 (30, l, 0) (S.1 (14, l, 0) 7)) &&& ((jShl 1 (p : Int)) ^^^ (-1)))) (31, l, 0) (S.1 (14, l, 0) 7) ((S.2.1 (31, l, 0) (S.1 (14, l, 0) 7)) &&& ((jShl 1 (p : Int)) ^^^ (-1)))) (14, l, 0) 7 ((S.1 (14, l, 0) 7) + 1)) (by omega) (by omega) ((S.1 (14, l, 0) 9) - 1)) ?_
          have hw146_12 : WI (putI (putI (putJ (putJ S (30, l, 0) (S.1 (14, l, 0) 7) ((S.2.1 (30, l, 0) (S.1 (14, l, 0) 7)) &&& ((jShl 1 (p : Int)) ^^^ (-1)))) (31, l, 0) (S.1 (14, l, 0) 7) ((S.2.1 (31, l, 0) (S.1 (14, l, 0) 7)) &&& ((jShl 1 (p : Int)) ^^^ (-1)))) (14, l, 0) 7 ((S.1 (14, l, 0) 7) + 1)) (14, l, 0) 9 ((S.1 (14, l, 0) 9) - 1)) := wp14_9 hw136_10 (by omega) (by omega) (by omega)
          refine x_iload dX1_takeChange_149 rfl ?_
          refine x_if_eq (tgt := 160) dX1_takeChange_151 (by decide) ⟨by decide, by decide⟩ (fun _ => ?_) (fun z => absurd z (by decide))
          refine x_iload dX1_takeChange_160 rfl ?_
          exact x_iret dX1_takeChange_162 rfl (pTi ⟨by omega, hno, by first | exact Or.inl (by omega) | exact Or.inr c35⟩ (by unfold takeV; first | rw [if_pos (lg0.mp c76)] | rw [if_neg (fun z => c76 (lg0.mpr z))]) (by unfold sTake; dsimp only; (first | rw [if_pos (lg0.mp c126)] | rw [if_neg (fun z => c126 (lg0.mpr z))]); first | rfl | simp [putI, putJ, xUpd]))
      · refine x_iconst dX1_takeChange_79 ?_
        refine x_goto (tgt := 84) dX1_takeChange_80 (by decide) ?_
        refine x_istore (L' := [xR (14, l, 0), xJ (S.2.1 (30, l, 0) (S.1 (14, l, 0) 7) ||| S.2.1 (31, l, 0) (S.1 (14, l, 0) 7)), none, xI (p : Int), xJ (jShl 1 (p : Int)), none, xI ((1 + (64 * (S.1 (14, l, 0) 3))) + (p : Int)), xI 1]) dX1_takeChange_84 (by decide) rfl ?_
        refine x_aload_n dX1_takeChange_86 rfl ?_
        refine x_get (v := xR (30, l, 0)) dX1_takeChange_87 fl_RX1_9 (hp14 S (by omega) (by omega)) rfl ?_
        refine x_aload_n dX1_takeChange_90 rfl ?_
        refine x_get (v := xI (S.1 (14, l, 0) 7)) dX1_takeChange_91 fl_RX1_35 (hp14 S (by omega) (by omega)) rfl ?_
        have f91_13 := wf14_7 hw (S := S) (b := l) (by omega) (by omega)
        refine x_dup2 dX1_takeChange_94 rfl rfl ?_
        refine x_aldj (f := S.2.1 (30, l, 0)) dX1_takeChange_95 (hp30 S (by omega) (by omega)) (show (30 : Nat) ≠ 99 by decide) (by omega) (by omega) (by decide) ?_
        refine x_lload dX1_takeChange_96 rfl ?_
        refine x_ldc2 (v := (-1)) dX1_takeChange_98 wd682 ?_
        refine x_lxor dX1_takeChange_101 ?_
        refine x_land dX1_takeChange_102 ?_
        refine x_astj dX1_takeChange_103 (hp30 S (by omega) (by omega)) (show (30 : Nat) ≠ 99 by decide) (by omega) (by omega) (by decide) ?_
        refine x_heq (pa30 S (by omega) (by omega) (S.1 (14, l, 0) 7) ((S.2.1 (30, l, 0) (S.1 (14, l, 0) 7)) &&& ((jShl 1 (p : Int)) ^^^ (-1)))) ?_
        have hw103_14 : WI (putJ S (30, l, 0) (S.1 (14, l, 0) 7) ((S.2.1 (30, l, 0) (S.1 (14, l, 0) 7)) &&& ((jShl 1 (p : Int)) ^^^ (-1)))) := hw.puJ
        refine x_aload_n dX1_takeChange_104 rfl ?_
        refine x_get (v := xR (31, l, 0)) dX1_takeChange_105 fl_RX1_15 (hp14 (putJ S (30, l, 0) (S.1 (14, l, 0) 7) ((S.2.1 (30, l, 0) (S.1 (14, l, 0) 7)) &&& ((jShl 1 (p : Int)) ^^^ (-1)))) (by omega) (by omega)) rfl ?_
        refine x_aload_n dX1_takeChange_108 rfl ?_
        refine x_get (v := xI (S.1 (14, l, 0) 7)) dX1_takeChange_109 fl_RX1_35 (hp14 (putJ S (30, l, 0) (S.1 (14, l, 0) 7) ((S.2.1 (30, l, 0) (S.1 (14, l, 0) 7)) &&& ((jShl 1 (p : Int)) ^^^ (-1)))) (by omega) (by omega)) rfl ?_
        have f109_15 := wf14_7 hw (S := S) (b := l) (by omega) (by omega)
        refine x_dup2 dX1_takeChange_112 rfl rfl ?_
        refine x_aldj (f := S.2.1 (31, l, 0)) dX1_takeChange_113 (hp31 (putJ S (30, l, 0) (S.1 (14, l, 0) 7) ((S.2.1 (30, l, 0) (S.1 (14, l, 0) 7)) &&& ((jShl 1 (p : Int)) ^^^ (-1)))) (by omega) (by omega)) (show (31 : Nat) ≠ 99 by decide) (by omega) (by omega) (by decide) ?_
        refine x_lload dX1_takeChange_114 rfl ?_
        refine x_ldc2 (v := (-1)) dX1_takeChange_116 wd682 ?_
        refine x_lxor dX1_takeChange_119 ?_
        refine x_land dX1_takeChange_120 ?_
        refine x_astj dX1_takeChange_121 (hp31 (putJ S (30, l, 0) (S.1 (14, l, 0) 7) ((S.2.1 (30, l, 0) (S.1 (14, l, 0) 7)) &&& ((jShl 1 (p : Int)) ^^^ (-1)))) (by omega) (by omega)) (show (31 : Nat) ≠ 99 by decide) (by omega) (by omega) (by decide) ?_
        refine x_heq (pa31 (putJ S (30, l, 0) (S.1 (14, l, 0) 7) ((S.2.1 (30, l, 0) (S.1 (14, l, 0) 7)) &&& ((jShl 1 (p : Int)) ^^^ (-1)))) (by omega) (by omega) (S.1 (14, l, 0) 7) ((S.2.1 (31, l, 0) (S.1 (14, l, 0) 7)) &&& ((jShl 1 (p : Int)) ^^^ (-1)))) ?_
        have hw121_16 : WI (putJ (putJ S (30, l, 0) (S.1 (14, l, 0) 7) ((S.2.1 (30, l, 0) (S.1 (14, l, 0) 7)) &&& ((jShl 1 (p : Int)) ^^^ (-1)))) (31, l, 0) (S.1 (14, l, 0) 7) ((S.2.1 (31, l, 0) (S.1 (14, l, 0) 7)) &&& ((jShl 1 (p : Int)) ^^^ (-1)))) := hw103_14.puJ
        refine x_lload_n dX1_takeChange_122 rfl ?_
        refine x_lload dX1_takeChange_123 rfl ?_
        refine x_lcmp dX1_takeChange_125 ?_
        refine x_if_ne (tgt := 139) dX1_takeChange_126 (by decide) (by first | exact hz _ _ | exact hw.1 _ _ | exact zR_of _ | exact bI_z _ | assumption | exact ⟨by omega, by omega⟩) (fun c126 => ?_) (fun c126 => ?_)
        · refine x_aload_n dX1_takeChange_139 rfl ?_
          refine x_dup dX1_takeChange_140 rfl ?_
          refine x_get (v := xI (S.1 (14, l, 0) 9)) dX1_takeChange_141 fl_RX1_41 (hp14 (putJ (putJ S (30, l, 0) (S.1 (14, l, 0) 7) ((S.2.1 (30, l, 0) (S.1 (14, l, 0) 7)) &&& ((jShl 1 (p : Int)) ^^^ (-1)))) (31, l, 0) (S.1 (14, l, 0) 7) ((S.2.1 (31, l, 0) (S.1 (14, l, 0) 7)) &&& ((jShl 1 (p : Int)) ^^^ (-1)))) (by omega) (by omega)) rfl ?_
          have f141_17 := wf14_9 hw (S := S) (b := l) (by omega) (by omega)
          refine x_top (show S.1 (14, l, 0) 9 = S.1 (14, l, 0) 9 from by first | rfl | simp [putI, putJ, xUpd]) ?_
          refine x_iconst dX1_takeChange_144 ?_
          refine x_isub dX1_takeChange_145 ?_
          refine x_put dX1_takeChange_146 fl_RX1_41 (fun r hr => by cases hr; rfl) (hp14 (putJ (putJ S (30, l, 0) (S.1 (14, l, 0) 7) ((S.2.1 (30, l, 0) (S.1 (14, l, 0) 7)) &&& ((jShl 1 (p : Int)) ^^^ (-1)))) (31, l, 0) (S.1 (14, l, 0) 7) ((S.2.1 (31, l, 0) (S.1 (14, l, 0) 7)) &&& ((jShl 1 (p : Int)) ^^^ (-1)))) (by omega) (by omega)) xfit_i (Nat.le_of_ble_eq_true rfl) rfl ?_
          refine x_heq (pu14_9 (putJ (putJ S (30, l, 0) (S.1 (14, l, 0) 7) ((S.2.1 (30, l, 0) (S.1 (14, l, 0) 7)) &&& ((jShl 1 (p : Int)) ^^^ (-1)))) (31, l, 0) (S.1 (14, l, 0) 7) ((S.2.1 (31, l, 0) (S.1 (14, l, 0) 7)) &&& ((jShl 1 (p : Int)) ^^^ (-1)))) (by omega) (by omega) ((S.1 (14, l, 0) 9) - 1)) ?_
          have hw146_18 : WI (putI (putJ (putJ S (30, l, 0) (S.1 (14, l, 0) 7) ((S.2.1 (30, l, 0) (S.1 (14, l, 0) 7)) &&& ((jShl 1 (p : Int)) ^^^ (-1)))) (31, l, 0) (S.1 (14, l, 0) 7) ((S.2.1 (31, l, 0) (S.1 (14, l, 0) 7)) &&& ((jShl 1 (p : Int)) ^^^ (-1)))) (14, l, 0) 9 ((S.1 (14, l, 0) 9) - 1)) := wp14_9 hw121_16 (by omega) (by omega) (by omega)
          refine x_iload dX1_takeChange_149 rfl ?_
          refine x_if_eq (tgt := 160) dX1_takeChange_151 (by decide) ⟨by decide, by decide⟩ (fun z => absurd z (by decide)) (fun _ => ?_)
          refine x_iload dX1_takeChange_154 rfl ?_
          refine x_ineg dX1_takeChange_156 ?_
          refine x_goto (tgt := 162) dX1_takeChange_157 (by decide) ?_
          exact x_iret dX1_takeChange_162 rfl (pTi ⟨by omega, hno, by first | exact Or.inl (by omega) | exact Or.inr c35⟩ (by unfold takeV; first | rw [if_pos (lg0.mp c76)] | rw [if_neg (fun z => c76 (lg0.mpr z))]) (by unfold sTake; dsimp only; (first | rw [if_pos (lg0.mp c126)] | rw [if_neg (fun z => c126 (lg0.mpr z))]); first | rfl | simp [putI, putJ, xUpd]))
        · refine x_aload_n dX1_takeChange_129 rfl ?_
          refine x_dup dX1_takeChange_130 rfl ?_
          refine x_get (v := xI (S.1 (14, l, 0) 7)) dX1_takeChange_131 fl_RX1_35 (hp14 (putJ (putJ S (30, l, 0) (S.1 (14, l, 0) 7) ((S.2.1 (30, l, 0) (S.1 (14, l, 0) 7)) &&& ((jShl 1 (p : Int)) ^^^ (-1)))) (31, l, 0) (S.1 (14, l, 0) 7) ((S.2.1 (31, l, 0) (S.1 (14, l, 0) 7)) &&& ((jShl 1 (p : Int)) ^^^ (-1)))) (by omega) (by omega)) rfl ?_
          have f131_19 := wf14_7 hw (S := S) (b := l) (by omega) (by omega)
          refine x_iconst dX1_takeChange_134 ?_
          refine x_iadd dX1_takeChange_135 ?_
          refine x_put dX1_takeChange_136 fl_RX1_35 (fun r hr => by cases hr; rfl) (hp14 (putJ (putJ S (30, l, 0) (S.1 (14, l, 0) 7) ((S.2.1 (30, l, 0) (S.1 (14, l, 0) 7)) &&& ((jShl 1 (p : Int)) ^^^ (-1)))) (31, l, 0) (S.1 (14, l, 0) 7) ((S.2.1 (31, l, 0) (S.1 (14, l, 0) 7)) &&& ((jShl 1 (p : Int)) ^^^ (-1)))) (by omega) (by omega)) xfit_i (Nat.le_of_ble_eq_true rfl) rfl ?_
          refine x_heq (pu14_7 (putJ (putJ S (30, l, 0) (S.1 (14, l, 0) 7) ((S.2.1 (30, l, 0) (S.1 (14, l, 0) 7)) &&& ((jShl 1 (p : Int)) ^^^ (-1)))) (31, l, 0) (S.1 (14, l, 0) 7) ((S.2.1 (31, l, 0) (S.1 (14, l, 0) 7)) &&& ((jShl 1 (p : Int)) ^^^ (-1)))) (by omega) (by omega) ((S.1 (14, l, 0) 7) + 1)) ?_
          have hw136_20 : WI (putI (putJ (putJ S (30, l, 0) (S.1 (14, l, 0) 7) ((S.2.1 (30, l, 0) (S.1 (14, l, 0) 7)) &&& ((jShl 1 (p : Int)) ^^^ (-1)))) (31, l, 0) (S.1 (14, l, 0) 7) ((S.2.1 (31, l, 0) (S.1 (14, l, 0) 7)) &&& ((jShl 1 (p : Int)) ^^^ (-1)))) (14, l, 0) 7 ((S.1 (14, l, 0) 7) + 1)) := wp14_7 hw121_16 (by omega) (by omega) (by omega)
          refine x_aload_n dX1_takeChange_139 rfl ?_
          refine x_dup dX1_takeChange_140 rfl ?_
          refine x_get (v := xI ((putI (putJ (putJ S (30, l, 0) (S.1 (14, l, 0) 7) ((S.2.1 (30, l, 0) (S.1 (14, l, 0) 7)) &&& ((jShl 1 (p : Int)) ^^^ (-1)))) (31, l, 0) (S.1 (14, l, 0) 7) ((S.2.1 (31, l, 0) (S.1 (14, l, 0) 7)) &&& ((jShl 1 (p : Int)) ^^^ (-1)))) (14, l, 0) 7 ((S.1 (14, l, 0) 7) + 1)).1 (14, l, 0) 9)) dX1_takeChange_141 fl_RX1_41 (hp14 (putI (putJ (putJ S (30, l, 0) (S.1 (14, l, 0) 7) ((S.2.1 (30, l, 0) (S.1 (14, l, 0) 7)) &&& ((jShl 1 (p : Int)) ^^^ (-1)))) (31, l, 0) (S.1 (14, l, 0) 7) ((S.2.1 (31, l, 0) (S.1 (14, l, 0) 7)) &&& ((jShl 1 (p : Int)) ^^^ (-1)))) (14, l, 0) 7 ((S.1 (14, l, 0) 7) + 1)) (by omega) (by omega)) rfl ?_
          have f141_21 := wf14_9 hw136_20 (S := putI (putJ (putJ S (30, l, 0) (S.1 (14, l, 0) 7) ((S.2.1 (30, l, 0) (S.1 (14, l, 0) 7)) &&& ((jShl 1 (p : Int)) ^^^ (-1)))) (31, l, 0) (S.1 (14, l, 0) 7) ((S.2.1 (31, l, 0) (S.1 (14, l, 0) 7)) &&& ((jShl 1 (p : Int)) ^^^ (-1)))) (14, l, 0) 7 ((S.1 (14, l, 0) 7) + 1)) (b := l) (by omega) (by omega)
          refine x_top (show (putI (putJ (putJ S (30, l, 0) (S.1 (14, l, 0) 7) ((S.2.1 (30, l, 0) (S.1 (14, l, 0) 7)) &&& ((jShl 1 (p : Int)) ^^^ (-1)))) (31, l, 0) (S.1 (14, l, 0) 7) ((S.2.1 (31, l, 0) (S.1 (14, l, 0) 7)) &&& ((jShl 1 (p : Int)) ^^^ (-1)))) (14, l, 0) 7 ((S.1 (14, l, 0) 7) + 1)).1 (14, l, 0) 9 = S.1 (14, l, 0) 9 from by first | rfl | simp [putI, putJ, xUpd]) ?_
          refine x_iconst dX1_takeChange_144 ?_
          refine x_isub dX1_takeChange_145 ?_
          refine x_put dX1_takeChange_146 fl_RX1_41 (fun r hr => by cases hr; rfl) (hp14 (putI (putJ (putJ S (30, l, 0) (S.1 (14, l, 0) 7) ((S.2.1 (30, l, 0) (S.1 (14, l, 0) 7)) &&& ((jShl 1 (p : Int)) ^^^ (-1)))) (31, l, 0) (S.1 (14, l, 0) 7) ((S.2.1 (31, l, 0) (S.1 (14, l, 0) 7)) &&& ((jShl 1 (p : Int)) ^^^ (-1)))) (14, l, 0) 7 ((S.1 (14, l, 0) 7) + 1)) (by omega) (by omega)) xfit_i (Nat.le_of_ble_eq_true rfl) rfl ?_
          refine x_heq (pu14_9 (putI (putJ (putJ S (30, l, 0) (S.1 (14, l, 0) 7) ((S.2.1 (30, l, 0) (S.1 (14, l, 0) 7)) &&& ((jShl 1 (p : Int)) ^^^ (-1)))) (31, l, 0) (S.1 (14, l, 0) 7) ((S.2.1 (31, l, 0) (S.1 (14, l, 0) 7)) &&& ((jShl 1 (p : Int)) ^^^ (-1)))) (14, l, 0) 7 ((S.1 (14, l, 0) 7) + 1)) (by omega) (by omega) ((S.1 (14, l, 0) 9) - 1)) ?_
          have hw146_22 : WI (putI (putI (putJ (putJ S (30, l, 0) (S.1 (14, l, 0) 7) ((S.2.1 (30, l, 0) (S.1 (14, l, 0) 7)) &&& ((jShl 1 (p : Int)) ^^^ (-1)))) (31, l, 0) (S.1 (14, l, 0) 7) ((S.2.1 (31, l, 0) (S.1 (14, l, 0) 7)) &&& ((jShl 1 (p : Int)) ^^^ (-1)))) (14, l, 0) 7 ((S.1 (14, l, 0) 7) + 1)) (14, l, 0) 9 ((S.1 (14, l, 0) 9) - 1)) := wp14_9 hw136_20 (by omega) (by omega) (by omega)
          refine x_iload dX1_takeChange_149 rfl ?_
          refine x_if_eq (tgt := 160) dX1_takeChange_151 (by decide) ⟨by decide, by decide⟩ (fun z => absurd z (by decide)) (fun _ => ?_)
          refine x_iload dX1_takeChange_154 rfl ?_
          refine x_ineg dX1_takeChange_156 ?_
          refine x_goto (tgt := 162) dX1_takeChange_157 (by decide) ?_
          exact x_iret dX1_takeChange_162 rfl (pTi ⟨by omega, hno, by first | exact Or.inl (by omega) | exact Or.inr c35⟩ (by unfold takeV; first | rw [if_pos (lg0.mp c76)] | rw [if_neg (fun z => c76 (lg0.mpr z))]) (by unfold sTake; dsimp only; (first | rw [if_pos (lg0.mp c126)] | rw [if_neg (fun z => c126 (lg0.mpr z))]); first | rfl | simp [putI, putJ, xUpd]))
    · refine x_lload_n dX1_takeChange_28 rfl ?_
      refine x_iload_n dX1_takeChange_29 rfl ?_
      refine x_lushr dX1_takeChange_30 ?_
      refine x_lconst (v := 1) dX1_takeChange_31 (by decide) ?_
      refine x_land dX1_takeChange_32 ?_
      refine x_lconst (v := 0) dX1_takeChange_33 (by decide) ?_
      refine x_lcmp dX1_takeChange_34 ?_
      refine x_if_ne (tgt := 44) dX1_takeChange_35 (by decide) (by first | exact hz _ _ | exact hw.1 _ _ | exact zR_of _ | exact bI_z _ | assumption | exact ⟨by omega, by omega⟩) (fun c35 => ?_) (fun c35 => ?_)
      · refine x_lconst (v := 1) dX1_takeChange_44 (by decide) ?_
        refine x_iload_n dX1_takeChange_45 rfl ?_
        refine x_lshl dX1_takeChange_46 ?_
        refine x_lstore (L' := [xR (14, l, 0), xJ (S.2.1 (30, l, 0) (S.1 (14, l, 0) 7) ||| S.2.1 (31, l, 0) (S.1 (14, l, 0) 7)), none, xI (p : Int), xJ (jShl 1 (p : Int)), none, none, none]) dX1_takeChange_47 (by decide) rfl ?_
        refine x_iconst dX1_takeChange_49 ?_
        refine x_bipush (v := 64) dX1_takeChange_50 (by decide) ?_
        refine x_aload_n dX1_takeChange_52 rfl ?_
        refine x_get (v := xI (S.1 (14, l, 0) 3)) dX1_takeChange_53 fl_RX1_22 (hp14 S (by omega) (by omega)) rfl ?_
        have f53_23 := wf14_3 hw (S := S) (b := l) (by omega) (by omega)
        refine x_imul dX1_takeChange_56 ?_
        refine x_iadd dX1_takeChange_57 ?_
        refine x_iload_n dX1_takeChange_58 rfl ?_
        refine x_iadd dX1_takeChange_59 ?_
        refine x_istore (L' := [xR (14, l, 0), xJ (S.2.1 (30, l, 0) (S.1 (14, l, 0) 7) ||| S.2.1 (31, l, 0) (S.1 (14, l, 0) 7)), none, xI (p : Int), xJ (jShl 1 (p : Int)), none, xI ((1 + (64 * (S.1 (14, l, 0) 3))) + (p : Int)), none]) dX1_takeChange_60 (by decide) rfl ?_
        refine x_aload_n dX1_takeChange_62 rfl ?_
        refine x_get (v := xR (31, l, 0)) dX1_takeChange_63 fl_RX1_15 (hp14 S (by omega) (by omega)) rfl ?_
        refine x_aload_n dX1_takeChange_66 rfl ?_
        refine x_get (v := xI (S.1 (14, l, 0) 7)) dX1_takeChange_67 fl_RX1_35 (hp14 S (by omega) (by omega)) rfl ?_
        have f67_24 := wf14_7 hw (S := S) (b := l) (by omega) (by omega)
        refine x_aldj (f := S.2.1 (31, l, 0)) dX1_takeChange_70 (hp31 S (by omega) (by omega)) (show (31 : Nat) ≠ 99 by decide) (by omega) (by omega) (by decide) ?_
        refine x_lload dX1_takeChange_71 rfl ?_
        refine x_land dX1_takeChange_73 ?_
        refine x_lconst (v := 0) dX1_takeChange_74 (by decide) ?_
        refine x_lcmp dX1_takeChange_75 ?_
        refine x_if_eq (tgt := 83) dX1_takeChange_76 (by decide) (by first | exact hz _ _ | exact hw.1 _ _ | exact zR_of _ | exact bI_z _ | assumption | exact ⟨by omega, by omega⟩) (fun c76 => ?_) (fun c76 => ?_)
        · refine x_iconst dX1_takeChange_83 ?_
          refine x_istore (L' := [xR (14, l, 0), xJ (S.2.1 (30, l, 0) (S.1 (14, l, 0) 7) ||| S.2.1 (31, l, 0) (S.1 (14, l, 0) 7)), none, xI (p : Int), xJ (jShl 1 (p : Int)), none, xI ((1 + (64 * (S.1 (14, l, 0) 3))) + (p : Int)), xI 0]) dX1_takeChange_84 (by decide) rfl ?_
          refine x_aload_n dX1_takeChange_86 rfl ?_
          refine x_get (v := xR (30, l, 0)) dX1_takeChange_87 fl_RX1_9 (hp14 S (by omega) (by omega)) rfl ?_
          refine x_aload_n dX1_takeChange_90 rfl ?_
          refine x_get (v := xI (S.1 (14, l, 0) 7)) dX1_takeChange_91 fl_RX1_35 (hp14 S (by omega) (by omega)) rfl ?_
          have f91_25 := wf14_7 hw (S := S) (b := l) (by omega) (by omega)
          refine x_dup2 dX1_takeChange_94 rfl rfl ?_
          refine x_aldj (f := S.2.1 (30, l, 0)) dX1_takeChange_95 (hp30 S (by omega) (by omega)) (show (30 : Nat) ≠ 99 by decide) (by omega) (by omega) (by decide) ?_
          refine x_lload dX1_takeChange_96 rfl ?_
          refine x_ldc2 (v := (-1)) dX1_takeChange_98 wd682 ?_
          refine x_lxor dX1_takeChange_101 ?_
          refine x_land dX1_takeChange_102 ?_
          refine x_astj dX1_takeChange_103 (hp30 S (by omega) (by omega)) (show (30 : Nat) ≠ 99 by decide) (by omega) (by omega) (by decide) ?_
          refine x_heq (pa30 S (by omega) (by omega) (S.1 (14, l, 0) 7) ((S.2.1 (30, l, 0) (S.1 (14, l, 0) 7)) &&& ((jShl 1 (p : Int)) ^^^ (-1)))) ?_
          have hw103_26 : WI (putJ S (30, l, 0) (S.1 (14, l, 0) 7) ((S.2.1 (30, l, 0) (S.1 (14, l, 0) 7)) &&& ((jShl 1 (p : Int)) ^^^ (-1)))) := hw.puJ
          refine x_aload_n dX1_takeChange_104 rfl ?_
          refine x_get (v := xR (31, l, 0)) dX1_takeChange_105 fl_RX1_15 (hp14 (putJ S (30, l, 0) (S.1 (14, l, 0) 7) ((S.2.1 (30, l, 0) (S.1 (14, l, 0) 7)) &&& ((jShl 1 (p : Int)) ^^^ (-1)))) (by omega) (by omega)) rfl ?_
          refine x_aload_n dX1_takeChange_108 rfl ?_
          refine x_get (v := xI (S.1 (14, l, 0) 7)) dX1_takeChange_109 fl_RX1_35 (hp14 (putJ S (30, l, 0) (S.1 (14, l, 0) 7) ((S.2.1 (30, l, 0) (S.1 (14, l, 0) 7)) &&& ((jShl 1 (p : Int)) ^^^ (-1)))) (by omega) (by omega)) rfl ?_
          have f109_27 := wf14_7 hw (S := S) (b := l) (by omega) (by omega)
          refine x_dup2 dX1_takeChange_112 rfl rfl ?_
          refine x_aldj (f := S.2.1 (31, l, 0)) dX1_takeChange_113 (hp31 (putJ S (30, l, 0) (S.1 (14, l, 0) 7) ((S.2.1 (30, l, 0) (S.1 (14, l, 0) 7)) &&& ((jShl 1 (p : Int)) ^^^ (-1)))) (by omega) (by omega)) (show (31 : Nat) ≠ 99 by decide) (by omega) (by omega) (by decide) ?_
          refine x_lload dX1_takeChange_114 rfl ?_
          refine x_ldc2 (v := (-1)) dX1_takeChange_116 wd682 ?_
          refine x_lxor dX1_takeChange_119 ?_
          refine x_land dX1_takeChange_120 ?_
          refine x_astj dX1_takeChange_121 (hp31 (putJ S (30, l, 0) (S.1 (14, l, 0) 7) ((S.2.1 (30, l, 0) (S.1 (14, l, 0) 7)) &&& ((jShl 1 (p : Int)) ^^^ (-1)))) (by omega) (by omega)) (show (31 : Nat) ≠ 99 by decide) (by omega) (by omega) (by decide) ?_
          refine x_heq (pa31 (putJ S (30, l, 0) (S.1 (14, l, 0) 7) ((S.2.1 (30, l, 0) (S.1 (14, l, 0) 7)) &&& ((jShl 1 (p : Int)) ^^^ (-1)))) (by omega) (by omega) (S.1 (14, l, 0) 7) ((S.2.1 (31, l, 0) (S.1 (14, l, 0) 7)) &&& ((jShl 1 (p : Int)) ^^^ (-1)))) ?_
          have hw121_28 : WI (putJ (putJ S (30, l, 0) (S.1 (14, l, 0) 7) ((S.2.1 (30, l, 0) (S.1 (14, l, 0) 7)) &&& ((jShl 1 (p : Int)) ^^^ (-1)))) (31, l, 0) (S.1 (14, l, 0) 7) ((S.2.1 (31, l, 0) (S.1 (14, l, 0) 7)) &&& ((jShl 1 (p : Int)) ^^^ (-1)))) := hw103_26.puJ
          refine x_lload_n dX1_takeChange_122 rfl ?_
          refine x_lload dX1_takeChange_123 rfl ?_
          refine x_lcmp dX1_takeChange_125 ?_
          refine x_if_ne (tgt := 139) dX1_takeChange_126 (by decide) (by first | exact hz _ _ | exact hw.1 _ _ | exact zR_of _ | exact bI_z _ | assumption | exact ⟨by omega, by omega⟩) (fun c126 => ?_) (fun c126 => ?_)
          · refine x_aload_n dX1_takeChange_139 rfl ?_
            refine x_dup dX1_takeChange_140 rfl ?_
            refine x_get (v := xI (S.1 (14, l, 0) 9)) dX1_takeChange_141 fl_RX1_41 (hp14 (putJ (putJ S (30, l, 0) (S.1 (14, l, 0) 7) ((S.2.1 (30, l, 0) (S.1 (14, l, 0) 7)) &&& ((jShl 1 (p : Int)) ^^^ (-1)))) (31, l, 0) (S.1 (14, l, 0) 7) ((S.2.1 (31, l, 0) (S.1 (14, l, 0) 7)) &&& ((jShl 1 (p : Int)) ^^^ (-1)))) (by omega) (by omega)) rfl ?_
            have f141_29 := wf14_9 hw (S := S) (b := l) (by omega) (by omega)
            refine x_top (show S.1 (14, l, 0) 9 = S.1 (14, l, 0) 9 from by first | rfl | simp [putI, putJ, xUpd]) ?_
            refine x_iconst dX1_takeChange_144 ?_
            refine x_isub dX1_takeChange_145 ?_
            refine x_put dX1_takeChange_146 fl_RX1_41 (fun r hr => by cases hr; rfl) (hp14 (putJ (putJ S (30, l, 0) (S.1 (14, l, 0) 7) ((S.2.1 (30, l, 0) (S.1 (14, l, 0) 7)) &&& ((jShl 1 (p : Int)) ^^^ (-1)))) (31, l, 0) (S.1 (14, l, 0) 7) ((S.2.1 (31, l, 0) (S.1 (14, l, 0) 7)) &&& ((jShl 1 (p : Int)) ^^^ (-1)))) (by omega) (by omega)) xfit_i (Nat.le_of_ble_eq_true rfl) rfl ?_
            refine x_heq (pu14_9 (putJ (putJ S (30, l, 0) (S.1 (14, l, 0) 7) ((S.2.1 (30, l, 0) (S.1 (14, l, 0) 7)) &&& ((jShl 1 (p : Int)) ^^^ (-1)))) (31, l, 0) (S.1 (14, l, 0) 7) ((S.2.1 (31, l, 0) (S.1 (14, l, 0) 7)) &&& ((jShl 1 (p : Int)) ^^^ (-1)))) (by omega) (by omega) ((S.1 (14, l, 0) 9) - 1)) ?_
            have hw146_30 : WI (putI (putJ (putJ S (30, l, 0) (S.1 (14, l, 0) 7) ((S.2.1 (30, l, 0) (S.1 (14, l, 0) 7)) &&& ((jShl 1 (p : Int)) ^^^ (-1)))) (31, l, 0) (S.1 (14, l, 0) 7) ((S.2.1 (31, l, 0) (S.1 (14, l, 0) 7)) &&& ((jShl 1 (p : Int)) ^^^ (-1)))) (14, l, 0) 9 ((S.1 (14, l, 0) 9) - 1)) := wp14_9 hw121_28 (by omega) (by omega) (by omega)
            refine x_iload dX1_takeChange_149 rfl ?_
            refine x_if_eq (tgt := 160) dX1_takeChange_151 (by decide) ⟨by decide, by decide⟩ (fun _ => ?_) (fun z => absurd z (by decide))
            refine x_iload dX1_takeChange_160 rfl ?_
            exact x_iret dX1_takeChange_162 rfl (pTi ⟨by omega, hno, by first | exact Or.inl (by omega) | exact Or.inr c35⟩ (by unfold takeV; first | rw [if_pos (lg0.mp c76)] | rw [if_neg (fun z => c76 (lg0.mpr z))]) (by unfold sTake; dsimp only; (first | rw [if_pos (lg0.mp c126)] | rw [if_neg (fun z => c126 (lg0.mpr z))]); first | rfl | simp [putI, putJ, xUpd]))
          · refine x_aload_n dX1_takeChange_129 rfl ?_
            refine x_dup dX1_takeChange_130 rfl ?_
            refine x_get (v := xI (S.1 (14, l, 0) 7)) dX1_takeChange_131 fl_RX1_35 (hp14 (putJ (putJ S (30, l, 0) (S.1 (14, l, 0) 7) ((S.2.1 (30, l, 0) (S.1 (14, l, 0) 7)) &&& ((jShl 1 (p : Int)) ^^^ (-1)))) (31, l, 0) (S.1 (14, l, 0) 7) ((S.2.1 (31, l, 0) (S.1 (14, l, 0) 7)) &&& ((jShl 1 (p : Int)) ^^^ (-1)))) (by omega) (by omega)) rfl ?_
            have f131_31 := wf14_7 hw (S := S) (b := l) (by omega) (by omega)
            refine x_iconst dX1_takeChange_134 ?_
            refine x_iadd dX1_takeChange_135 ?_
            refine x_put dX1_takeChange_136 fl_RX1_35 (fun r hr => by cases hr; rfl) (hp14 (putJ (putJ S (30, l, 0) (S.1 (14, l, 0) 7) ((S.2.1 (30, l, 0) (S.1 (14, l, 0) 7)) &&& ((jShl 1 (p : Int)) ^^^ (-1)))) (31, l, 0) (S.1 (14, l, 0) 7) ((S.2.1 (31, l, 0) (S.1 (14, l, 0) 7)) &&& ((jShl 1 (p : Int)) ^^^ (-1)))) (by omega) (by omega)) xfit_i (Nat.le_of_ble_eq_true rfl) rfl ?_
            refine x_heq (pu14_7 (putJ (putJ S (30, l, 0) (S.1 (14, l, 0) 7) ((S.2.1 (30, l, 0) (S.1 (14, l, 0) 7)) &&& ((jShl 1 (p : Int)) ^^^ (-1)))) (31, l, 0) (S.1 (14, l, 0) 7) ((S.2.1 (31, l, 0) (S.1 (14, l, 0) 7)) &&& ((jShl 1 (p : Int)) ^^^ (-1)))) (by omega) (by omega) ((S.1 (14, l, 0) 7) + 1)) ?_
            have hw136_32 : WI (putI (putJ (putJ S (30, l, 0) (S.1 (14, l, 0) 7) ((S.2.1 (30, l, 0) (S.1 (14, l, 0) 7)) &&& ((jShl 1 (p : Int)) ^^^ (-1)))) (31, l, 0) (S.1 (14, l, 0) 7) ((S.2.1 (31, l, 0) (S.1 (14, l, 0) 7)) &&& ((jShl 1 (p : Int)) ^^^ (-1)))) (14, l, 0) 7 ((S.1 (14, l, 0) 7) + 1)) := wp14_7 hw121_28 (by omega) (by omega) (by omega)
            refine x_aload_n dX1_takeChange_139 rfl ?_
            refine x_dup dX1_takeChange_140 rfl ?_
            refine x_get (v := xI ((putI (putJ (putJ S (30, l, 0) (S.1 (14, l, 0) 7) ((S.2.1 (30, l, 0) (S.1 (14, l, 0) 7)) &&& ((jShl 1 (p : Int)) ^^^ (-1)))) (31, l, 0) (S.1 (14, l, 0) 7) ((S.2.1 (31, l, 0) (S.1 (14, l, 0) 7)) &&& ((jShl 1 (p : Int)) ^^^ (-1)))) (14, l, 0) 7 ((S.1 (14, l, 0) 7) + 1)).1 (14, l, 0) 9)) dX1_takeChange_141 fl_RX1_41 (hp14 (putI (putJ (putJ S (30, l, 0) (S.1 (14, l, 0) 7) ((S.2.1 (30, l, 0) (S.1 (14, l, 0) 7)) &&& ((jShl 1 (p : Int)) ^^^ (-1)))) (31, l, 0) (S.1 (14, l, 0) 7) ((S.2.1 (31, l, 0) (S.1 (14, l, 0) 7)) &&& ((jShl 1 (p : Int)) ^^^ (-1)))) (14, l, 0) 7 ((S.1 (14, l, 0) 7) + 1)) (by omega) (by omega)) rfl ?_
            have f141_33 := wf14_9 hw136_32 (S := putI (putJ (putJ S (30, l, 0) (S.1 (14, l, 0) 7) ((S.2.1 (30, l, 0) (S.1 (14, l, 0) 7)) &&& ((jShl 1 (p : Int)) ^^^ (-1)))) (31, l, 0) (S.1 (14, l, 0) 7) ((S.2.1 (31, l, 0) (S.1 (14, l, 0) 7)) &&& ((jShl 1 (p : Int)) ^^^ (-1)))) (14, l, 0) 7 ((S.1 (14, l, 0) 7) + 1)) (b := l) (by omega) (by omega)
            refine x_top (show (putI (putJ (putJ S (30, l, 0) (S.1 (14, l, 0) 7) ((S.2.1 (30, l, 0) (S.1 (14, l, 0) 7)) &&& ((jShl 1 (p : Int)) ^^^ (-1)))) (31, l, 0) (S.1 (14, l, 0) 7) ((S.2.1 (31, l, 0) (S.1 (14, l, 0) 7)) &&& ((jShl 1 (p : Int)) ^^^ (-1)))) (14, l, 0) 7 ((S.1 (14, l, 0) 7) + 1)).1 (14, l, 0) 9 = S.1 (14, l, 0) 9 from by first | rfl | simp [putI, putJ, xUpd]) ?_
            refine x_iconst dX1_takeChange_144 ?_
            refine x_isub dX1_takeChange_145 ?_
            refine x_put dX1_takeChange_146 fl_RX1_41 (fun r hr => by cases hr; rfl) (hp14 (putI (putJ (putJ S (30, l, 0) (S.1 (14, l, 0) 7) ((S.2.1 (30, l, 0) (S.1 (14, l, 0) 7)) &&& ((jShl 1 (p : Int)) ^^^ (-1)))) (31, l, 0) (S.1 (14, l, 0) 7) ((S.2.1 (31, l, 0) (S.1 (14, l, 0) 7)) &&& ((jShl 1 (p : Int)) ^^^ (-1)))) (14, l, 0) 7 ((S.1 (14, l, 0) 7) + 1)) (by omega) (by omega)) xfit_i (Nat.le_of_ble_eq_true rfl) rfl ?_
            refine x_heq (pu14_9 (putI (putJ (putJ S (30, l, 0) (S.1 (14, l, 0) 7) ((S.2.1 (30, l, 0) (S.1 (14, l, 0) 7)) &&& ((jShl 1 (p : Int)) ^^^ (-1)))) (31, l, 0) (S.1 (14, l, 0) 7) ((S.2.1 (31, l, 0) (S.1 (14, l, 0) 7)) &&& ((jShl 1 (p : Int)) ^^^ (-1)))) (14, l, 0) 7 ((S.1 (14, l, 0) 7) + 1)) (by omega) (by omega) ((S.1 (14, l, 0) 9) - 1)) ?_
            have hw146_34 : WI (putI (putI (putJ (putJ S (30, l, 0) (S.1 (14, l, 0) 7) ((S.2.1 (30, l, 0) (S.1 (14, l, 0) 7)) &&& ((jShl 1 (p : Int)) ^^^ (-1)))) (31, l, 0) (S.1 (14, l, 0) 7) ((S.2.1 (31, l, 0) (S.1 (14, l, 0) 7)) &&& ((jShl 1 (p : Int)) ^^^ (-1)))) (14, l, 0) 7 ((S.1 (14, l, 0) 7) + 1)) (14, l, 0) 9 ((S.1 (14, l, 0) 9) - 1)) := wp14_9 hw136_32 (by omega) (by omega) (by omega)
            refine x_iload dX1_takeChange_149 rfl ?_
            refine x_if_eq (tgt := 160) dX1_takeChange_151 (by decide) ⟨by decide, by decide⟩ (fun _ => ?_) (fun z => absurd z (by decide))
            refine x_iload dX1_takeChange_160 rfl ?_
            exact x_iret dX1_takeChange_162 rfl (pTi ⟨by omega, hno, by first | exact Or.inl (by omega) | exact Or.inr c35⟩ (by unfold takeV; first | rw [if_pos (lg0.mp c76)] | rw [if_neg (fun z => c76 (lg0.mpr z))]) (by unfold sTake; dsimp only; (first | rw [if_pos (lg0.mp c126)] | rw [if_neg (fun z => c126 (lg0.mpr z))]); first | rfl | simp [putI, putJ, xUpd]))
        · refine x_iconst dX1_takeChange_79 ?_
          refine x_goto (tgt := 84) dX1_takeChange_80 (by decide) ?_
          refine x_istore (L' := [xR (14, l, 0), xJ (S.2.1 (30, l, 0) (S.1 (14, l, 0) 7) ||| S.2.1 (31, l, 0) (S.1 (14, l, 0) 7)), none, xI (p : Int), xJ (jShl 1 (p : Int)), none, xI ((1 + (64 * (S.1 (14, l, 0) 3))) + (p : Int)), xI 1]) dX1_takeChange_84 (by decide) rfl ?_
          refine x_aload_n dX1_takeChange_86 rfl ?_
          refine x_get (v := xR (30, l, 0)) dX1_takeChange_87 fl_RX1_9 (hp14 S (by omega) (by omega)) rfl ?_
          refine x_aload_n dX1_takeChange_90 rfl ?_
          refine x_get (v := xI (S.1 (14, l, 0) 7)) dX1_takeChange_91 fl_RX1_35 (hp14 S (by omega) (by omega)) rfl ?_
          have f91_35 := wf14_7 hw (S := S) (b := l) (by omega) (by omega)
          refine x_dup2 dX1_takeChange_94 rfl rfl ?_
          refine x_aldj (f := S.2.1 (30, l, 0)) dX1_takeChange_95 (hp30 S (by omega) (by omega)) (show (30 : Nat) ≠ 99 by decide) (by omega) (by omega) (by decide) ?_
          refine x_lload dX1_takeChange_96 rfl ?_
          refine x_ldc2 (v := (-1)) dX1_takeChange_98 wd682 ?_
          refine x_lxor dX1_takeChange_101 ?_
          refine x_land dX1_takeChange_102 ?_
          refine x_astj dX1_takeChange_103 (hp30 S (by omega) (by omega)) (show (30 : Nat) ≠ 99 by decide) (by omega) (by omega) (by decide) ?_
          refine x_heq (pa30 S (by omega) (by omega) (S.1 (14, l, 0) 7) ((S.2.1 (30, l, 0) (S.1 (14, l, 0) 7)) &&& ((jShl 1 (p : Int)) ^^^ (-1)))) ?_
          have hw103_36 : WI (putJ S (30, l, 0) (S.1 (14, l, 0) 7) ((S.2.1 (30, l, 0) (S.1 (14, l, 0) 7)) &&& ((jShl 1 (p : Int)) ^^^ (-1)))) := hw.puJ
          refine x_aload_n dX1_takeChange_104 rfl ?_
          refine x_get (v := xR (31, l, 0)) dX1_takeChange_105 fl_RX1_15 (hp14 (putJ S (30, l, 0) (S.1 (14, l, 0) 7) ((S.2.1 (30, l, 0) (S.1 (14, l, 0) 7)) &&& ((jShl 1 (p : Int)) ^^^ (-1)))) (by omega) (by omega)) rfl ?_
          refine x_aload_n dX1_takeChange_108 rfl ?_
          refine x_get (v := xI (S.1 (14, l, 0) 7)) dX1_takeChange_109 fl_RX1_35 (hp14 (putJ S (30, l, 0) (S.1 (14, l, 0) 7) ((S.2.1 (30, l, 0) (S.1 (14, l, 0) 7)) &&& ((jShl 1 (p : Int)) ^^^ (-1)))) (by omega) (by omega)) rfl ?_
          have f109_37 := wf14_7 hw (S := S) (b := l) (by omega) (by omega)
          refine x_dup2 dX1_takeChange_112 rfl rfl ?_
          refine x_aldj (f := S.2.1 (31, l, 0)) dX1_takeChange_113 (hp31 (putJ S (30, l, 0) (S.1 (14, l, 0) 7) ((S.2.1 (30, l, 0) (S.1 (14, l, 0) 7)) &&& ((jShl 1 (p : Int)) ^^^ (-1)))) (by omega) (by omega)) (show (31 : Nat) ≠ 99 by decide) (by omega) (by omega) (by decide) ?_
          refine x_lload dX1_takeChange_114 rfl ?_
          refine x_ldc2 (v := (-1)) dX1_takeChange_116 wd682 ?_
          refine x_lxor dX1_takeChange_119 ?_
          refine x_land dX1_takeChange_120 ?_
          refine x_astj dX1_takeChange_121 (hp31 (putJ S (30, l, 0) (S.1 (14, l, 0) 7) ((S.2.1 (30, l, 0) (S.1 (14, l, 0) 7)) &&& ((jShl 1 (p : Int)) ^^^ (-1)))) (by omega) (by omega)) (show (31 : Nat) ≠ 99 by decide) (by omega) (by omega) (by decide) ?_
          refine x_heq (pa31 (putJ S (30, l, 0) (S.1 (14, l, 0) 7) ((S.2.1 (30, l, 0) (S.1 (14, l, 0) 7)) &&& ((jShl 1 (p : Int)) ^^^ (-1)))) (by omega) (by omega) (S.1 (14, l, 0) 7) ((S.2.1 (31, l, 0) (S.1 (14, l, 0) 7)) &&& ((jShl 1 (p : Int)) ^^^ (-1)))) ?_
          have hw121_38 : WI (putJ (putJ S (30, l, 0) (S.1 (14, l, 0) 7) ((S.2.1 (30, l, 0) (S.1 (14, l, 0) 7)) &&& ((jShl 1 (p : Int)) ^^^ (-1)))) (31, l, 0) (S.1 (14, l, 0) 7) ((S.2.1 (31, l, 0) (S.1 (14, l, 0) 7)) &&& ((jShl 1 (p : Int)) ^^^ (-1)))) := hw103_36.puJ
          refine x_lload_n dX1_takeChange_122 rfl ?_
          refine x_lload dX1_takeChange_123 rfl ?_
          refine x_lcmp dX1_takeChange_125 ?_
          refine x_if_ne (tgt := 139) dX1_takeChange_126 (by decide) (by first | exact hz _ _ | exact hw.1 _ _ | exact zR_of _ | exact bI_z _ | assumption | exact ⟨by omega, by omega⟩) (fun c126 => ?_) (fun c126 => ?_)
          · refine x_aload_n dX1_takeChange_139 rfl ?_
            refine x_dup dX1_takeChange_140 rfl ?_
            refine x_get (v := xI (S.1 (14, l, 0) 9)) dX1_takeChange_141 fl_RX1_41 (hp14 (putJ (putJ S (30, l, 0) (S.1 (14, l, 0) 7) ((S.2.1 (30, l, 0) (S.1 (14, l, 0) 7)) &&& ((jShl 1 (p : Int)) ^^^ (-1)))) (31, l, 0) (S.1 (14, l, 0) 7) ((S.2.1 (31, l, 0) (S.1 (14, l, 0) 7)) &&& ((jShl 1 (p : Int)) ^^^ (-1)))) (by omega) (by omega)) rfl ?_
            have f141_39 := wf14_9 hw (S := S) (b := l) (by omega) (by omega)
            refine x_top (show S.1 (14, l, 0) 9 = S.1 (14, l, 0) 9 from by first | rfl | simp [putI, putJ, xUpd]) ?_
            refine x_iconst dX1_takeChange_144 ?_
            refine x_isub dX1_takeChange_145 ?_
            refine x_put dX1_takeChange_146 fl_RX1_41 (fun r hr => by cases hr; rfl) (hp14 (putJ (putJ S (30, l, 0) (S.1 (14, l, 0) 7) ((S.2.1 (30, l, 0) (S.1 (14, l, 0) 7)) &&& ((jShl 1 (p : Int)) ^^^ (-1)))) (31, l, 0) (S.1 (14, l, 0) 7) ((S.2.1 (31, l, 0) (S.1 (14, l, 0) 7)) &&& ((jShl 1 (p : Int)) ^^^ (-1)))) (by omega) (by omega)) xfit_i (Nat.le_of_ble_eq_true rfl) rfl ?_
            refine x_heq (pu14_9 (putJ (putJ S (30, l, 0) (S.1 (14, l, 0) 7) ((S.2.1 (30, l, 0) (S.1 (14, l, 0) 7)) &&& ((jShl 1 (p : Int)) ^^^ (-1)))) (31, l, 0) (S.1 (14, l, 0) 7) ((S.2.1 (31, l, 0) (S.1 (14, l, 0) 7)) &&& ((jShl 1 (p : Int)) ^^^ (-1)))) (by omega) (by omega) ((S.1 (14, l, 0) 9) - 1)) ?_
            have hw146_40 : WI (putI (putJ (putJ S (30, l, 0) (S.1 (14, l, 0) 7) ((S.2.1 (30, l, 0) (S.1 (14, l, 0) 7)) &&& ((jShl 1 (p : Int)) ^^^ (-1)))) (31, l, 0) (S.1 (14, l, 0) 7) ((S.2.1 (31, l, 0) (S.1 (14, l, 0) 7)) &&& ((jShl 1 (p : Int)) ^^^ (-1)))) (14, l, 0) 9 ((S.1 (14, l, 0) 9) - 1)) := wp14_9 hw121_38 (by omega) (by omega) (by omega)
            refine x_iload dX1_takeChange_149 rfl ?_
            refine x_if_eq (tgt := 160) dX1_takeChange_151 (by decide) ⟨by decide, by decide⟩ (fun z => absurd z (by decide)) (fun _ => ?_)
            refine x_iload dX1_takeChange_154 rfl ?_
            refine x_ineg dX1_takeChange_156 ?_
            refine x_goto (tgt := 162) dX1_takeChange_157 (by decide) ?_
            exact x_iret dX1_takeChange_162 rfl (pTi ⟨by omega, hno, by first | exact Or.inl (by omega) | exact Or.inr c35⟩ (by unfold takeV; first | rw [if_pos (lg0.mp c76)] | rw [if_neg (fun z => c76 (lg0.mpr z))]) (by unfold sTake; dsimp only; (first | rw [if_pos (lg0.mp c126)] | rw [if_neg (fun z => c126 (lg0.mpr z))]); first | rfl | simp [putI, putJ, xUpd]))
          · refine x_aload_n dX1_takeChange_129 rfl ?_
            refine x_dup dX1_takeChange_130 rfl ?_
            refine x_get (v := xI (S.1 (14, l, 0) 7)) dX1_takeChange_131 fl_RX1_35 (hp14 (putJ (putJ S (30, l, 0) (S.1 (14, l, 0) 7) ((S.2.1 (30, l, 0) (S.1 (14, l, 0) 7)) &&& ((jShl 1 (p : Int)) ^^^ (-1)))) (31, l, 0) (S.1 (14, l, 0) 7) ((S.2.1 (31, l, 0) (S.1 (14, l, 0) 7)) &&& ((jShl 1 (p : Int)) ^^^ (-1)))) (by omega) (by omega)) rfl ?_
            have f131_41 := wf14_7 hw (S := S) (b := l) (by omega) (by omega)
            refine x_iconst dX1_takeChange_134 ?_
            refine x_iadd dX1_takeChange_135 ?_
            refine x_put dX1_takeChange_136 fl_RX1_35 (fun r hr => by cases hr; rfl) (hp14 (putJ (putJ S (30, l, 0) (S.1 (14, l, 0) 7) ((S.2.1 (30, l, 0) (S.1 (14, l, 0) 7)) &&& ((jShl 1 (p : Int)) ^^^ (-1)))) (31, l, 0) (S.1 (14, l, 0) 7) ((S.2.1 (31, l, 0) (S.1 (14, l, 0) 7)) &&& ((jShl 1 (p : Int)) ^^^ (-1)))) (by omega) (by omega)) xfit_i (Nat.le_of_ble_eq_true rfl) rfl ?_
            refine x_heq (pu14_7 (putJ (putJ S (30, l, 0) (S.1 (14, l, 0) 7) ((S.2.1 (30, l, 0) (S.1 (14, l, 0) 7)) &&& ((jShl 1 (p : Int)) ^^^ (-1)))) (31, l, 0) (S.1 (14, l, 0) 7) ((S.2.1 (31, l, 0) (S.1 (14, l, 0) 7)) &&& ((jShl 1 (p : Int)) ^^^ (-1)))) (by omega) (by omega) ((S.1 (14, l, 0) 7) + 1)) ?_
            have hw136_42 : WI (putI (putJ (putJ S (30, l, 0) (S.1 (14, l, 0) 7) ((S.2.1 (30, l, 0) (S.1 (14, l, 0) 7)) &&& ((jShl 1 (p : Int)) ^^^ (-1)))) (31, l, 0) (S.1 (14, l, 0) 7) ((S.2.1 (31, l, 0) (S.1 (14, l, 0) 7)) &&& ((jShl 1 (p : Int)) ^^^ (-1)))) (14, l, 0) 7 ((S.1 (14, l, 0) 7) + 1)) := wp14_7 hw121_38 (by omega) (by omega) (by omega)
            refine x_aload_n dX1_takeChange_139 rfl ?_
            refine x_dup dX1_takeChange_140 rfl ?_
            refine x_get (v := xI ((putI (putJ (putJ S (30, l, 0) (S.1 (14, l, 0) 7) ((S.2.1 (30, l, 0) (S.1 (14, l, 0) 7)) &&& ((jShl 1 (p : Int)) ^^^ (-1)))) (31, l, 0) (S.1 (14, l, 0) 7) ((S.2.1 (31, l, 0) (S.1 (14, l, 0) 7)) &&& ((jShl 1 (p : Int)) ^^^ (-1)))) (14, l, 0) 7 ((S.1 (14, l, 0) 7) + 1)).1 (14, l, 0) 9)) dX1_takeChange_141 fl_RX1_41 (hp14 (putI (putJ (putJ S (30, l, 0) (S.1 (14, l, 0) 7) ((S.2.1 (30, l, 0) (S.1 (14, l, 0) 7)) &&& ((jShl 1 (p : Int)) ^^^ (-1)))) (31, l, 0) (S.1 (14, l, 0) 7) ((S.2.1 (31, l, 0) (S.1 (14, l, 0) 7)) &&& ((jShl 1 (p : Int)) ^^^ (-1)))) (14, l, 0) 7 ((S.1 (14, l, 0) 7) + 1)) (by omega) (by omega)) rfl ?_
            have f141_43 := wf14_9 hw136_42 (S := putI (putJ (putJ S (30, l, 0) (S.1 (14, l, 0) 7) ((S.2.1 (30, l, 0) (S.1 (14, l, 0) 7)) &&& ((jShl 1 (p : Int)) ^^^ (-1)))) (31, l, 0) (S.1 (14, l, 0) 7) ((S.2.1 (31, l, 0) (S.1 (14, l, 0) 7)) &&& ((jShl 1 (p : Int)) ^^^ (-1)))) (14, l, 0) 7 ((S.1 (14, l, 0) 7) + 1)) (b := l) (by omega) (by omega)
            refine x_top (show (putI (putJ (putJ S (30, l, 0) (S.1 (14, l, 0) 7) ((S.2.1 (30, l, 0) (S.1 (14, l, 0) 7)) &&& ((jShl 1 (p : Int)) ^^^ (-1)))) (31, l, 0) (S.1 (14, l, 0) 7) ((S.2.1 (31, l, 0) (S.1 (14, l, 0) 7)) &&& ((jShl 1 (p : Int)) ^^^ (-1)))) (14, l, 0) 7 ((S.1 (14, l, 0) 7) + 1)).1 (14, l, 0) 9 = S.1 (14, l, 0) 9 from by first | rfl | simp [putI, putJ, xUpd]) ?_
            refine x_iconst dX1_takeChange_144 ?_
            refine x_isub dX1_takeChange_145 ?_
            refine x_put dX1_takeChange_146 fl_RX1_41 (fun r hr => by cases hr; rfl) (hp14 (putI (putJ (putJ S (30, l, 0) (S.1 (14, l, 0) 7) ((S.2.1 (30, l, 0) (S.1 (14, l, 0) 7)) &&& ((jShl 1 (p : Int)) ^^^ (-1)))) (31, l, 0) (S.1 (14, l, 0) 7) ((S.2.1 (31, l, 0) (S.1 (14, l, 0) 7)) &&& ((jShl 1 (p : Int)) ^^^ (-1)))) (14, l, 0) 7 ((S.1 (14, l, 0) 7) + 1)) (by omega) (by omega)) xfit_i (Nat.le_of_ble_eq_true rfl) rfl ?_
            refine x_heq (pu14_9 (putI (putJ (putJ S (30, l, 0) (S.1 (14, l, 0) 7) ((S.2.1 (30, l, 0) (S.1 (14, l, 0) 7)) &&& ((jShl 1 (p : Int)) ^^^ (-1)))) (31, l, 0) (S.1 (14, l, 0) 7) ((S.2.1 (31, l, 0) (S.1 (14, l, 0) 7)) &&& ((jShl 1 (p : Int)) ^^^ (-1)))) (14, l, 0) 7 ((S.1 (14, l, 0) 7) + 1)) (by omega) (by omega) ((S.1 (14, l, 0) 9) - 1)) ?_
            have hw146_44 : WI (putI (putI (putJ (putJ S (30, l, 0) (S.1 (14, l, 0) 7) ((S.2.1 (30, l, 0) (S.1 (14, l, 0) 7)) &&& ((jShl 1 (p : Int)) ^^^ (-1)))) (31, l, 0) (S.1 (14, l, 0) 7) ((S.2.1 (31, l, 0) (S.1 (14, l, 0) 7)) &&& ((jShl 1 (p : Int)) ^^^ (-1)))) (14, l, 0) 7 ((S.1 (14, l, 0) 7) + 1)) (14, l, 0) 9 ((S.1 (14, l, 0) 9) - 1)) := wp14_9 hw136_42 (by omega) (by omega) (by omega)
            refine x_iload dX1_takeChange_149 rfl ?_
            refine x_if_eq (tgt := 160) dX1_takeChange_151 (by decide) ⟨by decide, by decide⟩ (fun z => absurd z (by decide)) (fun _ => ?_)
            refine x_iload dX1_takeChange_154 rfl ?_
            refine x_ineg dX1_takeChange_156 ?_
            refine x_goto (tgt := 162) dX1_takeChange_157 (by decide) ?_
            exact x_iret dX1_takeChange_162 rfl (pTi ⟨by omega, hno, by first | exact Or.inl (by omega) | exact Or.inr c35⟩ (by unfold takeV; first | rw [if_pos (lg0.mp c76)] | rw [if_neg (fun z => c76 (lg0.mpr z))]) (by unfold sTake; dsimp only; (first | rw [if_pos (lg0.mp c126)] | rw [if_neg (fun z => c126 (lg0.mpr z))]); first | rfl | simp [putI, putJ, xUpd]))
      · refine x_iinc (L' := [xR (14, l, 0), xJ (S.2.1 (30, l, 0) (S.1 (14, l, 0) 7) ||| S.2.1 (31, l, 0) (S.1 (14, l, 0) 7)), none, xI ((p : Int) + 1), none, none, none, none]) dX1_takeChange_38 rfl rfl ?_
        refine x_goto (tgt := 22) dX1_takeChange_41 (by decide) ?_
        exact ih (p + 1) (by omega) (by omega) (fun p' a b => by rcases Nat.lt_or_eq_of_le (show p' ≤ p by omega) with e | e; exact hno p' e b; subst e; exact absurd (lg0.mp c35) (fun z => b c35))
set_option maxHeartbeats 4000000 in
set_option maxRecDepth 100000 in
theorem c_takeChange (S : XS) (hw : WI S) (l : Int) (h1 : 0 ≤ l) (h2 : l < 5) (hf : S.1 (14, l, 0) 7 < 120) (hu : 1 ≤ S.1 (14, l, 0) 9) : X mX1_takeChange 0 (xEnt mX1_takeChange [xR (14, l, 0)]) [] (hp S) 0 0 (pTake S l) := by
  have z7 := wf14_7 hw h1 h2
  show X mX1_takeChange 0 [xR (14, l, 0), none, none, none, none, none, none, none] [] (hp S) 0 0 _
  refine x_aload_n dX1_takeChange_0 rfl ?_
  refine x_get (v := xR (30, l, 0)) dX1_takeChange_1 fl_RX1_9 (hp14 S (by omega) (by omega)) rfl ?_
  refine x_aload_n dX1_takeChange_4 rfl ?_
  refine x_get (v := xI (S.1 (14, l, 0) 7)) dX1_takeChange_5 fl_RX1_35 (hp14 S (by omega) (by omega)) rfl ?_
  have f5_1 := wf14_7 hw (S := S) (b := l) (by omega) (by omega)
  refine x_aldj (f := S.2.1 (30, l, 0)) dX1_takeChange_8 (hp30 S (by omega) (by omega)) (show (30 : Nat) ≠ 99 by decide) (by omega) (by omega) (by decide) ?_
  refine x_aload_n dX1_takeChange_9 rfl ?_
  refine x_get (v := xR (31, l, 0)) dX1_takeChange_10 fl_RX1_15 (hp14 S (by omega) (by omega)) rfl ?_
  refine x_aload_n dX1_takeChange_13 rfl ?_
  refine x_get (v := xI (S.1 (14, l, 0) 7)) dX1_takeChange_14 fl_RX1_35 (hp14 S (by omega) (by omega)) rfl ?_
  have f14_2 := wf14_7 hw (S := S) (b := l) (by omega) (by omega)
  refine x_aldj (f := S.2.1 (31, l, 0)) dX1_takeChange_17 (hp31 S (by omega) (by omega)) (show (31 : Nat) ≠ 99 by decide) (by omega) (by omega) (by decide) ?_
  refine x_lor dX1_takeChange_18 ?_
  refine x_lstore_n (L' := [xR (14, l, 0), xJ ((S.2.1 (30, l, 0) (S.1 (14, l, 0) 7)) ||| (S.2.1 (31, l, 0) (S.1 (14, l, 0) 7))), none, none, none, none, none, none]) dX1_takeChange_19 (by decide) rfl ?_
  refine x_iconst dX1_takeChange_20 ?_
  refine x_istore_n (L' := [xR (14, l, 0), xJ ((S.2.1 (30, l, 0) (S.1 (14, l, 0) 7)) ||| (S.2.1 (31, l, 0) (S.1 (14, l, 0) 7))), none, xI 0, none, none, none, none]) dX1_takeChange_21 (by decide) rfl ?_
  exact l_takeChange S hw l h1 h2 hf hu 65 0 (by omega) (by omega) (fun p' a => by omega)
