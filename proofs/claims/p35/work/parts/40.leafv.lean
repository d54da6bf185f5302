/-! pairs -/
/-- the pairs below n with this first and this second thing; -1 stands for any -/
def pairsN (a c : Int) : Nat → Int64
  | 0 => 0
  | n + 1 => if (a = -1 ∨ a = (n : Int) / 8) ∧ (c = -1 ∨ c = (n : Int) % 8) then pairsN a c n ||| jShl 1 n else pairsN a c n
set_option maxHeartbeats 4000000 in
set_option maxRecDepth 100000 in
theorem l_pairsOf (S : XS) (a c : Int) (za : zR a) (zb : zR c) : ∀ (nn : Nat) (i : Nat), 64 - (i : Int) < (nn : Int) → (i ≤ 64) → X mX8_pairsOf 5 [xI a, xI c, xJ (pairsN a c i), none, xI (i : Int)] [] (hp S) 0 0 (pRet (xJ (pairsN a c 64)) (hp S)) := by
  intro nn
  induction nn with
  | zero => intro i hm hi; exfalso; omega
  | succ nn ih =>
    intro i hm hi
    have za2 := za
    have zb2 := zb
    unfold zR at za2 zb2
    refine x_iload dX8_pairsOf_5 rfl ?_
    refine x_bipush (v := 64) dX8_pairsOf_7 (by decide) ?_
    refine x_icmp_ge (tgt := 53) dX8_pairsOf_9 (by decide) (by first | exact hz _ _ | exact hw.1 _ _ | exact zR_of _ | assumption | exact ⟨by omega, by omega⟩) ⟨by decide, by decide⟩ (fun c9 => ?_) (fun c9 => ?_)
    · refine x_lload_n dX8_pairsOf_53 rfl ?_
      exact x_lret dX8_pairsOf_54 rfl (by obtain rfl : i = 64 := (by omega); exact pRJ rfl)
    · refine x_iload_n dX8_pairsOf_12 rfl ?_
      refine x_iconst dX8_pairsOf_13 ?_
      refine x_icmp_eq (tgt := 26) dX8_pairsOf_14 (by decide) (by first | exact hz _ _ | exact hw.1 _ _ | exact zR_of _ | assumption | exact ⟨by omega, by omega⟩) ⟨by decide, by decide⟩ (fun c14 => ?_) (fun c14 => ?_)
      · refine x_iload_n dX8_pairsOf_26 rfl ?_
        refine x_iconst dX8_pairsOf_27 ?_
        refine x_icmp_eq (tgt := 40) dX8_pairsOf_28 (by decide) (by first | exact hz _ _ | exact hw.1 _ _ | exact zR_of _ | assumption | exact ⟨by omega, by omega⟩) ⟨by decide, by decide⟩ (fun c28 => ?_) (fun c28 => ?_)
        · refine x_lload_n dX8_pairsOf_40 rfl ?_
          refine x_lconst (v := 1) dX8_pairsOf_41 (by decide) ?_
          refine x_iload dX8_pairsOf_42 rfl ?_
          refine x_lshl dX8_pairsOf_44 ?_
          refine x_lor dX8_pairsOf_45 ?_
          refine x_lstore_n (L' := [xI a, xI c, xJ ((pairsN a c i) ||| (jShl 1 (i : Int))), none, xI (i : Int)]) dX8_pairsOf_46 (by decide) rfl ?_
          refine x_iinc (L' := [xI a, xI c, xJ ((pairsN a c i) ||| (jShl 1 (i : Int))), none, xI ((i : Int) + 1)]) dX8_pairsOf_47 rfl rfl ?_
          refine x_goto (tgt := 5) dX8_pairsOf_50 (by decide) ?_
          have k := ih (i + 1) (by omega) (by omega)
          rw [show pairsN a c (i + 1) = (pairsN a c i) ||| (jShl 1 (i : Int)) from by simp only [pairsN]; (repeat' split) <;> first | rfl | (exfalso; omega)] at k
          exact k
        · refine x_iload_n dX8_pairsOf_31 rfl ?_
          refine x_iload dX8_pairsOf_32 rfl ?_
          refine x_bipush (v := 8) dX8_pairsOf_34 (by decide) ?_
          refine x_irem dX8_pairsOf_36 (by omega) (by omega) (by omega) (by omega) ?_
          refine x_icmp_ne (tgt := 47) dX8_pairsOf_37 (by decide) (by first | exact hz _ _ | exact hw.1 _ _ | exact zR_of _ | assumption | exact ⟨by omega, by omega⟩) (by first | exact hz _ _ | exact hw.1 _ _ | exact zR_of _ | assumption | exact ⟨by omega, by omega⟩) (fun c37 => ?_) (fun c37 => ?_)
          · refine x_iinc (L' := [xI a, xI c, xJ (pairsN a c i), none, xI ((i : Int) + 1)]) dX8_pairsOf_47 rfl rfl ?_
            refine x_goto (tgt := 5) dX8_pairsOf_50 (by decide) ?_
            have k := ih (i + 1) (by omega) (by omega)
            rw [show pairsN a c (i + 1) = pairsN a c i from by simp only [pairsN]; (repeat' split) <;> first | rfl | (exfalso; omega)] at k
            exact k
          · refine x_lload_n dX8_pairsOf_40 rfl ?_
            refine x_lconst (v := 1) dX8_pairsOf_41 (by decide) ?_
            refine x_iload dX8_pairsOf_42 rfl ?_
            refine x_lshl dX8_pairsOf_44 ?_
            refine x_lor dX8_pairsOf_45 ?_
            refine x_lstore_n (L' := [xI a, xI c, xJ ((pairsN a c i) ||| (jShl 1 (i : Int))), none, xI (i : Int)]) dX8_pairsOf_46 (by decide) rfl ?_
            refine x_iinc (L' := [xI a, xI c, xJ ((pairsN a c i) ||| (jShl 1 (i : Int))), none, xI ((i : Int) + 1)]) dX8_pairsOf_47 rfl rfl ?_
            refine x_goto (tgt := 5) dX8_pairsOf_50 (by decide) ?_
            have k := ih (i + 1) (by omega) (by omega)
            rw [show pairsN a c (i + 1) = (pairsN a c i) ||| (jShl 1 (i : Int)) from by simp only [pairsN]; (repeat' split) <;> first | rfl | (exfalso; omega)] at k
            exact k
      · refine x_iload_n dX8_pairsOf_17 rfl ?_
        refine x_iload dX8_pairsOf_18 rfl ?_
        refine x_bipush (v := 8) dX8_pairsOf_20 (by decide) ?_
        refine x_idiv dX8_pairsOf_22 (by omega) (by omega) (by omega) (by omega) ?_
        refine x_icmp_ne (tgt := 47) dX8_pairsOf_23 (by decide) (by first | exact hz _ _ | exact hw.1 _ _ | exact zR_of _ | assumption | exact ⟨by omega, by omega⟩) (by first | exact hz _ _ | exact hw.1 _ _ | exact zR_of _ | assumption | exact ⟨by omega, by omega⟩) (fun c23 => ?_) (fun c23 => ?_)
        · refine x_iinc (L' := [xI a, xI c, xJ (pairsN a c i), none, xI ((i : Int) + 1)]) dX8_pairsOf_47 rfl rfl ?_
          refine x_goto (tgt := 5) dX8_pairsOf_50 (by decide) ?_
          have k := ih (i + 1) (by omega) (by omega)
          rw [show pairsN a c (i + 1) = pairsN a c i from by simp only [pairsN]; (repeat' split) <;> first | rfl | (exfalso; omega)] at k
          exact k
        · refine x_iload_n dX8_pairsOf_26 rfl ?_
          refine x_iconst dX8_pairsOf_27 ?_
          refine x_icmp_eq (tgt := 40) dX8_pairsOf_28 (by decide) (by first | exact hz _ _ | exact hw.1 _ _ | exact zR_of _ | assumption | exact ⟨by omega, by omega⟩) ⟨by decide, by decide⟩ (fun c28 => ?_) (fun c28 => ?_)
          · refine x_lload_n dX8_pairsOf_40 rfl ?_
            refine x_lconst (v := 1) dX8_pairsOf_41 (by decide) ?_
            refine x_iload dX8_pairsOf_42 rfl ?_
            refine x_lshl dX8_pairsOf_44 ?_
            refine x_lor dX8_pairsOf_45 ?_
            refine x_lstore_n (L' := [xI a, xI c, xJ ((pairsN a c i) ||| (jShl 1 (i : Int))), none, xI (i : Int)]) dX8_pairsOf_46 (by decide) rfl ?_
            refine x_iinc (L' := [xI a, xI c, xJ ((pairsN a c i) ||| (jShl 1 (i : Int))), none, xI ((i : Int) + 1)]) dX8_pairsOf_47 rfl rfl ?_
            refine x_goto (tgt := 5) dX8_pairsOf_50 (by decide) ?_
            have k := ih (i + 1) (by omega) (by omega)
            rw [show pairsN a c (i + 1) = (pairsN a c i) ||| (jShl 1 (i : Int)) from by simp only [pairsN]; (repeat' split) <;> first | rfl | (exfalso; omega)] at k
            exact k
          · refine x_iload_n dX8_pairsOf_31 rfl ?_
            refine x_iload dX8_pairsOf_32 rfl ?_
            refine x_bipush (v := 8) dX8_pairsOf_34 (by decide) ?_
            refine x_irem dX8_pairsOf_36 (by omega) (by omega) (by omega) (by omega) ?_
            refine x_icmp_ne (tgt := 47) dX8_pairsOf_37 (by decide) (by first | exact hz _ _ | exact hw.1 _ _ | exact zR_of _ | assumption | exact ⟨by omega, by omega⟩) (by first | exact hz _ _ | exact hw.1 _ _ | exact zR_of _ | assumption | exact ⟨by omega, by omega⟩) (fun c37 => ?_) (fun c37 => ?_)
            · refine x_iinc (L' := [xI a, xI c, xJ (pairsN a c i), none, xI ((i : Int) + 1)]) dX8_pairsOf_47 rfl rfl ?_
              refine x_goto (tgt := 5) dX8_pairsOf_50 (by decide) ?_
              have k := ih (i + 1) (by omega) (by omega)
              rw [show pairsN a c (i + 1) = pairsN a c i from by simp only [pairsN]; (repeat' split) <;> first | rfl | (exfalso; omega)] at k
              exact k
            · refine x_lload_n dX8_pairsOf_40 rfl ?_
              refine x_lconst (v := 1) dX8_pairsOf_41 (by decide) ?_
              refine x_iload dX8_pairsOf_42 rfl ?_
              refine x_lshl dX8_pairsOf_44 ?_
              refine x_lor dX8_pairsOf_45 ?_
              refine x_lstore_n (L' := [xI a, xI c, xJ ((pairsN a c i) ||| (jShl 1 (i : Int))), none, xI (i : Int)]) dX8_pairsOf_46 (by decide) rfl ?_
              refine x_iinc (L' := [xI a, xI c, xJ ((pairsN a c i) ||| (jShl 1 (i : Int))), none, xI ((i : Int) + 1)]) dX8_pairsOf_47 rfl rfl ?_
              refine x_goto (tgt := 5) dX8_pairsOf_50 (by decide) ?_
              have k := ih (i + 1) (by omega) (by omega)
              rw [show pairsN a c (i + 1) = (pairsN a c i) ||| (jShl 1 (i : Int)) from by simp only [pairsN]; (repeat' split) <;> first | rfl | (exfalso; omega)] at k
              exact k
set_option maxHeartbeats 4000000 in
set_option maxRecDepth 100000 in
theorem c_pairsOf (S : XS) (a c : Int) (za : zR a) (zb : zR c) : X mX8_pairsOf 0 (xEnt mX8_pairsOf [xI a, xI c]) [] (hp S) 0 0 (pRet (xJ (pairsN a c 64)) (hp S)) := by
  show X mX8_pairsOf 0 [xI a, xI c, none, none, none] [] (hp S) 0 0 _
  refine x_lconst (v := 0) dX8_pairsOf_0 (by decide) ?_
  refine x_lstore_n (L' := [xI a, xI c, xJ 0, none, none]) dX8_pairsOf_1 (by decide) rfl ?_
  refine x_iconst dX8_pairsOf_2 ?_
  refine x_istore (L' := [xI a, xI c, xJ 0, none, xI 0]) dX8_pairsOf_3 (by decide) rfl ?_
  exact l_pairsOf S a c za zb 65 0 (by omega) (by omega)
