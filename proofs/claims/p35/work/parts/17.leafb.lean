/-! rows filled; states; tellings; branches -/
set_option maxHeartbeats 4000000 in
set_option maxRecDepth 100000 in
theorem l_fillJ16 (S : XS) (v : Int64) : ∀ (nn : Nat) (i : Int), 6 - i < (nn : Int) → (0 ≤ i) → (i ≤ 6) → X mJ7_fill_d0a16 6 [xR (16, 0, 0), xJ v, none, xI i, xI 6] [] (hp (rowJ S (16, 0, 0) (fun _ => v) i)) 0 0 (pVoid (hp (rowJ S (16, 0, 0) (fun _ => v) 6))) := by
  intro nn
  induction nn with
  | zero => intro i hm h1 h2; exfalso; omega
  | succ nn ih =>
    intro i hm h1 h2
    refine x_iload_n dJ7_fill_d0a16_6 rfl ?_
    refine x_iload dJ7_fill_d0a16_7 rfl ?_
    refine x_icmp_ge (tgt := 22) dJ7_fill_d0a16_9 (by decide) (by first | exact hz _ _ | exact hw.1 _ _ | exact zR_of _ | exact bI_z _ | assumption | exact ⟨by omega, by omega⟩) ⟨by decide, by decide⟩ (fun c9 => ?_) (fun c9 => ?_)
    · exact x_vret dJ7_fill_d0a16_22 rfl (by obtain rfl : i = 6 := (by omega); exact pV)
    · refine x_aload_n dJ7_fill_d0a16_12 rfl ?_
      refine x_iload_n dJ7_fill_d0a16_13 rfl ?_
      refine x_lload_n dJ7_fill_d0a16_14 rfl ?_
      refine x_astj dJ7_fill_d0a16_15 (hp16 (rowJ S (16, 0, 0) (fun _ => v) i)) (show (16 : Nat) ≠ 99 by decide) (by omega) (by omega) (by decide) ?_
      refine x_heq (pa16 (rowJ S (16, 0, 0) (fun _ => v) i) i v) ?_
      refine x_iinc (L' := [xR (16, 0, 0), xJ v, none, xI (i + 1), xI 6]) dJ7_fill_d0a16_16 rfl rfl ?_
      refine x_goto (tgt := 6) dJ7_fill_d0a16_19 (by decide) ?_
      refine x_heq (show hp (rowJ S (16, 0, 0) (fun _ => v) (i + 1)) = _ from by rw [← rowJ_s S (16, 0, 0) (fun _ => v) i (by omega)]) ?_
      exact ih (i + 1) (by omega) (by omega) (by omega)
set_option maxHeartbeats 4000000 in
set_option maxRecDepth 100000 in
theorem c_fillJ16 (S : XS) (v : Int64) : X mJ7_fill_d0a16 0 (xEnt mJ7_fill_d0a16 [xR (16, 0, 0), xJ v]) [] (hp S) 0 0 (pVoid (hp (rowJ S (16, 0, 0) (fun _ => v) 6))) := by
  show X mJ7_fill_d0a16 0 [xR (16, 0, 0), xJ v, none, none, none] [] (hp S) 0 0 _
  refine x_iconst dJ7_fill_d0a16_0 ?_
  refine x_istore_n (L' := [xR (16, 0, 0), xJ v, none, xI 0, none]) dJ7_fill_d0a16_1 (by decide) rfl ?_
  refine x_aload_n dJ7_fill_d0a16_2 rfl ?_
  refine x_len dJ7_fill_d0a16_3 (hp16 S) (show (16 : Nat) ≠ 99 by decide) (by decide) (by decide) ?_
  refine x_istore (L' := [xR (16, 0, 0), xJ v, none, xI 0, xI ((6 : Nat) : Int)]) dJ7_fill_d0a16_4 (by decide) rfl ?_
  refine x_heq (show hp (rowJ S (16, 0, 0) (fun _ => v) 0) = hp S from by rw [rowJ_0]) ?_
  exact l_fillJ16 S v 7 0 (by decide) (by decide) (by decide)
set_option maxHeartbeats 4000000 in
set_option maxRecDepth 100000 in
theorem l_fillJ44 (S : XS) (v : Int64) : ∀ (nn : Nat) (i : Int), 6 - i < (nn : Int) → (0 ≤ i) → (i ≤ 6) → X mJ7_fill_d0a16 6 [xR (44, 0, 0), xJ v, none, xI i, xI 6] [] (hp (rowJ S (44, 0, 0) (fun _ => v) i)) 0 0 (pVoid (hp (rowJ S (44, 0, 0) (fun _ => v) 6))) := by
  intro nn
  induction nn with
  | zero => intro i hm h1 h2; exfalso; omega
  | succ nn ih =>
    intro i hm h1 h2
    refine x_iload_n dJ7_fill_d0a16_6 rfl ?_
    refine x_iload dJ7_fill_d0a16_7 rfl ?_
    refine x_icmp_ge (tgt := 22) dJ7_fill_d0a16_9 (by decide) (by first | exact hz _ _ | exact hw.1 _ _ | exact zR_of _ | exact bI_z _ | assumption | exact ⟨by omega, by omega⟩) ⟨by decide, by decide⟩ (fun c9 => ?_) (fun c9 => ?_)
    · exact x_vret dJ7_fill_d0a16_22 rfl (by obtain rfl : i = 6 := (by omega); exact pV)
    · refine x_aload_n dJ7_fill_d0a16_12 rfl ?_
      refine x_iload_n dJ7_fill_d0a16_13 rfl ?_
      refine x_lload_n dJ7_fill_d0a16_14 rfl ?_
      refine x_astj dJ7_fill_d0a16_15 (hp44 (rowJ S (44, 0, 0) (fun _ => v) i)) (show (44 : Nat) ≠ 99 by decide) (by omega) (by omega) (by decide) ?_
      refine x_heq (pa44 (rowJ S (44, 0, 0) (fun _ => v) i) i v) ?_
      refine x_iinc (L' := [xR (44, 0, 0), xJ v, none, xI (i + 1), xI 6]) dJ7_fill_d0a16_16 rfl rfl ?_
      refine x_goto (tgt := 6) dJ7_fill_d0a16_19 (by decide) ?_
      refine x_heq (show hp (rowJ S (44, 0, 0) (fun _ => v) (i + 1)) = _ from by rw [← rowJ_s S (44, 0, 0) (fun _ => v) i (by omega)]) ?_
      exact ih (i + 1) (by omega) (by omega) (by omega)
set_option maxHeartbeats 4000000 in
set_option maxRecDepth 100000 in
theorem c_fillJ44 (S : XS) (v : Int64) : X mJ7_fill_d0a16 0 (xEnt mJ7_fill_d0a16 [xR (44, 0, 0), xJ v]) [] (hp S) 0 0 (pVoid (hp (rowJ S (44, 0, 0) (fun _ => v) 6))) := by
  show X mJ7_fill_d0a16 0 [xR (44, 0, 0), xJ v, none, none, none] [] (hp S) 0 0 _
  refine x_iconst dJ7_fill_d0a16_0 ?_
  refine x_istore_n (L' := [xR (44, 0, 0), xJ v, none, xI 0, none]) dJ7_fill_d0a16_1 (by decide) rfl ?_
  refine x_aload_n dJ7_fill_d0a16_2 rfl ?_
  refine x_len dJ7_fill_d0a16_3 (hp44 S) (show (44 : Nat) ≠ 99 by decide) (by decide) (by decide) ?_
  refine x_istore (L' := [xR (44, 0, 0), xJ v, none, xI 0, xI ((6 : Nat) : Int)]) dJ7_fill_d0a16_4 (by decide) rfl ?_
  refine x_heq (show hp (rowJ S (44, 0, 0) (fun _ => v) 0) = hp S from by rw [rowJ_0]) ?_
  exact l_fillJ44 S v 7 0 (by decide) (by decide) (by decide)
set_option maxHeartbeats 4000000 in
set_option maxRecDepth 100000 in
theorem l_fillJ45 (S : XS) (v : Int64) : ∀ (nn : Nat) (i : Int), 6 - i < (nn : Int) → (0 ≤ i) → (i ≤ 6) → X mJ7_fill_d0a16 6 [xR (45, 0, 0), xJ v, none, xI i, xI 6] [] (hp (rowJ S (45, 0, 0) (fun _ => v) i)) 0 0 (pVoid (hp (rowJ S (45, 0, 0) (fun _ => v) 6))) := by
  intro nn
  induction nn with
  | zero => intro i hm h1 h2; exfalso; omega
  | succ nn ih =>
    intro i hm h1 h2
    refine x_iload_n dJ7_fill_d0a16_6 rfl ?_
    refine x_iload dJ7_fill_d0a16_7 rfl ?_
    refine x_icmp_ge (tgt := 22) dJ7_fill_d0a16_9 (by decide) (by first | exact hz _ _ | exact hw.1 _ _ | exact zR_of _ | exact bI_z _ | assumption | exact ⟨by omega, by omega⟩) ⟨by decide, by decide⟩ (fun c9 => ?_) (fun c9 => ?_)
    · exact x_vret dJ7_fill_d0a16_22 rfl (by obtain rfl : i = 6 := (by omega); exact pV)
    · refine x_aload_n dJ7_fill_d0a16_12 rfl ?_
      refine x_iload_n dJ7_fill_d0a16_13 rfl ?_
      refine x_lload_n dJ7_fill_d0a16_14 rfl ?_
      refine x_astj dJ7_fill_d0a16_15 (hp45 (rowJ S (45, 0, 0) (fun _ => v) i)) (show (45 : Nat) ≠ 99 by decide) (by omega) (by omega) (by decide) ?_
      refine x_heq (pa45 (rowJ S (45, 0, 0) (fun _ => v) i) i v) ?_
      refine x_iinc (L' := [xR (45, 0, 0), xJ v, none, xI (i + 1), xI 6]) dJ7_fill_d0a16_16 rfl rfl ?_
      refine x_goto (tgt := 6) dJ7_fill_d0a16_19 (by decide) ?_
      refine x_heq (show hp (rowJ S (45, 0, 0) (fun _ => v) (i + 1)) = _ from by rw [← rowJ_s S (45, 0, 0) (fun _ => v) i (by omega)]) ?_
      exact ih (i + 1) (by omega) (by omega) (by omega)
set_option maxHeartbeats 4000000 in
set_option maxRecDepth 100000 in
theorem c_fillJ45 (S : XS) (v : Int64) : X mJ7_fill_d0a16 0 (xEnt mJ7_fill_d0a16 [xR (45, 0, 0), xJ v]) [] (hp S) 0 0 (pVoid (hp (rowJ S (45, 0, 0) (fun _ => v) 6))) := by
  show X mJ7_fill_d0a16 0 [xR (45, 0, 0), xJ v, none, none, none] [] (hp S) 0 0 _
  refine x_iconst dJ7_fill_d0a16_0 ?_
  refine x_istore_n (L' := [xR (45, 0, 0), xJ v, none, xI 0, none]) dJ7_fill_d0a16_1 (by decide) rfl ?_
  refine x_aload_n dJ7_fill_d0a16_2 rfl ?_
  refine x_len dJ7_fill_d0a16_3 (hp45 S) (show (45 : Nat) ≠ 99 by decide) (by decide) (by decide) ?_
  refine x_istore (L' := [xR (45, 0, 0), xJ v, none, xI 0, xI ((6 : Nat) : Int)]) dJ7_fill_d0a16_4 (by decide) rfl ?_
  refine x_heq (show hp (rowJ S (45, 0, 0) (fun _ => v) 0) = hp S from by rw [rowJ_0]) ?_
  exact l_fillJ45 S v 7 0 (by decide) (by decide) (by decide)
set_option maxHeartbeats 4000000 in
set_option maxRecDepth 100000 in
theorem l_fillI33 (S : XS) (v : Int) : ∀ (nn : Nat) (i : Int), 6 - i < (nn : Int) → (0 ≤ i) → (i ≤ 6) → X mJ7_fill_53178 5 [xR (33, 0, 0), xI v, xI i, xI 6] [] (hp (filI S (33, 0, 0) i v)) 0 0 (pVoid (hp (filI S (33, 0, 0) 6 v))) := by
  intro nn
  induction nn with
  | zero => intro i hm h1 h2; exfalso; omega
  | succ nn ih =>
    intro i hm h1 h2
    refine x_iload_n dJ7_fill_53178_5 rfl ?_
    refine x_iload_n dJ7_fill_53178_6 rfl ?_
    refine x_icmp_ge (tgt := 20) dJ7_fill_53178_7 (by decide) (by first | exact hz _ _ | exact hw.1 _ _ | exact zR_of _ | exact bI_z _ | assumption | exact ⟨by omega, by omega⟩) ⟨by decide, by decide⟩ (fun c7 => ?_) (fun c7 => ?_)
    · exact x_vret dJ7_fill_53178_20 rfl (by obtain rfl : i = 6 := (by omega); exact pV)
    · refine x_aload_n dJ7_fill_53178_10 rfl ?_
      refine x_iload_n dJ7_fill_53178_11 rfl ?_
      refine x_iload_n dJ7_fill_53178_12 rfl ?_
      refine x_asti dJ7_fill_53178_13 (hp33 (filI S (33, 0, 0) i v)) (show (33 : Nat) ≠ 99 by decide) (by omega) (by omega) (by decide) ?_
      refine x_heq (pa33 (filI S (33, 0, 0) i v) i v) ?_
      refine x_iinc (L' := [xR (33, 0, 0), xI v, xI (i + 1), xI 6]) dJ7_fill_53178_14 rfl rfl ?_
      refine x_goto (tgt := 5) dJ7_fill_53178_17 (by decide) ?_
      refine x_heq (show hp (filI S (33, 0, 0) (i + 1) v) = _ from by rw [← filI_s S (33, 0, 0) i v (by omega)]) ?_
      exact ih (i + 1) (by omega) (by omega) (by omega)
set_option maxHeartbeats 4000000 in
set_option maxRecDepth 100000 in
theorem c_fillI33 (S : XS) (v : Int) : X mJ7_fill_53178 0 (xEnt mJ7_fill_53178 [xR (33, 0, 0), xI v]) [] (hp S) 0 0 (pVoid (hp (filI S (33, 0, 0) 6 v))) := by
  show X mJ7_fill_53178 0 [xR (33, 0, 0), xI v, none, none] [] (hp S) 0 0 _
  refine x_iconst dJ7_fill_53178_0 ?_
  refine x_istore_n (L' := [xR (33, 0, 0), xI v, xI 0, none]) dJ7_fill_53178_1 (by decide) rfl ?_
  refine x_aload_n dJ7_fill_53178_2 rfl ?_
  refine x_len dJ7_fill_53178_3 (hp33 S) (show (33 : Nat) ≠ 99 by decide) (by decide) (by decide) ?_
  refine x_istore_n (L' := [xR (33, 0, 0), xI v, xI 0, xI ((6 : Nat) : Int)]) dJ7_fill_53178_4 (by decide) rfl ?_
  refine x_heq (show hp (filI S (33, 0, 0) 0 v) = hp S from by rw [filI_0]) ?_
  exact l_fillI33 S v 7 0 (by decide) (by decide) (by decide)
def fB1 (w : Int64) : Int64 := w - (jShr w 1 &&& 6148914691236517205)
def fB2 (w : Int64) : Int64 := (w &&& 3689348814741910323) + (jShr w 2 &&& 3689348814741910323)
def fB3 (w : Int64) : Int64 := (w + jShr w 4) &&& 1085102592571150095
def fB4 (w : Int64) : Int64 := w + jShr w 8
def fB5 (w : Int64) : Int64 := w + jShr w 16
def fB6 (w : Int64) : Int64 := w + jShr w 32
def fBits (w : Int64) : Int := zAnd ((fB6 (fB5 (fB4 (fB3 (fB2 (fB1 w)))))).toInt32.toInt) 127
set_option maxHeartbeats 4000000 in
set_option maxRecDepth 100000 in
theorem c_bitCount (S : XS) (w : Int64) : X mJ13_bitCount_95d88 0 (xEnt mJ13_bitCount_95d88 [xJ w]) [] (hp S) 0 0 (pRet (xI (fBits w)) (hp S)) := by
  show X mJ13_bitCount_95d88 0 [xJ w, none] [] (hp S) 0 0 _
  refine x_lload_n dJ13_bitCount_95d88_0 rfl ?_
  refine x_lload_n dJ13_bitCount_95d88_1 rfl ?_
  refine x_iconst dJ13_bitCount_95d88_2 ?_
  refine x_lushr dJ13_bitCount_95d88_3 ?_
  refine x_ldc2 (v := 6148914691236517205) dJ13_bitCount_95d88_4 wd623 ?_
  refine x_land dJ13_bitCount_95d88_7 ?_
  refine x_lsub dJ13_bitCount_95d88_8 ?_
  refine x_topJ (show w - ((jShr w 1) &&& 6148914691236517205) = fB1 w from rfl) ?_
  refine x_lstore_n (L' := [xJ (fB1 w), none]) dJ13_bitCount_95d88_9 (by decide) rfl ?_
  refine x_lload_n dJ13_bitCount_95d88_10 rfl ?_
  refine x_ldc2 (v := 3689348814741910323) dJ13_bitCount_95d88_11 wd624 ?_
  refine x_land dJ13_bitCount_95d88_14 ?_
  refine x_lload_n dJ13_bitCount_95d88_15 rfl ?_
  refine x_iconst dJ13_bitCount_95d88_16 ?_
  refine x_lushr dJ13_bitCount_95d88_17 ?_
  refine x_ldc2 (v := 3689348814741910323) dJ13_bitCount_95d88_18 wd624 ?_
  refine x_land dJ13_bitCount_95d88_21 ?_
  refine x_ladd dJ13_bitCount_95d88_22 ?_
  refine x_topJ (show ((fB1 w) &&& 3689348814741910323) + ((jShr (fB1 w) 2) &&& 3689348814741910323) = fB2 (fB1 w) from rfl) ?_
  refine x_lstore_n (L' := [xJ (fB2 (fB1 w)), none]) dJ13_bitCount_95d88_23 (by decide) rfl ?_
  refine x_lload_n dJ13_bitCount_95d88_24 rfl ?_
  refine x_lload_n dJ13_bitCount_95d88_25 rfl ?_
  refine x_iconst dJ13_bitCount_95d88_26 ?_
  refine x_lushr dJ13_bitCount_95d88_27 ?_
  refine x_ladd dJ13_bitCount_95d88_28 ?_
  refine x_ldc2 (v := 1085102592571150095) dJ13_bitCount_95d88_29 wd625 ?_
  refine x_land dJ13_bitCount_95d88_32 ?_
  refine x_topJ (show ((fB2 (fB1 w)) + (jShr (fB2 (fB1 w)) 4)) &&& 1085102592571150095 = fB3 (fB2 (fB1 w)) from rfl) ?_
  refine x_lstore_n (L' := [xJ (fB3 (fB2 (fB1 w))), none]) dJ13_bitCount_95d88_33 (by decide) rfl ?_
  refine x_lload_n dJ13_bitCount_95d88_34 rfl ?_
  refine x_lload_n dJ13_bitCount_95d88_35 rfl ?_
  refine x_bipush (v := 8) dJ13_bitCount_95d88_36 (by decide) ?_
  refine x_lushr dJ13_bitCount_95d88_38 ?_
  refine x_ladd dJ13_bitCount_95d88_39 ?_
  refine x_topJ (show (fB3 (fB2 (fB1 w))) + (jShr (fB3 (fB2 (fB1 w))) 8) = fB4 (fB3 (fB2 (fB1 w))) from rfl) ?_
  refine x_lstore_n (L' := [xJ (fB4 (fB3 (fB2 (fB1 w)))), none]) dJ13_bitCount_95d88_40 (by decide) rfl ?_
  refine x_lload_n dJ13_bitCount_95d88_41 rfl ?_
  refine x_lload_n dJ13_bitCount_95d88_42 rfl ?_
  refine x_bipush (v := 16) dJ13_bitCount_95d88_43 (by decide) ?_
  refine x_lushr dJ13_bitCount_95d88_45 ?_
  refine x_ladd dJ13_bitCount_95d88_46 ?_
  refine x_topJ (show (fB4 (fB3 (fB2 (fB1 w)))) + (jShr (fB4 (fB3 (fB2 (fB1 w)))) 16) = fB5 (fB4 (fB3 (fB2 (fB1 w)))) from rfl) ?_
  refine x_lstore_n (L' := [xJ (fB5 (fB4 (fB3 (fB2 (fB1 w))))), none]) dJ13_bitCount_95d88_47 (by decide) rfl ?_
  refine x_lload_n dJ13_bitCount_95d88_48 rfl ?_
  refine x_lload_n dJ13_bitCount_95d88_49 rfl ?_
  refine x_bipush (v := 32) dJ13_bitCount_95d88_50 (by decide) ?_
  refine x_lushr dJ13_bitCount_95d88_52 ?_
  refine x_ladd dJ13_bitCount_95d88_53 ?_
  refine x_topJ (show (fB5 (fB4 (fB3 (fB2 (fB1 w))))) + (jShr (fB5 (fB4 (fB3 (fB2 (fB1 w))))) 32) = fB6 (fB5 (fB4 (fB3 (fB2 (fB1 w))))) from rfl) ?_
  refine x_lstore_n (L' := [xJ (fB6 (fB5 (fB4 (fB3 (fB2 (fB1 w)))))), none]) dJ13_bitCount_95d88_54 (by decide) rfl ?_
  refine x_lload_n dJ13_bitCount_95d88_55 rfl ?_
  refine x_l2i dJ13_bitCount_95d88_56 ?_
  refine x_bipush (v := 127) dJ13_bitCount_95d88_57 (by decide) ?_
  refine x_iand dJ13_bitCount_95d88_59 ?_
  exact x_iret dJ13_bitCount_95d88_60 rfl (pRI rfl)
theorem lg0 {a b : Int64} : (lg_cmp a b).toInt = 0 ↔ a = b := by
  unfold lg_cmp
  constructor
  · intro h
    split at h
    · exact absurd h (by decide)
    · split at h
      · assumption
      · exact absurd h (by decide)
  · intro h
    subst h
    rw [if_neg (by simp), if_pos rfl]
    rfl
def fLike (f g : Int → Int64) (m n : Int) : Prop := (∀ i : Int, 0 ≤ i → i < 6 → f i = g i) ∧ m = n
set_option maxHeartbeats 4000000 in
set_option maxRecDepth 100000 in
theorem l_isLike7 (S : XS) (hw : WI S) (b t : Int) (h1 : 0 ≤ b) (h2 : b < 4) (h3 : 0 ≤ t) (h4 : t < 24) : ∀ (nn : Nat) (i : Int), 6 - i < (nn : Int) → (0 ≤ i) → (i ≤ 6) → (∀ j : Int, 0 ≤ j → j < i → S.2.1 (17, 0, 0) j = S.2.1 (18, b, t) j) → X mX6_isLike 2 [xR (7, 0, 0), xR (8, b, t), xI i] [] (hp S) 0 0 (pRet (xI (bI (fLike (S.2.1 (17, 0, 0)) (S.2.1 (18, b, t)) (S.1 (7, 0, 0) 2) (S.1 (8, b, t) 2)))) (hp S)) := by
  intro nn
  induction nn with
  | zero => intro i hm g1 g2 hj; exfalso; omega
  | succ nn ih =>
    intro i hm g1 g2 hj
    refine x_iload_n dX6_isLike_2 rfl ?_
    refine x_bipush (v := 6) dX6_isLike_3 (by decide) ?_
    refine x_icmp_ge (tgt := 32) dX6_isLike_5 (by decide) (by first | exact hz _ _ | exact hw.1 _ _ | exact zR_of _ | exact bI_z _ | assumption | exact ⟨by omega, by omega⟩) ⟨by decide, by decide⟩ (fun c5 => ?_) (fun c5 => ?_)
    · refine x_aload_n dX6_isLike_32 rfl ?_
      refine x_get (v := xI (S.1 (7, 0, 0) 2)) dX6_isLike_33 fl_RX6_18 (hp7 S) rfl ?_
      refine x_aload_n dX6_isLike_36 rfl ?_
      refine x_get (v := xI (S.1 (8, b, t) 2)) dX6_isLike_37 fl_RX6_18 (hp8 S (by omega) (by omega) (by omega) (by omega)) rfl ?_
      refine x_icmp_ne (tgt := 47) dX6_isLike_40 (by decide) (by first | exact hz _ _ | exact hw.1 _ _ | exact zR_of _ | exact bI_z _ | assumption | exact ⟨by omega, by omega⟩) (by first | exact hz _ _ | exact hw.1 _ _ | exact zR_of _ | exact bI_z _ | assumption | exact ⟨by omega, by omega⟩) (fun c40 => ?_) (fun c40 => ?_)
      · refine x_iconst dX6_isLike_47 ?_
        exact x_zret dX6_isLike_48 rfl (Or.inl rfl) (pRI (bI_f (fun z => absurd z.2 (by omega))).symm)
      · refine x_iconst dX6_isLike_43 ?_
        refine x_goto (tgt := 48) dX6_isLike_44 (by decide) ?_
        exact x_zret dX6_isLike_48 rfl (Or.inr rfl) (pRI (bI_t ⟨fun j j1 j2 => hj j j1 (by omega), by omega⟩).symm)
    · refine x_aload_n dX6_isLike_8 rfl ?_
      refine x_get (v := xR (17, 0, 0)) dX6_isLike_9 fl_RX6_9 (hp7 S) rfl ?_
      refine x_iload_n dX6_isLike_12 rfl ?_
      refine x_aldj (f := S.2.1 (17, 0, 0)) dX6_isLike_13 (hp17 S) (show (17 : Nat) ≠ 99 by decide) (by omega) (by omega) (by decide) ?_
      refine x_aload_n dX6_isLike_14 rfl ?_
      refine x_get (v := xR (18, b, t)) dX6_isLike_15 fl_RX6_9 (hp8 S (by omega) (by omega) (by omega) (by omega)) rfl ?_
      refine x_iload_n dX6_isLike_18 rfl ?_
      refine x_aldj (f := S.2.1 (18, b, t)) dX6_isLike_19 (hp18 S (by omega) (by omega) (by omega) (by omega)) (show (18 : Nat) ≠ 99 by decide) (by omega) (by omega) (by decide) ?_
      refine x_lcmp dX6_isLike_20 ?_
      refine x_if_eq (tgt := 26) dX6_isLike_21 (by decide) (by first | exact hz _ _ | exact hw.1 _ _ | exact zR_of _ | exact bI_z _ | assumption | exact ⟨by omega, by omega⟩) (fun c21 => ?_) (fun c21 => ?_)
      · refine x_iinc (L' := [xR (7, 0, 0), xR (8, b, t), xI (i + 1)]) dX6_isLike_26 rfl rfl ?_
        refine x_goto (tgt := 2) dX6_isLike_29 (by decide) ?_
        exact ih (i + 1) (by omega) (by omega) (by omega) (fun j j1 j2 => by rcases Int.lt_or_eq_of_le (show j ≤ i by omega) with q | q; exact hj j j1 q; subst q; exact lg0.mp c21)
      · refine x_iconst dX6_isLike_24 ?_
        exact x_zret dX6_isLike_25 rfl (Or.inl rfl) (pRI (bI_f (fun z => c21 (lg0.mpr (z.1 i (by omega) (by omega))))).symm)
set_option maxHeartbeats 4000000 in
set_option maxRecDepth 100000 in
theorem c_isLike7 (S : XS) (hw : WI S) (b t : Int) (h1 : 0 ≤ b) (h2 : b < 4) (h3 : 0 ≤ t) (h4 : t < 24) : X mX6_isLike 0 (xEnt mX6_isLike [xR (7, 0, 0), xR (8, b, t)]) [] (hp S) 0 0 (pRet (xI (bI (fLike (S.2.1 (17, 0, 0)) (S.2.1 (18, b, t)) (S.1 (7, 0, 0) 2) (S.1 (8, b, t) 2)))) (hp S)) := by
  show X mX6_isLike 0 [xR (7, 0, 0), xR (8, b, t), none] [] (hp S) 0 0 _
  refine x_iconst dX6_isLike_0 ?_
  refine x_istore_n (L' := [xR (7, 0, 0), xR (8, b, t), xI 0]) dX6_isLike_1 (by decide) rfl ?_
  exact l_isLike7 S hw b t h1 h2 h3 h4 7 0 (by decide) (by decide) (by decide) (fun j j1 j2 => by omega)
set_option maxHeartbeats 4000000 in
set_option maxRecDepth 100000 in
theorem l_isLike8 (S : XS) (hw : WI S) (b t : Int) (h1 : 0 ≤ b) (h2 : b < 4) (h3 : 0 ≤ t) (h4 : t < 24) : ∀ (nn : Nat) (i : Int), 6 - i < (nn : Int) → (0 ≤ i) → (i ≤ 6) → (∀ j : Int, 0 ≤ j → j < i → S.2.1 (18, b, t) j = S.2.1 (16, 0, 0) j) → X mX6_isLike 2 [xR (8, b, t), xR (6, 0, 0), xI i] [] (hp S) 0 0 (pRet (xI (bI (fLike (S.2.1 (18, b, t)) (S.2.1 (16, 0, 0)) (S.1 (8, b, t) 2) (S.1 (6, 0, 0) 2)))) (hp S)) := by
  intro nn
  induction nn with
  | zero => intro i hm g1 g2 hj; exfalso; omega
  | succ nn ih =>
    intro i hm g1 g2 hj
    refine x_iload_n dX6_isLike_2 rfl ?_
    refine x_bipush (v := 6) dX6_isLike_3 (by decide) ?_
    refine x_icmp_ge (tgt := 32) dX6_isLike_5 (by decide) (by first | exact hz _ _ | exact hw.1 _ _ | exact zR_of _ | exact bI_z _ | assumption | exact ⟨by omega, by omega⟩) ⟨by decide, by decide⟩ (fun c5 => ?_) (fun c5 => ?_)
    · refine x_aload_n dX6_isLike_32 rfl ?_
      refine x_get (v := xI (S.1 (8, b, t) 2)) dX6_isLike_33 fl_RX6_18 (hp8 S (by omega) (by omega) (by omega) (by omega)) rfl ?_
      refine x_aload_n dX6_isLike_36 rfl ?_
      refine x_get (v := xI (S.1 (6, 0, 0) 2)) dX6_isLike_37 fl_RX6_18 (hp6 S) rfl ?_
      refine x_icmp_ne (tgt := 47) dX6_isLike_40 (by decide) (by first | exact hz _ _ | exact hw.1 _ _ | exact zR_of _ | exact bI_z _ | assumption | exact ⟨by omega, by omega⟩) (by first | exact hz _ _ | exact hw.1 _ _ | exact zR_of _ | exact bI_z _ | assumption | exact ⟨by omega, by omega⟩) (fun c40 => ?_) (fun c40 => ?_)
      · refine x_iconst dX6_isLike_47 ?_
        exact x_zret dX6_isLike_48 rfl (Or.inl rfl) (pRI (bI_f (fun z => absurd z.2 (by omega))).symm)
      · refine x_iconst dX6_isLike_43 ?_
        refine x_goto (tgt := 48) dX6_isLike_44 (by decide) ?_
        exact x_zret dX6_isLike_48 rfl (Or.inr rfl) (pRI (bI_t ⟨fun j j1 j2 => hj j j1 (by omega), by omega⟩).symm)
    · refine x_aload_n dX6_isLike_8 rfl ?_
      refine x_get (v := xR (18, b, t)) dX6_isLike_9 fl_RX6_9 (hp8 S (by omega) (by omega) (by omega) (by omega)) rfl ?_
      refine x_iload_n dX6_isLike_12 rfl ?_
      refine x_aldj (f := S.2.1 (18, b, t)) dX6_isLike_13 (hp18 S (by omega) (by omega) (by omega) (by omega)) (show (18 : Nat) ≠ 99 by decide) (by omega) (by omega) (by decide) ?_
      refine x_aload_n dX6_isLike_14 rfl ?_
      refine x_get (v := xR (16, 0, 0)) dX6_isLike_15 fl_RX6_9 (hp6 S) rfl ?_
      refine x_iload_n dX6_isLike_18 rfl ?_
      refine x_aldj (f := S.2.1 (16, 0, 0)) dX6_isLike_19 (hp16 S) (show (16 : Nat) ≠ 99 by decide) (by omega) (by omega) (by decide) ?_
      refine x_lcmp dX6_isLike_20 ?_
      refine x_if_eq (tgt := 26) dX6_isLike_21 (by decide) (by first | exact hz _ _ | exact hw.1 _ _ | exact zR_of _ | exact bI_z _ | assumption | exact ⟨by omega, by omega⟩) (fun c21 => ?_) (fun c21 => ?_)
      · refine x_iinc (L' := [xR (8, b, t), xR (6, 0, 0), xI (i + 1)]) dX6_isLike_26 rfl rfl ?_
        refine x_goto (tgt := 2) dX6_isLike_29 (by decide) ?_
        exact ih (i + 1) (by omega) (by omega) (by omega) (fun j j1 j2 => by rcases Int.lt_or_eq_of_le (show j ≤ i by omega) with q | q; exact hj j j1 q; subst q; exact lg0.mp c21)
      · refine x_iconst dX6_isLike_24 ?_
        exact x_zret dX6_isLike_25 rfl (Or.inl rfl) (pRI (bI_f (fun z => c21 (lg0.mpr (z.1 i (by omega) (by omega))))).symm)
set_option maxHeartbeats 4000000 in
set_option maxRecDepth 100000 in
theorem c_isLike8 (S : XS) (hw : WI S) (b t : Int) (h1 : 0 ≤ b) (h2 : b < 4) (h3 : 0 ≤ t) (h4 : t < 24) : X mX6_isLike 0 (xEnt mX6_isLike [xR (8, b, t), xR (6, 0, 0)]) [] (hp S) 0 0 (pRet (xI (bI (fLike (S.2.1 (18, b, t)) (S.2.1 (16, 0, 0)) (S.1 (8, b, t) 2) (S.1 (6, 0, 0) 2)))) (hp S)) := by
  show X mX6_isLike 0 [xR (8, b, t), xR (6, 0, 0), none] [] (hp S) 0 0 _
  refine x_iconst dX6_isLike_0 ?_
  refine x_istore_n (L' := [xR (8, b, t), xR (6, 0, 0), xI 0]) dX6_isLike_1 (by decide) rfl ?_
  exact l_isLike8 S hw b t h1 h2 h3 h4 7 0 (by decide) (by decide) (by decide) (fun j j1 j2 => by omega)
/-- a state becomes as another -/
def sCopy (S : XS) (k k2 : Nat) (b t b2 t2 : Int) : XS := putI (rowJ (rowJ S (k + 10, b, t) (S.2.1 (k2 + 10, b2, t2)) 6) (k + 20, b, t) (S.2.1 (k2 + 20, b2, t2)) 6) (k, b, t) 2 (S.1 (k2, b2, t2) 2)
set_option maxHeartbeats 4000000 in
set_option maxRecDepth 100000 in
theorem c_copy7 (S : XS) (hw : WI S) (b t : Int) (h1 : 0 ≤ b) (h2 : b < 4) (h3 : 0 ≤ t) (h4 : t < 24) : X mX6_copy 0 (xEnt mX6_copy [xR (7, 0, 0), xR (8, b, t)]) [] (hp S) 0 0 (pVoid (hp (sCopy S 7 8 0 0 b t))) := by
  show X mX6_copy 0 [xR (7, 0, 0), xR (8, b, t)] [] (hp S) 0 0 _
  refine x_aload_n dX6_copy_0 rfl ?_
  refine x_get (v := xR (18, b, t)) dX6_copy_1 fl_RX6_9 (hp8 S (by omega) (by omega) (by omega) (by omega)) rfl ?_
  refine x_iconst dX6_copy_4 ?_
  refine x_aload_n dX6_copy_5 rfl ?_
  refine x_get (v := xR (17, 0, 0)) dX6_copy_6 fl_RX6_9 (hp7 S) rfl ?_
  refine x_iconst dX6_copy_9 ?_
  refine x_bipush (v := 6) dX6_copy_10 (by decide) ?_
  refine x_copyl (n := 6) dX6_copy_12 ⟨wd416, wd376, wd375, wd35⟩ (hp18 S (by omega) (by omega) (by omega) (by omega)) (hp17 S) (show (18 : Nat) ≠ 99 by decide) (show (17 : Nat) ≠ 99 by decide) (by decide) (by decide) (by decide) (by decide) (Nat.le_of_ble_eq_true rfl) ?_
  refine x_heq (pr17 S (S.2.1 (18, b, t)) 6) ?_
  refine x_aload_n dX6_copy_15 rfl ?_
  refine x_get (v := xR (28, b, t)) dX6_copy_16 fl_RX6_15 (hp8 (rowJ S (17, 0, 0) (S.2.1 (18, b, t)) 6) (by omega) (by omega) (by omega) (by omega)) rfl ?_
  refine x_iconst dX6_copy_19 ?_
  refine x_aload_n dX6_copy_20 rfl ?_
  refine x_get (v := xR (27, 0, 0)) dX6_copy_21 fl_RX6_15 (hp7 (rowJ S (17, 0, 0) (S.2.1 (18, b, t)) 6)) rfl ?_
  refine x_iconst dX6_copy_24 ?_
  refine x_bipush (v := 6) dX6_copy_25 (by decide) ?_
  refine x_copyl (n := 6) dX6_copy_27 ⟨wd416, wd376, wd375, wd35⟩ (hp28 (rowJ S (17, 0, 0) (S.2.1 (18, b, t)) 6) (by omega) (by omega) (by omega) (by omega)) (hp27 (rowJ S (17, 0, 0) (S.2.1 (18, b, t)) 6)) (show (28 : Nat) ≠ 99 by decide) (show (27 : Nat) ≠ 99 by decide) (by decide) (by decide) (by decide) (by decide) (Nat.le_of_ble_eq_true rfl) ?_
  refine x_heq (pr27 (rowJ S (17, 0, 0) (S.2.1 (18, b, t)) 6) ((rowJ S (17, 0, 0) (S.2.1 (18, b, t)) 6).2.1 (28, b, t)) 6) ?_
  refine x_aload_n dX6_copy_30 rfl ?_
  refine x_aload_n dX6_copy_31 rfl ?_
  refine x_get (v := xI (S.1 (8, b, t) 2)) dX6_copy_32 fl_RX6_18 (hp8 (rowJ (rowJ S (17, 0, 0) (S.2.1 (18, b, t)) 6) (27, 0, 0) ((rowJ S (17, 0, 0) (S.2.1 (18, b, t)) 6).2.1 (28, b, t)) 6) (by omega) (by omega) (by omega) (by omega)) rfl ?_
  refine x_put dX6_copy_35 fl_RX6_18 (fun r hr => by cases hr; rfl) (hp7 (rowJ (rowJ S (17, 0, 0) (S.2.1 (18, b, t)) 6) (27, 0, 0) ((rowJ S (17, 0, 0) (S.2.1 (18, b, t)) 6).2.1 (28, b, t)) 6)) xfit_i (Nat.le_of_ble_eq_true rfl) rfl ?_
  refine x_heq (pu7_2 (rowJ (rowJ S (17, 0, 0) (S.2.1 (18, b, t)) 6) (27, 0, 0) ((rowJ S (17, 0, 0) (S.2.1 (18, b, t)) 6).2.1 (28, b, t)) 6) (S.1 (8, b, t) 2)) ?_
  have hw35_1 : WI (putI (rowJ (rowJ S (17, 0, 0) (S.2.1 (18, b, t)) 6) (27, 0, 0) ((rowJ S (17, 0, 0) (S.2.1 (18, b, t)) 6).2.1 (28, b, t)) 6) (7, 0, 0) 2 (S.1 (8, b, t) 2)) := (WI.row (WI.row hw)).put (by first | exact hz _ _ | exact hw.1 _ _ | exact zR_of _ | exact bI_z _ | assumption | exact ⟨by omega, by omega⟩) trivial
  exact x_vret dX6_copy_38 rfl pV
theorem wi_copy7 (S : XS) (hw : WI S) (b t : Int) (h1 : 0 ≤ b) (h2 : b < 4) (h3 : 0 ≤ t) (h4 : t < 24) : WI (sCopy S 7 8 0 0 b t) := WI.put (WI.row (WI.row hw)) (hw.1 _ _) trivial
set_option maxHeartbeats 4000000 in
set_option maxRecDepth 100000 in
theorem c_copy8 (S : XS) (hw : WI S) (b t : Int) (h1 : 0 ≤ b) (h2 : b < 4) (h3 : 0 ≤ t) (h4 : t < 24) : X mX6_copy 0 (xEnt mX6_copy [xR (8, b, t), xR (6, 0, 0)]) [] (hp S) 0 0 (pVoid (hp (sCopy S 8 6 b t 0 0))) := by
  show X mX6_copy 0 [xR (8, b, t), xR (6, 0, 0)] [] (hp S) 0 0 _
  refine x_aload_n dX6_copy_0 rfl ?_
  refine x_get (v := xR (16, 0, 0)) dX6_copy_1 fl_RX6_9 (hp6 S) rfl ?_
  refine x_iconst dX6_copy_4 ?_
  refine x_aload_n dX6_copy_5 rfl ?_
  refine x_get (v := xR (18, b, t)) dX6_copy_6 fl_RX6_9 (hp8 S (by omega) (by omega) (by omega) (by omega)) rfl ?_
  refine x_iconst dX6_copy_9 ?_
  refine x_bipush (v := 6) dX6_copy_10 (by decide) ?_
  refine x_copyl (n := 6) dX6_copy_12 ⟨wd416, wd376, wd375, wd35⟩ (hp16 S) (hp18 S (by omega) (by omega) (by omega) (by omega)) (show (16 : Nat) ≠ 99 by decide) (show (18 : Nat) ≠ 99 by decide) (by decide) (by decide) (by decide) (by decide) (Nat.le_of_ble_eq_true rfl) ?_
  refine x_heq (pr18 S (by omega) (by omega) (by omega) (by omega) (S.2.1 (16, 0, 0)) 6) ?_
  refine x_aload_n dX6_copy_15 rfl ?_
  refine x_get (v := xR (26, 0, 0)) dX6_copy_16 fl_RX6_15 (hp6 (rowJ S (18, b, t) (S.2.1 (16, 0, 0)) 6)) rfl ?_
  refine x_iconst dX6_copy_19 ?_
  refine x_aload_n dX6_copy_20 rfl ?_
  refine x_get (v := xR (28, b, t)) dX6_copy_21 fl_RX6_15 (hp8 (rowJ S (18, b, t) (S.2.1 (16, 0, 0)) 6) (by omega) (by omega) (by omega) (by omega)) rfl ?_
  refine x_iconst dX6_copy_24 ?_
  refine x_bipush (v := 6) dX6_copy_25 (by decide) ?_
  refine x_copyl (n := 6) dX6_copy_27 ⟨wd416, wd376, wd375, wd35⟩ (hp26 (rowJ S (18, b, t) (S.2.1 (16, 0, 0)) 6)) (hp28 (rowJ S (18, b, t) (S.2.1 (16, 0, 0)) 6) (by omega) (by omega) (by omega) (by omega)) (show (26 : Nat) ≠ 99 by decide) (show (28 : Nat) ≠ 99 by decide) (by decide) (by decide) (by decide) (by decide) (Nat.le_of_ble_eq_true rfl) ?_
  refine x_heq (pr28 (rowJ S (18, b, t) (S.2.1 (16, 0, 0)) 6) (by omega) (by omega) (by omega) (by omega) ((rowJ S (18, b, t) (S.2.1 (16, 0, 0)) 6).2.1 (26, 0, 0)) 6) ?_
  refine x_aload_n dX6_copy_30 rfl ?_
  refine x_aload_n dX6_copy_31 rfl ?_
  refine x_get (v := xI (S.1 (6, 0, 0) 2)) dX6_copy_32 fl_RX6_18 (hp6 (rowJ (rowJ S (18, b, t) (S.2.1 (16, 0, 0)) 6) (28, b, t) ((rowJ S (18, b, t) (S.2.1 (16, 0, 0)) 6).2.1 (26, 0, 0)) 6)) rfl ?_
  refine x_put dX6_copy_35 fl_RX6_18 (fun r hr => by cases hr; rfl) (hp8 (rowJ (rowJ S (18, b, t) (S.2.1 (16, 0, 0)) 6) (28, b, t) ((rowJ S (18, b, t) (S.2.1 (16, 0, 0)) 6).2.1 (26, 0, 0)) 6) (by omega) (by omega) (by omega) (by omega)) xfit_i (Nat.le_of_ble_eq_true rfl) rfl ?_
  refine x_heq (pu8_2 (rowJ (rowJ S (18, b, t) (S.2.1 (16, 0, 0)) 6) (28, b, t) ((rowJ S (18, b, t) (S.2.1 (16, 0, 0)) 6).2.1 (26, 0, 0)) 6) (by omega) (by omega) (by omega) (by omega) (S.1 (6, 0, 0) 2)) ?_
  have hw35_1 : WI (putI (rowJ (rowJ S (18, b, t) (S.2.1 (16, 0, 0)) 6) (28, b, t) ((rowJ S (18, b, t) (S.2.1 (16, 0, 0)) 6).2.1 (26, 0, 0)) 6) (8, b, t) 2 (S.1 (6, 0, 0) 2)) := (WI.row (WI.row hw)).put (by first | exact hz _ _ | exact hw.1 _ _ | exact zR_of _ | exact bI_z _ | assumption | exact ⟨by omega, by omega⟩) trivial
  exact x_vret dX6_copy_38 rfl pV
theorem wi_copy8 (S : XS) (hw : WI S) (b t : Int) (h1 : 0 ≤ b) (h2 : b < 4) (h3 : 0 ≤ t) (h4 : t < 24) : WI (sCopy S 8 6 b t 0 0) := WI.put (WI.row (WI.row hw)) (hw.1 _ _) trivial
