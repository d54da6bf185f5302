/-! leaves: what the small methods answer -/
set_option maxHeartbeats 4000000 in
set_option maxRecDepth 100000 in
theorem c_isBelow (S : XS) (a b : Int) (ha : zR a) (hb : zR b) : X mX8_isBelow 0 (xEnt mX8_isBelow [xI a, xI b]) [] (hp S) 0 0 (pRet (xI (bI (0 ≤ a ∧ a < b))) (hp S)) := by
  have ha2 := ha
  have hb2 := hb
  unfold zR at ha2 hb2
  show X mX8_isBelow 0 [xI a, xI b] [] (hp S) 0 0 _
  refine x_iload_n dX8_isBelow_0 rfl ?_
  refine x_if_lt (tgt := 13) dX8_isBelow_1 (by decide) (by first | exact hz _ _ | exact hw.1 _ _ | exact zR_of _ | exact bI_z _ | assumption | exact ⟨by omega, by omega⟩) (fun c1 => ?_) (fun c1 => ?_)
  · refine x_iconst dX8_isBelow_13 ?_
    exact x_zret dX8_isBelow_14 rfl (Or.inl rfl) (pRI (bI_f (by omega)).symm)
  · refine x_iload_n dX8_isBelow_4 rfl ?_
    refine x_iload_n dX8_isBelow_5 rfl ?_
    refine x_icmp_ge (tgt := 13) dX8_isBelow_6 (by decide) (by first | exact hz _ _ | exact hw.1 _ _ | exact zR_of _ | exact bI_z _ | assumption | exact ⟨by omega, by omega⟩) (by first | exact hz _ _ | exact hw.1 _ _ | exact zR_of _ | exact bI_z _ | assumption | exact ⟨by omega, by omega⟩) (fun c6 => ?_) (fun c6 => ?_)
    · refine x_iconst dX8_isBelow_13 ?_
      exact x_zret dX8_isBelow_14 rfl (Or.inl rfl) (pRI (bI_f (by omega)).symm)
    · refine x_iconst dX8_isBelow_9 ?_
      refine x_goto (tgt := 14) dX8_isBelow_10 (by decide) ?_
      exact x_zret dX8_isBelow_14 rfl (Or.inr rfl) (pRI (bI_t (by omega)).symm)
set_option maxHeartbeats 4000000 in
set_option maxRecDepth 100000 in
theorem c_isAmong (S : XS) (n s : Int) : X mX8_isAmong 0 (xEnt mX8_isAmong [xI n, xI s]) [] (hp S) 0 0 (pRet (xI (bI (zAnd (zShr s n) 1 ≠ 0))) (hp S)) := by
  show X mX8_isAmong 0 [xI n, xI s] [] (hp S) 0 0 _
  refine x_iload_n dX8_isAmong_0 rfl ?_
  refine x_iload_n dX8_isAmong_1 rfl ?_
  refine x_ishr dX8_isAmong_2 ?_
  refine x_iconst dX8_isAmong_3 ?_
  refine x_iand dX8_isAmong_4 ?_
  refine x_if_eq (tgt := 12) dX8_isAmong_5 (by decide) (by first | exact hz _ _ | exact hw.1 _ _ | exact zR_of _ | exact bI_z _ | assumption | exact ⟨by omega, by omega⟩) (fun c5 => ?_) (fun c5 => ?_)
  · refine x_iconst dX8_isAmong_12 ?_
    exact x_zret dX8_isAmong_13 rfl (Or.inl rfl) (pRI (bI_f (by omega)).symm)
  · refine x_iconst dX8_isAmong_8 ?_
    refine x_goto (tgt := 13) dX8_isAmong_9 (by decide) ?_
    exact x_zret dX8_isAmong_13 rfl (Or.inr rfl) (pRI (bI_t (by omega)).symm)
def fCh (s n : Int) : Int := (31 * s + n) % 65521
theorem fCh_in (s n : Int) : 0 ≤ fCh s n ∧ fCh s n ≤ 65520 := by unfold fCh; omega
set_option maxHeartbeats 4000000 in
set_option maxRecDepth 100000 in
theorem c_chained (S : XS) (s n : Int) (h1 : 0 ≤ s) (h2 : s ≤ 65520) (h3 : 0 ≤ n) (h4 : n ≤ 65520) : X mX8_chained 0 (xEnt mX8_chained [xI s, xI n]) [] (hp S) 0 0 (pRet (xI (fCh s n)) (hp S)) := by
  show X mX8_chained 0 [xI s, xI n] [] (hp S) 0 0 _
  refine x_bipush (v := 31) dX8_chained_0 (by decide) ?_
  refine x_iload_n dX8_chained_2 rfl ?_
  refine x_imul dX8_chained_3 ?_
  refine x_iload_n dX8_chained_4 rfl ?_
  refine x_iadd dX8_chained_5 ?_
  refine x_ldcw (v := 65521) dX8_chained_6 wd345 ?_
  refine x_irem dX8_chained_9 (by omega) (by omega) (by omega) (by omega) ?_
  exact x_iret dX8_chained_10 rfl (pRI rfl)
def fShift (v : Int) : Int := 3 * (3 - 1 - v)
set_option maxHeartbeats 4000000 in
set_option maxRecDepth 100000 in
theorem c_shiftOf (S : XS) (v : Int) : X mX2_shiftOf 0 (xEnt mX2_shiftOf [xI v]) [] (hp S) 0 0 (pRet (xI (3 * (2 - v))) (hp S)) := by
  show X mX2_shiftOf 0 [xI v] [] (hp S) 0 0 _
  refine x_iconst dX2_shiftOf_0 ?_
  refine x_iconst dX2_shiftOf_1 ?_
  refine x_iload_n dX2_shiftOf_2 rfl ?_
  refine x_isub dX2_shiftOf_3 ?_
  refine x_imul dX2_shiftOf_4 ?_
  exact x_iret dX2_shiftOf_5 rfl (pRI (by omega))
def fPair (S : XS) (l : XL) (w : Int) : Int := 8 * zAnd (zShr w (S.1 l 2)) 7 + zAnd (zShr w (S.1 l 3)) 7
def fDig (S : XS) (l : XL) : Int := zOr (zShl 7 (S.1 l 2)) (zShl 7 (S.1 l 3))
def fFree (S : XS) (l : XL) : Int := zShl 1 (if S.1 l 2 < S.1 l 3 then S.1 l 2 else S.1 l 3) - 1
set_option maxHeartbeats 4000000 in
set_option maxRecDepth 100000 in
theorem c_pairOf36 (S : XS) (hw : WI S) (b t : Int) (h1 : 0 ≤ b) (h2 : b < 10) (h3 : 0 ≤ t) (h4 : t < 3) (w : Int) : X mX2_pairOf 0 (xEnt mX2_pairOf [xR (36, b, t), xI w]) [] (hp S) 0 0 (pRet (xI (fPair S (36, b, t) w)) (hp S)) := by
  show X mX2_pairOf 0 [xR (36, b, t), xI w] [] (hp S) 0 0 _
  refine x_bipush (v := 8) dX2_pairOf_0 (by decide) ?_
  refine x_iload_n dX2_pairOf_2 rfl ?_
  refine x_aload_n dX2_pairOf_3 rfl ?_
  refine x_get (v := xI (S.1 (36, b, t) 2)) dX2_pairOf_4 fl_RX2_23 (hp36 S (by omega) (by omega) (by omega) (by omega)) rfl ?_
  have f4_1 := wf36_2 hw (S := S) (b := b) (t := t) (by omega) (by omega) (by omega) (by omega)
  refine x_ishr dX2_pairOf_7 ?_
  refine x_bipush (v := 7) dX2_pairOf_8 (by decide) ?_
  refine x_iand dX2_pairOf_10 ?_
  refine x_imul dX2_pairOf_11 ?_
  refine x_iload_n dX2_pairOf_12 rfl ?_
  refine x_aload_n dX2_pairOf_13 rfl ?_
  refine x_get (v := xI (S.1 (36, b, t) 3)) dX2_pairOf_14 fl_RX2_26 (hp36 S (by omega) (by omega) (by omega) (by omega)) rfl ?_
  have f14_2 := wf36_3 hw (S := S) (b := b) (t := t) (by omega) (by omega) (by omega) (by omega)
  refine x_ishr dX2_pairOf_17 ?_
  refine x_bipush (v := 7) dX2_pairOf_18 (by decide) ?_
  refine x_iand dX2_pairOf_20 ?_
  refine x_iadd dX2_pairOf_21 ?_
  exact x_iret dX2_pairOf_22 rfl (pRI rfl)
set_option maxHeartbeats 4000000 in
set_option maxRecDepth 100000 in
theorem c_digits36 (S : XS) (hw : WI S) (b t : Int) (h1 : 0 ≤ b) (h2 : b < 10) (h3 : 0 ≤ t) (h4 : t < 3) : X mX2_digits 0 (xEnt mX2_digits [xR (36, b, t)]) [] (hp S) 0 0 (pRet (xI (fDig S (36, b, t))) (hp S)) := by
  show X mX2_digits 0 [xR (36, b, t)] [] (hp S) 0 0 _
  refine x_bipush (v := 7) dX2_digits_0 (by decide) ?_
  refine x_aload_n dX2_digits_2 rfl ?_
  refine x_get (v := xI (S.1 (36, b, t) 2)) dX2_digits_3 fl_RX2_23 (hp36 S (by omega) (by omega) (by omega) (by omega)) rfl ?_
  have f3_1 := wf36_2 hw (S := S) (b := b) (t := t) (by omega) (by omega) (by omega) (by omega)
  refine x_ishl dX2_digits_6 ?_
  refine x_bipush (v := 7) dX2_digits_7 (by decide) ?_
  refine x_aload_n dX2_digits_9 rfl ?_
  refine x_get (v := xI (S.1 (36, b, t) 3)) dX2_digits_10 fl_RX2_26 (hp36 S (by omega) (by omega) (by omega) (by omega)) rfl ?_
  have f10_2 := wf36_3 hw (S := S) (b := b) (t := t) (by omega) (by omega) (by omega) (by omega)
  refine x_ishl dX2_digits_13 ?_
  refine x_ior dX2_digits_14 ?_
  exact x_iret dX2_digits_15 rfl (pRI rfl)
set_option maxHeartbeats 4000000 in
set_option maxRecDepth 100000 in
theorem c_freeDigits36 (S : XS) (hw : WI S) (b t : Int) (h1 : 0 ≤ b) (h2 : b < 10) (h3 : 0 ≤ t) (h4 : t < 3) : X mX2_freeDigits 0 (xEnt mX2_freeDigits [xR (36, b, t)]) [] (hp S) 0 0 (pRet (xI (fFree S (36, b, t))) (hp S)) := by
  show X mX2_freeDigits 0 [xR (36, b, t)] [] (hp S) 0 0 _
  refine x_iconst dX2_freeDigits_0 ?_
  refine x_aload_n dX2_freeDigits_1 rfl ?_
  refine x_get (v := xI (S.1 (36, b, t) 2)) dX2_freeDigits_2 fl_RX2_23 (hp36 S (by omega) (by omega) (by omega) (by omega)) rfl ?_
  have f2_1 := wf36_2 hw (S := S) (b := b) (t := t) (by omega) (by omega) (by omega) (by omega)
  refine x_aload_n dX2_freeDigits_5 rfl ?_
  refine x_get (v := xI (S.1 (36, b, t) 3)) dX2_freeDigits_6 fl_RX2_26 (hp36 S (by omega) (by omega) (by omega) (by omega)) rfl ?_
  have f6_2 := wf36_3 hw (S := S) (b := b) (t := t) (by omega) (by omega) (by omega) (by omega)
  refine x_icmp_ge (tgt := 19) dX2_freeDigits_9 (by decide) (by first | exact hz _ _ | exact hw.1 _ _ | exact zR_of _ | exact bI_z _ | assumption | exact ⟨by omega, by omega⟩) (by first | exact hz _ _ | exact hw.1 _ _ | exact zR_of _ | exact bI_z _ | assumption | exact ⟨by omega, by omega⟩) (fun c9 => ?_) (fun c9 => ?_)
  · refine x_aload_n dX2_freeDigits_19 rfl ?_
    refine x_get (v := xI (S.1 (36, b, t) 3)) dX2_freeDigits_20 fl_RX2_26 (hp36 S (by omega) (by omega) (by omega) (by omega)) rfl ?_
    have f20_3 := wf36_3 hw (S := S) (b := b) (t := t) (by omega) (by omega) (by omega) (by omega)
    refine x_ishl dX2_freeDigits_23 ?_
    refine x_iconst dX2_freeDigits_24 ?_
    refine x_isub dX2_freeDigits_25 ?_
    exact x_iret dX2_freeDigits_26 rfl (pRI (by unfold fFree; first | rw [if_pos (by assumption)] | rw [if_neg (by omega)]))
  · refine x_aload_n dX2_freeDigits_12 rfl ?_
    refine x_get (v := xI (S.1 (36, b, t) 2)) dX2_freeDigits_13 fl_RX2_23 (hp36 S (by omega) (by omega) (by omega) (by omega)) rfl ?_
    have f13_4 := wf36_2 hw (S := S) (b := b) (t := t) (by omega) (by omega) (by omega) (by omega)
    refine x_goto (tgt := 23) dX2_freeDigits_16 (by decide) ?_
    refine x_ishl dX2_freeDigits_23 ?_
    refine x_iconst dX2_freeDigits_24 ?_
    refine x_isub dX2_freeDigits_25 ?_
    exact x_iret dX2_freeDigits_26 rfl (pRI (by unfold fFree; first | rw [if_pos (by assumption)] | rw [if_neg (by omega)]))
set_option maxHeartbeats 4000000 in
set_option maxRecDepth 100000 in
theorem c_pairOf37 (S : XS) (hw : WI S) (b : Int) (h1 : 0 ≤ b) (h2 : b < 10) (w : Int) : X mX2_pairOf 0 (xEnt mX2_pairOf [xR (37, b, 0), xI w]) [] (hp S) 0 0 (pRet (xI (fPair S (37, b, 0) w)) (hp S)) := by
  show X mX2_pairOf 0 [xR (37, b, 0), xI w] [] (hp S) 0 0 _
  refine x_bipush (v := 8) dX2_pairOf_0 (by decide) ?_
  refine x_iload_n dX2_pairOf_2 rfl ?_
  refine x_aload_n dX2_pairOf_3 rfl ?_
  refine x_get (v := xI (S.1 (37, b, 0) 2)) dX2_pairOf_4 fl_RX2_23 (hp37 S (by omega) (by omega)) rfl ?_
  have f4_1 := wf37_2 hw (S := S) (b := b) (by omega) (by omega)
  refine x_ishr dX2_pairOf_7 ?_
  refine x_bipush (v := 7) dX2_pairOf_8 (by decide) ?_
  refine x_iand dX2_pairOf_10 ?_
  refine x_imul dX2_pairOf_11 ?_
  refine x_iload_n dX2_pairOf_12 rfl ?_
  refine x_aload_n dX2_pairOf_13 rfl ?_
  refine x_get (v := xI (S.1 (37, b, 0) 3)) dX2_pairOf_14 fl_RX2_26 (hp37 S (by omega) (by omega)) rfl ?_
  have f14_2 := wf37_3 hw (S := S) (b := b) (by omega) (by omega)
  refine x_ishr dX2_pairOf_17 ?_
  refine x_bipush (v := 7) dX2_pairOf_18 (by decide) ?_
  refine x_iand dX2_pairOf_20 ?_
  refine x_iadd dX2_pairOf_21 ?_
  exact x_iret dX2_pairOf_22 rfl (pRI rfl)
set_option maxHeartbeats 4000000 in
set_option maxRecDepth 100000 in
theorem c_digits37 (S : XS) (hw : WI S) (b : Int) (h1 : 0 ≤ b) (h2 : b < 10) : X mX2_digits 0 (xEnt mX2_digits [xR (37, b, 0)]) [] (hp S) 0 0 (pRet (xI (fDig S (37, b, 0))) (hp S)) := by
  show X mX2_digits 0 [xR (37, b, 0)] [] (hp S) 0 0 _
  refine x_bipush (v := 7) dX2_digits_0 (by decide) ?_
  refine x_aload_n dX2_digits_2 rfl ?_
  refine x_get (v := xI (S.1 (37, b, 0) 2)) dX2_digits_3 fl_RX2_23 (hp37 S (by omega) (by omega)) rfl ?_
  have f3_1 := wf37_2 hw (S := S) (b := b) (by omega) (by omega)
  refine x_ishl dX2_digits_6 ?_
  refine x_bipush (v := 7) dX2_digits_7 (by decide) ?_
  refine x_aload_n dX2_digits_9 rfl ?_
  refine x_get (v := xI (S.1 (37, b, 0) 3)) dX2_digits_10 fl_RX2_26 (hp37 S (by omega) (by omega)) rfl ?_
  have f10_2 := wf37_3 hw (S := S) (b := b) (by omega) (by omega)
  refine x_ishl dX2_digits_13 ?_
  refine x_ior dX2_digits_14 ?_
  exact x_iret dX2_digits_15 rfl (pRI rfl)
set_option maxHeartbeats 4000000 in
set_option maxRecDepth 100000 in
theorem c_freeDigits37 (S : XS) (hw : WI S) (b : Int) (h1 : 0 ≤ b) (h2 : b < 10) : X mX2_freeDigits 0 (xEnt mX2_freeDigits [xR (37, b, 0)]) [] (hp S) 0 0 (pRet (xI (fFree S (37, b, 0))) (hp S)) := by
  show X mX2_freeDigits 0 [xR (37, b, 0)] [] (hp S) 0 0 _
  refine x_iconst dX2_freeDigits_0 ?_
  refine x_aload_n dX2_freeDigits_1 rfl ?_
  refine x_get (v := xI (S.1 (37, b, 0) 2)) dX2_freeDigits_2 fl_RX2_23 (hp37 S (by omega) (by omega)) rfl ?_
  have f2_1 := wf37_2 hw (S := S) (b := b) (by omega) (by omega)
  refine x_aload_n dX2_freeDigits_5 rfl ?_
  refine x_get (v := xI (S.1 (37, b, 0) 3)) dX2_freeDigits_6 fl_RX2_26 (hp37 S (by omega) (by omega)) rfl ?_
  have f6_2 := wf37_3 hw (S := S) (b := b) (by omega) (by omega)
  refine x_icmp_ge (tgt := 19) dX2_freeDigits_9 (by decide) (by first | exact hz _ _ | exact hw.1 _ _ | exact zR_of _ | exact bI_z _ | assumption | exact ⟨by omega, by omega⟩) (by first | exact hz _ _ | exact hw.1 _ _ | exact zR_of _ | exact bI_z _ | assumption | exact ⟨by omega, by omega⟩) (fun c9 => ?_) (fun c9 => ?_)
  · refine x_aload_n dX2_freeDigits_19 rfl ?_
    refine x_get (v := xI (S.1 (37, b, 0) 3)) dX2_freeDigits_20 fl_RX2_26 (hp37 S (by omega) (by omega)) rfl ?_
    have f20_3 := wf37_3 hw (S := S) (b := b) (by omega) (by omega)
    refine x_ishl dX2_freeDigits_23 ?_
    refine x_iconst dX2_freeDigits_24 ?_
    refine x_isub dX2_freeDigits_25 ?_
    exact x_iret dX2_freeDigits_26 rfl (pRI (by unfold fFree; first | rw [if_pos (by assumption)] | rw [if_neg (by omega)]))
  · refine x_aload_n dX2_freeDigits_12 rfl ?_
    refine x_get (v := xI (S.1 (37, b, 0) 2)) dX2_freeDigits_13 fl_RX2_23 (hp37 S (by omega) (by omega)) rfl ?_
    have f13_4 := wf37_2 hw (S := S) (b := b) (by omega) (by omega)
    refine x_goto (tgt := 23) dX2_freeDigits_16 (by decide) ?_
    refine x_ishl dX2_freeDigits_23 ?_
    refine x_iconst dX2_freeDigits_24 ?_
    refine x_isub dX2_freeDigits_25 ?_
    exact x_iret dX2_freeDigits_26 rfl (pRI (by unfold fFree; first | rw [if_pos (by assumption)] | rw [if_neg (by omega)]))
set_option maxHeartbeats 4000000 in
set_option maxRecDepth 100000 in
theorem c_factOf36 (S : XS) (hw : WI S) (b t : Int) (h1 : 0 ≤ b) (h2 : b < 10) (h3 : 0 ≤ t) (h4 : t < 3) (w : Int) : X mX2_factOf 0 (xEnt mX2_factOf [xR (36, b, t), xI w]) [] (hp S) 0 0 (pRet (xI (64 * S.1 (36, b, t) 0 + fPair S (36, b, t) w)) (hp S)) := by
  show X mX2_factOf 0 [xR (36, b, t), xI w] [] (hp S) 0 0 _
  refine x_bipush (v := 64) dX2_factOf_0 (by decide) ?_
  refine x_aload_n dX2_factOf_2 rfl ?_
  refine x_get (v := xI (S.1 (36, b, t) 0)) dX2_factOf_3 fl_RX2_9 (hp36 S (by omega) (by omega) (by omega) (by omega)) rfl ?_
  have f3_1 := wf36_0 hw (S := S) (b := b) (t := t) (by omega) (by omega) (by omega) (by omega)
  refine x_imul dX2_factOf_6 ?_
  refine x_aload_n dX2_factOf_7 rfl ?_
  refine x_iload_n dX2_factOf_8 rfl ?_
  refine x_callV_r (a := 0) (b := 0) (as := [xI w]) (rest := [xI (64 * (S.1 (36, b, t) 0))]) ok_X2_pairOf dX2_factOf_9 wd793 ⟨wd405, wd406⟩ (hp36 S (by omega) (by omega) (by omega) (by omega)) rfl rfl (c_pairOf36 S hw b t (by omega) (by omega) (by omega) (by omega) w) rfl (Nat.le_of_ble_eq_true rfl) (Nat.le_of_ble_eq_true rfl) (by decide) (by omega) (by omega) ?_
  refine x_iadd dX2_factOf_12 ?_
  exact x_iret dX2_factOf_13 rfl (pRI rfl)
set_option maxHeartbeats 4000000 in
set_option maxRecDepth 100000 in
theorem c_factOf37 (S : XS) (hw : WI S) (b : Int) (h1 : 0 ≤ b) (h2 : b < 10) (w : Int) : X mX2_factOf 0 (xEnt mX2_factOf [xR (37, b, 0), xI w]) [] (hp S) 0 0 (pRet (xI (64 * S.1 (37, b, 0) 0 + fPair S (37, b, 0) w)) (hp S)) := by
  show X mX2_factOf 0 [xR (37, b, 0), xI w] [] (hp S) 0 0 _
  refine x_bipush (v := 64) dX2_factOf_0 (by decide) ?_
  refine x_aload_n dX2_factOf_2 rfl ?_
  refine x_get (v := xI (S.1 (37, b, 0) 0)) dX2_factOf_3 fl_RX2_9 (hp37 S (by omega) (by omega)) rfl ?_
  have f3_1 := wf37_0 hw (S := S) (b := b) (by omega) (by omega)
  refine x_imul dX2_factOf_6 ?_
  refine x_aload_n dX2_factOf_7 rfl ?_
  refine x_iload_n dX2_factOf_8 rfl ?_
  refine x_callV_r (a := 0) (b := 0) (as := [xI w]) (rest := [xI (64 * (S.1 (37, b, 0) 0))]) ok_X2_pairOf dX2_factOf_9 wd793 ⟨wd405, wd406⟩ (hp37 S (by omega) (by omega)) rfl rfl (c_pairOf37 S hw b (by omega) (by omega) w) rfl (Nat.le_of_ble_eq_true rfl) (Nat.le_of_ble_eq_true rfl) (by decide) (by omega) (by omega) ?_
  refine x_iadd dX2_factOf_12 ?_
  exact x_iret dX2_factOf_13 rfl (pRI rfl)
def sBecome (S : XS) (l : XL) (r one other c : Int) : XS := putI (putI (putI (putI S l 0 r) l 1 c) l 2 (3 * (2 - one))) l 3 (3 * (2 - other))
set_option maxHeartbeats 4000000 in
set_option maxRecDepth 100000 in
theorem c_become36 (S : XS) (hw : WI S) (b t : Int) (h1 : 0 ≤ b) (h2 : b < 10) (h3 : 0 ≤ t) (h4 : t < 3) (r one other c : Int) (g1 : 0 ≤ r ∧ r ≤ 5) (g2 : 0 ≤ one ∧ one ≤ 2) (g3 : 0 ≤ other ∧ other ≤ 2) (g4 : c = 0 ∨ c = 1) : X mX2_become 0 (xEnt mX2_become [xR (36, b, t), xI r, xI one, xI other, xI c]) [] (hp S) 0 0 (pVoid (hp (sBecome S (36, b, t) r one other c))) := by
  show X mX2_become 0 [xR (36, b, t), xI r, xI one, xI other, xI c] [] (hp S) 0 0 _
  refine x_aload_n dX2_become_0 rfl ?_
  refine x_iload_n dX2_become_1 rfl ?_
  refine x_put dX2_become_2 fl_RX2_9 (fun r hr => by cases hr; rfl) (hp36 S (by omega) (by omega) (by omega) (by omega)) xfit_i (Nat.le_of_ble_eq_true rfl) rfl ?_
  refine x_heq (pu36_0 S (by omega) (by omega) (by omega) (by omega) r) ?_
  have hw2_1 : WI (putI S (36, b, t) 0 r) := wp36_0 hw (by omega) (by omega) (by omega) (by omega) (by omega)
  refine x_aload_n dX2_become_5 rfl ?_
  refine x_iload dX2_become_6 rfl ?_
  refine x_put dX2_become_8 fl_RX2_15 (fun r hr => by cases hr; rfl) (hp36 (putI S (36, b, t) 0 r) (by omega) (by omega) (by omega) (by omega)) (xfit_z g4) (Nat.le_of_ble_eq_true rfl) rfl ?_
  refine x_heq (pu36_1 (putI S (36, b, t) 0 r) (by omega) (by omega) (by omega) (by omega) c) ?_
  have hw8_2 : WI (putI (putI S (36, b, t) 0 r) (36, b, t) 1 c) := wp36_1 hw2_1 (by omega) (by omega) (by omega) (by omega) g4
  refine x_aload_n dX2_become_11 rfl ?_
  refine x_iload_n dX2_become_12 rfl ?_
  refine x_callS_r (a := 0) (b := 0) (as := [xI one]) (rest := [xR (36, b, t)]) ok_X2_shiftOf dX2_become_13 wd657 wd658 (c_shiftOf (putI (putI S (36, b, t) 0 r) (36, b, t) 1 c) one) rfl (Nat.le_of_ble_eq_true rfl) (Nat.le_of_ble_eq_true rfl) (by decide) (by omega) (by omega) ?_
  refine x_put dX2_become_16 fl_RX2_23 (fun r hr => by cases hr; rfl) (hp36 (putI (putI S (36, b, t) 0 r) (36, b, t) 1 c) (by omega) (by omega) (by omega) (by omega)) xfit_i (Nat.le_of_ble_eq_true rfl) rfl ?_
  refine x_heq (pu36_2 (putI (putI S (36, b, t) 0 r) (36, b, t) 1 c) (by omega) (by omega) (by omega) (by omega) (3 * (2 - one))) ?_
  have hw16_3 : WI (putI (putI (putI S (36, b, t) 0 r) (36, b, t) 1 c) (36, b, t) 2 (3 * (2 - one))) := wp36_2 hw8_2 (by omega) (by omega) (by omega) (by omega) (by omega)
  refine x_aload_n dX2_become_19 rfl ?_
  refine x_iload_n dX2_become_20 rfl ?_
  refine x_callS_r (a := 0) (b := 0) (as := [xI other]) (rest := [xR (36, b, t)]) ok_X2_shiftOf dX2_become_21 wd657 wd658 (c_shiftOf (putI (putI (putI S (36, b, t) 0 r) (36, b, t) 1 c) (36, b, t) 2 (3 * (2 - one))) other) rfl (Nat.le_of_ble_eq_true rfl) (Nat.le_of_ble_eq_true rfl) (by decide) (by omega) (by omega) ?_
  refine x_put dX2_become_24 fl_RX2_26 (fun r hr => by cases hr; rfl) (hp36 (putI (putI (putI S (36, b, t) 0 r) (36, b, t) 1 c) (36, b, t) 2 (3 * (2 - one))) (by omega) (by omega) (by omega) (by omega)) xfit_i (Nat.le_of_ble_eq_true rfl) rfl ?_
  refine x_heq (pu36_3 (putI (putI (putI S (36, b, t) 0 r) (36, b, t) 1 c) (36, b, t) 2 (3 * (2 - one))) (by omega) (by omega) (by omega) (by omega) (3 * (2 - other))) ?_
  have hw24_4 : WI (putI (putI (putI (putI S (36, b, t) 0 r) (36, b, t) 1 c) (36, b, t) 2 (3 * (2 - one))) (36, b, t) 3 (3 * (2 - other))) := wp36_3 hw16_3 (by omega) (by omega) (by omega) (by omega) (by omega)
  exact x_vret dX2_become_27 rfl pV
theorem wi_become36 (S : XS) (hw : WI S) (b t : Int) (h1 : 0 ≤ b) (h2 : b < 10) (h3 : 0 ≤ t) (h4 : t < 3) (r one other c : Int) (g1 : 0 ≤ r ∧ r ≤ 5) (g2 : 0 ≤ one ∧ one ≤ 2) (g3 : 0 ≤ other ∧ other ≤ 2) (g4 : c = 0 ∨ c = 1) : WI (sBecome S (36, b, t) r one other c) := wp36_3 (wp36_2 (wp36_1 (wp36_0 hw h1 h2 h3 h4 g1) h1 h2 h3 h4 g4) h1 h2 h3 h4 (by omega)) h1 h2 h3 h4 (by omega)
set_option maxHeartbeats 4000000 in
set_option maxRecDepth 100000 in
theorem c_become37 (S : XS) (hw : WI S) (b : Int) (h1 : 0 ≤ b) (h2 : b < 10) (r one other c : Int) (g1 : 0 ≤ r ∧ r ≤ 5) (g2 : 0 ≤ one ∧ one ≤ 2) (g3 : 0 ≤ other ∧ other ≤ 2) (g4 : c = 0 ∨ c = 1) : X mX2_become 0 (xEnt mX2_become [xR (37, b, 0), xI r, xI one, xI other, xI c]) [] (hp S) 0 0 (pVoid (hp (sBecome S (37, b, 0) r one other c))) := by
  show X mX2_become 0 [xR (37, b, 0), xI r, xI one, xI other, xI c] [] (hp S) 0 0 _
  refine x_aload_n dX2_become_0 rfl ?_
  refine x_iload_n dX2_become_1 rfl ?_
  refine x_put dX2_become_2 fl_RX2_9 (fun r hr => by cases hr; rfl) (hp37 S (by omega) (by omega)) xfit_i (Nat.le_of_ble_eq_true rfl) rfl ?_
  refine x_heq (pu37_0 S (by omega) (by omega) r) ?_
  have hw2_1 : WI (putI S (37, b, 0) 0 r) := wp37_0 hw (by omega) (by omega) (by omega)
  refine x_aload_n dX2_become_5 rfl ?_
  refine x_iload dX2_become_6 rfl ?_
  refine x_put dX2_become_8 fl_RX2_15 (fun r hr => by cases hr; rfl) (hp37 (putI S (37, b, 0) 0 r) (by omega) (by omega)) (xfit_z g4) (Nat.le_of_ble_eq_true rfl) rfl ?_
  refine x_heq (pu37_1 (putI S (37, b, 0) 0 r) (by omega) (by omega) c) ?_
  have hw8_2 : WI (putI (putI S (37, b, 0) 0 r) (37, b, 0) 1 c) := wp37_1 hw2_1 (by omega) (by omega) g4
  refine x_aload_n dX2_become_11 rfl ?_
  refine x_iload_n dX2_become_12 rfl ?_
  refine x_callS_r (a := 0) (b := 0) (as := [xI one]) (rest := [xR (37, b, 0)]) ok_X2_shiftOf dX2_become_13 wd657 wd658 (c_shiftOf (putI (putI S (37, b, 0) 0 r) (37, b, 0) 1 c) one) rfl (Nat.le_of_ble_eq_true rfl) (Nat.le_of_ble_eq_true rfl) (by decide) (by omega) (by omega) ?_
  refine x_put dX2_become_16 fl_RX2_23 (fun r hr => by cases hr; rfl) (hp37 (putI (putI S (37, b, 0) 0 r) (37, b, 0) 1 c) (by omega) (by omega)) xfit_i (Nat.le_of_ble_eq_true rfl) rfl ?_
  refine x_heq (pu37_2 (putI (putI S (37, b, 0) 0 r) (37, b, 0) 1 c) (by omega) (by omega) (3 * (2 - one))) ?_
  have hw16_3 : WI (putI (putI (putI S (37, b, 0) 0 r) (37, b, 0) 1 c) (37, b, 0) 2 (3 * (2 - one))) := wp37_2 hw8_2 (by omega) (by omega) (by omega)
  refine x_aload_n dX2_become_19 rfl ?_
  refine x_iload_n dX2_become_20 rfl ?_
  refine x_callS_r (a := 0) (b := 0) (as := [xI other]) (rest := [xR (37, b, 0)]) ok_X2_shiftOf dX2_become_21 wd657 wd658 (c_shiftOf (putI (putI (putI S (37, b, 0) 0 r) (37, b, 0) 1 c) (37, b, 0) 2 (3 * (2 - one))) other) rfl (Nat.le_of_ble_eq_true rfl) (Nat.le_of_ble_eq_true rfl) (by decide) (by omega) (by omega) ?_
  refine x_put dX2_become_24 fl_RX2_26 (fun r hr => by cases hr; rfl) (hp37 (putI (putI (putI S (37, b, 0) 0 r) (37, b, 0) 1 c) (37, b, 0) 2 (3 * (2 - one))) (by omega) (by omega)) xfit_i (Nat.le_of_ble_eq_true rfl) rfl ?_
  refine x_heq (pu37_3 (putI (putI (putI S (37, b, 0) 0 r) (37, b, 0) 1 c) (37, b, 0) 2 (3 * (2 - one))) (by omega) (by omega) (3 * (2 - other))) ?_
  have hw24_4 : WI (putI (putI (putI (putI S (37, b, 0) 0 r) (37, b, 0) 1 c) (37, b, 0) 2 (3 * (2 - one))) (37, b, 0) 3 (3 * (2 - other))) := wp37_3 hw16_3 (by omega) (by omega) (by omega)
  exact x_vret dX2_become_27 rfl pV
theorem wi_become37 (S : XS) (hw : WI S) (b : Int) (h1 : 0 ≤ b) (h2 : b < 10) (r one other c : Int) (g1 : 0 ≤ r ∧ r ≤ 5) (g2 : 0 ≤ one ∧ one ≤ 2) (g3 : 0 ≤ other ∧ other ≤ 2) (g4 : c = 0 ∨ c = 1) : WI (sBecome S (37, b, 0) r one other c) := wp37_3 (wp37_2 (wp37_1 (wp37_0 hw h1 h2 g1) h1 h2 g4) h1 h2 (by omega)) h1 h2 (by omega)
set_option maxHeartbeats 4000000 in
set_option maxRecDepth 100000 in
theorem c_has6 (S : XS) (f : Int) (g1 : 0 ≤ f) (g2 : f < 384) : X mX6_has 0 (xEnt mX6_has [xR (6, 0, 0), xI f]) [] (hp S) 0 0 (pRet (xI (bI ((lg_cmp (jShr (S.2.1 (26, 0, 0) (f / 64)) (f % 64) &&& 1) 0).toInt ≠ 0))) (hp S)) := by
  show X mX6_has 0 [xR (6, 0, 0), xI f] [] (hp S) 0 0 _
  refine x_aload_n dX6_has_0 rfl ?_
  refine x_get (v := xR (26, 0, 0)) dX6_has_1 fl_RX6_15 (hp6 S) rfl ?_
  refine x_iload_n dX6_has_4 rfl ?_
  refine x_bipush (v := 64) dX6_has_5 (by decide) ?_
  refine x_idiv dX6_has_7 (by omega) (by omega) (by omega) (by omega) ?_
  refine x_aldj (f := S.2.1 (26, 0, 0)) dX6_has_8 (hp26 S) (show (26 : Nat) ≠ 99 by decide) (by omega) (by omega) (by decide) ?_
  refine x_iload_n dX6_has_9 rfl ?_
  refine x_bipush (v := 64) dX6_has_10 (by decide) ?_
  refine x_irem dX6_has_12 (by omega) (by omega) (by omega) (by omega) ?_
  refine x_lushr dX6_has_13 ?_
  refine x_lconst (v := 1) dX6_has_14 (by decide) ?_
  refine x_land dX6_has_15 ?_
  refine x_lconst (v := 0) dX6_has_16 (by decide) ?_
  refine x_lcmp dX6_has_17 ?_
  refine x_if_eq (tgt := 25) dX6_has_18 (by decide) (by first | exact hz _ _ | exact hw.1 _ _ | exact zR_of _ | exact bI_z _ | assumption | exact ⟨by omega, by omega⟩) (fun c18 => ?_) (fun c18 => ?_)
  · refine x_iconst dX6_has_25 ?_
    exact x_zret dX6_has_26 rfl (Or.inl rfl) (pRI (bI_f (by omega)).symm)
  · refine x_iconst dX6_has_21 ?_
    refine x_goto (tgt := 26) dX6_has_22 (by decide) ?_
    exact x_zret dX6_has_26 rfl (Or.inr rfl) (pRI (bI_t (by omega)).symm)
set_option maxHeartbeats 4000000 in
set_option maxRecDepth 100000 in
theorem c_has8 (S : XS) (f : Int) (g1 : 0 ≤ f) (g2 : f < 384) (b t : Int) (h1 : 0 ≤ b) (h2 : b < 4) (h3 : 0 ≤ t) (h4 : t < 24) : X mX6_has 0 (xEnt mX6_has [xR (8, b, t), xI f]) [] (hp S) 0 0 (pRet (xI (bI ((lg_cmp (jShr (S.2.1 (28, b, t) (f / 64)) (f % 64) &&& 1) 0).toInt ≠ 0))) (hp S)) := by
  show X mX6_has 0 [xR (8, b, t), xI f] [] (hp S) 0 0 _
  refine x_aload_n dX6_has_0 rfl ?_
  refine x_get (v := xR (28, b, t)) dX6_has_1 fl_RX6_15 (hp8 S (by omega) (by omega) (by omega) (by omega)) rfl ?_
  refine x_iload_n dX6_has_4 rfl ?_
  refine x_bipush (v := 64) dX6_has_5 (by decide) ?_
  refine x_idiv dX6_has_7 (by omega) (by omega) (by omega) (by omega) ?_
  refine x_aldj (f := S.2.1 (28, b, t)) dX6_has_8 (hp28 S (by omega) (by omega) (by omega) (by omega)) (show (28 : Nat) ≠ 99 by decide) (by omega) (by omega) (by decide) ?_
  refine x_iload_n dX6_has_9 rfl ?_
  refine x_bipush (v := 64) dX6_has_10 (by decide) ?_
  refine x_irem dX6_has_12 (by omega) (by omega) (by omega) (by omega) ?_
  refine x_lushr dX6_has_13 ?_
  refine x_lconst (v := 1) dX6_has_14 (by decide) ?_
  refine x_land dX6_has_15 ?_
  refine x_lconst (v := 0) dX6_has_16 (by decide) ?_
  refine x_lcmp dX6_has_17 ?_
  refine x_if_eq (tgt := 25) dX6_has_18 (by decide) (by first | exact hz _ _ | exact hw.1 _ _ | exact zR_of _ | exact bI_z _ | assumption | exact ⟨by omega, by omega⟩) (fun c18 => ?_) (fun c18 => ?_)
  · refine x_iconst dX6_has_25 ?_
    exact x_zret dX6_has_26 rfl (Or.inl rfl) (pRI (bI_f (by omega)).symm)
  · refine x_iconst dX6_has_21 ?_
    refine x_goto (tgt := 26) dX6_has_22 (by decide) ?_
    exact x_zret dX6_has_26 rfl (Or.inr rfl) (pRI (bI_t (by omega)).symm)
