theorem lv_L {S T : XS} (h : LEq S T) {b l : Int} (h4 : T.1 (14, l, 0) 4 = S.1 (14, l, 0) 4) (h3 : T.1 (14, l, 0) 3 = S.1 (14, l, 0) 3) (h5 : T.2.1 (14, l, 0) 5 = S.2.1 (14, l, 0) 5) : lv T b l = lv S b l := by
  unfold lv
  rw [h.hl, h.i (k := 9) (by decide), h4, h3, h5]
theorem WI.inf {C : XS} (hw : WI C) {b : Int} (hc : CapOk C b) (n : Nat) (hn : (n : Int) ≤ C.1 (0, 0, 0) 7) : WI (sInf C b n) := by
  induction n with
  | zero => exact hw
  | succ n ih =>
    have c7 := wf0_7 hw
    by_cases y : C.1 (14, n, 0) 2 = b
    · rw [sInf_t y]
      obtain ⟨d1, d2, -, -⟩ := sInf_o C b n (n : Int) (Int.le_refl _)
      refine wi_hrV (ih (by omega)) (by omega) (by omega) ?_
      rw [d1, d2]
      exact hc n (by omega) (by omega) y
    · rw [sInf_f y]; exact ih (by omega)
theorem CB.inf {C : XS} (hC : CB C) {b : Int} (hc : CapOk C b) (n : Nat) (hn : (n : Int) ≤ C.1 (0, 0, 0) 7) : CB (sInf C b n) := (sInf_L C b n).cb (hC.1.inf hc n hn) hC
