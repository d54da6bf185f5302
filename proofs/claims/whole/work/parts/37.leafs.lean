/-! listeners -/
def sAttach (S : XS) (l b r t : Int) (w : Int64) : XS := putJ (putI (putI (putI S (14, l, 0) 2 b) (14, l, 0) 3 r) (14, l, 0) 4 t) (14, l, 0) 5 w
set_option maxHeartbeats 4000000 in
set_option maxRecDepth 100000 in
theorem c_attach (S : XS) (hw : WI S) (l : Int) (h1 : 0 ≤ l) (h2 : l < 5) (b r t : Int) (w : Int64) (g1 : 0 ≤ b ∧ b ≤ 3) (g2 : 0 ≤ r ∧ r ≤ 5) (g3 : 0 ≤ t ∧ t ≤ 23) : X mX1_attach 0 (xEnt mX1_attach [xR (14, l, 0), xI b, xI r, xI t, xJ w]) [] (hp S) 0 0 (pVoid (hp (sAttach S l b r t w))) := by
  show X mX1_attach 0 [xR (14, l, 0), xI b, xI r, xI t, xJ w, none] [] (hp S) 0 0 _
  refine x_aload_n dX1_attach_0 rfl ?_
  refine x_iload_n dX1_attach_1 rfl ?_
  refine x_put dX1_attach_2 fl_RX1_18 (fun r hr => by cases hr; rfl) (hp14 S (by omega) (by omega)) xfit_i (Nat.le_of_ble_eq_true rfl) rfl ?_
  refine x_heq (pu14_2 S (by omega) (by omega) b) ?_
  have hw2_1 : WI (putI S (14, l, 0) 2 b) := wp14_2 hw (by omega) (by omega) (by omega)
  refine x_aload_n dX1_attach_5 rfl ?_
  refine x_iload_n dX1_attach_6 rfl ?_
  refine x_put dX1_attach_7 fl_RX1_22 (fun r hr => by cases hr; rfl) (hp14 (putI S (14, l, 0) 2 b) (by omega) (by omega)) xfit_i (Nat.le_of_ble_eq_true rfl) rfl ?_
  refine x_heq (pu14_3 (putI S (14, l, 0) 2 b) (by omega) (by omega) r) ?_
  have hw7_2 : WI (putI (putI S (14, l, 0) 2 b) (14, l, 0) 3 r) := wp14_3 hw2_1 (by omega) (by omega) (by omega)
  refine x_aload_n dX1_attach_10 rfl ?_
  refine x_iload_n dX1_attach_11 rfl ?_
  refine x_put dX1_attach_12 fl_RX1_25 (fun r hr => by cases hr; rfl) (hp14 (putI (putI S (14, l, 0) 2 b) (14, l, 0) 3 r) (by omega) (by omega)) xfit_i (Nat.le_of_ble_eq_true rfl) rfl ?_
  refine x_heq (pu14_4 (putI (putI S (14, l, 0) 2 b) (14, l, 0) 3 r) (by omega) (by omega) t) ?_
  have hw12_3 : WI (putI (putI (putI S (14, l, 0) 2 b) (14, l, 0) 3 r) (14, l, 0) 4 t) := wp14_4 hw7_2 (by omega) (by omega) (by omega)
  refine x_aload_n dX1_attach_15 rfl ?_
  refine x_lload dX1_attach_16 rfl ?_
  refine x_put dX1_attach_18 fl_RX1_28 (fun r hr => by cases hr; rfl) (hp14 (putI (putI (putI S (14, l, 0) 2 b) (14, l, 0) 3 r) (14, l, 0) 4 t) (by omega) (by omega)) xfit_j (Nat.le_of_ble_eq_true rfl) rfl ?_
  refine x_heq (pu14_5 (putI (putI (putI S (14, l, 0) 2 b) (14, l, 0) 3 r) (14, l, 0) 4 t) (by omega) (by omega) w) ?_
  have hw18_4 : WI (putJ (putI (putI (putI S (14, l, 0) 2 b) (14, l, 0) 3 r) (14, l, 0) 4 t) (14, l, 0) 5 w) := hw12_3.puJ
  exact x_vret dX1_attach_21 rfl pV
/-- the pairs that a listener hears of, as a state holds them -/
def lNow (S : XS) (l b t : Int) : Int64 := S.2.1 (28, b, t) (S.1 (14, l, 0) 3) &&& S.2.1 (14, l, 0) 5
def sBeg (S : XS) (l b t : Int) : XS := putJ S (14, l, 0) 6 (lNow S l b t)
set_option maxHeartbeats 4000000 in
set_option maxRecDepth 100000 in
theorem c_beginL (S : XS) (hw : WI S) (l : Int) (h1 : 0 ≤ l) (h2 : l < 5) (b t : Int) (h3 : 0 ≤ b) (h4 : b < 4) (h5 : 0 ≤ t) (h6 : t < 24) : X mX1_begin 0 (xEnt mX1_begin [xR (14, l, 0), xR (8, b, t)]) [] (hp S) 0 0 (pVoid (hp (sBeg S l b t))) := by
  show X mX1_begin 0 [xR (14, l, 0), xR (8, b, t)] [] (hp S) 0 0 _
  refine x_aload_n dX1_begin_0 rfl ?_
  refine x_aload_n dX1_begin_1 rfl ?_
  refine x_get (v := xR (28, b, t)) dX1_begin_2 fl_RX1_44 (hp8 S (by omega) (by omega) (by omega) (by omega)) rfl ?_
  refine x_aload_n dX1_begin_5 rfl ?_
  refine x_get (v := xI (S.1 (14, l, 0) 3)) dX1_begin_6 fl_RX1_22 (hp14 S (by omega) (by omega)) rfl ?_
  have f6_1 := wf14_3 hw (S := S) (b := l) (by omega) (by omega)
  refine x_aldj (f := S.2.1 (28, b, t)) dX1_begin_9 (hp28 S (by omega) (by omega) (by omega) (by omega)) (show (28 : Nat) ≠ 99 by decide) (by omega) (by omega) (by decide) ?_
  refine x_aload_n dX1_begin_10 rfl ?_
  refine x_get (v := xJ (S.2.1 (14, l, 0) 5)) dX1_begin_11 fl_RX1_28 (hp14 S (by omega) (by omega)) rfl ?_
  refine x_land dX1_begin_14 ?_
  refine x_put dX1_begin_15 fl_RX1_32 (fun r hr => by cases hr; rfl) (hp14 S (by omega) (by omega)) xfit_j (Nat.le_of_ble_eq_true rfl) rfl ?_
  refine x_heq (pu14_6 S (by omega) (by omega) ((S.2.1 (28, b, t) (S.1 (14, l, 0) 3)) &&& (S.2.1 (14, l, 0) 5))) ?_
  have hw15_2 : WI (putJ S (14, l, 0) 6 ((S.2.1 (28, b, t) (S.1 (14, l, 0) 3)) &&& (S.2.1 (14, l, 0) 5))) := hw.puJ
  exact x_vret dX1_begin_18 rfl pV
