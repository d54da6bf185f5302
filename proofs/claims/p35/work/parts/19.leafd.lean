/-! branches: readings -/
def xLle : List XV → List XV → Prop
  | [], [] => True
  | none :: a, _ :: b => xLle a b
  | some v :: a, w :: b => some v = w ∧ xLle a b
  | _, _ => False
theorem xLle.at : ∀ {a b : List XV}, xLle a b → a.length = b.length ∧ ∀ (i : Nat) v, a[i]? = some (some v) → b[i]? = some (some v)
  | [], [], _ => ⟨rfl, fun _ _ h => h⟩
  | none :: a, _ :: b, h => by
    obtain ⟨h1, h2⟩ := xLle.at (a := a) (b := b) h
    refine ⟨by simp [h1], fun i v q => ?_⟩
    cases i with
    | zero => cases q
    | succ i => exact h2 i v q
  | some v :: a, w :: b, ⟨h0, h⟩ => by
    obtain ⟨h1, h2⟩ := xLle.at (a := a) (b := b) h
    refine ⟨by simp [h1], fun i v q => ?_⟩
    cases i with
    | zero => rw [← h0]; exact q
    | succ i => exact h2 i v q
  | [], _ :: _, h => h.elim
  | none :: _, [], h => h.elim
  | some _ :: _, [], h => h.elim
/-- what lies in a local need not be known -/
theorem X.loc {M : XM} {pc : Nat} {L L' st : List XV} {h : XH} {kc ks : Nat} {Q : XO → XH → Prop} (hl : xLle L' L) (k : X M pc L' st h kc ks Q) : X M pc L st h kc ks Q := by
  intro p l e R s m args below meth c D dA base ad0 h0 ad H locs cells slots ls stv F hE h9 hH hS hL hst hc hs
  obtain ⟨q1, q2⟩ := hl.at
  exact k p l e R s m args below meth c D dA base ad0 h0 ad H locs cells slots ls stv F hE h9 hH hS ⟨q1.trans hL.1, hL.2.1, hL.2.2.1, fun i v hv => hL.2.2.2 i v (q2 i v hv)⟩ hst hc hs
theorem putJ_rowJ (S : XS) (l : XL) (f : Int → Int64) {n r : Int} (v : Int64) (h1 : 0 ≤ r) (h2 : r < n) : putJ (rowJ S l f n) l r v = rowJ S l (xUpd f r v) n := by
  unfold putJ rowJ
  refine Prod.ext rfl (Prod.ext ?_ rfl)
  funext l' j
  by_cases e : l' = l
  · subst e
    simp only [if_true, xUpd]
    by_cases e2 : j = r
    · subst e2; simp [h1, h2]
    · simp [e2]
  · simp [e]
theorem rowJ_rowJ (S : XS) (l : XL) (f g : Int → Int64) (n : Int) : rowJ (rowJ S l f n) l g n = rowJ S l g n := by
  unfold rowJ
  refine Prod.ext rfl (Prod.ext ?_ rfl)
  funext l' j
  by_cases e : l' = l
  · subst e
    simp only [if_true]
    split
    · rfl
    · simp_all
  · simp [e]
def onN (f : XL → Int → Int) (b : Int) : Nat → Int
  | 0 => 0
  | n + 1 => if f (13, b, n) 0 = 0 then onN f b n else if f (13, b, n) 1 = 0 then zAnd (onN f b n) (zXor (zShl 1 (f (13, b, n) 2)) (-1)) else zOr (onN f b n) (zShl 1 (f (13, b, n) 2))
theorem onN_zR (f : XL → Int → Int) (b : Int) (n : Nat) : zR (onN f b n) := by
  cases n with
  | zero => exact zR_0
  | succ n =>
    induction n with
    | zero => simp only [onN]; (repeat' split) <;> first | exact zR_0 | exact zR_of _
    | succ n ih => rw [onN]; (repeat' split) <;> first | exact ih | exact zR_of _
set_option maxHeartbeats 4000000 in
set_option maxRecDepth 100000 in
theorem l_rulesOn (S : XS) (hw : WI S) (b : Int) (h1 : 0 ≤ b) (h2 : b < 4) (n : Nat) (gn : n ≤ 60) : ∀ (nn : Nat) (i : Nat), (n : Int) - i < (nn : Int) → (i ≤ n) → X mX0_rulesOn 4 [xR (9, b, 0), xI (n : Int), xI (onN S.1 b i), xI (i : Int), none, none] [] (hp S) 0 0 (pRet (xI (onN S.1 b n)) (hp S)) := by
  intro nn
  induction nn with
  | zero => intro i hm hi; exfalso; omega
  | succ nn ih =>
    intro i hm hi
    refine x_iload_n dX0_rulesOn_4 rfl ?_
    refine x_iload_n dX0_rulesOn_5 rfl ?_
    refine x_icmp_ge (tgt := 62) dX0_rulesOn_6 (by decide) (by first | exact hz _ _ | exact hw.1 _ _ | exact zR_of _ | exact bI_z _ | assumption | exact ⟨by omega, by omega⟩) (by first | exact hz _ _ | exact hw.1 _ _ | exact zR_of _ | exact bI_z _ | assumption | exact ⟨by omega, by omega⟩) (fun c6 => ?_) (fun c6 => ?_)
    · refine x_iload_n dX0_rulesOn_62 rfl ?_
      exact x_iret dX0_rulesOn_63 rfl (by obtain rfl : i = n := (by omega); exact pRI rfl)
    · refine x_aload_n dX0_rulesOn_9 rfl ?_
      refine x_get (v := xR (10, b, 0)) dX0_rulesOn_10 fl_RX0_11 (hp9 S (by omega) (by omega)) rfl ?_
      refine x_iload_n dX0_rulesOn_13 rfl ?_
      refine x_alda (l2 := (13, b, (i : Int))) dX0_rulesOn_14 (hp10 S (by omega) (by omega)) (show (10 : Nat) ≠ 99 by decide) (by decide) (by decide) (by omega) (by omega) (by decide) rfl ?_
      refine x_astore (L' := [xR (9, b, 0), xI (n : Int), xI (onN S.1 b i), xI (i : Int), xR (13, b, (i : Int)), none]) dX0_rulesOn_15 (by decide) rfl ?_
      refine x_aload dX0_rulesOn_17 rfl ?_
      refine x_get (v := xI (S.1 (13, b, (i : Int)) 0)) dX0_rulesOn_19 fl_RX0_46 (hp13 S (by omega) (by omega) (by omega) (by omega)) rfl ?_
      have f19_1 := wf13_0 hw (S := S) (b := b) (t := (i : Int)) (by omega) (by omega) (by omega) (by omega)
      refine x_if_eq (tgt := 56) dX0_rulesOn_22 (by decide) (by first | exact hz _ _ | exact hw.1 _ _ | exact zR_of _ | exact bI_z _ | assumption | exact ⟨by omega, by omega⟩) (fun c22 => ?_) (fun c22 => ?_)
      · refine x_iinc (L' := [xR (9, b, 0), xI (n : Int), xI (onN S.1 b i), xI ((i : Int) + 1), xR (13, b, (i : Int)), none]) dX0_rulesOn_56 rfl rfl ?_
        refine x_goto (tgt := 4) dX0_rulesOn_59 (by decide) ?_
        refine X.loc (L' := [xR (9, b, 0), xI (n : Int), xI (onN S.1 b i), xI ((i : Int) + 1), none, none]) ⟨rfl, ⟨rfl, ⟨rfl, ⟨rfl, trivial⟩⟩⟩⟩ ?_
        have k := ih (i + 1) (by omega) (by omega)
        rw [show onN S.1 b (i + 1) = onN S.1 b i from by simp only [onN]; (repeat' split) <;> first | rfl | (exfalso; omega)] at k
        exact k
      · refine x_iconst dX0_rulesOn_25 ?_
        refine x_aload dX0_rulesOn_26 rfl ?_
        refine x_get (v := xI (S.1 (13, b, (i : Int)) 2)) dX0_rulesOn_28 fl_RX0_53 (hp13 S (by omega) (by omega) (by omega) (by omega)) rfl ?_
        have f28_2 := wf13_2 hw (S := S) (b := b) (t := (i : Int)) (by omega) (by omega) (by omega) (by omega)
        refine x_ishl dX0_rulesOn_31 ?_
        refine x_istore (L' := [xR (9, b, 0), xI (n : Int), xI (onN S.1 b i), xI (i : Int), xR (13, b, (i : Int)), xI (zShl 1 (S.1 (13, b, (i : Int)) 2))]) dX0_rulesOn_32 (by decide) rfl ?_
        refine x_aload dX0_rulesOn_34 rfl ?_
        refine x_get (v := xI (S.1 (13, b, (i : Int)) 1)) dX0_rulesOn_36 fl_RX0_50 (hp13 S (by omega) (by omega) (by omega) (by omega)) rfl ?_
        have f36_3 := wf13_1 hw (S := S) (b := b) (t := (i : Int)) (by omega) (by omega) (by omega) (by omega)
        refine x_if_eq (tgt := 49) dX0_rulesOn_39 (by decide) (by first | exact hz _ _ | exact hw.1 _ _ | exact zR_of _ | exact bI_z _ | assumption | exact ⟨by omega, by omega⟩) (fun c39 => ?_) (fun c39 => ?_)
        · refine x_iload_n dX0_rulesOn_49 rfl ?_
          refine x_iload dX0_rulesOn_50 rfl ?_
          refine x_iconst dX0_rulesOn_52 ?_
          refine x_ixor dX0_rulesOn_53 ?_
          refine x_iand dX0_rulesOn_54 ?_
          refine x_istore_n (L' := [xR (9, b, 0), xI (n : Int), xI (zAnd (onN S.1 b i) (zXor (zShl 1 (S.1 (13, b, (i : Int)) 2)) (-1))), xI (i : Int), xR (13, b, (i : Int)), xI (zShl 1 (S.1 (13, b, (i : Int)) 2))]) dX0_rulesOn_55 (by decide) rfl ?_
          refine x_iinc (L' := [xR (9, b, 0), xI (n : Int), xI (zAnd (onN S.1 b i) (zXor (zShl 1 (S.1 (13, b, (i : Int)) 2)) (-1))), xI ((i : Int) + 1), xR (13, b, (i : Int)), xI (zShl 1 (S.1 (13, b, (i : Int)) 2))]) dX0_rulesOn_56 rfl rfl ?_
          refine x_goto (tgt := 4) dX0_rulesOn_59 (by decide) ?_
          refine X.loc (L' := [xR (9, b, 0), xI (n : Int), xI (zAnd (onN S.1 b i) (zXor (zShl 1 (S.1 (13, b, (i : Int)) 2)) (-1))), xI ((i : Int) + 1), none, none]) ⟨rfl, ⟨rfl, ⟨rfl, ⟨rfl, trivial⟩⟩⟩⟩ ?_
          have k := ih (i + 1) (by omega) (by omega)
          rw [show onN S.1 b (i + 1) = zAnd (onN S.1 b i) (zXor (zShl 1 (S.1 (13, b, (i : Int)) 2)) (-1)) from by simp only [onN]; (repeat' split) <;> first | rfl | (exfalso; omega)] at k
          exact k
        · refine x_iload_n dX0_rulesOn_42 rfl ?_
          refine x_iload dX0_rulesOn_43 rfl ?_
          refine x_ior dX0_rulesOn_45 ?_
          refine x_goto (tgt := 55) dX0_rulesOn_46 (by decide) ?_
          refine x_istore_n (L' := [xR (9, b, 0), xI (n : Int), xI (zOr (onN S.1 b i) (zShl 1 (S.1 (13, b, (i : Int)) 2))), xI (i : Int), xR (13, b, (i : Int)), xI (zShl 1 (S.1 (13, b, (i : Int)) 2))]) dX0_rulesOn_55 (by decide) rfl ?_
          refine x_iinc (L' := [xR (9, b, 0), xI (n : Int), xI (zOr (onN S.1 b i) (zShl 1 (S.1 (13, b, (i : Int)) 2))), xI ((i : Int) + 1), xR (13, b, (i : Int)), xI (zShl 1 (S.1 (13, b, (i : Int)) 2))]) dX0_rulesOn_56 rfl rfl ?_
          refine x_goto (tgt := 4) dX0_rulesOn_59 (by decide) ?_
          refine X.loc (L' := [xR (9, b, 0), xI (n : Int), xI (zOr (onN S.1 b i) (zShl 1 (S.1 (13, b, (i : Int)) 2))), xI ((i : Int) + 1), none, none]) ⟨rfl, ⟨rfl, ⟨rfl, ⟨rfl, trivial⟩⟩⟩⟩ ?_
          have k := ih (i + 1) (by omega) (by omega)
          rw [show onN S.1 b (i + 1) = zOr (onN S.1 b i) (zShl 1 (S.1 (13, b, (i : Int)) 2)) from by simp only [onN]; (repeat' split) <;> first | rfl | (exfalso; omega)] at k
          exact k
set_option maxHeartbeats 4000000 in
set_option maxRecDepth 100000 in
theorem c_rulesOn (S : XS) (hw : WI S) (b : Int) (h1 : 0 ≤ b) (h2 : b < 4) (n : Nat) (gn : n ≤ 60) : X mX0_rulesOn 0 (xEnt mX0_rulesOn [xR (9, b, 0), xI (n : Int)]) [] (hp S) 0 0 (pRet (xI (onN S.1 b n)) (hp S)) := by
  show X mX0_rulesOn 0 [xR (9, b, 0), xI (n : Int), none, none, none, none] [] (hp S) 0 0 _
  refine x_iconst dX0_rulesOn_0 ?_
  refine x_istore_n (L' := [xR (9, b, 0), xI (n : Int), xI 0, none, none, none]) dX0_rulesOn_1 (by decide) rfl ?_
  refine x_iconst dX0_rulesOn_2 ?_
  refine x_istore_n (L' := [xR (9, b, 0), xI (n : Int), xI 0, xI 0, none, none]) dX0_rulesOn_3 (by decide) rfl ?_
  exact l_rulesOn S hw b h1 h2 n gn 61 0 (by omega) (by omega)
theorem x_nat {e : Int} (h : 0 ≤ e) (P : Int → Prop) (k : P (e.toNat : Int)) : P e := by rw [show (e.toNat : Int) = e by omega] at k; exact k
/-- what is told of an hour by the first n tellings of a branch -/
def toldN (f : XL → Int → Int) (b h : Int) : Nat → Int → Int64
  | 0 => fun _ => 0
  | n + 1 => if f (13, b, n) 0 = 0 ∧ f (13, b, n) 6 = 0 ∧ f (13, b, n) 3 ≤ h ∧ h ≤ f (13, b, n) 4 then
      xUpd (toldN f b h n) (f (13, b, n) 2 / 64) (if f (13, b, n) 1 = 0 then toldN f b h n (f (13, b, n) 2 / 64) &&& (jShl 1 (f (13, b, n) 2 % 64) ^^^ (-1)) else toldN f b h n (f (13, b, n) 2 / 64) ||| jShl 1 (f (13, b, n) 2 % 64))
    else toldN f b h n
def sRead (S : XS) (b : Int) (n : Nat) (h : Int) : XS := putI (rowJ S (16, 0, 0) (toldN S.1 b h n) 6) (6, 0, 0) 2 (onN S.1 b n)
theorem wi_read (S : XS) (hw : WI S) (b : Int) (n : Nat) (h : Int) : WI (sRead S b n h) := WI.put (WI.row hw) (onN_zR _ _ _) trivial
set_option maxHeartbeats 4000000 in
set_option maxRecDepth 100000 in
theorem l_read (S : XS) (hw : WI S) (b : Int) (h1 : 0 ≤ b) (h2 : b < 4) (n : Nat) (gn : n ≤ 60) (h : Int) (g1 : 0 ≤ h) (g2 : h < 24) : ∀ (nn : Nat) (i : Nat), (n : Int) - i < (nn : Int) → (i ≤ n) → X mX0_read 11 [xR (9, b, 0), xI (n : Int), xI h, xR (6, 0, 0), xI (i : Int), none, none, none, none] [] (hp (rowJ S (16, 0, 0) (toldN S.1 b h i) 6)) 0 0 (pVoid (hp (sRead S b n h))) := by
  intro nn
  induction nn with
  | zero => intro i hm hi; exfalso; omega
  | succ nn ih =>
    intro i hm hi
    have hq : (n : Int) - i ≤ nn := by omega
    refine x_iload dX0_read_11 rfl ?_
    refine x_iload_n dX0_read_13 rfl ?_
    refine x_icmp_ge (tgt := 130) dX0_read_14 (by decide) (by first | exact hz _ _ | exact hw.1 _ _ | exact zR_of _ | exact bI_z _ | assumption | exact ⟨by omega, by omega⟩) (by first | exact hz _ _ | exact hw.1 _ _ | exact zR_of _ | exact bI_z _ | assumption | exact ⟨by omega, by omega⟩) (fun c14 => ?_) (fun c14 => ?_)
    · refine x_aload_n dX0_read_130 rfl ?_
      refine x_aload_n dX0_read_131 rfl ?_
      refine x_iload_n dX0_read_132 rfl ?_
      refine x_callV_r (a := 0) (b := 0) (as := [xI (n : Int)]) (rest := [xR (6, 0, 0)]) ok_X0_rulesOn dX0_read_133 wd362 ⟨wd363, wd364⟩ (hp9 (rowJ S (16, 0, 0) (toldN S.1 b h i) 6) (by omega) (by omega)) rfl rfl (c_rulesOn (rowJ S (16, 0, 0) (toldN S.1 b h i) 6) (WI.row hw) b (by omega) (by omega) n (by omega)) rfl (Nat.le_of_ble_eq_true rfl) (Nat.le_of_ble_eq_true rfl) (by decide) (by omega) (by omega) ?_
      refine x_put dX0_read_136 fl_RX0_98 (fun r hr => by cases hr; rfl) (hp6 (rowJ S (16, 0, 0) (toldN S.1 b h i) 6)) xfit_i (Nat.le_of_ble_eq_true rfl) rfl ?_
      refine x_heq (pu6_2 (rowJ S (16, 0, 0) (toldN S.1 b h i) 6) (onN S.1 b n)) ?_
      have hw136_1 : WI (putI (rowJ S (16, 0, 0) (toldN S.1 b h i) 6) (6, 0, 0) 2 (onN S.1 b n)) := (WI.row hw).put (onN_zR _ _ _) trivial
      exact x_vret dX0_read_139 rfl (by obtain rfl : i = n := (by omega); exact pV)
    · refine x_aload_n dX0_read_17 rfl ?_
      refine x_get (v := xR (10, b, 0)) dX0_read_18 fl_RX0_11 (hp9 (rowJ S (16, 0, 0) (toldN S.1 b h i) 6) (by omega) (by omega)) rfl ?_
      refine x_iload dX0_read_21 rfl ?_
      refine x_alda (l2 := (13, b, (i : Int))) dX0_read_23 (hp10 (rowJ S (16, 0, 0) (toldN S.1 b h i) 6) (by omega) (by omega)) (show (10 : Nat) ≠ 99 by decide) (by decide) (by decide) (by omega) (by omega) (by decide) rfl ?_
      refine x_astore (L' := [xR (9, b, 0), xI (n : Int), xI h, xR (6, 0, 0), xI (i : Int), xR (13, b, (i : Int)), none, none, none]) dX0_read_24 (by decide) rfl ?_
      refine x_aload dX0_read_26 rfl ?_
      refine x_get (v := xI (S.1 (13, b, (i : Int)) 0)) dX0_read_28 fl_RX0_46 (hp13 (rowJ S (16, 0, 0) (toldN S.1 b h i) 6) (by omega) (by omega) (by omega) (by omega)) rfl ?_
      have f28_2 := wf13_0 hw (S := S) (b := b) (t := (i : Int)) (by omega) (by omega) (by omega) (by omega)
      refine x_if_ne (tgt := 124) dX0_read_31 (by decide) (by first | exact hz _ _ | exact hw.1 _ _ | exact zR_of _ | exact bI_z _ | assumption | exact ⟨by omega, by omega⟩) (fun c31 => ?_) (fun c31 => ?_)
      · refine x_iinc (L' := [xR (9, b, 0), xI (n : Int), xI h, xR (6, 0, 0), xI ((i : Int) + 1), xR (13, b, (i : Int)), none, none, none]) dX0_read_124 rfl rfl ?_
        refine x_goto (tgt := 11) dX0_read_127 (by decide) ?_
        refine X.loc (L' := [xR (9, b, 0), xI (n : Int), xI h, xR (6, 0, 0), xI ((i : Int) + 1), none, none, none, none]) ⟨rfl, ⟨rfl, ⟨rfl, ⟨rfl, ⟨rfl, trivial⟩⟩⟩⟩⟩ ?_
        have k := ih (i + 1) (by omega) (by omega)
        rw [show toldN S.1 b h (i + 1) = toldN S.1 b h i from by simp only [toldN]; (repeat' split) <;> first | rfl | (exfalso; omega)] at k
        exact k
      · refine x_aload dX0_read_34 rfl ?_
        refine x_get (v := xI (S.1 (13, b, (i : Int)) 6)) dX0_read_36 fl_RX0_62 (hp13 (rowJ S (16, 0, 0) (toldN S.1 b h i) 6) (by omega) (by omega) (by omega) (by omega)) rfl ?_
        have f36_3 := wf13_6 hw (S := S) (b := b) (t := (i : Int)) (by omega) (by omega) (by omega) (by omega)
        refine x_if_ne (tgt := 124) dX0_read_39 (by decide) (by first | exact hz _ _ | exact hw.1 _ _ | exact zR_of _ | exact bI_z _ | assumption | exact ⟨by omega, by omega⟩) (fun c39 => ?_) (fun c39 => ?_)
        · refine x_iinc (L' := [xR (9, b, 0), xI (n : Int), xI h, xR (6, 0, 0), xI ((i : Int) + 1), xR (13, b, (i : Int)), none, none, none]) dX0_read_124 rfl rfl ?_
          refine x_goto (tgt := 11) dX0_read_127 (by decide) ?_
          refine X.loc (L' := [xR (9, b, 0), xI (n : Int), xI h, xR (6, 0, 0), xI ((i : Int) + 1), none, none, none, none]) ⟨rfl, ⟨rfl, ⟨rfl, ⟨rfl, ⟨rfl, trivial⟩⟩⟩⟩⟩ ?_
          have k := ih (i + 1) (by omega) (by omega)
          rw [show toldN S.1 b h (i + 1) = toldN S.1 b h i from by simp only [toldN]; (repeat' split) <;> first | rfl | (exfalso; omega)] at k
          exact k
        · refine x_aload dX0_read_42 rfl ?_
          refine x_get (v := xI (S.1 (13, b, (i : Int)) 3)) dX0_read_44 fl_RX0_56 (hp13 (rowJ S (16, 0, 0) (toldN S.1 b h i) 6) (by omega) (by omega) (by omega) (by omega)) rfl ?_
          have f44_4 := wf13_3 hw (S := S) (b := b) (t := (i : Int)) (by omega) (by omega) (by omega) (by omega)
          refine x_iload_n dX0_read_47 rfl ?_
          refine x_icmp_gt (tgt := 124) dX0_read_48 (by decide) (by first | exact hz _ _ | exact hw.1 _ _ | exact zR_of _ | exact bI_z _ | assumption | exact ⟨by omega, by omega⟩) (by first | exact hz _ _ | exact hw.1 _ _ | exact zR_of _ | exact bI_z _ | assumption | exact ⟨by omega, by omega⟩) (fun c48 => ?_) (fun c48 => ?_)
          · refine x_iinc (L' := [xR (9, b, 0), xI (n : Int), xI h, xR (6, 0, 0), xI ((i : Int) + 1), xR (13, b, (i : Int)), none, none, none]) dX0_read_124 rfl rfl ?_
            refine x_goto (tgt := 11) dX0_read_127 (by decide) ?_
            refine X.loc (L' := [xR (9, b, 0), xI (n : Int), xI h, xR (6, 0, 0), xI ((i : Int) + 1), none, none, none, none]) ⟨rfl, ⟨rfl, ⟨rfl, ⟨rfl, ⟨rfl, trivial⟩⟩⟩⟩⟩ ?_
            have k := ih (i + 1) (by omega) (by omega)
            rw [show toldN S.1 b h (i + 1) = toldN S.1 b h i from by simp only [toldN]; (repeat' split) <;> first | rfl | (exfalso; omega)] at k
            exact k
          · refine x_iload_n dX0_read_51 rfl ?_
            refine x_aload dX0_read_52 rfl ?_
            refine x_get (v := xI (S.1 (13, b, (i : Int)) 4)) dX0_read_54 fl_RX0_59 (hp13 (rowJ S (16, 0, 0) (toldN S.1 b h i) 6) (by omega) (by omega) (by omega) (by omega)) rfl ?_
            have f54_5 := wf13_4 hw (S := S) (b := b) (t := (i : Int)) (by omega) (by omega) (by omega) (by omega)
            refine x_icmp_gt (tgt := 124) dX0_read_57 (by decide) (by first | exact hz _ _ | exact hw.1 _ _ | exact zR_of _ | exact bI_z _ | assumption | exact ⟨by omega, by omega⟩) (by first | exact hz _ _ | exact hw.1 _ _ | exact zR_of _ | exact bI_z _ | assumption | exact ⟨by omega, by omega⟩) (fun c57 => ?_) (fun c57 => ?_)
            · refine x_iinc (L' := [xR (9, b, 0), xI (n : Int), xI h, xR (6, 0, 0), xI ((i : Int) + 1), xR (13, b, (i : Int)), none, none, none]) dX0_read_124 rfl rfl ?_
              refine x_goto (tgt := 11) dX0_read_127 (by decide) ?_
              refine X.loc (L' := [xR (9, b, 0), xI (n : Int), xI h, xR (6, 0, 0), xI ((i : Int) + 1), none, none, none, none]) ⟨rfl, ⟨rfl, ⟨rfl, ⟨rfl, ⟨rfl, trivial⟩⟩⟩⟩⟩ ?_
              have k := ih (i + 1) (by omega) (by omega)
              rw [show toldN S.1 b h (i + 1) = toldN S.1 b h i from by simp only [toldN]; (repeat' split) <;> first | rfl | (exfalso; omega)] at k
              exact k
            · refine x_aload dX0_read_60 rfl ?_
              refine x_get (v := xI (S.1 (13, b, (i : Int)) 2)) dX0_read_62 fl_RX0_53 (hp13 (rowJ S (16, 0, 0) (toldN S.1 b h i) 6) (by omega) (by omega) (by omega) (by omega)) rfl ?_
              have f62_6 := wf13_2 hw (S := S) (b := b) (t := (i : Int)) (by omega) (by omega) (by omega) (by omega)
              refine x_bipush (v := 64) dX0_read_65 (by decide) ?_
              refine x_idiv dX0_read_67 (by omega) (by omega) (by omega) (by omega) ?_
              refine x_istore (L' := [xR (9, b, 0), xI (n : Int), xI h, xR (6, 0, 0), xI (i : Int), xR (13, b, (i : Int)), xI ((S.1 (13, b, (i : Int)) 2) / 64), none, none]) dX0_read_68 (by decide) rfl ?_
              refine x_lconst (v := 1) dX0_read_70 (by decide) ?_
              refine x_aload dX0_read_71 rfl ?_
              refine x_get (v := xI (S.1 (13, b, (i : Int)) 2)) dX0_read_73 fl_RX0_53 (hp13 (rowJ S (16, 0, 0) (toldN S.1 b h i) 6) (by omega) (by omega) (by omega) (by omega)) rfl ?_
              have f73_7 := wf13_2 hw (S := S) (b := b) (t := (i : Int)) (by omega) (by omega) (by omega) (by omega)
              refine x_bipush (v := 64) dX0_read_76 (by decide) ?_
              refine x_irem dX0_read_78 (by omega) (by omega) (by omega) (by omega) ?_
              refine x_lshl dX0_read_79 ?_
              refine x_lstore (L' := [xR (9, b, 0), xI (n : Int), xI h, xR (6, 0, 0), xI (i : Int), xR (13, b, (i : Int)), xI ((S.1 (13, b, (i : Int)) 2) / 64), xJ (jShl 1 ((S.1 (13, b, (i : Int)) 2) % 64)), none]) dX0_read_80 (by decide) rfl ?_
              refine x_aload_n dX0_read_82 rfl ?_
              refine x_get (v := xR (16, 0, 0)) dX0_read_83 fl_RX0_82 (hp6 (rowJ S (16, 0, 0) (toldN S.1 b h i) 6)) rfl ?_
              refine x_iload dX0_read_86 rfl ?_
              refine x_aload dX0_read_88 rfl ?_
              refine x_get (v := xI (S.1 (13, b, (i : Int)) 1)) dX0_read_90 fl_RX0_50 (hp13 (rowJ S (16, 0, 0) (toldN S.1 b h i) 6) (by omega) (by omega) (by omega) (by omega)) rfl ?_
              have f90_8 := wf13_1 hw (S := S) (b := b) (t := (i : Int)) (by omega) (by omega) (by omega) (by omega)
              refine x_if_eq (tgt := 109) dX0_read_93 (by decide) (by first | exact hz _ _ | exact hw.1 _ _ | exact zR_of _ | exact bI_z _ | assumption | exact ⟨by omega, by omega⟩) (fun c93 => ?_) (fun c93 => ?_)
              · refine x_aload_n dX0_read_109 rfl ?_
                refine x_get (v := xR (16, 0, 0)) dX0_read_110 fl_RX0_82 (hp6 (rowJ S (16, 0, 0) (toldN S.1 b h i) 6)) rfl ?_
                refine x_iload dX0_read_113 rfl ?_
                refine x_aldj (f := (rowJ S (16, 0, 0) (toldN S.1 b h i) 6).2.1 (16, 0, 0)) dX0_read_115 (hp16 (rowJ S (16, 0, 0) (toldN S.1 b h i) 6)) (show (16 : Nat) ≠ 99 by decide) (by omega) (by omega) (by decide) ?_
                refine x_topJ (show (rowJ S (16, 0, 0) (toldN S.1 b h i) 6).2.1 (16, 0, 0) ((S.1 (13, b, (i : Int)) 2) / 64) = toldN S.1 b h i (S.1 (13, b, ↑i) 2 / 64) from rowJ_at _ _ _ (by omega) (by omega)) ?_
                refine x_lload dX0_read_116 rfl ?_
                refine x_ldc2 (v := (-1)) dX0_read_118 wd361 ?_
                refine x_lxor dX0_read_121 ?_
                refine x_land dX0_read_122 ?_
                refine x_astj dX0_read_123 (hp16 (rowJ S (16, 0, 0) (toldN S.1 b h i) 6)) (show (16 : Nat) ≠ 99 by decide) (by omega) (by omega) (by decide) ?_
                refine x_heq (pa16 (rowJ S (16, 0, 0) (toldN S.1 b h i) 6) ((S.1 (13, b, (i : Int)) 2) / 64) ((toldN S.1 b h i (S.1 (13, b, ↑i) 2 / 64)) &&& ((jShl 1 ((S.1 (13, b, (i : Int)) 2) % 64)) ^^^ (-1)))) ?_
                have hw123_9 : WI (putJ (rowJ S (16, 0, 0) (toldN S.1 b h i) 6) (16, 0, 0) ((S.1 (13, b, (i : Int)) 2) / 64) ((toldN S.1 b h i (S.1 (13, b, ↑i) 2 / 64)) &&& ((jShl 1 ((S.1 (13, b, (i : Int)) 2) % 64)) ^^^ (-1)))) := (WI.row hw).puJ
                refine x_iinc (L' := [xR (9, b, 0), xI (n : Int), xI h, xR (6, 0, 0), xI ((i : Int) + 1), xR (13, b, (i : Int)), xI ((S.1 (13, b, (i : Int)) 2) / 64), xJ (jShl 1 ((S.1 (13, b, (i : Int)) 2) % 64)), none]) dX0_read_124 rfl rfl ?_
                refine x_goto (tgt := 11) dX0_read_127 (by decide) ?_
                refine X.loc (L' := [xR (9, b, 0), xI (n : Int), xI h, xR (6, 0, 0), xI ((i : Int) + 1), none, none, none, none]) ⟨rfl, ⟨rfl, ⟨rfl, ⟨rfl, ⟨rfl, trivial⟩⟩⟩⟩⟩ ?_
                refine x_heq (show hp (rowJ S (16, 0, 0) (toldN S.1 b h (i + 1)) 6) = hp (putJ (rowJ S (16, 0, 0) (toldN S.1 b h i) 6) (16, 0, 0) ((S.1 (13, b, (i : Int)) 2) / 64) ((toldN S.1 b h i (S.1 (13, b, ↑i) 2 / 64)) &&& ((jShl 1 ((S.1 (13, b, (i : Int)) 2) % 64)) ^^^ (-1)))) from ?_) (ih (i + 1) (by omega) (by omega))
                rw [putJ_rowJ _ _ _ _ (by omega) (by omega)]
                congr 2
                simp only [toldN]
                (repeat' split) <;> first | rfl | (exfalso; omega)
              · refine x_aload_n dX0_read_96 rfl ?_
                refine x_get (v := xR (16, 0, 0)) dX0_read_97 fl_RX0_82 (hp6 (rowJ S (16, 0, 0) (toldN S.1 b h i) 6)) rfl ?_
                refine x_iload dX0_read_100 rfl ?_
                refine x_aldj (f := (rowJ S (16, 0, 0) (toldN S.1 b h i) 6).2.1 (16, 0, 0)) dX0_read_102 (hp16 (rowJ S (16, 0, 0) (toldN S.1 b h i) 6)) (show (16 : Nat) ≠ 99 by decide) (by omega) (by omega) (by decide) ?_
                refine x_topJ (show (rowJ S (16, 0, 0) (toldN S.1 b h i) 6).2.1 (16, 0, 0) ((S.1 (13, b, (i : Int)) 2) / 64) = toldN S.1 b h i (S.1 (13, b, ↑i) 2 / 64) from rowJ_at _ _ _ (by omega) (by omega)) ?_
                refine x_lload dX0_read_103 rfl ?_
                refine x_lor dX0_read_105 ?_
                refine x_goto (tgt := 123) dX0_read_106 (by decide) ?_
                refine x_astj dX0_read_123 (hp16 (rowJ S (16, 0, 0) (toldN S.1 b h i) 6)) (show (16 : Nat) ≠ 99 by decide) (by omega) (by omega) (by decide) ?_
                refine x_heq (pa16 (rowJ S (16, 0, 0) (toldN S.1 b h i) 6) ((S.1 (13, b, (i : Int)) 2) / 64) ((toldN S.1 b h i (S.1 (13, b, ↑i) 2 / 64)) ||| (jShl 1 ((S.1 (13, b, (i : Int)) 2) % 64)))) ?_
                have hw123_10 : WI (putJ (rowJ S (16, 0, 0) (toldN S.1 b h i) 6) (16, 0, 0) ((S.1 (13, b, (i : Int)) 2) / 64) ((toldN S.1 b h i (S.1 (13, b, ↑i) 2 / 64)) ||| (jShl 1 ((S.1 (13, b, (i : Int)) 2) % 64)))) := (WI.row hw).puJ
                refine x_iinc (L' := [xR (9, b, 0), xI (n : Int), xI h, xR (6, 0, 0), xI ((i : Int) + 1), xR (13, b, (i : Int)), xI ((S.1 (13, b, (i : Int)) 2) / 64), xJ (jShl 1 ((S.1 (13, b, (i : Int)) 2) % 64)), none]) dX0_read_124 rfl rfl ?_
                refine x_goto (tgt := 11) dX0_read_127 (by decide) ?_
                refine X.loc (L' := [xR (9, b, 0), xI (n : Int), xI h, xR (6, 0, 0), xI ((i : Int) + 1), none, none, none, none]) ⟨rfl, ⟨rfl, ⟨rfl, ⟨rfl, ⟨rfl, trivial⟩⟩⟩⟩⟩ ?_
                refine x_heq (show hp (rowJ S (16, 0, 0) (toldN S.1 b h (i + 1)) 6) = hp (putJ (rowJ S (16, 0, 0) (toldN S.1 b h i) 6) (16, 0, 0) ((S.1 (13, b, (i : Int)) 2) / 64) ((toldN S.1 b h i (S.1 (13, b, ↑i) 2 / 64)) ||| (jShl 1 ((S.1 (13, b, (i : Int)) 2) % 64)))) from ?_) (ih (i + 1) (by omega) (by omega))
                rw [putJ_rowJ _ _ _ _ (by omega) (by omega)]
                congr 2
                simp only [toldN]
                (repeat' split) <;> first | rfl | (exfalso; omega)
set_option maxHeartbeats 4000000 in
set_option maxRecDepth 100000 in
theorem c_read (S : XS) (hw : WI S) (b : Int) (h1 : 0 ≤ b) (h2 : b < 4) (n : Nat) (gn : n ≤ 60) (h : Int) (g1 : 0 ≤ h) (g2 : h < 24) : X mX0_read 0 (xEnt mX0_read [xR (9, b, 0), xI (n : Int), xI h, xR (6, 0, 0)]) [] (hp S) 0 0 (pVoid (hp (sRead S b n h))) := by
  show X mX0_read 0 [xR (9, b, 0), xI (n : Int), xI h, xR (6, 0, 0), none, none, none, none, none] [] (hp S) 0 0 _
  refine x_aload_n dX0_read_0 rfl ?_
  refine x_get (v := xR (16, 0, 0)) dX0_read_1 fl_RX0_82 (hp6 S) rfl ?_
  refine x_lconst (v := 0) dX0_read_4 (by decide) ?_
  refine x_callS_v (a := 0) (b := 0) (as := [xR (16, 0, 0), xJ 0]) (rest := []) ok_J7_fill_d0a16 dX0_read_5 wd358 wd359 (c_fillJ16 S 0) rfl (Nat.le_of_ble_eq_true rfl) (Nat.le_of_ble_eq_true rfl) (by decide) (by omega) (by omega) ?_
  refine x_iconst dX0_read_8 ?_
  refine x_istore (L' := [xR (9, b, 0), xI (n : Int), xI h, xR (6, 0, 0), xI 0, none, none, none, none]) dX0_read_9 (by decide) rfl ?_
  exact l_read S hw b h1 h2 n gn h g1 g2 61 0 (by omega) (by omega)
def fHasC (S : XS) (b from_ taker : Int) (l : XL) : Prop := ∃ i : Nat, from_ ≤ (i : Int) ∧ (i : Int) < S.1 (9, b, 0) 3 ∧ S.1 (13, b, i) 6 = 0 ∧ S.1 (13, b, i) 7 ≠ taker ∧ fAgainst S (13, b, i) l
def hoursN (f : XL → Int → Int) (b : Int) : Nat → Int64
  | 0 => 0
  | n + 1 => if f (13, b, n) 0 = 0 ∧ f (13, b, n) 6 = 0 then hoursN f b n + jI (f (13, b, n) 4 - f (13, b, n) 3 + 1) else hoursN f b n
def dueN (f : XL → Int → Int) (b : Int) : Nat → Int
  | 0 => 1
  | n + 1 => fCh (dueN f b n) (f (13, b, n) 5)
theorem dueN_in (f : XL → Int → Int) (b : Int) (n : Nat) : 0 ≤ dueN f b n ∧ dueN f b n ≤ 65520 := by
  cases n with
  | zero => simp [dueN]
  | succ n => exact fCh_in _ _
set_option maxHeartbeats 4000000 in
set_option maxRecDepth 100000 in
theorem l_hasTrueSeals (S : XS) (hw : WI S) (b : Int) (h1 : 0 ≤ b) (h2 : b < 4) (n : Nat) (hn : S.1 (9, b, 0) 3 = n) : ∀ (nn : Nat) (i : Nat), (n : Int) - i < (nn : Int) → (i ≤ n) → (∀ j : Nat, j < i → S.1 (11, b, 0) j = dueN S.1 b j) → X mX0_hasTrueSeals 4 [xR (9, b, 0), xI (dueN S.1 b i), xI (i : Int)] [] (hp S) 0 0 (pRet (xI (bI (∀ j : Nat, j ≤ n → S.1 (11, b, 0) j = dueN S.1 b j))) (hp S)) := by
  intro nn
  induction nn with
  | zero => intro i hm hi hj; exfalso; omega
  | succ nn ih =>
    intro i hm hi hj
    have hdue := dueN_in S.1 b i
    refine x_iload_n dX0_hasTrueSeals_4 rfl ?_
    refine x_aload_n dX0_hasTrueSeals_5 rfl ?_
    refine x_get (v := xI (S.1 (9, b, 0) 3)) dX0_hasTrueSeals_6 fl_RX0_27 (hp9 S (by omega) (by omega)) rfl ?_
    have f6_1 := wf9_3 hw (S := S) (b := b) (by omega) (by omega)
    refine x_icmp_ge (tgt := 44) dX0_hasTrueSeals_9 (by decide) (by first | exact hz _ _ | exact hw.1 _ _ | exact zR_of _ | exact bI_z _ | assumption | exact ⟨by omega, by omega⟩) (by first | exact hz _ _ | exact hw.1 _ _ | exact zR_of _ | exact bI_z _ | assumption | exact ⟨by omega, by omega⟩) (fun c9 => ?_) (fun c9 => ?_)
    · refine x_aload_n dX0_hasTrueSeals_44 rfl ?_
      refine x_get (v := xR (11, b, 0)) dX0_hasTrueSeals_45 fl_RX0_17 (hp9 S (by omega) (by omega)) rfl ?_
      refine x_aload_n dX0_hasTrueSeals_48 rfl ?_
      refine x_get (v := xI (S.1 (9, b, 0) 3)) dX0_hasTrueSeals_49 fl_RX0_27 (hp9 S (by omega) (by omega)) rfl ?_
      have f49_2 := wf9_3 hw (S := S) (b := b) (by omega) (by omega)
      refine x_aldi (f := S.1 (11, b, 0)) dX0_hasTrueSeals_52 (hp11 S (by omega) (by omega)) (show (11 : Nat) ≠ 99 by decide) (by omega) (by omega) (by decide) ?_
      have f52_3 := wfa11 hw (S := S) (b := b) (by omega) (by omega) (S.1 (9, b, 0) 3)
      refine x_iload_n dX0_hasTrueSeals_53 rfl ?_
      refine x_icmp_ne (tgt := 61) dX0_hasTrueSeals_54 (by decide) (by first | exact hz _ _ | exact hw.1 _ _ | exact zR_of _ | exact bI_z _ | assumption | exact ⟨by omega, by omega⟩) (by first | exact hz _ _ | exact hw.1 _ _ | exact zR_of _ | exact bI_z _ | assumption | exact ⟨by omega, by omega⟩) (fun c54 => ?_) (fun c54 => ?_)
      · refine x_iconst dX0_hasTrueSeals_61 ?_
        exact x_zret dX0_hasTrueSeals_62 rfl (Or.inl rfl) (pRI (bI_f (fun z => c54 (by have e := z i (by omega); rw [show S.1 (9, b, 0) 3 = (i : Int) by omega]; exact e))).symm)
      · refine x_iconst dX0_hasTrueSeals_57 ?_
        refine x_goto (tgt := 62) dX0_hasTrueSeals_58 (by decide) ?_
        exact x_zret dX0_hasTrueSeals_62 rfl (Or.inr rfl) (pRI (bI_t (fun j q => by
      rcases Nat.lt_or_ge j i with z | z
      · exact hj j z
      · obtain rfl : j = i := by omega
        rw [show S.1 (9, b, 0) 3 = (j : Int) by omega] at c54; exact c54)).symm)
    · refine x_aload_n dX0_hasTrueSeals_12 rfl ?_
      refine x_get (v := xR (11, b, 0)) dX0_hasTrueSeals_13 fl_RX0_17 (hp9 S (by omega) (by omega)) rfl ?_
      refine x_iload_n dX0_hasTrueSeals_16 rfl ?_
      refine x_aldi (f := S.1 (11, b, 0)) dX0_hasTrueSeals_17 (hp11 S (by omega) (by omega)) (show (11 : Nat) ≠ 99 by decide) (by omega) (by omega) (by decide) ?_
      have f17_4 := wfa11 hw (S := S) (b := b) (by omega) (by omega) (i : Int)
      refine x_iload_n dX0_hasTrueSeals_18 rfl ?_
      refine x_icmp_eq (tgt := 24) dX0_hasTrueSeals_19 (by decide) (by first | exact hz _ _ | exact hw.1 _ _ | exact zR_of _ | exact bI_z _ | assumption | exact ⟨by omega, by omega⟩) (by first | exact hz _ _ | exact hw.1 _ _ | exact zR_of _ | exact bI_z _ | assumption | exact ⟨by omega, by omega⟩) (fun c19 => ?_) (fun c19 => ?_)
      · refine x_iload_n dX0_hasTrueSeals_24 rfl ?_
        refine x_aload_n dX0_hasTrueSeals_25 rfl ?_
        refine x_get (v := xR (10, b, 0)) dX0_hasTrueSeals_26 fl_RX0_11 (hp9 S (by omega) (by omega)) rfl ?_
        refine x_iload_n dX0_hasTrueSeals_29 rfl ?_
        refine x_alda (l2 := (13, b, (i : Int))) dX0_hasTrueSeals_30 (hp10 S (by omega) (by omega)) (show (10 : Nat) ≠ 99 by decide) (by decide) (by decide) (by omega) (by omega) (by decide) rfl ?_
        refine x_get (v := xI (S.1 (13, b, (i : Int)) 5)) dX0_hasTrueSeals_31 fl_RX0_71 (hp13 S (by omega) (by omega) (by omega) (by omega)) rfl ?_
        have f31_5 := wf13_5 hw (S := S) (b := b) (t := (i : Int)) (by omega) (by omega) (by omega) (by omega)
        refine x_callSN_r (a := 0) (b := 0) (as := [xI (dueN S.1 b i), xI (S.1 (13, b, (i : Int)) 5)]) (rest := []) ok_X8_chained dX0_hasTrueSeals_34 wn342 wd343 (c_chained S (dueN S.1 b i) (S.1 (13, b, (i : Int)) 5) (by first | omega | exact (fCh_in _ _).1) (by first | omega | exact (fCh_in _ _).2) (by omega) (by omega)) rfl (Nat.le_of_ble_eq_true rfl) (Nat.le_of_ble_eq_true rfl) (by decide) (by omega) (by omega) ?_
        refine x_istore_n (L' := [xR (9, b, 0), xI (fCh (dueN S.1 b i) (S.1 (13, b, (i : Int)) 5)), xI (i : Int)]) dX0_hasTrueSeals_37 (by decide) rfl ?_
        refine x_iinc (L' := [xR (9, b, 0), xI (fCh (dueN S.1 b i) (S.1 (13, b, (i : Int)) 5)), xI ((i : Int) + 1)]) dX0_hasTrueSeals_38 rfl rfl ?_
        refine x_goto (tgt := 4) dX0_hasTrueSeals_41 (by decide) ?_
        exact ih (i + 1) (by omega) (by omega) (fun j q => by rcases Nat.lt_or_eq_of_le (show j ≤ i by omega) with z | z; exact hj j z; subst z; omega)
      · refine x_iconst dX0_hasTrueSeals_22 ?_
        exact x_zret dX0_hasTrueSeals_23 rfl (Or.inl rfl) (pRI (bI_f (fun z => c19 (z i (by omega)))).symm)
set_option maxHeartbeats 4000000 in
set_option maxRecDepth 100000 in
theorem c_hasTrueSeals (S : XS) (hw : WI S) (b : Int) (h1 : 0 ≤ b) (h2 : b < 4) (n : Nat) (hn : S.1 (9, b, 0) 3 = n) : X mX0_hasTrueSeals 0 (xEnt mX0_hasTrueSeals [xR (9, b, 0)]) [] (hp S) 0 0 (pRet (xI (bI (∀ j : Nat, j ≤ n → S.1 (11, b, 0) j = dueN S.1 b j))) (hp S)) := by
  show X mX0_hasTrueSeals 0 [xR (9, b, 0), none, none] [] (hp S) 0 0 _
  refine x_iconst dX0_hasTrueSeals_0 ?_
  refine x_istore_n (L' := [xR (9, b, 0), xI 1, none]) dX0_hasTrueSeals_1 (by decide) rfl ?_
  refine x_iconst dX0_hasTrueSeals_2 ?_
  refine x_istore_n (L' := [xR (9, b, 0), xI 1, xI 0]) dX0_hasTrueSeals_3 (by decide) rfl ?_
  have hn2 := wf9_3 hw h1 h2
  exact l_hasTrueSeals S hw b h1 h2 n hn 61 0 (by omega) (by omega) (fun j q => by omega)
